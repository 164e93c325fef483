theorem dX11_init_0 : decode cX11_init 0 = .ok (.aload_n 0, 1) := by decide +kernel
theorem dX11_init_1 : decode cX11_init 1 = .ok (.invokespecial 1, 3) := by decide +kernel
theorem dX11_init_4 : decode cX11_init 4 = .ok (.aload_n 0, 1) := by decide +kernel
theorem dX11_init_5 : decode cX11_init 5 = .ok (.bipush 6, 2) := by decide +kernel
theorem dX11_init_7 : decode cX11_init 7 = .ok (.newarray .int, 2) := by decide +kernel
theorem dX11_init_9 : decode cX11_init 9 = .ok (.putfield 7, 3) := by decide +kernel
theorem dX11_init_12 : decode cX11_init 12 = .ok (.aload_n 0, 1) := by decide +kernel
theorem dX11_init_13 : decode cX11_init 13 = .ok (.sipush 240, 3) := by decide +kernel
theorem dX11_init_16 : decode cX11_init 16 = .ok (.newarray .int, 2) := by decide +kernel
theorem dX11_init_18 : decode cX11_init 18 = .ok (.putfield 13, 3) := by decide +kernel
theorem dX11_init_21 : decode cX11_init 21 = .ok (.aload_n 0, 1) := by decide +kernel
theorem dX11_init_22 : decode cX11_init 22 = .ok (.bipush 6, 2) := by decide +kernel
theorem dX11_init_24 : decode cX11_init 24 = .ok (.newarray .int, 2) := by decide +kernel
theorem dX11_init_26 : decode cX11_init 26 = .ok (.putfield 16, 3) := by decide +kernel
theorem dX11_init_29 : decode cX11_init 29 = .ok (.aload_n 0, 1) := by decide +kernel
theorem dX11_init_30 : decode cX11_init 30 = .ok (.sipush 240, 3) := by decide +kernel
theorem dX11_init_33 : decode cX11_init 33 = .ok (.newarray .byte, 2) := by decide +kernel
theorem dX11_init_35 : decode cX11_init 35 = .ok (.putfield 19, 3) := by decide +kernel
theorem dX11_init_38 : decode cX11_init 38 = .ok (.aload_n 0, 1) := by decide +kernel
theorem dX11_init_39 : decode cX11_init 39 = .ok (.iconst 4, 1) := by decide +kernel
theorem dX11_init_40 : decode cX11_init 40 = .ok (.newarray .int, 2) := by decide +kernel
theorem dX11_init_42 : decode cX11_init 42 = .ok (.putfield 23, 3) := by decide +kernel
theorem dX11_init_45 : decode cX11_init 45 = .ok (.aload_n 0, 1) := by decide +kernel
theorem dX11_init_46 : decode cX11_init 46 = .ok (.bipush 40, 2) := by decide +kernel
theorem dX11_init_48 : decode cX11_init 48 = .ok (.newarray .int, 2) := by decide +kernel
theorem dX11_init_50 : decode cX11_init 50 = .ok (.putfield 26, 3) := by decide +kernel
theorem dX11_init_53 : decode cX11_init 53 = .ok (.aload_n 0, 1) := by decide +kernel
theorem dX11_init_54 : decode cX11_init 54 = .ok (.bipush 8, 2) := by decide +kernel
theorem dX11_init_56 : decode cX11_init 56 = .ok (.newarray .int, 2) := by decide +kernel
theorem dX11_init_58 : decode cX11_init 58 = .ok (.putfield 29, 3) := by decide +kernel
theorem dX11_init_61 : decode cX11_init 61 = .ok (.aload_n 0, 1) := by decide +kernel
theorem dX11_init_62 : decode cX11_init 62 = .ok (.bipush 8, 2) := by decide +kernel
theorem dX11_init_64 : decode cX11_init 64 = .ok (.newarray .int, 2) := by decide +kernel
theorem dX11_init_66 : decode cX11_init 66 = .ok (.putfield 32, 3) := by decide +kernel
theorem dX11_init_69 : decode cX11_init 69 = .ok (.aload_n 0, 1) := by decide +kernel
theorem dX11_init_70 : decode cX11_init 70 = .ok (.bipush 8, 2) := by decide +kernel
theorem dX11_init_72 : decode cX11_init 72 = .ok (.newarray .int, 2) := by decide +kernel
theorem dX11_init_74 : decode cX11_init 74 = .ok (.putfield 35, 3) := by decide +kernel
theorem dX11_init_77 : decode cX11_init 77 = .ok (.aload_n 0, 1) := by decide +kernel
theorem dX11_init_78 : decode cX11_init 78 = .ok (.bipush 8, 2) := by decide +kernel
theorem dX11_init_80 : decode cX11_init 80 = .ok (.newarray .int, 2) := by decide +kernel
theorem dX11_init_82 : decode cX11_init 82 = .ok (.putfield 38, 3) := by decide +kernel
theorem dX11_init_85 : decode cX11_init 85 = .ok (.aload_n 0, 1) := by decide +kernel
theorem dX11_init_86 : decode cX11_init 86 = .ok (.bipush 8, 2) := by decide +kernel
theorem dX11_init_88 : decode cX11_init 88 = .ok (.newarray .int, 2) := by decide +kernel
theorem dX11_init_90 : decode cX11_init 90 = .ok (.putfield 41, 3) := by decide +kernel
theorem dX11_init_93 : decode cX11_init 93 = .ok (.aload_n 0, 1) := by decide +kernel
theorem dX11_init_94 : decode cX11_init 94 = .ok (.bipush 8, 2) := by decide +kernel
theorem dX11_init_96 : decode cX11_init 96 = .ok (.newarray .int, 2) := by decide +kernel
theorem dX11_init_98 : decode cX11_init 98 = .ok (.putfield 44, 3) := by decide +kernel
theorem dX11_init_101 : decode cX11_init 101 = .ok (.aload_n 0, 1) := by decide +kernel
theorem dX11_init_102 : decode cX11_init 102 = .ok (.bipush 8, 2) := by decide +kernel
theorem dX11_init_104 : decode cX11_init 104 = .ok (.newarray .int, 2) := by decide +kernel
theorem dX11_init_106 : decode cX11_init 106 = .ok (.putfield 47, 3) := by decide +kernel
theorem dX11_init_109 : decode cX11_init 109 = .ok (.aload_n 0, 1) := by decide +kernel
theorem dX11_init_110 : decode cX11_init 110 = .ok (.bipush 8, 2) := by decide +kernel
theorem dX11_init_112 : decode cX11_init 112 = .ok (.newarray .int, 2) := by decide +kernel
theorem dX11_init_114 : decode cX11_init 114 = .ok (.putfield 50, 3) := by decide +kernel
theorem dX11_init_117 : decode cX11_init 117 = .ok (.aload_n 0, 1) := by decide +kernel
theorem dX11_init_118 : decode cX11_init 118 = .ok (.bipush 8, 2) := by decide +kernel
theorem dX11_init_120 : decode cX11_init 120 = .ok (.newarray .int, 2) := by decide +kernel
theorem dX11_init_122 : decode cX11_init 122 = .ok (.putfield 53, 3) := by decide +kernel
theorem dX11_init_125 : decode cX11_init 125 = .ok (.aload_n 0, 1) := by decide +kernel
theorem dX11_init_126 : decode cX11_init 126 = .ok (.bipush 8, 2) := by decide +kernel
theorem dX11_init_128 : decode cX11_init 128 = .ok (.newarray .int, 2) := by decide +kernel
theorem dX11_init_130 : decode cX11_init 130 = .ok (.putfield 56, 3) := by decide +kernel
theorem dX11_init_133 : decode cX11_init 133 = .ok (.aload_n 0, 1) := by decide +kernel
theorem dX11_init_134 : decode cX11_init 134 = .ok (.bipush 120, 2) := by decide +kernel
theorem dX11_init_136 : decode cX11_init 136 = .ok (.newarray .int, 2) := by decide +kernel
theorem dX11_init_138 : decode cX11_init 138 = .ok (.putfield 59, 3) := by decide +kernel
theorem dX11_init_141 : decode cX11_init 141 = .ok (.aload_n 0, 1) := by decide +kernel
theorem dX11_init_142 : decode cX11_init 142 = .ok (.iconst 3, 1) := by decide +kernel
theorem dX11_init_143 : decode cX11_init 143 = .ok (.newarray .int, 2) := by decide +kernel
theorem dX11_init_145 : decode cX11_init 145 = .ok (.putfield 62, 3) := by decide +kernel
theorem dX11_init_148 : decode cX11_init 148 = .ok (.aload_n 0, 1) := by decide +kernel
theorem dX11_init_149 : decode cX11_init 149 = .ok (.sipush 360, 3) := by decide +kernel
theorem dX11_init_152 : decode cX11_init 152 = .ok (.newarray .int, 2) := by decide +kernel
theorem dX11_init_154 : decode cX11_init 154 = .ok (.putfield 65, 3) := by decide +kernel
theorem dX11_init_157 : decode cX11_init 157 = .ok (.aload_n 0, 1) := by decide +kernel
theorem dX11_init_158 : decode cX11_init 158 = .ok (.sipush 256, 3) := by decide +kernel
theorem dX11_init_161 : decode cX11_init 161 = .ok (.newarray .int, 2) := by decide +kernel
theorem dX11_init_163 : decode cX11_init 163 = .ok (.putfield 68, 3) := by decide +kernel
theorem dX11_init_166 : decode cX11_init 166 = .ok (.aload_n 0, 1) := by decide +kernel
theorem dX11_init_167 : decode cX11_init 167 = .ok (.sipush 256, 3) := by decide +kernel
theorem dX11_init_170 : decode cX11_init 170 = .ok (.newarray .int, 2) := by decide +kernel
theorem dX11_init_172 : decode cX11_init 172 = .ok (.putfield 71, 3) := by decide +kernel
theorem dX11_init_175 : decode cX11_init 175 = .ok (.aload_n 0, 1) := by decide +kernel
theorem dX11_init_176 : decode cX11_init 176 = .ok (.bipush 28, 2) := by decide +kernel
theorem dX11_init_178 : decode cX11_init 178 = .ok (.newarray .int, 2) := by decide +kernel
theorem dX11_init_180 : decode cX11_init 180 = .ok (.putfield 74, 3) := by decide +kernel
theorem dX11_init_183 : decode cX11_init 183 = .ok (.aload_n 0, 1) := by decide +kernel
theorem dX11_init_184 : decode cX11_init 184 = .ok (.sipush 6561, 3) := by decide +kernel
theorem dX11_init_187 : decode cX11_init 187 = .ok (.newarray .int, 2) := by decide +kernel
theorem dX11_init_189 : decode cX11_init 189 = .ok (.putfield 77, 3) := by decide +kernel
theorem dX11_init_192 : decode cX11_init 192 = .ok (.iconst 0, 1) := by decide +kernel
theorem dX11_init_193 : decode cX11_init 193 = .ok (.istore_n 1, 1) := by decide +kernel
theorem dX11_init_194 : decode cX11_init 194 = .ok (.iload_n 1, 1) := by decide +kernel
theorem dX11_init_195 : decode cX11_init 195 = .ok (.bipush 6, 2) := by decide +kernel
theorem dX11_init_197 : decode cX11_init 197 = .ok (.if_icmp .ge 16, 3) := by decide +kernel
theorem dX11_init_200 : decode cX11_init 200 = .ok (.aload_n 0, 1) := by decide +kernel
theorem dX11_init_201 : decode cX11_init 201 = .ok (.getfield 16, 3) := by decide +kernel
theorem dX11_init_204 : decode cX11_init 204 = .ok (.iload_n 1, 1) := by decide +kernel
theorem dX11_init_205 : decode cX11_init 205 = .ok (.iconst (-1), 1) := by decide +kernel
theorem dX11_init_206 : decode cX11_init 206 = .ok (.iastore, 1) := by decide +kernel
theorem dX11_init_207 : decode cX11_init 207 = .ok (.iinc 1 1, 3) := by decide +kernel
theorem dX11_init_210 : decode cX11_init 210 = .ok (.goto (-16), 3) := by decide +kernel
theorem dX11_init_213 : decode cX11_init 213 = .ok (.iconst 0, 1) := by decide +kernel
theorem dX11_init_214 : decode cX11_init 214 = .ok (.istore_n 1, 1) := by decide +kernel
theorem dX11_init_215 : decode cX11_init 215 = .ok (.iload_n 1, 1) := by decide +kernel
theorem dX11_init_216 : decode cX11_init 216 = .ok (.iconst 4, 1) := by decide +kernel
theorem dX11_init_217 : decode cX11_init 217 = .ok (.if_icmp .ge 16, 3) := by decide +kernel
theorem dX11_init_220 : decode cX11_init 220 = .ok (.aload_n 0, 1) := by decide +kernel
theorem dX11_init_221 : decode cX11_init 221 = .ok (.getfield 23, 3) := by decide +kernel
theorem dX11_init_224 : decode cX11_init 224 = .ok (.iload_n 1, 1) := by decide +kernel
theorem dX11_init_225 : decode cX11_init 225 = .ok (.iconst (-1), 1) := by decide +kernel
theorem dX11_init_226 : decode cX11_init 226 = .ok (.iastore, 1) := by decide +kernel
theorem dX11_init_227 : decode cX11_init 227 = .ok (.iinc 1 1, 3) := by decide +kernel
theorem dX11_init_230 : decode cX11_init 230 = .ok (.goto (-15), 3) := by decide +kernel
theorem dX11_init_233 : decode cX11_init 233 = .ok (.iconst 0, 1) := by decide +kernel
theorem dX11_init_234 : decode cX11_init 234 = .ok (.istore_n 1, 1) := by decide +kernel
theorem dX11_init_235 : decode cX11_init 235 = .ok (.iload_n 1, 1) := by decide +kernel
theorem dX11_init_236 : decode cX11_init 236 = .ok (.iconst 3, 1) := by decide +kernel
theorem dX11_init_237 : decode cX11_init 237 = .ok (.if_icmp .ge 16, 3) := by decide +kernel
theorem dX11_init_240 : decode cX11_init 240 = .ok (.aload_n 0, 1) := by decide +kernel
theorem dX11_init_241 : decode cX11_init 241 = .ok (.getfield 62, 3) := by decide +kernel
theorem dX11_init_244 : decode cX11_init 244 = .ok (.iload_n 1, 1) := by decide +kernel
theorem dX11_init_245 : decode cX11_init 245 = .ok (.iconst (-1), 1) := by decide +kernel
theorem dX11_init_246 : decode cX11_init 246 = .ok (.iastore, 1) := by decide +kernel
theorem dX11_init_247 : decode cX11_init 247 = .ok (.iinc 1 1, 3) := by decide +kernel
theorem dX11_init_250 : decode cX11_init 250 = .ok (.goto (-15), 3) := by decide +kernel
theorem dX11_init_253 : decode cX11_init 253 = .ok (.aload_n 0, 1) := by decide +kernel
theorem dX11_init_254 : decode cX11_init 254 = .ok (.lconst 1, 1) := by decide +kernel
theorem dX11_init_255 : decode cX11_init 255 = .ok (.putfield 80, 3) := by decide +kernel
theorem dX11_init_258 : decode cX11_init 258 = .ok (.return_, 1) := by decide +kernel
theorem dX11_in_0 : decode cX11_in 0 = .ok (.iload_n 0, 1) := by decide +kernel
theorem dX11_in_1 : decode cX11_in 1 = .ok (.iload_n 1, 1) := by decide +kernel
theorem dX11_in_2 : decode cX11_in 2 = .ok (.if_icmp .lt 12, 3) := by decide +kernel
theorem dX11_in_5 : decode cX11_in 5 = .ok (.iload_n 0, 1) := by decide +kernel
theorem dX11_in_6 : decode cX11_in 6 = .ok (.iload_n 2, 1) := by decide +kernel
theorem dX11_in_7 : decode cX11_in 7 = .ok (.if_icmp .gt 7, 3) := by decide +kernel
theorem dX11_in_10 : decode cX11_in 10 = .ok (.iconst 1, 1) := by decide +kernel
theorem dX11_in_11 : decode cX11_in 11 = .ok (.goto 4, 3) := by decide +kernel
theorem dX11_in_14 : decode cX11_in 14 = .ok (.iconst 0, 1) := by decide +kernel
theorem dX11_in_15 : decode cX11_in 15 = .ok (.ireturn, 1) := by decide +kernel
theorem dX11_refuse_0 : decode cX11_refuse 0 = .ok (.aload_n 0, 1) := by decide +kernel
theorem dX11_refuse_1 : decode cX11_refuse 1 = .ok (.iload_n 1, 1) := by decide +kernel
theorem dX11_refuse_2 : decode cX11_refuse 2 = .ok (.putfield 84, 3) := by decide +kernel
theorem dX11_refuse_5 : decode cX11_refuse 5 = .ok (.aload_n 0, 1) := by decide +kernel
theorem dX11_refuse_6 : decode cX11_refuse 6 = .ok (.getfield 7, 3) := by decide +kernel
theorem dX11_refuse_9 : decode cX11_refuse 9 = .ok (.iload_n 1, 1) := by decide +kernel
theorem dX11_refuse_10 : decode cX11_refuse 10 = .ok (.dup2, 1) := by decide +kernel
theorem dX11_refuse_11 : decode cX11_refuse 11 = .ok (.iaload, 1) := by decide +kernel
theorem dX11_refuse_12 : decode cX11_refuse 12 = .ok (.iconst 1, 1) := by decide +kernel
theorem dX11_refuse_13 : decode cX11_refuse 13 = .ok (.iadd, 1) := by decide +kernel
theorem dX11_refuse_14 : decode cX11_refuse 14 = .ok (.iastore, 1) := by decide +kernel
theorem dX11_refuse_15 : decode cX11_refuse 15 = .ok (.bipush (-3), 2) := by decide +kernel
theorem dX11_refuse_17 : decode cX11_refuse 17 = .ok (.ireturn, 1) := by decide +kernel
theorem dX11_tellsAsked_0 : decode cX11_tellsAsked 0 = .ok (.aload_n 0, 1) := by decide +kernel
theorem dX11_tellsAsked_1 : decode cX11_tellsAsked 1 = .ok (.iload_n 1, 1) := by decide +kernel
theorem dX11_tellsAsked_2 : decode cX11_tellsAsked 2 = .ok (.putfield 88, 3) := by decide +kernel
theorem dX11_tellsAsked_5 : decode cX11_tellsAsked 5 = .ok (.iconst 1, 1) := by decide +kernel
theorem dX11_tellsAsked_6 : decode cX11_tellsAsked 6 = .ok (.ireturn, 1) := by decide +kernel
theorem dX11_tellPart_0 : decode cX11_tellPart 0 = .ok (.lload_n 1, 1) := by decide +kernel
theorem dX11_tellPart_1 : decode cX11_tellPart 1 = .ok (.lstore 5, 2) := by decide +kernel
theorem dX11_tellPart_3 : decode cX11_tellPart 3 = .ok (.lload_n 3, 1) := by decide +kernel
theorem dX11_tellPart_4 : decode cX11_tellPart 4 = .ok (.lstore 7, 2) := by decide +kernel
theorem dX11_tellPart_6 : decode cX11_tellPart 6 = .ok (.lload 7, 2) := by decide +kernel
theorem dX11_tellPart_8 : decode cX11_tellPart 8 = .ok (.lconst 0, 1) := by decide +kernel
theorem dX11_tellPart_9 : decode cX11_tellPart 9 = .ok (.lcmp, 1) := by decide +kernel
theorem dX11_tellPart_10 : decode cX11_tellPart 10 = .ok (.ifCond .eq 21, 3) := by decide +kernel
theorem dX11_tellPart_13 : decode cX11_tellPart 13 = .ok (.lload 5, 2) := by decide +kernel
theorem dX11_tellPart_15 : decode cX11_tellPart 15 = .ok (.lload 7, 2) := by decide +kernel
theorem dX11_tellPart_17 : decode cX11_tellPart 17 = .ok (.lrem, 1) := by decide +kernel
theorem dX11_tellPart_18 : decode cX11_tellPart 18 = .ok (.lstore 9, 2) := by decide +kernel
theorem dX11_tellPart_20 : decode cX11_tellPart 20 = .ok (.lload 7, 2) := by decide +kernel
theorem dX11_tellPart_22 : decode cX11_tellPart 22 = .ok (.lstore 5, 2) := by decide +kernel
theorem dX11_tellPart_24 : decode cX11_tellPart 24 = .ok (.lload 9, 2) := by decide +kernel
theorem dX11_tellPart_26 : decode cX11_tellPart 26 = .ok (.lstore 7, 2) := by decide +kernel
theorem dX11_tellPart_28 : decode cX11_tellPart 28 = .ok (.goto (-22), 3) := by decide +kernel
theorem dX11_tellPart_31 : decode cX11_tellPart 31 = .ok (.aload_n 0, 1) := by decide +kernel
theorem dX11_tellPart_32 : decode cX11_tellPart 32 = .ok (.lload_n 1, 1) := by decide +kernel
theorem dX11_tellPart_33 : decode cX11_tellPart 33 = .ok (.lload 5, 2) := by decide +kernel
theorem dX11_tellPart_35 : decode cX11_tellPart 35 = .ok (.ldiv, 1) := by decide +kernel
theorem dX11_tellPart_36 : decode cX11_tellPart 36 = .ok (.putfield 91, 3) := by decide +kernel
theorem dX11_tellPart_39 : decode cX11_tellPart 39 = .ok (.aload_n 0, 1) := by decide +kernel
theorem dX11_tellPart_40 : decode cX11_tellPart 40 = .ok (.lload_n 3, 1) := by decide +kernel
theorem dX11_tellPart_41 : decode cX11_tellPart 41 = .ok (.lload 5, 2) := by decide +kernel
theorem dX11_tellPart_43 : decode cX11_tellPart 43 = .ok (.ldiv, 1) := by decide +kernel
theorem dX11_tellPart_44 : decode cX11_tellPart 44 = .ok (.putfield 80, 3) := by decide +kernel
theorem dX11_tellPart_47 : decode cX11_tellPart 47 = .ok (.return_, 1) := by decide +kernel
theorem dX11_isRow_0 : decode cX11_isRow 0 = .ok (.iload_n 0, 1) := by decide +kernel
theorem dX11_isRow_1 : decode cX11_isRow 1 = .ok (.iconst 0, 1) := by decide +kernel
theorem dX11_isRow_2 : decode cX11_isRow 2 = .ok (.iconst 5, 1) := by decide +kernel
theorem dX11_isRow_3 : decode cX11_isRow 3 = .ok (.invokestatic 94, 3) := by decide +kernel
theorem dX11_isRow_6 : decode cX11_isRow 6 = .ok (.ireturn, 1) := by decide +kernel
theorem dX11_clearRow_0 : decode cX11_clearRow 0 = .ok (.aload_n 0, 1) := by decide +kernel
theorem dX11_clearRow_1 : decode cX11_clearRow 1 = .ok (.getfield 16, 3) := by decide +kernel
theorem dX11_clearRow_4 : decode cX11_clearRow 4 = .ok (.iload_n 1, 1) := by decide +kernel
theorem dX11_clearRow_5 : decode cX11_clearRow 5 = .ok (.iload_n 2, 1) := by decide +kernel
theorem dX11_clearRow_6 : decode cX11_clearRow 6 = .ok (.iastore, 1) := by decide +kernel
theorem dX11_clearRow_7 : decode cX11_clearRow 7 = .ok (.iconst 0, 1) := by decide +kernel
theorem dX11_clearRow_8 : decode cX11_clearRow 8 = .ok (.istore_n 3, 1) := by decide +kernel
theorem dX11_clearRow_9 : decode cX11_clearRow 9 = .ok (.iload_n 3, 1) := by decide +kernel
theorem dX11_clearRow_10 : decode cX11_clearRow 10 = .ok (.bipush 40, 2) := by decide +kernel
theorem dX11_clearRow_12 : decode cX11_clearRow 12 = .ok (.if_icmp .ge 21, 3) := by decide +kernel
theorem dX11_clearRow_15 : decode cX11_clearRow 15 = .ok (.aload_n 0, 1) := by decide +kernel
theorem dX11_clearRow_16 : decode cX11_clearRow 16 = .ok (.getfield 13, 3) := by decide +kernel
theorem dX11_clearRow_19 : decode cX11_clearRow 19 = .ok (.bipush 40, 2) := by decide +kernel
theorem dX11_clearRow_21 : decode cX11_clearRow 21 = .ok (.iload_n 1, 1) := by decide +kernel
theorem dX11_clearRow_22 : decode cX11_clearRow 22 = .ok (.imul, 1) := by decide +kernel
theorem dX11_clearRow_23 : decode cX11_clearRow 23 = .ok (.iload_n 3, 1) := by decide +kernel
theorem dX11_clearRow_24 : decode cX11_clearRow 24 = .ok (.iadd, 1) := by decide +kernel
theorem dX11_clearRow_25 : decode cX11_clearRow 25 = .ok (.iconst 0, 1) := by decide +kernel
theorem dX11_clearRow_26 : decode cX11_clearRow 26 = .ok (.iastore, 1) := by decide +kernel
theorem dX11_clearRow_27 : decode cX11_clearRow 27 = .ok (.iinc 3 1, 3) := by decide +kernel
theorem dX11_clearRow_30 : decode cX11_clearRow 30 = .ok (.goto (-21), 3) := by decide +kernel
theorem dX11_clearRow_33 : decode cX11_clearRow 33 = .ok (.return_, 1) := by decide +kernel
theorem dX11_row_0 : decode cX11_row 0 = .ok (.iload_n 1, 1) := by decide +kernel
theorem dX11_row_1 : decode cX11_row 1 = .ok (.invokestatic 98, 3) := by decide +kernel
theorem dX11_row_4 : decode cX11_row 4 = .ok (.ifCond .eq 9, 3) := by decide +kernel
theorem dX11_row_7 : decode cX11_row 7 = .ok (.iload_n 2, 1) := by decide +kernel
theorem dX11_row_8 : decode cX11_row 8 = .ok (.bipush 40, 2) := by decide +kernel
theorem dX11_row_10 : decode cX11_row 10 = .ok (.if_icmp .le 5, 3) := by decide +kernel
theorem dX11_row_13 : decode cX11_row 13 = .ok (.iconst (-1), 1) := by decide +kernel
theorem dX11_row_14 : decode cX11_row 14 = .ok (.ireturn, 1) := by decide +kernel
theorem dX11_row_15 : decode cX11_row 15 = .ok (.iload_n 2, 1) := by decide +kernel
theorem dX11_row_16 : decode cX11_row 16 = .ok (.ifCond .ge 9, 3) := by decide +kernel
theorem dX11_row_19 : decode cX11_row 19 = .ok (.aload_n 0, 1) := by decide +kernel
theorem dX11_row_20 : decode cX11_row 20 = .ok (.iconst 5, 1) := by decide +kernel
theorem dX11_row_21 : decode cX11_row 21 = .ok (.invokevirtual 102, 3) := by decide +kernel
theorem dX11_row_24 : decode cX11_row 24 = .ok (.ireturn, 1) := by decide +kernel
theorem dX11_row_25 : decode cX11_row 25 = .ok (.aload_n 0, 1) := by decide +kernel
theorem dX11_row_26 : decode cX11_row 26 = .ok (.iload_n 1, 1) := by decide +kernel
theorem dX11_row_27 : decode cX11_row 27 = .ok (.iload_n 2, 1) := by decide +kernel
theorem dX11_row_28 : decode cX11_row 28 = .ok (.invokevirtual 106, 3) := by decide +kernel
theorem dX11_row_31 : decode cX11_row 31 = .ok (.iload_n 2, 1) := by decide +kernel
theorem dX11_row_32 : decode cX11_row 32 = .ok (.ireturn, 1) := by decide +kernel
theorem dX11_lay_0 : decode cX11_lay 0 = .ok (.iload_n 1, 1) := by decide +kernel
theorem dX11_lay_1 : decode cX11_lay 1 = .ok (.invokestatic 98, 3) := by decide +kernel
theorem dX11_lay_4 : decode cX11_lay 4 = .ok (.ifCond .ne 5, 3) := by decide +kernel
theorem dX11_lay_7 : decode cX11_lay 7 = .ok (.iconst (-1), 1) := by decide +kernel
theorem dX11_lay_8 : decode cX11_lay 8 = .ok (.ireturn, 1) := by decide +kernel
theorem dX11_lay_9 : decode cX11_lay 9 = .ok (.aload_n 0, 1) := by decide +kernel
theorem dX11_lay_10 : decode cX11_lay 10 = .ok (.getfield 16, 3) := by decide +kernel
theorem dX11_lay_13 : decode cX11_lay 13 = .ok (.iload_n 1, 1) := by decide +kernel
theorem dX11_lay_14 : decode cX11_lay 14 = .ok (.iaload, 1) := by decide +kernel
theorem dX11_lay_15 : decode cX11_lay 15 = .ok (.ifCond .ge 9, 3) := by decide +kernel
theorem dX11_lay_18 : decode cX11_lay 18 = .ok (.aload_n 0, 1) := by decide +kernel
theorem dX11_lay_19 : decode cX11_lay 19 = .ok (.iconst 1, 1) := by decide +kernel
theorem dX11_lay_20 : decode cX11_lay 20 = .ok (.invokevirtual 102, 3) := by decide +kernel
theorem dX11_lay_23 : decode cX11_lay 23 = .ok (.ireturn, 1) := by decide +kernel
theorem dX11_lay_24 : decode cX11_lay 24 = .ok (.iload_n 2, 1) := by decide +kernel
theorem dX11_lay_25 : decode cX11_lay 25 = .ok (.iconst 0, 1) := by decide +kernel
theorem dX11_lay_26 : decode cX11_lay 26 = .ok (.aload_n 0, 1) := by decide +kernel
theorem dX11_lay_27 : decode cX11_lay 27 = .ok (.getfield 16, 3) := by decide +kernel
theorem dX11_lay_30 : decode cX11_lay 30 = .ok (.iload_n 1, 1) := by decide +kernel
theorem dX11_lay_31 : decode cX11_lay 31 = .ok (.iaload, 1) := by decide +kernel
theorem dX11_lay_32 : decode cX11_lay 32 = .ok (.iconst 1, 1) := by decide +kernel
theorem dX11_lay_33 : decode cX11_lay 33 = .ok (.isub, 1) := by decide +kernel
theorem dX11_lay_34 : decode cX11_lay 34 = .ok (.invokestatic 94, 3) := by decide +kernel
theorem dX11_lay_37 : decode cX11_lay 37 = .ok (.ifCond .ne 9, 3) := by decide +kernel
theorem dX11_lay_40 : decode cX11_lay 40 = .ok (.aload_n 0, 1) := by decide +kernel
theorem dX11_lay_41 : decode cX11_lay 41 = .ok (.iconst 2, 1) := by decide +kernel
theorem dX11_lay_42 : decode cX11_lay 42 = .ok (.invokevirtual 102, 3) := by decide +kernel
theorem dX11_lay_45 : decode cX11_lay 45 = .ok (.ireturn, 1) := by decide +kernel
theorem dX11_lay_46 : decode cX11_lay 46 = .ok (.aload_n 0, 1) := by decide +kernel
theorem dX11_lay_47 : decode cX11_lay 47 = .ok (.getfield 13, 3) := by decide +kernel
theorem dX11_lay_50 : decode cX11_lay 50 = .ok (.bipush 40, 2) := by decide +kernel
theorem dX11_lay_52 : decode cX11_lay 52 = .ok (.iload_n 1, 1) := by decide +kernel
theorem dX11_lay_53 : decode cX11_lay 53 = .ok (.imul, 1) := by decide +kernel
theorem dX11_lay_54 : decode cX11_lay 54 = .ok (.iload_n 2, 1) := by decide +kernel
theorem dX11_lay_55 : decode cX11_lay 55 = .ok (.iadd, 1) := by decide +kernel
theorem dX11_lay_56 : decode cX11_lay 56 = .ok (.iaload, 1) := by decide +kernel
theorem dX11_lay_57 : decode cX11_lay 57 = .ok (.istore 4, 2) := by decide +kernel
theorem dX11_lay_59 : decode cX11_lay 59 = .ok (.aload_n 0, 1) := by decide +kernel
theorem dX11_lay_60 : decode cX11_lay 60 = .ok (.getfield 13, 3) := by decide +kernel
theorem dX11_lay_63 : decode cX11_lay 63 = .ok (.bipush 40, 2) := by decide +kernel
theorem dX11_lay_65 : decode cX11_lay 65 = .ok (.iload_n 1, 1) := by decide +kernel
theorem dX11_lay_66 : decode cX11_lay 66 = .ok (.imul, 1) := by decide +kernel
theorem dX11_lay_67 : decode cX11_lay 67 = .ok (.iload_n 2, 1) := by decide +kernel
theorem dX11_lay_68 : decode cX11_lay 68 = .ok (.iadd, 1) := by decide +kernel
theorem dX11_lay_69 : decode cX11_lay 69 = .ok (.iload_n 3, 1) := by decide +kernel
theorem dX11_lay_70 : decode cX11_lay 70 = .ok (.iastore, 1) := by decide +kernel
theorem dX11_lay_71 : decode cX11_lay 71 = .ok (.aload_n 0, 1) := by decide +kernel
theorem dX11_lay_72 : decode cX11_lay 72 = .ok (.iload 4, 2) := by decide +kernel
theorem dX11_lay_74 : decode cX11_lay 74 = .ok (.invokevirtual 110, 3) := by decide +kernel
theorem dX11_lay_77 : decode cX11_lay 77 = .ok (.ireturn, 1) := by decide +kernel
theorem dX11_at_0 : decode cX11_at 0 = .ok (.iload_n 1, 1) := by decide +kernel
theorem dX11_at_1 : decode cX11_at 1 = .ok (.invokestatic 98, 3) := by decide +kernel
theorem dX11_at_4 : decode cX11_at 4 = .ok (.ifCond .ne 5, 3) := by decide +kernel
theorem dX11_at_7 : decode cX11_at 7 = .ok (.iconst (-1), 1) := by decide +kernel
theorem dX11_at_8 : decode cX11_at 8 = .ok (.ireturn, 1) := by decide +kernel
theorem dX11_at_9 : decode cX11_at 9 = .ok (.aload_n 0, 1) := by decide +kernel
theorem dX11_at_10 : decode cX11_at 10 = .ok (.getfield 16, 3) := by decide +kernel
theorem dX11_at_13 : decode cX11_at 13 = .ok (.iload_n 1, 1) := by decide +kernel
theorem dX11_at_14 : decode cX11_at 14 = .ok (.iaload, 1) := by decide +kernel
theorem dX11_at_15 : decode cX11_at 15 = .ok (.ifCond .ge 9, 3) := by decide +kernel
theorem dX11_at_18 : decode cX11_at 18 = .ok (.aload_n 0, 1) := by decide +kernel
theorem dX11_at_19 : decode cX11_at 19 = .ok (.iconst 1, 1) := by decide +kernel
theorem dX11_at_20 : decode cX11_at 20 = .ok (.invokevirtual 102, 3) := by decide +kernel
theorem dX11_at_23 : decode cX11_at 23 = .ok (.ireturn, 1) := by decide +kernel
theorem dX11_at_24 : decode cX11_at 24 = .ok (.iload_n 2, 1) := by decide +kernel
theorem dX11_at_25 : decode cX11_at 25 = .ok (.iconst 0, 1) := by decide +kernel
theorem dX11_at_26 : decode cX11_at 26 = .ok (.aload_n 0, 1) := by decide +kernel
theorem dX11_at_27 : decode cX11_at 27 = .ok (.getfield 16, 3) := by decide +kernel
theorem dX11_at_30 : decode cX11_at 30 = .ok (.iload_n 1, 1) := by decide +kernel
theorem dX11_at_31 : decode cX11_at 31 = .ok (.iaload, 1) := by decide +kernel
theorem dX11_at_32 : decode cX11_at 32 = .ok (.iconst 1, 1) := by decide +kernel
theorem dX11_at_33 : decode cX11_at 33 = .ok (.isub, 1) := by decide +kernel
theorem dX11_at_34 : decode cX11_at 34 = .ok (.invokestatic 94, 3) := by decide +kernel
theorem dX11_at_37 : decode cX11_at 37 = .ok (.ifCond .ne 9, 3) := by decide +kernel
theorem dX11_at_40 : decode cX11_at 40 = .ok (.aload_n 0, 1) := by decide +kernel
theorem dX11_at_41 : decode cX11_at 41 = .ok (.iconst 2, 1) := by decide +kernel
theorem dX11_at_42 : decode cX11_at 42 = .ok (.invokevirtual 102, 3) := by decide +kernel
theorem dX11_at_45 : decode cX11_at 45 = .ok (.ireturn, 1) := by decide +kernel
theorem dX11_at_46 : decode cX11_at 46 = .ok (.aload_n 0, 1) := by decide +kernel
theorem dX11_at_47 : decode cX11_at 47 = .ok (.aload_n 0, 1) := by decide +kernel
theorem dX11_at_48 : decode cX11_at 48 = .ok (.getfield 13, 3) := by decide +kernel
theorem dX11_at_51 : decode cX11_at 51 = .ok (.bipush 40, 2) := by decide +kernel
theorem dX11_at_53 : decode cX11_at 53 = .ok (.iload_n 1, 1) := by decide +kernel
theorem dX11_at_54 : decode cX11_at 54 = .ok (.imul, 1) := by decide +kernel
theorem dX11_at_55 : decode cX11_at 55 = .ok (.iload_n 2, 1) := by decide +kernel
theorem dX11_at_56 : decode cX11_at 56 = .ok (.iadd, 1) := by decide +kernel
theorem dX11_at_57 : decode cX11_at 57 = .ok (.iaload, 1) := by decide +kernel
theorem dX11_at_58 : decode cX11_at 58 = .ok (.invokevirtual 110, 3) := by decide +kernel
theorem dX11_at_61 : decode cX11_at 61 = .ok (.ireturn, 1) := by decide +kernel
theorem dX11_tear_0 : decode cX11_tear 0 = .ok (.iload_n 1, 1) := by decide +kernel
theorem dX11_tear_1 : decode cX11_tear 1 = .ok (.invokestatic 98, 3) := by decide +kernel
theorem dX11_tear_4 : decode cX11_tear 4 = .ok (.ifCond .ne 5, 3) := by decide +kernel
theorem dX11_tear_7 : decode cX11_tear 7 = .ok (.iconst (-1), 1) := by decide +kernel
theorem dX11_tear_8 : decode cX11_tear 8 = .ok (.ireturn, 1) := by decide +kernel
theorem dX11_tear_9 : decode cX11_tear 9 = .ok (.aload_n 0, 1) := by decide +kernel
theorem dX11_tear_10 : decode cX11_tear 10 = .ok (.getfield 16, 3) := by decide +kernel
theorem dX11_tear_13 : decode cX11_tear 13 = .ok (.iload_n 1, 1) := by decide +kernel
theorem dX11_tear_14 : decode cX11_tear 14 = .ok (.iaload, 1) := by decide +kernel
theorem dX11_tear_15 : decode cX11_tear 15 = .ok (.ifCond .ge 9, 3) := by decide +kernel
theorem dX11_tear_18 : decode cX11_tear 18 = .ok (.aload_n 0, 1) := by decide +kernel
theorem dX11_tear_19 : decode cX11_tear 19 = .ok (.iconst 1, 1) := by decide +kernel
theorem dX11_tear_20 : decode cX11_tear 20 = .ok (.invokevirtual 102, 3) := by decide +kernel
theorem dX11_tear_23 : decode cX11_tear 23 = .ok (.ireturn, 1) := by decide +kernel
theorem dX11_tear_24 : decode cX11_tear 24 = .ok (.aload_n 0, 1) := by decide +kernel
theorem dX11_tear_25 : decode cX11_tear 25 = .ok (.getfield 16, 3) := by decide +kernel
theorem dX11_tear_28 : decode cX11_tear 28 = .ok (.iload_n 1, 1) := by decide +kernel
theorem dX11_tear_29 : decode cX11_tear 29 = .ok (.iconst (-1), 1) := by decide +kernel
theorem dX11_tear_30 : decode cX11_tear 30 = .ok (.iastore, 1) := by decide +kernel
theorem dX11_tear_31 : decode cX11_tear 31 = .ok (.iconst 1, 1) := by decide +kernel
theorem dX11_tear_32 : decode cX11_tear 32 = .ok (.ireturn, 1) := by decide +kernel
theorem dX11_copy_0 : decode cX11_copy 0 = .ok (.iload_n 1, 1) := by decide +kernel
theorem dX11_copy_1 : decode cX11_copy 1 = .ok (.invokestatic 98, 3) := by decide +kernel
theorem dX11_copy_4 : decode cX11_copy 4 = .ok (.ifCond .eq 10, 3) := by decide +kernel
theorem dX11_copy_7 : decode cX11_copy 7 = .ok (.iload_n 3, 1) := by decide +kernel
theorem dX11_copy_8 : decode cX11_copy 8 = .ok (.invokestatic 98, 3) := by decide +kernel
theorem dX11_copy_11 : decode cX11_copy 11 = .ok (.ifCond .ne 5, 3) := by decide +kernel
theorem dX11_copy_14 : decode cX11_copy 14 = .ok (.iconst (-1), 1) := by decide +kernel
theorem dX11_copy_15 : decode cX11_copy 15 = .ok (.ireturn, 1) := by decide +kernel
theorem dX11_copy_16 : decode cX11_copy 16 = .ok (.iload 5, 2) := by decide +kernel
theorem dX11_copy_18 : decode cX11_copy 18 = .ok (.ifCond .ge 9, 3) := by decide +kernel
theorem dX11_copy_21 : decode cX11_copy 21 = .ok (.aload_n 0, 1) := by decide +kernel
theorem dX11_copy_22 : decode cX11_copy 22 = .ok (.iconst 5, 1) := by decide +kernel
theorem dX11_copy_23 : decode cX11_copy 23 = .ok (.invokevirtual 102, 3) := by decide +kernel
theorem dX11_copy_26 : decode cX11_copy 26 = .ok (.ireturn, 1) := by decide +kernel
theorem dX11_copy_27 : decode cX11_copy 27 = .ok (.aload_n 0, 1) := by decide +kernel
theorem dX11_copy_28 : decode cX11_copy 28 = .ok (.getfield 16, 3) := by decide +kernel
theorem dX11_copy_31 : decode cX11_copy 31 = .ok (.iload_n 1, 1) := by decide +kernel
theorem dX11_copy_32 : decode cX11_copy 32 = .ok (.iaload, 1) := by decide +kernel
theorem dX11_copy_33 : decode cX11_copy 33 = .ok (.ifCond .lt 12, 3) := by decide +kernel
theorem dX11_copy_36 : decode cX11_copy 36 = .ok (.aload_n 0, 1) := by decide +kernel
theorem dX11_copy_37 : decode cX11_copy 37 = .ok (.getfield 16, 3) := by decide +kernel
theorem dX11_copy_40 : decode cX11_copy 40 = .ok (.iload_n 3, 1) := by decide +kernel
theorem dX11_copy_41 : decode cX11_copy 41 = .ok (.iaload, 1) := by decide +kernel
theorem dX11_copy_42 : decode cX11_copy 42 = .ok (.ifCond .ge 9, 3) := by decide +kernel
theorem dX11_copy_45 : decode cX11_copy 45 = .ok (.aload_n 0, 1) := by decide +kernel
theorem dX11_copy_46 : decode cX11_copy 46 = .ok (.iconst 1, 1) := by decide +kernel
theorem dX11_copy_47 : decode cX11_copy 47 = .ok (.invokevirtual 102, 3) := by decide +kernel
theorem dX11_copy_50 : decode cX11_copy 50 = .ok (.ireturn, 1) := by decide +kernel
theorem dX11_copy_51 : decode cX11_copy 51 = .ok (.iload_n 2, 1) := by decide +kernel
theorem dX11_copy_52 : decode cX11_copy 52 = .ok (.iconst 0, 1) := by decide +kernel
theorem dX11_copy_53 : decode cX11_copy 53 = .ok (.aload_n 0, 1) := by decide +kernel
theorem dX11_copy_54 : decode cX11_copy 54 = .ok (.getfield 16, 3) := by decide +kernel
theorem dX11_copy_57 : decode cX11_copy 57 = .ok (.iload_n 1, 1) := by decide +kernel
theorem dX11_copy_58 : decode cX11_copy 58 = .ok (.iaload, 1) := by decide +kernel
theorem dX11_copy_59 : decode cX11_copy 59 = .ok (.iload 5, 2) := by decide +kernel
theorem dX11_copy_61 : decode cX11_copy 61 = .ok (.isub, 1) := by decide +kernel
theorem dX11_copy_62 : decode cX11_copy 62 = .ok (.invokestatic 94, 3) := by decide +kernel
theorem dX11_copy_65 : decode cX11_copy 65 = .ok (.ifCond .eq 21, 3) := by decide +kernel
theorem dX11_copy_68 : decode cX11_copy 68 = .ok (.iload 4, 2) := by decide +kernel
theorem dX11_copy_70 : decode cX11_copy 70 = .ok (.iconst 0, 1) := by decide +kernel
theorem dX11_copy_71 : decode cX11_copy 71 = .ok (.aload_n 0, 1) := by decide +kernel
theorem dX11_copy_72 : decode cX11_copy 72 = .ok (.getfield 16, 3) := by decide +kernel
theorem dX11_copy_75 : decode cX11_copy 75 = .ok (.iload_n 3, 1) := by decide +kernel
theorem dX11_copy_76 : decode cX11_copy 76 = .ok (.iaload, 1) := by decide +kernel
theorem dX11_copy_77 : decode cX11_copy 77 = .ok (.iload 5, 2) := by decide +kernel
theorem dX11_copy_79 : decode cX11_copy 79 = .ok (.isub, 1) := by decide +kernel
theorem dX11_copy_80 : decode cX11_copy 80 = .ok (.invokestatic 94, 3) := by decide +kernel
theorem dX11_copy_83 : decode cX11_copy 83 = .ok (.ifCond .ne 9, 3) := by decide +kernel
theorem dX11_copy_86 : decode cX11_copy 86 = .ok (.aload_n 0, 1) := by decide +kernel
theorem dX11_copy_87 : decode cX11_copy 87 = .ok (.iconst 2, 1) := by decide +kernel
theorem dX11_copy_88 : decode cX11_copy 88 = .ok (.invokevirtual 102, 3) := by decide +kernel
theorem dX11_copy_91 : decode cX11_copy 91 = .ok (.ireturn, 1) := by decide +kernel
theorem dX11_copy_92 : decode cX11_copy 92 = .ok (.iconst 0, 1) := by decide +kernel
theorem dX11_copy_93 : decode cX11_copy 93 = .ok (.istore 6, 2) := by decide +kernel
theorem dX11_copy_95 : decode cX11_copy 95 = .ok (.iload 6, 2) := by decide +kernel
theorem dX11_copy_97 : decode cX11_copy 97 = .ok (.iload 5, 2) := by decide +kernel
theorem dX11_copy_99 : decode cX11_copy 99 = .ok (.if_icmp .ge 30, 3) := by decide +kernel
theorem dX11_copy_102 : decode cX11_copy 102 = .ok (.aload_n 0, 1) := by decide +kernel
theorem dX11_copy_103 : decode cX11_copy 103 = .ok (.getfield 26, 3) := by decide +kernel
theorem dX11_copy_106 : decode cX11_copy 106 = .ok (.iload 6, 2) := by decide +kernel
theorem dX11_copy_108 : decode cX11_copy 108 = .ok (.aload_n 0, 1) := by decide +kernel
theorem dX11_copy_109 : decode cX11_copy 109 = .ok (.getfield 13, 3) := by decide +kernel
theorem dX11_copy_112 : decode cX11_copy 112 = .ok (.bipush 40, 2) := by decide +kernel
theorem dX11_copy_114 : decode cX11_copy 114 = .ok (.iload_n 1, 1) := by decide +kernel
theorem dX11_copy_115 : decode cX11_copy 115 = .ok (.imul, 1) := by decide +kernel
theorem dX11_copy_116 : decode cX11_copy 116 = .ok (.iload_n 2, 1) := by decide +kernel
theorem dX11_copy_117 : decode cX11_copy 117 = .ok (.iadd, 1) := by decide +kernel
theorem dX11_copy_118 : decode cX11_copy 118 = .ok (.iload 6, 2) := by decide +kernel
theorem dX11_copy_120 : decode cX11_copy 120 = .ok (.iadd, 1) := by decide +kernel
theorem dX11_copy_121 : decode cX11_copy 121 = .ok (.iaload, 1) := by decide +kernel
theorem dX11_copy_122 : decode cX11_copy 122 = .ok (.iastore, 1) := by decide +kernel
theorem dX11_copy_123 : decode cX11_copy 123 = .ok (.iinc 6 1, 3) := by decide +kernel
theorem dX11_copy_126 : decode cX11_copy 126 = .ok (.goto (-31), 3) := by decide +kernel
theorem dX11_copy_129 : decode cX11_copy 129 = .ok (.iconst 0, 1) := by decide +kernel
theorem dX11_copy_130 : decode cX11_copy 130 = .ok (.istore 6, 2) := by decide +kernel
theorem dX11_copy_132 : decode cX11_copy 132 = .ok (.iload 6, 2) := by decide +kernel
theorem dX11_copy_134 : decode cX11_copy 134 = .ok (.iload 5, 2) := by decide +kernel
theorem dX11_copy_136 : decode cX11_copy 136 = .ok (.if_icmp .ge 31, 3) := by decide +kernel
theorem dX11_copy_139 : decode cX11_copy 139 = .ok (.aload_n 0, 1) := by decide +kernel
theorem dX11_copy_140 : decode cX11_copy 140 = .ok (.getfield 13, 3) := by decide +kernel
theorem dX11_copy_143 : decode cX11_copy 143 = .ok (.bipush 40, 2) := by decide +kernel
theorem dX11_copy_145 : decode cX11_copy 145 = .ok (.iload_n 3, 1) := by decide +kernel
theorem dX11_copy_146 : decode cX11_copy 146 = .ok (.imul, 1) := by decide +kernel
theorem dX11_copy_147 : decode cX11_copy 147 = .ok (.iload 4, 2) := by decide +kernel
theorem dX11_copy_149 : decode cX11_copy 149 = .ok (.iadd, 1) := by decide +kernel
theorem dX11_copy_150 : decode cX11_copy 150 = .ok (.iload 6, 2) := by decide +kernel
theorem dX11_copy_152 : decode cX11_copy 152 = .ok (.iadd, 1) := by decide +kernel
theorem dX11_copy_153 : decode cX11_copy 153 = .ok (.aload_n 0, 1) := by decide +kernel
theorem dX11_copy_154 : decode cX11_copy 154 = .ok (.getfield 26, 3) := by decide +kernel
theorem dX11_copy_157 : decode cX11_copy 157 = .ok (.iload 6, 2) := by decide +kernel
theorem dX11_copy_159 : decode cX11_copy 159 = .ok (.iaload, 1) := by decide +kernel
theorem dX11_copy_160 : decode cX11_copy 160 = .ok (.iastore, 1) := by decide +kernel
theorem dX11_copy_161 : decode cX11_copy 161 = .ok (.iinc 6 1, 3) := by decide +kernel
theorem dX11_copy_164 : decode cX11_copy 164 = .ok (.goto (-32), 3) := by decide +kernel
theorem dX11_copy_167 : decode cX11_copy 167 = .ok (.iconst 1, 1) := by decide +kernel
theorem dX11_copy_168 : decode cX11_copy 168 = .ok (.ireturn, 1) := by decide +kernel
theorem dX11_mean_0 : decode cX11_mean 0 = .ok (.iload_n 1, 1) := by decide +kernel
theorem dX11_mean_1 : decode cX11_mean 1 = .ok (.invokestatic 98, 3) := by decide +kernel
theorem dX11_mean_4 : decode cX11_mean 4 = .ok (.ifCond .ne 5, 3) := by decide +kernel
theorem dX11_mean_7 : decode cX11_mean 7 = .ok (.iconst (-1), 1) := by decide +kernel
theorem dX11_mean_8 : decode cX11_mean 8 = .ok (.ireturn, 1) := by decide +kernel
theorem dX11_mean_9 : decode cX11_mean 9 = .ok (.aload_n 0, 1) := by decide +kernel
theorem dX11_mean_10 : decode cX11_mean 10 = .ok (.getfield 16, 3) := by decide +kernel
theorem dX11_mean_13 : decode cX11_mean 13 = .ok (.iload_n 1, 1) := by decide +kernel
theorem dX11_mean_14 : decode cX11_mean 14 = .ok (.iaload, 1) := by decide +kernel
theorem dX11_mean_15 : decode cX11_mean 15 = .ok (.ifCond .ge 9, 3) := by decide +kernel
theorem dX11_mean_18 : decode cX11_mean 18 = .ok (.aload_n 0, 1) := by decide +kernel
theorem dX11_mean_19 : decode cX11_mean 19 = .ok (.iconst 1, 1) := by decide +kernel
theorem dX11_mean_20 : decode cX11_mean 20 = .ok (.invokevirtual 102, 3) := by decide +kernel
theorem dX11_mean_23 : decode cX11_mean 23 = .ok (.ireturn, 1) := by decide +kernel
theorem dX11_mean_24 : decode cX11_mean 24 = .ok (.aload_n 0, 1) := by decide +kernel
theorem dX11_mean_25 : decode cX11_mean 25 = .ok (.getfield 16, 3) := by decide +kernel
theorem dX11_mean_28 : decode cX11_mean 28 = .ok (.iload_n 1, 1) := by decide +kernel
theorem dX11_mean_29 : decode cX11_mean 29 = .ok (.iaload, 1) := by decide +kernel
theorem dX11_mean_30 : decode cX11_mean 30 = .ok (.ifCond .ne 9, 3) := by decide +kernel
theorem dX11_mean_33 : decode cX11_mean 33 = .ok (.aload_n 0, 1) := by decide +kernel
theorem dX11_mean_34 : decode cX11_mean 34 = .ok (.iconst 4, 1) := by decide +kernel
theorem dX11_mean_35 : decode cX11_mean 35 = .ok (.invokevirtual 102, 3) := by decide +kernel
theorem dX11_mean_38 : decode cX11_mean 38 = .ok (.ireturn, 1) := by decide +kernel
theorem dX11_mean_39 : decode cX11_mean 39 = .ok (.lconst 0, 1) := by decide +kernel
theorem dX11_mean_40 : decode cX11_mean 40 = .ok (.lstore_n 2, 1) := by decide +kernel
theorem dX11_mean_41 : decode cX11_mean 41 = .ok (.iconst 0, 1) := by decide +kernel
theorem dX11_mean_42 : decode cX11_mean 42 = .ok (.istore 4, 2) := by decide +kernel
theorem dX11_mean_44 : decode cX11_mean 44 = .ok (.iload 4, 2) := by decide +kernel
theorem dX11_mean_46 : decode cX11_mean 46 = .ok (.aload_n 0, 1) := by decide +kernel
theorem dX11_mean_47 : decode cX11_mean 47 = .ok (.getfield 16, 3) := by decide +kernel
theorem dX11_mean_50 : decode cX11_mean 50 = .ok (.iload_n 1, 1) := by decide +kernel
theorem dX11_mean_51 : decode cX11_mean 51 = .ok (.iaload, 1) := by decide +kernel
theorem dX11_mean_52 : decode cX11_mean 52 = .ok (.if_icmp .ge 25, 3) := by decide +kernel
theorem dX11_mean_55 : decode cX11_mean 55 = .ok (.lload_n 2, 1) := by decide +kernel
theorem dX11_mean_56 : decode cX11_mean 56 = .ok (.aload_n 0, 1) := by decide +kernel
theorem dX11_mean_57 : decode cX11_mean 57 = .ok (.getfield 13, 3) := by decide +kernel
theorem dX11_mean_60 : decode cX11_mean 60 = .ok (.bipush 40, 2) := by decide +kernel
theorem dX11_mean_62 : decode cX11_mean 62 = .ok (.iload_n 1, 1) := by decide +kernel
theorem dX11_mean_63 : decode cX11_mean 63 = .ok (.imul, 1) := by decide +kernel
theorem dX11_mean_64 : decode cX11_mean 64 = .ok (.iload 4, 2) := by decide +kernel
theorem dX11_mean_66 : decode cX11_mean 66 = .ok (.iadd, 1) := by decide +kernel
theorem dX11_mean_67 : decode cX11_mean 67 = .ok (.iaload, 1) := by decide +kernel
theorem dX11_mean_68 : decode cX11_mean 68 = .ok (.i2l, 1) := by decide +kernel
theorem dX11_mean_69 : decode cX11_mean 69 = .ok (.ladd, 1) := by decide +kernel
theorem dX11_mean_70 : decode cX11_mean 70 = .ok (.lstore_n 2, 1) := by decide +kernel
theorem dX11_mean_71 : decode cX11_mean 71 = .ok (.iinc 4 1, 3) := by decide +kernel
theorem dX11_mean_74 : decode cX11_mean 74 = .ok (.goto (-30), 3) := by decide +kernel
theorem dX11_mean_77 : decode cX11_mean 77 = .ok (.aload_n 0, 1) := by decide +kernel
theorem dX11_mean_78 : decode cX11_mean 78 = .ok (.lload_n 2, 1) := by decide +kernel
theorem dX11_mean_79 : decode cX11_mean 79 = .ok (.aload_n 0, 1) := by decide +kernel
theorem dX11_mean_80 : decode cX11_mean 80 = .ok (.getfield 16, 3) := by decide +kernel
theorem dX11_mean_83 : decode cX11_mean 83 = .ok (.iload_n 1, 1) := by decide +kernel
theorem dX11_mean_84 : decode cX11_mean 84 = .ok (.iaload, 1) := by decide +kernel
theorem dX11_mean_85 : decode cX11_mean 85 = .ok (.i2l, 1) := by decide +kernel
theorem dX11_mean_86 : decode cX11_mean 86 = .ok (.ldiv, 1) := by decide +kernel
theorem dX11_mean_87 : decode cX11_mean 87 = .ok (.l2i, 1) := by decide +kernel
theorem dX11_mean_88 : decode cX11_mean 88 = .ok (.invokevirtual 110, 3) := by decide +kernel
theorem dX11_mean_91 : decode cX11_mean 91 = .ok (.ireturn, 1) := by decide +kernel
theorem dX11_isText_0 : decode cX11_isText 0 = .ok (.iload_n 0, 1) := by decide +kernel
theorem dX11_isText_1 : decode cX11_isText 1 = .ok (.iconst 0, 1) := by decide +kernel
theorem dX11_isText_2 : decode cX11_isText 2 = .ok (.iconst 3, 1) := by decide +kernel
theorem dX11_isText_3 : decode cX11_isText 3 = .ok (.invokestatic 94, 3) := by decide +kernel
theorem dX11_isText_6 : decode cX11_isText 6 = .ok (.ireturn, 1) := by decide +kernel
theorem dX11_text_0 : decode cX11_text 0 = .ok (.iload_n 1, 1) := by decide +kernel
theorem dX11_text_1 : decode cX11_text 1 = .ok (.invokestatic 113, 3) := by decide +kernel
theorem dX11_text_4 : decode cX11_text 4 = .ok (.ifCond .eq 9, 3) := by decide +kernel
theorem dX11_text_7 : decode cX11_text 7 = .ok (.iload_n 2, 1) := by decide +kernel
theorem dX11_text_8 : decode cX11_text 8 = .ok (.bipush 60, 2) := by decide +kernel
theorem dX11_text_10 : decode cX11_text 10 = .ok (.if_icmp .le 5, 3) := by decide +kernel
theorem dX11_text_13 : decode cX11_text 13 = .ok (.iconst (-1), 1) := by decide +kernel
theorem dX11_text_14 : decode cX11_text 14 = .ok (.ireturn, 1) := by decide +kernel
theorem dX11_text_15 : decode cX11_text 15 = .ok (.iload_n 2, 1) := by decide +kernel
theorem dX11_text_16 : decode cX11_text 16 = .ok (.ifCond .ge 9, 3) := by decide +kernel
theorem dX11_text_19 : decode cX11_text 19 = .ok (.aload_n 0, 1) := by decide +kernel
theorem dX11_text_20 : decode cX11_text 20 = .ok (.iconst 5, 1) := by decide +kernel
theorem dX11_text_21 : decode cX11_text 21 = .ok (.invokevirtual 102, 3) := by decide +kernel
theorem dX11_text_24 : decode cX11_text 24 = .ok (.ireturn, 1) := by decide +kernel
theorem dX11_text_25 : decode cX11_text 25 = .ok (.aload_n 0, 1) := by decide +kernel
theorem dX11_text_26 : decode cX11_text 26 = .ok (.getfield 23, 3) := by decide +kernel
theorem dX11_text_29 : decode cX11_text 29 = .ok (.iload_n 1, 1) := by decide +kernel
theorem dX11_text_30 : decode cX11_text 30 = .ok (.iload_n 2, 1) := by decide +kernel
theorem dX11_text_31 : decode cX11_text 31 = .ok (.iastore, 1) := by decide +kernel
theorem dX11_text_32 : decode cX11_text 32 = .ok (.iconst 0, 1) := by decide +kernel
theorem dX11_text_33 : decode cX11_text 33 = .ok (.istore_n 3, 1) := by decide +kernel
theorem dX11_text_34 : decode cX11_text 34 = .ok (.iload_n 3, 1) := by decide +kernel
theorem dX11_text_35 : decode cX11_text 35 = .ok (.bipush 60, 2) := by decide +kernel
theorem dX11_text_37 : decode cX11_text 37 = .ok (.if_icmp .ge 22, 3) := by decide +kernel
theorem dX11_text_40 : decode cX11_text 40 = .ok (.aload_n 0, 1) := by decide +kernel
theorem dX11_text_41 : decode cX11_text 41 = .ok (.getfield 19, 3) := by decide +kernel
theorem dX11_text_44 : decode cX11_text 44 = .ok (.bipush 60, 2) := by decide +kernel
theorem dX11_text_46 : decode cX11_text 46 = .ok (.iload_n 1, 1) := by decide +kernel
theorem dX11_text_47 : decode cX11_text 47 = .ok (.imul, 1) := by decide +kernel
theorem dX11_text_48 : decode cX11_text 48 = .ok (.iload_n 3, 1) := by decide +kernel
theorem dX11_text_49 : decode cX11_text 49 = .ok (.iadd, 1) := by decide +kernel
theorem dX11_text_50 : decode cX11_text 50 = .ok (.bipush 32, 2) := by decide +kernel
theorem dX11_text_52 : decode cX11_text 52 = .ok (.bastore, 1) := by decide +kernel
theorem dX11_text_53 : decode cX11_text 53 = .ok (.iinc 3 1, 3) := by decide +kernel
theorem dX11_text_56 : decode cX11_text 56 = .ok (.goto (-22), 3) := by decide +kernel
theorem dX11_text_59 : decode cX11_text 59 = .ok (.iload_n 2, 1) := by decide +kernel
theorem dX11_text_60 : decode cX11_text 60 = .ok (.ireturn, 1) := by decide +kernel
theorem dX11_put_0 : decode cX11_put 0 = .ok (.iload_n 1, 1) := by decide +kernel
theorem dX11_put_1 : decode cX11_put 1 = .ok (.invokestatic 113, 3) := by decide +kernel
theorem dX11_put_4 : decode cX11_put 4 = .ok (.ifCond .ne 5, 3) := by decide +kernel
theorem dX11_put_7 : decode cX11_put 7 = .ok (.iconst (-1), 1) := by decide +kernel
theorem dX11_put_8 : decode cX11_put 8 = .ok (.ireturn, 1) := by decide +kernel
theorem dX11_put_9 : decode cX11_put 9 = .ok (.aload_n 0, 1) := by decide +kernel
theorem dX11_put_10 : decode cX11_put 10 = .ok (.getfield 23, 3) := by decide +kernel
theorem dX11_put_13 : decode cX11_put 13 = .ok (.iload_n 1, 1) := by decide +kernel
theorem dX11_put_14 : decode cX11_put 14 = .ok (.iaload, 1) := by decide +kernel
theorem dX11_put_15 : decode cX11_put 15 = .ok (.ifCond .ge 9, 3) := by decide +kernel
theorem dX11_put_18 : decode cX11_put 18 = .ok (.aload_n 0, 1) := by decide +kernel
theorem dX11_put_19 : decode cX11_put 19 = .ok (.iconst 1, 1) := by decide +kernel
theorem dX11_put_20 : decode cX11_put 20 = .ok (.invokevirtual 102, 3) := by decide +kernel
theorem dX11_put_23 : decode cX11_put 23 = .ok (.ireturn, 1) := by decide +kernel
theorem dX11_put_24 : decode cX11_put 24 = .ok (.iload_n 2, 1) := by decide +kernel
theorem dX11_put_25 : decode cX11_put 25 = .ok (.iconst 0, 1) := by decide +kernel
theorem dX11_put_26 : decode cX11_put 26 = .ok (.aload_n 0, 1) := by decide +kernel
theorem dX11_put_27 : decode cX11_put 27 = .ok (.getfield 23, 3) := by decide +kernel
theorem dX11_put_30 : decode cX11_put 30 = .ok (.iload_n 1, 1) := by decide +kernel
theorem dX11_put_31 : decode cX11_put 31 = .ok (.iaload, 1) := by decide +kernel
theorem dX11_put_32 : decode cX11_put 32 = .ok (.iconst 1, 1) := by decide +kernel
theorem dX11_put_33 : decode cX11_put 33 = .ok (.isub, 1) := by decide +kernel
theorem dX11_put_34 : decode cX11_put 34 = .ok (.invokestatic 94, 3) := by decide +kernel
theorem dX11_put_37 : decode cX11_put 37 = .ok (.ifCond .ne 9, 3) := by decide +kernel
theorem dX11_put_40 : decode cX11_put 40 = .ok (.aload_n 0, 1) := by decide +kernel
theorem dX11_put_41 : decode cX11_put 41 = .ok (.iconst 2, 1) := by decide +kernel
theorem dX11_put_42 : decode cX11_put 42 = .ok (.invokevirtual 102, 3) := by decide +kernel
theorem dX11_put_45 : decode cX11_put 45 = .ok (.ireturn, 1) := by decide +kernel
theorem dX11_put_46 : decode cX11_put 46 = .ok (.aload_n 0, 1) := by decide +kernel
theorem dX11_put_47 : decode cX11_put 47 = .ok (.getfield 19, 3) := by decide +kernel
theorem dX11_put_50 : decode cX11_put 50 = .ok (.bipush 60, 2) := by decide +kernel
theorem dX11_put_52 : decode cX11_put 52 = .ok (.iload_n 1, 1) := by decide +kernel
theorem dX11_put_53 : decode cX11_put 53 = .ok (.imul, 1) := by decide +kernel
theorem dX11_put_54 : decode cX11_put 54 = .ok (.iload_n 2, 1) := by decide +kernel
theorem dX11_put_55 : decode cX11_put 55 = .ok (.iadd, 1) := by decide +kernel
theorem dX11_put_56 : decode cX11_put 56 = .ok (.baload, 1) := by decide +kernel
theorem dX11_put_57 : decode cX11_put 57 = .ok (.istore 4, 2) := by decide +kernel
theorem dX11_put_59 : decode cX11_put 59 = .ok (.aload_n 0, 1) := by decide +kernel
theorem dX11_put_60 : decode cX11_put 60 = .ok (.getfield 19, 3) := by decide +kernel
theorem dX11_put_63 : decode cX11_put 63 = .ok (.bipush 60, 2) := by decide +kernel
theorem dX11_put_65 : decode cX11_put 65 = .ok (.iload_n 1, 1) := by decide +kernel
theorem dX11_put_66 : decode cX11_put 66 = .ok (.imul, 1) := by decide +kernel
theorem dX11_put_67 : decode cX11_put 67 = .ok (.iload_n 2, 1) := by decide +kernel
theorem dX11_put_68 : decode cX11_put 68 = .ok (.iadd, 1) := by decide +kernel
theorem dX11_put_69 : decode cX11_put 69 = .ok (.iload_n 3, 1) := by decide +kernel
theorem dX11_put_70 : decode cX11_put 70 = .ok (.i2b, 1) := by decide +kernel
theorem dX11_put_71 : decode cX11_put 71 = .ok (.bastore, 1) := by decide +kernel
theorem dX11_put_72 : decode cX11_put 72 = .ok (.iload 4, 2) := by decide +kernel
theorem dX11_put_74 : decode cX11_put 74 = .ok (.sipush 1000, 3) := by decide +kernel
theorem dX11_put_77 : decode cX11_put 77 = .ok (.iadd, 1) := by decide +kernel
theorem dX11_put_78 : decode cX11_put 78 = .ok (.ireturn, 1) := by decide +kernel
theorem dX11_here_0 : decode cX11_here 0 = .ok (.aload_n 0, 1) := by decide +kernel
theorem dX11_here_1 : decode cX11_here 1 = .ok (.getfield 116, 3) := by decide +kernel
theorem dX11_here_4 : decode cX11_here 4 = .ok (.aload_n 0, 1) := by decide +kernel
theorem dX11_here_5 : decode cX11_here 5 = .ok (.getfield 23, 3) := by decide +kernel
theorem dX11_here_8 : decode cX11_here 8 = .ok (.aload_n 0, 1) := by decide +kernel
theorem dX11_here_9 : decode cX11_here 9 = .ok (.getfield 119, 3) := by decide +kernel
theorem dX11_here_12 : decode cX11_here 12 = .ok (.iaload, 1) := by decide +kernel
theorem dX11_here_13 : decode cX11_here 13 = .ok (.if_icmp .ge 23, 3) := by decide +kernel
theorem dX11_here_16 : decode cX11_here 16 = .ok (.aload_n 0, 1) := by decide +kernel
theorem dX11_here_17 : decode cX11_here 17 = .ok (.getfield 19, 3) := by decide +kernel
theorem dX11_here_20 : decode cX11_here 20 = .ok (.bipush 60, 2) := by decide +kernel
theorem dX11_here_22 : decode cX11_here 22 = .ok (.aload_n 0, 1) := by decide +kernel
theorem dX11_here_23 : decode cX11_here 23 = .ok (.getfield 119, 3) := by decide +kernel
theorem dX11_here_26 : decode cX11_here 26 = .ok (.imul, 1) := by decide +kernel
theorem dX11_here_27 : decode cX11_here 27 = .ok (.aload_n 0, 1) := by decide +kernel
theorem dX11_here_28 : decode cX11_here 28 = .ok (.getfield 116, 3) := by decide +kernel
theorem dX11_here_31 : decode cX11_here 31 = .ok (.iadd, 1) := by decide +kernel
theorem dX11_here_32 : decode cX11_here 32 = .ok (.baload, 1) := by decide +kernel
theorem dX11_here_33 : decode cX11_here 33 = .ok (.goto 5, 3) := by decide +kernel
theorem dX11_here_36 : decode cX11_here 36 = .ok (.bipush (-9), 2) := by decide +kernel
theorem dX11_here_38 : decode cX11_here 38 = .ok (.ireturn, 1) := by decide +kernel
theorem dX11_skip_0 : decode cX11_skip 0 = .ok (.aload_n 0, 1) := by decide +kernel
theorem dX11_skip_1 : decode cX11_skip 1 = .ok (.invokevirtual 122, 3) := by decide +kernel
theorem dX11_skip_4 : decode cX11_skip 4 = .ok (.bipush 32, 2) := by decide +kernel
theorem dX11_skip_6 : decode cX11_skip 6 = .ok (.if_icmp .ne 16, 3) := by decide +kernel
theorem dX11_skip_9 : decode cX11_skip 9 = .ok (.aload_n 0, 1) := by decide +kernel
theorem dX11_skip_10 : decode cX11_skip 10 = .ok (.dup, 1) := by decide +kernel
theorem dX11_skip_11 : decode cX11_skip 11 = .ok (.getfield 116, 3) := by decide +kernel
theorem dX11_skip_14 : decode cX11_skip 14 = .ok (.iconst 1, 1) := by decide +kernel
theorem dX11_skip_15 : decode cX11_skip 15 = .ok (.iadd, 1) := by decide +kernel
theorem dX11_skip_16 : decode cX11_skip 16 = .ok (.putfield 116, 3) := by decide +kernel
theorem dX11_skip_19 : decode cX11_skip 19 = .ok (.goto (-19), 3) := by decide +kernel
theorem dX11_skip_22 : decode cX11_skip 22 = .ok (.return_, 1) := by decide +kernel
theorem dX11_figure_0 : decode cX11_figure 0 = .ok (.aload_n 0, 1) := by decide +kernel
theorem dX11_figure_1 : decode cX11_figure 1 = .ok (.invokevirtual 122, 3) := by decide +kernel
theorem dX11_figure_4 : decode cX11_figure 4 = .ok (.istore_n 3, 1) := by decide +kernel
theorem dX11_figure_5 : decode cX11_figure 5 = .ok (.aload_n 0, 1) := by decide +kernel
theorem dX11_figure_6 : decode cX11_figure 6 = .ok (.getfield 126, 3) := by decide +kernel
theorem dX11_figure_9 : decode cX11_figure 9 = .ok (.bipush (-9), 2) := by decide +kernel
theorem dX11_figure_11 : decode cX11_figure 11 = .ok (.if_icmp .eq 5, 3) := by decide +kernel
theorem dX11_figure_14 : decode cX11_figure 14 = .ok (.iconst 0, 1) := by decide +kernel
theorem dX11_figure_15 : decode cX11_figure 15 = .ok (.ireturn, 1) := by decide +kernel
theorem dX11_figure_16 : decode cX11_figure 16 = .ok (.iload_n 3, 1) := by decide +kernel
theorem dX11_figure_17 : decode cX11_figure 17 = .ok (.bipush 48, 2) := by decide +kernel
theorem dX11_figure_19 : decode cX11_figure 19 = .ok (.iload_n 1, 1) := by decide +kernel
theorem dX11_figure_20 : decode cX11_figure 20 = .ok (.iadd, 1) := by decide +kernel
theorem dX11_figure_21 : decode cX11_figure 21 = .ok (.bipush 48, 2) := by decide +kernel
theorem dX11_figure_23 : decode cX11_figure 23 = .ok (.iload_n 2, 1) := by decide +kernel
theorem dX11_figure_24 : decode cX11_figure 24 = .ok (.iadd, 1) := by decide +kernel
theorem dX11_figure_25 : decode cX11_figure 25 = .ok (.invokestatic 94, 3) := by decide +kernel
theorem dX11_figure_28 : decode cX11_figure 28 = .ok (.ifCond .ne 13, 3) := by decide +kernel
theorem dX11_figure_31 : decode cX11_figure 31 = .ok (.aload_n 0, 1) := by decide +kernel
theorem dX11_figure_32 : decode cX11_figure 32 = .ok (.aload_n 0, 1) := by decide +kernel
theorem dX11_figure_33 : decode cX11_figure 33 = .ok (.getfield 116, 3) := by decide +kernel
theorem dX11_figure_36 : decode cX11_figure 36 = .ok (.putfield 126, 3) := by decide +kernel
theorem dX11_figure_39 : decode cX11_figure 39 = .ok (.iconst 0, 1) := by decide +kernel
theorem dX11_figure_40 : decode cX11_figure 40 = .ok (.ireturn, 1) := by decide +kernel
theorem dX11_figure_41 : decode cX11_figure 41 = .ok (.aload_n 0, 1) := by decide +kernel
theorem dX11_figure_42 : decode cX11_figure 42 = .ok (.dup, 1) := by decide +kernel
theorem dX11_figure_43 : decode cX11_figure 43 = .ok (.getfield 116, 3) := by decide +kernel
theorem dX11_figure_46 : decode cX11_figure 46 = .ok (.iconst 1, 1) := by decide +kernel
theorem dX11_figure_47 : decode cX11_figure 47 = .ok (.iadd, 1) := by decide +kernel
theorem dX11_figure_48 : decode cX11_figure 48 = .ok (.putfield 116, 3) := by decide +kernel
theorem dX11_figure_51 : decode cX11_figure 51 = .ok (.iload_n 3, 1) := by decide +kernel
theorem dX11_figure_52 : decode cX11_figure 52 = .ok (.bipush 48, 2) := by decide +kernel
theorem dX11_figure_54 : decode cX11_figure 54 = .ok (.isub, 1) := by decide +kernel
theorem dX11_figure_55 : decode cX11_figure 55 = .ok (.ireturn, 1) := by decide +kernel
theorem dX11_kindBy_0 : decode cX11_kindBy 0 = .ok (.iload_n 0, 1) := by decide +kernel
theorem dX11_kindBy_1 : decode cX11_kindBy 1 = .ok (.tableswitch 91 101 116 #[83, 91, 79, 91, 91, 91, 91, 87, 81, 91, 91, 91, 91, 91, 85, 89], 79) := by decide +kernel
theorem dX11_kindBy_80 : decode cX11_kindBy 80 = .ok (.iconst 0, 1) := by decide +kernel
theorem dX11_kindBy_81 : decode cX11_kindBy 81 = .ok (.ireturn, 1) := by decide +kernel
theorem dX11_kindBy_82 : decode cX11_kindBy 82 = .ok (.iconst 1, 1) := by decide +kernel
theorem dX11_kindBy_83 : decode cX11_kindBy 83 = .ok (.ireturn, 1) := by decide +kernel
theorem dX11_kindBy_84 : decode cX11_kindBy 84 = .ok (.iconst 2, 1) := by decide +kernel
theorem dX11_kindBy_85 : decode cX11_kindBy 85 = .ok (.ireturn, 1) := by decide +kernel
theorem dX11_kindBy_86 : decode cX11_kindBy 86 = .ok (.iconst 3, 1) := by decide +kernel
theorem dX11_kindBy_87 : decode cX11_kindBy 87 = .ok (.ireturn, 1) := by decide +kernel
theorem dX11_kindBy_88 : decode cX11_kindBy 88 = .ok (.iconst 4, 1) := by decide +kernel
theorem dX11_kindBy_89 : decode cX11_kindBy 89 = .ok (.ireturn, 1) := by decide +kernel
theorem dX11_kindBy_90 : decode cX11_kindBy 90 = .ok (.iconst 5, 1) := by decide +kernel
theorem dX11_kindBy_91 : decode cX11_kindBy 91 = .ok (.ireturn, 1) := by decide +kernel
theorem dX11_kindBy_92 : decode cX11_kindBy 92 = .ok (.bipush (-9), 2) := by decide +kernel
theorem dX11_kindBy_94 : decode cX11_kindBy 94 = .ok (.ireturn, 1) := by decide +kernel
theorem dX11_readGlove_0 : decode cX11_readGlove 0 = .ok (.aload_n 0, 1) := by decide +kernel
theorem dX11_readGlove_1 : decode cX11_readGlove 1 = .ok (.invokevirtual 122, 3) := by decide +kernel
theorem dX11_readGlove_4 : decode cX11_readGlove 4 = .ok (.invokestatic 129, 3) := by decide +kernel
theorem dX11_readGlove_7 : decode cX11_readGlove 7 = .ok (.istore_n 1, 1) := by decide +kernel
theorem dX11_readGlove_8 : decode cX11_readGlove 8 = .ok (.iload_n 1, 1) := by decide +kernel
theorem dX11_readGlove_9 : decode cX11_readGlove 9 = .ok (.bipush (-9), 2) := by decide +kernel
theorem dX11_readGlove_11 : decode cX11_readGlove 11 = .ok (.if_icmp .eq 12, 3) := by decide +kernel
theorem dX11_readGlove_14 : decode cX11_readGlove 14 = .ok (.aload_n 0, 1) := by decide +kernel
theorem dX11_readGlove_15 : decode cX11_readGlove 15 = .ok (.getfield 132, 3) := by decide +kernel
theorem dX11_readGlove_18 : decode cX11_readGlove 18 = .ok (.bipush 8, 2) := by decide +kernel
theorem dX11_readGlove_20 : decode cX11_readGlove 20 = .ok (.if_icmp .ne 12, 3) := by decide +kernel
theorem dX11_readGlove_23 : decode cX11_readGlove 23 = .ok (.aload_n 0, 1) := by decide +kernel
theorem dX11_readGlove_24 : decode cX11_readGlove 24 = .ok (.aload_n 0, 1) := by decide +kernel
theorem dX11_readGlove_25 : decode cX11_readGlove 25 = .ok (.getfield 116, 3) := by decide +kernel
theorem dX11_readGlove_28 : decode cX11_readGlove 28 = .ok (.putfield 126, 3) := by decide +kernel
theorem dX11_readGlove_31 : decode cX11_readGlove 31 = .ok (.return_, 1) := by decide +kernel
theorem dX11_readGlove_32 : decode cX11_readGlove 32 = .ok (.aload_n 0, 1) := by decide +kernel
theorem dX11_readGlove_33 : decode cX11_readGlove 33 = .ok (.dup, 1) := by decide +kernel
theorem dX11_readGlove_34 : decode cX11_readGlove 34 = .ok (.getfield 116, 3) := by decide +kernel
theorem dX11_readGlove_37 : decode cX11_readGlove 37 = .ok (.iconst 1, 1) := by decide +kernel
theorem dX11_readGlove_38 : decode cX11_readGlove 38 = .ok (.iadd, 1) := by decide +kernel
theorem dX11_readGlove_39 : decode cX11_readGlove 39 = .ok (.putfield 116, 3) := by decide +kernel
theorem dX11_readGlove_42 : decode cX11_readGlove 42 = .ok (.aload_n 0, 1) := by decide +kernel
theorem dX11_readGlove_43 : decode cX11_readGlove 43 = .ok (.getfield 29, 3) := by decide +kernel
theorem dX11_readGlove_46 : decode cX11_readGlove 46 = .ok (.aload_n 0, 1) := by decide +kernel
theorem dX11_readGlove_47 : decode cX11_readGlove 47 = .ok (.getfield 132, 3) := by decide +kernel
theorem dX11_readGlove_50 : decode cX11_readGlove 50 = .ok (.iload_n 1, 1) := by decide +kernel
theorem dX11_readGlove_51 : decode cX11_readGlove 51 = .ok (.iastore, 1) := by decide +kernel
theorem dX11_readGlove_52 : decode cX11_readGlove 52 = .ok (.aload_n 0, 1) := by decide +kernel
theorem dX11_readGlove_53 : decode cX11_readGlove 53 = .ok (.getfield 32, 3) := by decide +kernel
theorem dX11_readGlove_56 : decode cX11_readGlove 56 = .ok (.aload_n 0, 1) := by decide +kernel
theorem dX11_readGlove_57 : decode cX11_readGlove 57 = .ok (.getfield 132, 3) := by decide +kernel
theorem dX11_readGlove_60 : decode cX11_readGlove 60 = .ok (.aload_n 0, 1) := by decide +kernel
theorem dX11_readGlove_61 : decode cX11_readGlove 61 = .ok (.iconst 0, 1) := by decide +kernel
theorem dX11_readGlove_62 : decode cX11_readGlove 62 = .ok (.bipush 9, 2) := by decide +kernel
theorem dX11_readGlove_64 : decode cX11_readGlove 64 = .ok (.invokevirtual 135, 3) := by decide +kernel
theorem dX11_readGlove_67 : decode cX11_readGlove 67 = .ok (.iastore, 1) := by decide +kernel
theorem dX11_readGlove_68 : decode cX11_readGlove 68 = .ok (.aload_n 0, 1) := by decide +kernel
theorem dX11_readGlove_69 : decode cX11_readGlove 69 = .ok (.getfield 35, 3) := by decide +kernel
theorem dX11_readGlove_72 : decode cX11_readGlove 72 = .ok (.aload_n 0, 1) := by decide +kernel
theorem dX11_readGlove_73 : decode cX11_readGlove 73 = .ok (.getfield 132, 3) := by decide +kernel
theorem dX11_readGlove_76 : decode cX11_readGlove 76 = .ok (.aload_n 0, 1) := by decide +kernel
theorem dX11_readGlove_77 : decode cX11_readGlove 77 = .ok (.iconst 0, 1) := by decide +kernel
theorem dX11_readGlove_78 : decode cX11_readGlove 78 = .ok (.iconst 1, 1) := by decide +kernel
theorem dX11_readGlove_79 : decode cX11_readGlove 79 = .ok (.invokevirtual 135, 3) := by decide +kernel
theorem dX11_readGlove_82 : decode cX11_readGlove 82 = .ok (.iastore, 1) := by decide +kernel
theorem dX11_readGlove_83 : decode cX11_readGlove 83 = .ok (.aload_n 0, 1) := by decide +kernel
theorem dX11_readGlove_84 : decode cX11_readGlove 84 = .ok (.getfield 38, 3) := by decide +kernel
theorem dX11_readGlove_87 : decode cX11_readGlove 87 = .ok (.aload_n 0, 1) := by decide +kernel
theorem dX11_readGlove_88 : decode cX11_readGlove 88 = .ok (.getfield 132, 3) := by decide +kernel
theorem dX11_readGlove_91 : decode cX11_readGlove 91 = .ok (.aload_n 0, 1) := by decide +kernel
theorem dX11_readGlove_92 : decode cX11_readGlove 92 = .ok (.iconst 0, 1) := by decide +kernel
theorem dX11_readGlove_93 : decode cX11_readGlove 93 = .ok (.bipush 9, 2) := by decide +kernel
theorem dX11_readGlove_95 : decode cX11_readGlove 95 = .ok (.invokevirtual 135, 3) := by decide +kernel
theorem dX11_readGlove_98 : decode cX11_readGlove 98 = .ok (.iastore, 1) := by decide +kernel
theorem dX11_readGlove_99 : decode cX11_readGlove 99 = .ok (.aload_n 0, 1) := by decide +kernel
theorem dX11_readGlove_100 : decode cX11_readGlove 100 = .ok (.dup, 1) := by decide +kernel
theorem dX11_readGlove_101 : decode cX11_readGlove 101 = .ok (.getfield 132, 3) := by decide +kernel
theorem dX11_readGlove_104 : decode cX11_readGlove 104 = .ok (.iconst 1, 1) := by decide +kernel
theorem dX11_readGlove_105 : decode cX11_readGlove 105 = .ok (.iadd, 1) := by decide +kernel
theorem dX11_readGlove_106 : decode cX11_readGlove 106 = .ok (.putfield 132, 3) := by decide +kernel
theorem dX11_readGlove_109 : decode cX11_readGlove 109 = .ok (.return_, 1) := by decide +kernel
theorem dX11_read_0 : decode cX11_read 0 = .ok (.aload_n 0, 1) := by decide +kernel
theorem dX11_read_1 : decode cX11_read 1 = .ok (.iload_n 1, 1) := by decide +kernel
theorem dX11_read_2 : decode cX11_read 2 = .ok (.putfield 119, 3) := by decide +kernel
theorem dX11_read_5 : decode cX11_read 5 = .ok (.aload_n 0, 1) := by decide +kernel
theorem dX11_read_6 : decode cX11_read 6 = .ok (.iconst 0, 1) := by decide +kernel
theorem dX11_read_7 : decode cX11_read 7 = .ok (.putfield 116, 3) := by decide +kernel
theorem dX11_read_10 : decode cX11_read 10 = .ok (.aload_n 0, 1) := by decide +kernel
theorem dX11_read_11 : decode cX11_read 11 = .ok (.bipush (-9), 2) := by decide +kernel
theorem dX11_read_13 : decode cX11_read 13 = .ok (.putfield 126, 3) := by decide +kernel
theorem dX11_read_16 : decode cX11_read 16 = .ok (.aload_n 0, 1) := by decide +kernel
theorem dX11_read_17 : decode cX11_read 17 = .ok (.iconst 0, 1) := by decide +kernel
theorem dX11_read_18 : decode cX11_read 18 = .ok (.putfield 132, 3) := by decide +kernel
theorem dX11_read_21 : decode cX11_read 21 = .ok (.aload_n 0, 1) := by decide +kernel
theorem dX11_read_22 : decode cX11_read 22 = .ok (.invokevirtual 139, 3) := by decide +kernel
theorem dX11_read_25 : decode cX11_read 25 = .ok (.aload_n 0, 1) := by decide +kernel
theorem dX11_read_26 : decode cX11_read 26 = .ok (.invokevirtual 122, 3) := by decide +kernel
theorem dX11_read_29 : decode cX11_read 29 = .ok (.bipush 100, 2) := by decide +kernel
theorem dX11_read_31 : decode cX11_read 31 = .ok (.if_icmp .ne 16, 3) := by decide +kernel
theorem dX11_read_34 : decode cX11_read 34 = .ok (.aload_n 0, 1) := by decide +kernel
theorem dX11_read_35 : decode cX11_read 35 = .ok (.dup, 1) := by decide +kernel
theorem dX11_read_36 : decode cX11_read 36 = .ok (.getfield 116, 3) := by decide +kernel
theorem dX11_read_39 : decode cX11_read 39 = .ok (.iconst 1, 1) := by decide +kernel
theorem dX11_read_40 : decode cX11_read 40 = .ok (.iadd, 1) := by decide +kernel
theorem dX11_read_41 : decode cX11_read 41 = .ok (.putfield 116, 3) := by decide +kernel
theorem dX11_read_44 : decode cX11_read 44 = .ok (.goto 11, 3) := by decide +kernel
theorem dX11_read_47 : decode cX11_read 47 = .ok (.aload_n 0, 1) := by decide +kernel
theorem dX11_read_48 : decode cX11_read 48 = .ok (.aload_n 0, 1) := by decide +kernel
theorem dX11_read_49 : decode cX11_read 49 = .ok (.getfield 116, 3) := by decide +kernel
theorem dX11_read_52 : decode cX11_read 52 = .ok (.putfield 126, 3) := by decide +kernel
theorem dX11_read_55 : decode cX11_read 55 = .ok (.aload_n 0, 1) := by decide +kernel
theorem dX11_read_56 : decode cX11_read 56 = .ok (.aload_n 0, 1) := by decide +kernel
theorem dX11_read_57 : decode cX11_read 57 = .ok (.iconst 1, 1) := by decide +kernel
theorem dX11_read_58 : decode cX11_read 58 = .ok (.bipush 8, 2) := by decide +kernel
theorem dX11_read_60 : decode cX11_read 60 = .ok (.invokevirtual 135, 3) := by decide +kernel
theorem dX11_read_63 : decode cX11_read 63 = .ok (.putfield 142, 3) := by decide +kernel
theorem dX11_read_66 : decode cX11_read 66 = .ok (.aload_n 0, 1) := by decide +kernel
theorem dX11_read_67 : decode cX11_read 67 = .ok (.getfield 126, 3) := by decide +kernel
theorem dX11_read_70 : decode cX11_read 70 = .ok (.bipush (-9), 2) := by decide +kernel
theorem dX11_read_72 : decode cX11_read 72 = .ok (.if_icmp .ne 7, 3) := by decide +kernel
theorem dX11_read_75 : decode cX11_read 75 = .ok (.iconst 1, 1) := by decide +kernel
theorem dX11_read_76 : decode cX11_read 76 = .ok (.goto 4, 3) := by decide +kernel
theorem dX11_read_79 : decode cX11_read 79 = .ok (.iconst 0, 1) := by decide +kernel
theorem dX11_read_80 : decode cX11_read 80 = .ok (.istore_n 2, 1) := by decide +kernel
theorem dX11_read_81 : decode cX11_read 81 = .ok (.iload_n 2, 1) := by decide +kernel
theorem dX11_read_82 : decode cX11_read 82 = .ok (.ifCond .eq 59, 3) := by decide +kernel
theorem dX11_read_85 : decode cX11_read 85 = .ok (.aload_n 0, 1) := by decide +kernel
theorem dX11_read_86 : decode cX11_read 86 = .ok (.invokevirtual 139, 3) := by decide +kernel
theorem dX11_read_89 : decode cX11_read 89 = .ok (.aload_n 0, 1) := by decide +kernel
theorem dX11_read_90 : decode cX11_read 90 = .ok (.getfield 116, 3) := by decide +kernel
theorem dX11_read_93 : decode cX11_read 93 = .ok (.aload_n 0, 1) := by decide +kernel
theorem dX11_read_94 : decode cX11_read 94 = .ok (.getfield 23, 3) := by decide +kernel
theorem dX11_read_97 : decode cX11_read 97 = .ok (.iload_n 1, 1) := by decide +kernel
theorem dX11_read_98 : decode cX11_read 98 = .ok (.iaload, 1) := by decide +kernel
theorem dX11_read_99 : decode cX11_read 99 = .ok (.if_icmp .lt 10, 3) := by decide +kernel
theorem dX11_read_102 : decode cX11_read 102 = .ok (.aload_n 0, 1) := by decide +kernel
theorem dX11_read_103 : decode cX11_read 103 = .ok (.getfield 132, 3) := by decide +kernel
theorem dX11_read_106 : decode cX11_read 106 = .ok (.ifCond .ne 7, 3) := by decide +kernel
theorem dX11_read_109 : decode cX11_read 109 = .ok (.iconst 1, 1) := by decide +kernel
theorem dX11_read_110 : decode cX11_read 110 = .ok (.goto 4, 3) := by decide +kernel
theorem dX11_read_113 : decode cX11_read 113 = .ok (.iconst 0, 1) := by decide +kernel
theorem dX11_read_114 : decode cX11_read 114 = .ok (.istore_n 2, 1) := by decide +kernel
theorem dX11_read_115 : decode cX11_read 115 = .ok (.iload_n 2, 1) := by decide +kernel
theorem dX11_read_116 : decode cX11_read 116 = .ok (.ifCond .eq (-35), 3) := by decide +kernel
theorem dX11_read_119 : decode cX11_read 119 = .ok (.aload_n 0, 1) := by decide +kernel
theorem dX11_read_120 : decode cX11_read 120 = .ok (.invokevirtual 145, 3) := by decide +kernel
theorem dX11_read_123 : decode cX11_read 123 = .ok (.aload_n 0, 1) := by decide +kernel
theorem dX11_read_124 : decode cX11_read 124 = .ok (.getfield 126, 3) := by decide +kernel
theorem dX11_read_127 : decode cX11_read 127 = .ok (.bipush (-9), 2) := by decide +kernel
theorem dX11_read_129 : decode cX11_read 129 = .ok (.if_icmp .ne 7, 3) := by decide +kernel
theorem dX11_read_132 : decode cX11_read 132 = .ok (.iconst 1, 1) := by decide +kernel
theorem dX11_read_133 : decode cX11_read 133 = .ok (.goto 4, 3) := by decide +kernel
theorem dX11_read_136 : decode cX11_read 136 = .ok (.iconst 0, 1) := by decide +kernel
theorem dX11_read_137 : decode cX11_read 137 = .ok (.istore_n 2, 1) := by decide +kernel
theorem dX11_read_138 : decode cX11_read 138 = .ok (.goto (-57), 3) := by decide +kernel
theorem dX11_read_141 : decode cX11_read 141 = .ok (.return_, 1) := by decide +kernel
theorem dX11_fault_0 : decode cX11_fault 0 = .ok (.iload_n 1, 1) := by decide +kernel
theorem dX11_fault_1 : decode cX11_fault 1 = .ok (.invokestatic 113, 3) := by decide +kernel
theorem dX11_fault_4 : decode cX11_fault 4 = .ok (.ifCond .ne 5, 3) := by decide +kernel
theorem dX11_fault_7 : decode cX11_fault 7 = .ok (.iconst (-1), 1) := by decide +kernel
theorem dX11_fault_8 : decode cX11_fault 8 = .ok (.ireturn, 1) := by decide +kernel
theorem dX11_fault_9 : decode cX11_fault 9 = .ok (.aload_n 0, 1) := by decide +kernel
theorem dX11_fault_10 : decode cX11_fault 10 = .ok (.getfield 23, 3) := by decide +kernel
theorem dX11_fault_13 : decode cX11_fault 13 = .ok (.iload_n 1, 1) := by decide +kernel
theorem dX11_fault_14 : decode cX11_fault 14 = .ok (.iaload, 1) := by decide +kernel
theorem dX11_fault_15 : decode cX11_fault 15 = .ok (.ifCond .ge 9, 3) := by decide +kernel
theorem dX11_fault_18 : decode cX11_fault 18 = .ok (.aload_n 0, 1) := by decide +kernel
theorem dX11_fault_19 : decode cX11_fault 19 = .ok (.iconst 1, 1) := by decide +kernel
theorem dX11_fault_20 : decode cX11_fault 20 = .ok (.invokevirtual 102, 3) := by decide +kernel
theorem dX11_fault_23 : decode cX11_fault 23 = .ok (.ireturn, 1) := by decide +kernel
theorem dX11_fault_24 : decode cX11_fault 24 = .ok (.aload_n 0, 1) := by decide +kernel
theorem dX11_fault_25 : decode cX11_fault 25 = .ok (.iload_n 1, 1) := by decide +kernel
theorem dX11_fault_26 : decode cX11_fault 26 = .ok (.invokevirtual 148, 3) := by decide +kernel
theorem dX11_fault_29 : decode cX11_fault 29 = .ok (.aload_n 0, 1) := by decide +kernel
theorem dX11_fault_30 : decode cX11_fault 30 = .ok (.getfield 126, 3) := by decide +kernel
theorem dX11_fault_33 : decode cX11_fault 33 = .ok (.ireturn, 1) := by decide +kernel
theorem dX11_drawer_0 : decode cX11_drawer 0 = .ok (.iload_n 1, 1) := by decide +kernel
theorem dX11_drawer_1 : decode cX11_drawer 1 = .ok (.invokestatic 113, 3) := by decide +kernel
theorem dX11_drawer_4 : decode cX11_drawer 4 = .ok (.ifCond .ne 5, 3) := by decide +kernel
theorem dX11_drawer_7 : decode cX11_drawer 7 = .ok (.iconst (-1), 1) := by decide +kernel
theorem dX11_drawer_8 : decode cX11_drawer 8 = .ok (.ireturn, 1) := by decide +kernel
theorem dX11_drawer_9 : decode cX11_drawer 9 = .ok (.aload_n 0, 1) := by decide +kernel
theorem dX11_drawer_10 : decode cX11_drawer 10 = .ok (.getfield 23, 3) := by decide +kernel
theorem dX11_drawer_13 : decode cX11_drawer 13 = .ok (.iload_n 1, 1) := by decide +kernel
theorem dX11_drawer_14 : decode cX11_drawer 14 = .ok (.iaload, 1) := by decide +kernel
theorem dX11_drawer_15 : decode cX11_drawer 15 = .ok (.ifCond .ge 9, 3) := by decide +kernel
theorem dX11_drawer_18 : decode cX11_drawer 18 = .ok (.aload_n 0, 1) := by decide +kernel
theorem dX11_drawer_19 : decode cX11_drawer 19 = .ok (.iconst 1, 1) := by decide +kernel
theorem dX11_drawer_20 : decode cX11_drawer 20 = .ok (.invokevirtual 102, 3) := by decide +kernel
theorem dX11_drawer_23 : decode cX11_drawer 23 = .ok (.ireturn, 1) := by decide +kernel
theorem dX11_drawer_24 : decode cX11_drawer 24 = .ok (.aload_n 0, 1) := by decide +kernel
theorem dX11_drawer_25 : decode cX11_drawer 25 = .ok (.iload_n 1, 1) := by decide +kernel
theorem dX11_drawer_26 : decode cX11_drawer 26 = .ok (.invokevirtual 148, 3) := by decide +kernel
theorem dX11_drawer_29 : decode cX11_drawer 29 = .ok (.aload_n 0, 1) := by decide +kernel
theorem dX11_drawer_30 : decode cX11_drawer 30 = .ok (.getfield 126, 3) := by decide +kernel
theorem dX11_drawer_33 : decode cX11_drawer 33 = .ok (.bipush (-9), 2) := by decide +kernel
theorem dX11_drawer_35 : decode cX11_drawer 35 = .ok (.if_icmp .eq 6, 3) := by decide +kernel
theorem dX11_drawer_38 : decode cX11_drawer 38 = .ok (.bipush (-4), 2) := by decide +kernel
theorem dX11_drawer_40 : decode cX11_drawer 40 = .ok (.ireturn, 1) := by decide +kernel
theorem dX11_drawer_41 : decode cX11_drawer 41 = .ok (.aload_n 0, 1) := by decide +kernel
theorem dX11_drawer_42 : decode cX11_drawer 42 = .ok (.aload_n 0, 1) := by decide +kernel
theorem dX11_drawer_43 : decode cX11_drawer 43 = .ok (.getfield 142, 3) := by decide +kernel
theorem dX11_drawer_46 : decode cX11_drawer 46 = .ok (.putfield 152, 3) := by decide +kernel
theorem dX11_drawer_49 : decode cX11_drawer 49 = .ok (.aload_n 0, 1) := by decide +kernel
theorem dX11_drawer_50 : decode cX11_drawer 50 = .ok (.aload_n 0, 1) := by decide +kernel
theorem dX11_drawer_51 : decode cX11_drawer 51 = .ok (.getfield 132, 3) := by decide +kernel
theorem dX11_drawer_54 : decode cX11_drawer 54 = .ok (.putfield 155, 3) := by decide +kernel
theorem dX11_drawer_57 : decode cX11_drawer 57 = .ok (.iconst 0, 1) := by decide +kernel
theorem dX11_drawer_58 : decode cX11_drawer 58 = .ok (.istore_n 2, 1) := by decide +kernel
theorem dX11_drawer_59 : decode cX11_drawer 59 = .ok (.iload_n 2, 1) := by decide +kernel
theorem dX11_drawer_60 : decode cX11_drawer 60 = .ok (.bipush 8, 2) := by decide +kernel
theorem dX11_drawer_62 : decode cX11_drawer 62 = .ok (.if_icmp .ge 57, 3) := by decide +kernel
theorem dX11_drawer_65 : decode cX11_drawer 65 = .ok (.aload_n 0, 1) := by decide +kernel
theorem dX11_drawer_66 : decode cX11_drawer 66 = .ok (.getfield 41, 3) := by decide +kernel
theorem dX11_drawer_69 : decode cX11_drawer 69 = .ok (.iload_n 2, 1) := by decide +kernel
theorem dX11_drawer_70 : decode cX11_drawer 70 = .ok (.aload_n 0, 1) := by decide +kernel
theorem dX11_drawer_71 : decode cX11_drawer 71 = .ok (.getfield 29, 3) := by decide +kernel
theorem dX11_drawer_74 : decode cX11_drawer 74 = .ok (.iload_n 2, 1) := by decide +kernel
theorem dX11_drawer_75 : decode cX11_drawer 75 = .ok (.iaload, 1) := by decide +kernel
theorem dX11_drawer_76 : decode cX11_drawer 76 = .ok (.iastore, 1) := by decide +kernel
theorem dX11_drawer_77 : decode cX11_drawer 77 = .ok (.aload_n 0, 1) := by decide +kernel
theorem dX11_drawer_78 : decode cX11_drawer 78 = .ok (.getfield 44, 3) := by decide +kernel
theorem dX11_drawer_81 : decode cX11_drawer 81 = .ok (.iload_n 2, 1) := by decide +kernel
theorem dX11_drawer_82 : decode cX11_drawer 82 = .ok (.aload_n 0, 1) := by decide +kernel
theorem dX11_drawer_83 : decode cX11_drawer 83 = .ok (.getfield 32, 3) := by decide +kernel
theorem dX11_drawer_86 : decode cX11_drawer 86 = .ok (.iload_n 2, 1) := by decide +kernel
theorem dX11_drawer_87 : decode cX11_drawer 87 = .ok (.iaload, 1) := by decide +kernel
theorem dX11_drawer_88 : decode cX11_drawer 88 = .ok (.iastore, 1) := by decide +kernel
theorem dX11_drawer_89 : decode cX11_drawer 89 = .ok (.aload_n 0, 1) := by decide +kernel
theorem dX11_drawer_90 : decode cX11_drawer 90 = .ok (.getfield 47, 3) := by decide +kernel
theorem dX11_drawer_93 : decode cX11_drawer 93 = .ok (.iload_n 2, 1) := by decide +kernel
theorem dX11_drawer_94 : decode cX11_drawer 94 = .ok (.aload_n 0, 1) := by decide +kernel
theorem dX11_drawer_95 : decode cX11_drawer 95 = .ok (.getfield 35, 3) := by decide +kernel
theorem dX11_drawer_98 : decode cX11_drawer 98 = .ok (.iload_n 2, 1) := by decide +kernel
theorem dX11_drawer_99 : decode cX11_drawer 99 = .ok (.iaload, 1) := by decide +kernel
theorem dX11_drawer_100 : decode cX11_drawer 100 = .ok (.iastore, 1) := by decide +kernel
theorem dX11_drawer_101 : decode cX11_drawer 101 = .ok (.aload_n 0, 1) := by decide +kernel
theorem dX11_drawer_102 : decode cX11_drawer 102 = .ok (.getfield 50, 3) := by decide +kernel
theorem dX11_drawer_105 : decode cX11_drawer 105 = .ok (.iload_n 2, 1) := by decide +kernel
theorem dX11_drawer_106 : decode cX11_drawer 106 = .ok (.aload_n 0, 1) := by decide +kernel
theorem dX11_drawer_107 : decode cX11_drawer 107 = .ok (.getfield 38, 3) := by decide +kernel
theorem dX11_drawer_110 : decode cX11_drawer 110 = .ok (.iload_n 2, 1) := by decide +kernel
theorem dX11_drawer_111 : decode cX11_drawer 111 = .ok (.iaload, 1) := by decide +kernel
theorem dX11_drawer_112 : decode cX11_drawer 112 = .ok (.iastore, 1) := by decide +kernel
theorem dX11_drawer_113 : decode cX11_drawer 113 = .ok (.iinc 2 1, 3) := by decide +kernel
theorem dX11_drawer_116 : decode cX11_drawer 116 = .ok (.goto (-57), 3) := by decide +kernel
theorem dX11_drawer_119 : decode cX11_drawer 119 = .ok (.aload_n 0, 1) := by decide +kernel
theorem dX11_drawer_120 : decode cX11_drawer 120 = .ok (.iconst 0, 1) := by decide +kernel
theorem dX11_drawer_121 : decode cX11_drawer 121 = .ok (.putfield 158, 3) := by decide +kernel
theorem dX11_drawer_124 : decode cX11_drawer 124 = .ok (.aload_n 0, 1) := by decide +kernel
theorem dX11_drawer_125 : decode cX11_drawer 125 = .ok (.invokevirtual 161, 3) := by decide +kernel
theorem dX11_drawer_128 : decode cX11_drawer 128 = .ok (.iconst 0, 1) := by decide +kernel
theorem dX11_drawer_129 : decode cX11_drawer 129 = .ok (.istore_n 2, 1) := by decide +kernel
theorem dX11_drawer_130 : decode cX11_drawer 130 = .ok (.iload_n 2, 1) := by decide +kernel
theorem dX11_drawer_131 : decode cX11_drawer 131 = .ok (.iconst 3, 1) := by decide +kernel
theorem dX11_drawer_132 : decode cX11_drawer 132 = .ok (.if_icmp .ge 16, 3) := by decide +kernel
theorem dX11_drawer_135 : decode cX11_drawer 135 = .ok (.aload_n 0, 1) := by decide +kernel
theorem dX11_drawer_136 : decode cX11_drawer 136 = .ok (.getfield 62, 3) := by decide +kernel
theorem dX11_drawer_139 : decode cX11_drawer 139 = .ok (.iload_n 2, 1) := by decide +kernel
theorem dX11_drawer_140 : decode cX11_drawer 140 = .ok (.iconst (-1), 1) := by decide +kernel
theorem dX11_drawer_141 : decode cX11_drawer 141 = .ok (.iastore, 1) := by decide +kernel
theorem dX11_drawer_142 : decode cX11_drawer 142 = .ok (.iinc 2 1, 3) := by decide +kernel
theorem dX11_drawer_145 : decode cX11_drawer 145 = .ok (.goto (-15), 3) := by decide +kernel
theorem dX11_drawer_148 : decode cX11_drawer 148 = .ok (.aload_n 0, 1) := by decide +kernel
theorem dX11_drawer_149 : decode cX11_drawer 149 = .ok (.getfield 155, 3) := by decide +kernel
theorem dX11_drawer_152 : decode cX11_drawer 152 = .ok (.ireturn, 1) := by decide +kernel
theorem dX11_isGlove_0 : decode cX11_isGlove 0 = .ok (.iload_n 1, 1) := by decide +kernel
theorem dX11_isGlove_1 : decode cX11_isGlove 1 = .ok (.iconst 0, 1) := by decide +kernel
theorem dX11_isGlove_2 : decode cX11_isGlove 2 = .ok (.aload_n 0, 1) := by decide +kernel
theorem dX11_isGlove_3 : decode cX11_isGlove 3 = .ok (.getfield 155, 3) := by decide +kernel
theorem dX11_isGlove_6 : decode cX11_isGlove 6 = .ok (.iconst 1, 1) := by decide +kernel
theorem dX11_isGlove_7 : decode cX11_isGlove 7 = .ok (.isub, 1) := by decide +kernel
theorem dX11_isGlove_8 : decode cX11_isGlove 8 = .ok (.invokestatic 94, 3) := by decide +kernel
theorem dX11_isGlove_11 : decode cX11_isGlove 11 = .ok (.ireturn, 1) := by decide +kernel
theorem dX11_all_0 : decode cX11_all 0 = .ok (.iconst 1, 1) := by decide +kernel
theorem dX11_all_1 : decode cX11_all 1 = .ok (.aload_n 0, 1) := by decide +kernel
theorem dX11_all_2 : decode cX11_all 2 = .ok (.getfield 155, 3) := by decide +kernel
theorem dX11_all_5 : decode cX11_all 5 = .ok (.ishl, 1) := by decide +kernel
theorem dX11_all_6 : decode cX11_all 6 = .ok (.iconst 1, 1) := by decide +kernel
theorem dX11_all_7 : decode cX11_all 7 = .ok (.isub, 1) := by decide +kernel
theorem dX11_all_8 : decode cX11_all 8 = .ok (.ireturn, 1) := by decide +kernel
theorem dX11_isOf_0 : decode cX11_isOf 0 = .ok (.iload_n 0, 1) := by decide +kernel
theorem dX11_isOf_1 : decode cX11_isOf 1 = .ok (.iload_n 1, 1) := by decide +kernel
theorem dX11_isOf_2 : decode cX11_isOf 2 = .ok (.if_icmp .eq 23, 3) := by decide +kernel
theorem dX11_isOf_5 : decode cX11_isOf 5 = .ok (.iload_n 1, 1) := by decide +kernel
theorem dX11_isOf_6 : decode cX11_isOf 6 = .ok (.iconst 1, 1) := by decide +kernel
theorem dX11_isOf_7 : decode cX11_isOf 7 = .ok (.if_icmp .ne 8, 3) := by decide +kernel
theorem dX11_isOf_10 : decode cX11_isOf 10 = .ok (.iload_n 0, 1) := by decide +kernel
theorem dX11_isOf_11 : decode cX11_isOf 11 = .ok (.iconst 4, 1) := by decide +kernel
theorem dX11_isOf_12 : decode cX11_isOf 12 = .ok (.if_icmp .eq 13, 3) := by decide +kernel
theorem dX11_isOf_15 : decode cX11_isOf 15 = .ok (.iload_n 1, 1) := by decide +kernel
theorem dX11_isOf_16 : decode cX11_isOf 16 = .ok (.iconst 2, 1) := by decide +kernel
theorem dX11_isOf_17 : decode cX11_isOf 17 = .ok (.if_icmp .ne 12, 3) := by decide +kernel
theorem dX11_isOf_20 : decode cX11_isOf 20 = .ok (.iload_n 0, 1) := by decide +kernel
theorem dX11_isOf_21 : decode cX11_isOf 21 = .ok (.iconst 5, 1) := by decide +kernel
theorem dX11_isOf_22 : decode cX11_isOf 22 = .ok (.if_icmp .ne 7, 3) := by decide +kernel
theorem dX11_isOf_25 : decode cX11_isOf 25 = .ok (.iconst 1, 1) := by decide +kernel
theorem dX11_isOf_26 : decode cX11_isOf 26 = .ok (.goto 4, 3) := by decide +kernel
theorem dX11_isOf_29 : decode cX11_isOf 29 = .ok (.iconst 0, 1) := by decide +kernel
theorem dX11_isOf_30 : decode cX11_isOf 30 = .ok (.ireturn, 1) := by decide +kernel
theorem dX11_warmthAs_0 : decode cX11_warmthAs 0 = .ok (.aload_n 0, 1) := by decide +kernel
theorem dX11_warmthAs_1 : decode cX11_warmthAs 1 = .ok (.getfield 50, 3) := by decide +kernel
theorem dX11_warmthAs_4 : decode cX11_warmthAs 4 = .ok (.iload_n 2, 1) := by decide +kernel
theorem dX11_warmthAs_5 : decode cX11_warmthAs 5 = .ok (.iaload, 1) := by decide +kernel
theorem dX11_warmthAs_6 : decode cX11_warmthAs 6 = .ok (.aload_n 0, 1) := by decide +kernel
theorem dX11_warmthAs_7 : decode cX11_warmthAs 7 = .ok (.getfield 56, 3) := by decide +kernel
theorem dX11_warmthAs_10 : decode cX11_warmthAs 10 = .ok (.iload_n 2, 1) := by decide +kernel
theorem dX11_warmthAs_11 : decode cX11_warmthAs 11 = .ok (.iaload, 1) := by decide +kernel
theorem dX11_warmthAs_12 : decode cX11_warmthAs 12 = .ok (.iconst 3, 1) := by decide +kernel
theorem dX11_warmthAs_13 : decode cX11_warmthAs 13 = .ok (.idiv, 1) := by decide +kernel
theorem dX11_warmthAs_14 : decode cX11_warmthAs 14 = .ok (.isub, 1) := by decide +kernel
theorem dX11_warmthAs_15 : decode cX11_warmthAs 15 = .ok (.istore_n 3, 1) := by decide +kernel
theorem dX11_warmthAs_16 : decode cX11_warmthAs 16 = .ok (.iload_n 3, 1) := by decide +kernel
theorem dX11_warmthAs_17 : decode cX11_warmthAs 17 = .ok (.ifCond .ge 7, 3) := by decide +kernel
theorem dX11_warmthAs_20 : decode cX11_warmthAs 20 = .ok (.iconst 0, 1) := by decide +kernel
theorem dX11_warmthAs_21 : decode cX11_warmthAs 21 = .ok (.goto 4, 3) := by decide +kernel
theorem dX11_warmthAs_24 : decode cX11_warmthAs 24 = .ok (.iload_n 3, 1) := by decide +kernel
theorem dX11_warmthAs_25 : decode cX11_warmthAs 25 = .ok (.istore_n 3, 1) := by decide +kernel
theorem dX11_warmthAs_26 : decode cX11_warmthAs 26 = .ok (.iload_n 1, 1) := by decide +kernel
theorem dX11_warmthAs_27 : decode cX11_warmthAs 27 = .ok (.tableswitch 68 1 5 #[33, 37, 68, 49, 37], 33) := by decide +kernel
theorem dX11_warmthAs_60 : decode cX11_warmthAs 60 = .ok (.iload_n 3, 1) := by decide +kernel
theorem dX11_warmthAs_61 : decode cX11_warmthAs 61 = .ok (.iconst 2, 1) := by decide +kernel
theorem dX11_warmthAs_62 : decode cX11_warmthAs 62 = .ok (.iadd, 1) := by decide +kernel
theorem dX11_warmthAs_63 : decode cX11_warmthAs 63 = .ok (.ireturn, 1) := by decide +kernel
theorem dX11_warmthAs_64 : decode cX11_warmthAs 64 = .ok (.iload_n 3, 1) := by decide +kernel
theorem dX11_warmthAs_65 : decode cX11_warmthAs 65 = .ok (.ifCond .le 9, 3) := by decide +kernel
theorem dX11_warmthAs_68 : decode cX11_warmthAs 68 = .ok (.iload_n 3, 1) := by decide +kernel
theorem dX11_warmthAs_69 : decode cX11_warmthAs 69 = .ok (.iconst 1, 1) := by decide +kernel
theorem dX11_warmthAs_70 : decode cX11_warmthAs 70 = .ok (.isub, 1) := by decide +kernel
theorem dX11_warmthAs_71 : decode cX11_warmthAs 71 = .ok (.goto 4, 3) := by decide +kernel
theorem dX11_warmthAs_74 : decode cX11_warmthAs 74 = .ok (.iconst 0, 1) := by decide +kernel
theorem dX11_warmthAs_75 : decode cX11_warmthAs 75 = .ok (.ireturn, 1) := by decide +kernel
theorem dX11_warmthAs_76 : decode cX11_warmthAs 76 = .ok (.aload_n 0, 1) := by decide +kernel
theorem dX11_warmthAs_77 : decode cX11_warmthAs 77 = .ok (.getfield 56, 3) := by decide +kernel
theorem dX11_warmthAs_80 : decode cX11_warmthAs 80 = .ok (.iload_n 2, 1) := by decide +kernel
theorem dX11_warmthAs_81 : decode cX11_warmthAs 81 = .ok (.iaload, 1) := by decide +kernel
theorem dX11_warmthAs_82 : decode cX11_warmthAs 82 = .ok (.bipush 6, 2) := by decide +kernel
theorem dX11_warmthAs_84 : decode cX11_warmthAs 84 = .ok (.if_icmp .ge 9, 3) := by decide +kernel
theorem dX11_warmthAs_87 : decode cX11_warmthAs 87 = .ok (.iload_n 3, 1) := by decide +kernel
theorem dX11_warmthAs_88 : decode cX11_warmthAs 88 = .ok (.iconst 3, 1) := by decide +kernel
theorem dX11_warmthAs_89 : decode cX11_warmthAs 89 = .ok (.iadd, 1) := by decide +kernel
theorem dX11_warmthAs_90 : decode cX11_warmthAs 90 = .ok (.goto 4, 3) := by decide +kernel
