theorem dL_cell_0 : decode cL_cell 0 = .ok (.iload_n 1, 1) := by decide +kernel
theorem dL_cell_1 : decode cL_cell 1 = .ok (.aload_n 0, 1) := by decide +kernel
theorem dL_cell_2 : decode cL_cell 2 = .ok (.arraylength, 1) := by decide +kernel
theorem dL_cell_3 : decode cL_cell 3 = .ok (.if_icmp .ge 9, 3) := by decide +kernel
theorem dL_cell_6 : decode cL_cell 6 = .ok (.aload_n 0, 1) := by decide +kernel
theorem dL_cell_7 : decode cL_cell 7 = .ok (.iload_n 1, 1) := by decide +kernel
theorem dL_cell_8 : decode cL_cell 8 = .ok (.iaload, 1) := by decide +kernel
theorem dL_cell_9 : decode cL_cell 9 = .ok (.goto 9, 3) := by decide +kernel
theorem dL_cell_12 : decode cL_cell 12 = .ok (.ldc 7, 2) := by decide +kernel
theorem dL_cell_14 : decode cL_cell 14 = .ok (.iload_n 1, 1) := by decide +kernel
theorem dL_cell_15 : decode cL_cell 15 = .ok (.iconst 1, 1) := by decide +kernel
theorem dL_cell_16 : decode cL_cell 16 = .ok (.iadd, 1) := by decide +kernel
theorem dL_cell_17 : decode cL_cell 17 = .ok (.imul, 1) := by decide +kernel
theorem dL_cell_18 : decode cL_cell 18 = .ok (.ireturn, 1) := by decide +kernel
theorem dL_low_0 : decode cL_low 0 = .ok (.iload_n 0, 1) := by decide +kernel
theorem dL_low_1 : decode cL_low 1 = .ok (.ldc 8, 2) := by decide +kernel
theorem dL_low_3 : decode cL_low 3 = .ok (.iand, 1) := by decide +kernel
theorem dL_low_4 : decode cL_low 4 = .ok (.iload_n 1, 1) := by decide +kernel
theorem dL_low_5 : decode cL_low 5 = .ok (.irem, 1) := by decide +kernel
theorem dL_low_6 : decode cL_low 6 = .ok (.ireturn, 1) := by decide +kernel
theorem dL_refused_0 : decode cL_refused 0 = .ok (.iload_n 1, 1) := by decide +kernel
theorem dL_refused_1 : decode cL_refused 1 = .ok (.ifCond .ge 11, 3) := by decide +kernel
theorem dL_refused_4 : decode cL_refused 4 = .ok (.iload_n 1, 1) := by decide +kernel
theorem dL_refused_5 : decode cL_refused 5 = .ok (.sipush 999, 3) := by decide +kernel
theorem dL_refused_8 : decode cL_refused 8 = .ok (.isub, 1) := by decide +kernel
theorem dL_refused_9 : decode cL_refused 9 = .ok (.goto 8, 3) := by decide +kernel
theorem dL_refused_12 : decode cL_refused 12 = .ok (.iload_n 1, 1) := by decide +kernel
theorem dL_refused_13 : decode cL_refused 13 = .ok (.sipush 1000, 3) := by decide +kernel
theorem dL_refused_16 : decode cL_refused 16 = .ok (.iadd, 1) := by decide +kernel
theorem dL_refused_17 : decode cL_refused 17 = .ok (.istore_n 2, 1) := by decide +kernel
theorem dL_refused_18 : decode cL_refused 18 = .ok (.aload_n 0, 1) := by decide +kernel
theorem dL_refused_19 : decode cL_refused 19 = .ok (.iload_n 2, 1) := by decide +kernel
theorem dL_refused_20 : decode cL_refused 20 = .ok (.iconst 0, 1) := by decide +kernel
theorem dL_refused_21 : decode cL_refused 21 = .ok (.invokevirtual 9, 3) := by decide +kernel
theorem dL_refused_24 : decode cL_refused 24 = .ok (.iconst (-1), 1) := by decide +kernel
theorem dL_refused_25 : decode cL_refused 25 = .ok (.if_icmp .ne 328, 3) := by decide +kernel
theorem dL_refused_28 : decode cL_refused 28 = .ok (.aload_n 0, 1) := by decide +kernel
theorem dL_refused_29 : decode cL_refused 29 = .ok (.iload_n 2, 1) := by decide +kernel
theorem dL_refused_30 : decode cL_refused 30 = .ok (.iconst 0, 1) := by decide +kernel
theorem dL_refused_31 : decode cL_refused 31 = .ok (.iconst 0, 1) := by decide +kernel
theorem dL_refused_32 : decode cL_refused 32 = .ok (.invokevirtual 15, 3) := by decide +kernel
theorem dL_refused_35 : decode cL_refused 35 = .ok (.iconst (-1), 1) := by decide +kernel
theorem dL_refused_36 : decode cL_refused 36 = .ok (.if_icmp .ne 317, 3) := by decide +kernel
theorem dL_refused_39 : decode cL_refused 39 = .ok (.aload_n 0, 1) := by decide +kernel
theorem dL_refused_40 : decode cL_refused 40 = .ok (.iload_n 2, 1) := by decide +kernel
theorem dL_refused_41 : decode cL_refused 41 = .ok (.iconst 0, 1) := by decide +kernel
theorem dL_refused_42 : decode cL_refused 42 = .ok (.invokevirtual 19, 3) := by decide +kernel
theorem dL_refused_45 : decode cL_refused 45 = .ok (.iconst (-1), 1) := by decide +kernel
theorem dL_refused_46 : decode cL_refused 46 = .ok (.if_icmp .ne 307, 3) := by decide +kernel
theorem dL_refused_49 : decode cL_refused 49 = .ok (.aload_n 0, 1) := by decide +kernel
theorem dL_refused_50 : decode cL_refused 50 = .ok (.iload_n 2, 1) := by decide +kernel
theorem dL_refused_51 : decode cL_refused 51 = .ok (.invokevirtual 22, 3) := by decide +kernel
theorem dL_refused_54 : decode cL_refused 54 = .ok (.iconst (-1), 1) := by decide +kernel
theorem dL_refused_55 : decode cL_refused 55 = .ok (.if_icmp .ne 298, 3) := by decide +kernel
theorem dL_refused_58 : decode cL_refused 58 = .ok (.aload_n 0, 1) := by decide +kernel
theorem dL_refused_59 : decode cL_refused 59 = .ok (.iconst 0, 1) := by decide +kernel
theorem dL_refused_60 : decode cL_refused 60 = .ok (.iconst 0, 1) := by decide +kernel
theorem dL_refused_61 : decode cL_refused 61 = .ok (.iload_n 2, 1) := by decide +kernel
theorem dL_refused_62 : decode cL_refused 62 = .ok (.iconst 0, 1) := by decide +kernel
theorem dL_refused_63 : decode cL_refused 63 = .ok (.iconst 0, 1) := by decide +kernel
theorem dL_refused_64 : decode cL_refused 64 = .ok (.invokevirtual 26, 3) := by decide +kernel
theorem dL_refused_67 : decode cL_refused 67 = .ok (.iconst (-1), 1) := by decide +kernel
theorem dL_refused_68 : decode cL_refused 68 = .ok (.if_icmp .ne 285, 3) := by decide +kernel
theorem dL_refused_71 : decode cL_refused 71 = .ok (.aload_n 0, 1) := by decide +kernel
theorem dL_refused_72 : decode cL_refused 72 = .ok (.iload_n 2, 1) := by decide +kernel
theorem dL_refused_73 : decode cL_refused 73 = .ok (.invokevirtual 30, 3) := by decide +kernel
theorem dL_refused_76 : decode cL_refused 76 = .ok (.iconst (-1), 1) := by decide +kernel
theorem dL_refused_77 : decode cL_refused 77 = .ok (.if_icmp .ne 276, 3) := by decide +kernel
theorem dL_refused_80 : decode cL_refused 80 = .ok (.aload_n 0, 1) := by decide +kernel
theorem dL_refused_81 : decode cL_refused 81 = .ok (.iload_n 2, 1) := by decide +kernel
theorem dL_refused_82 : decode cL_refused 82 = .ok (.iconst 0, 1) := by decide +kernel
theorem dL_refused_83 : decode cL_refused 83 = .ok (.invokevirtual 33, 3) := by decide +kernel
theorem dL_refused_86 : decode cL_refused 86 = .ok (.iconst (-1), 1) := by decide +kernel
theorem dL_refused_87 : decode cL_refused 87 = .ok (.if_icmp .ne 266, 3) := by decide +kernel
theorem dL_refused_90 : decode cL_refused 90 = .ok (.aload_n 0, 1) := by decide +kernel
theorem dL_refused_91 : decode cL_refused 91 = .ok (.iload_n 2, 1) := by decide +kernel
theorem dL_refused_92 : decode cL_refused 92 = .ok (.iconst 0, 1) := by decide +kernel
theorem dL_refused_93 : decode cL_refused 93 = .ok (.iconst 0, 1) := by decide +kernel
theorem dL_refused_94 : decode cL_refused 94 = .ok (.invokevirtual 36, 3) := by decide +kernel
theorem dL_refused_97 : decode cL_refused 97 = .ok (.iconst (-1), 1) := by decide +kernel
theorem dL_refused_98 : decode cL_refused 98 = .ok (.if_icmp .ne 255, 3) := by decide +kernel
theorem dL_refused_101 : decode cL_refused 101 = .ok (.aload_n 0, 1) := by decide +kernel
theorem dL_refused_102 : decode cL_refused 102 = .ok (.iload_n 2, 1) := by decide +kernel
theorem dL_refused_103 : decode cL_refused 103 = .ok (.invokevirtual 39, 3) := by decide +kernel
theorem dL_refused_106 : decode cL_refused 106 = .ok (.iconst (-1), 1) := by decide +kernel
theorem dL_refused_107 : decode cL_refused 107 = .ok (.if_icmp .ne 246, 3) := by decide +kernel
theorem dL_refused_110 : decode cL_refused 110 = .ok (.aload_n 0, 1) := by decide +kernel
theorem dL_refused_111 : decode cL_refused 111 = .ok (.iload_n 2, 1) := by decide +kernel
theorem dL_refused_112 : decode cL_refused 112 = .ok (.invokevirtual 42, 3) := by decide +kernel
theorem dL_refused_115 : decode cL_refused 115 = .ok (.iconst (-1), 1) := by decide +kernel
theorem dL_refused_116 : decode cL_refused 116 = .ok (.if_icmp .ne 237, 3) := by decide +kernel
theorem dL_refused_119 : decode cL_refused 119 = .ok (.aload_n 0, 1) := by decide +kernel
theorem dL_refused_120 : decode cL_refused 120 = .ok (.iload_n 2, 1) := by decide +kernel
theorem dL_refused_121 : decode cL_refused 121 = .ok (.iconst 0, 1) := by decide +kernel
theorem dL_refused_122 : decode cL_refused 122 = .ok (.invokevirtual 45, 3) := by decide +kernel
theorem dL_refused_125 : decode cL_refused 125 = .ok (.iconst (-1), 1) := by decide +kernel
theorem dL_refused_126 : decode cL_refused 126 = .ok (.if_icmp .ne 227, 3) := by decide +kernel
theorem dL_refused_129 : decode cL_refused 129 = .ok (.aload_n 0, 1) := by decide +kernel
theorem dL_refused_130 : decode cL_refused 130 = .ok (.iload_n 2, 1) := by decide +kernel
theorem dL_refused_131 : decode cL_refused 131 = .ok (.iconst 1, 1) := by decide +kernel
theorem dL_refused_132 : decode cL_refused 132 = .ok (.invokevirtual 48, 3) := by decide +kernel
theorem dL_refused_135 : decode cL_refused 135 = .ok (.iconst (-1), 1) := by decide +kernel
theorem dL_refused_136 : decode cL_refused 136 = .ok (.if_icmp .ne 217, 3) := by decide +kernel
theorem dL_refused_139 : decode cL_refused 139 = .ok (.aload_n 0, 1) := by decide +kernel
theorem dL_refused_140 : decode cL_refused 140 = .ok (.iload_n 2, 1) := by decide +kernel
theorem dL_refused_141 : decode cL_refused 141 = .ok (.iconst 0, 1) := by decide +kernel
theorem dL_refused_142 : decode cL_refused 142 = .ok (.invokevirtual 51, 3) := by decide +kernel
theorem dL_refused_145 : decode cL_refused 145 = .ok (.iconst (-1), 1) := by decide +kernel
theorem dL_refused_146 : decode cL_refused 146 = .ok (.if_icmp .ne 207, 3) := by decide +kernel
theorem dL_refused_149 : decode cL_refused 149 = .ok (.aload_n 0, 1) := by decide +kernel
theorem dL_refused_150 : decode cL_refused 150 = .ok (.iconst 0, 1) := by decide +kernel
theorem dL_refused_151 : decode cL_refused 151 = .ok (.iload_n 2, 1) := by decide +kernel
theorem dL_refused_152 : decode cL_refused 152 = .ok (.invokevirtual 54, 3) := by decide +kernel
theorem dL_refused_155 : decode cL_refused 155 = .ok (.iconst (-1), 1) := by decide +kernel
theorem dL_refused_156 : decode cL_refused 156 = .ok (.if_icmp .ne 197, 3) := by decide +kernel
theorem dL_refused_159 : decode cL_refused 159 = .ok (.aload_n 0, 1) := by decide +kernel
theorem dL_refused_160 : decode cL_refused 160 = .ok (.iload_n 2, 1) := by decide +kernel
theorem dL_refused_161 : decode cL_refused 161 = .ok (.invokevirtual 57, 3) := by decide +kernel
theorem dL_refused_164 : decode cL_refused 164 = .ok (.iconst (-1), 1) := by decide +kernel
theorem dL_refused_165 : decode cL_refused 165 = .ok (.if_icmp .ne 188, 3) := by decide +kernel
theorem dL_refused_168 : decode cL_refused 168 = .ok (.aload_n 0, 1) := by decide +kernel
theorem dL_refused_169 : decode cL_refused 169 = .ok (.iload_n 2, 1) := by decide +kernel
theorem dL_refused_170 : decode cL_refused 170 = .ok (.invokevirtual 60, 3) := by decide +kernel
theorem dL_refused_173 : decode cL_refused 173 = .ok (.iconst (-1), 1) := by decide +kernel
theorem dL_refused_174 : decode cL_refused 174 = .ok (.if_icmp .ne 179, 3) := by decide +kernel
theorem dL_refused_177 : decode cL_refused 177 = .ok (.aload_n 0, 1) := by decide +kernel
theorem dL_refused_178 : decode cL_refused 178 = .ok (.iload_n 2, 1) := by decide +kernel
theorem dL_refused_179 : decode cL_refused 179 = .ok (.invokevirtual 63, 3) := by decide +kernel
theorem dL_refused_182 : decode cL_refused 182 = .ok (.iconst (-1), 1) := by decide +kernel
theorem dL_refused_183 : decode cL_refused 183 = .ok (.if_icmp .ne 170, 3) := by decide +kernel
theorem dL_refused_186 : decode cL_refused 186 = .ok (.aload_n 0, 1) := by decide +kernel
theorem dL_refused_187 : decode cL_refused 187 = .ok (.iload_n 2, 1) := by decide +kernel
theorem dL_refused_188 : decode cL_refused 188 = .ok (.invokevirtual 66, 3) := by decide +kernel
theorem dL_refused_191 : decode cL_refused 191 = .ok (.iconst (-1), 1) := by decide +kernel
theorem dL_refused_192 : decode cL_refused 192 = .ok (.if_icmp .ne 161, 3) := by decide +kernel
theorem dL_refused_195 : decode cL_refused 195 = .ok (.aload_n 0, 1) := by decide +kernel
theorem dL_refused_196 : decode cL_refused 196 = .ok (.iload_n 2, 1) := by decide +kernel
theorem dL_refused_197 : decode cL_refused 197 = .ok (.invokevirtual 69, 3) := by decide +kernel
theorem dL_refused_200 : decode cL_refused 200 = .ok (.iconst (-1), 1) := by decide +kernel
theorem dL_refused_201 : decode cL_refused 201 = .ok (.if_icmp .ne 152, 3) := by decide +kernel
theorem dL_refused_204 : decode cL_refused 204 = .ok (.aload_n 0, 1) := by decide +kernel
theorem dL_refused_205 : decode cL_refused 205 = .ok (.iload_n 2, 1) := by decide +kernel
theorem dL_refused_206 : decode cL_refused 206 = .ok (.invokevirtual 72, 3) := by decide +kernel
theorem dL_refused_209 : decode cL_refused 209 = .ok (.iconst (-1), 1) := by decide +kernel
theorem dL_refused_210 : decode cL_refused 210 = .ok (.if_icmp .ne 143, 3) := by decide +kernel
theorem dL_refused_213 : decode cL_refused 213 = .ok (.aload_n 0, 1) := by decide +kernel
theorem dL_refused_214 : decode cL_refused 214 = .ok (.iload_n 2, 1) := by decide +kernel
theorem dL_refused_215 : decode cL_refused 215 = .ok (.invokevirtual 75, 3) := by decide +kernel
theorem dL_refused_218 : decode cL_refused 218 = .ok (.iconst (-1), 1) := by decide +kernel
theorem dL_refused_219 : decode cL_refused 219 = .ok (.if_icmp .ne 134, 3) := by decide +kernel
theorem dL_refused_222 : decode cL_refused 222 = .ok (.aload_n 0, 1) := by decide +kernel
theorem dL_refused_223 : decode cL_refused 223 = .ok (.iload_n 2, 1) := by decide +kernel
theorem dL_refused_224 : decode cL_refused 224 = .ok (.invokevirtual 78, 3) := by decide +kernel
theorem dL_refused_227 : decode cL_refused 227 = .ok (.iconst (-1), 1) := by decide +kernel
theorem dL_refused_228 : decode cL_refused 228 = .ok (.if_icmp .ne 125, 3) := by decide +kernel
theorem dL_refused_231 : decode cL_refused 231 = .ok (.aload_n 0, 1) := by decide +kernel
theorem dL_refused_232 : decode cL_refused 232 = .ok (.iload_n 2, 1) := by decide +kernel
theorem dL_refused_233 : decode cL_refused 233 = .ok (.iconst 0, 1) := by decide +kernel
theorem dL_refused_234 : decode cL_refused 234 = .ok (.invokevirtual 81, 3) := by decide +kernel
theorem dL_refused_237 : decode cL_refused 237 = .ok (.iconst (-1), 1) := by decide +kernel
theorem dL_refused_238 : decode cL_refused 238 = .ok (.if_icmp .ne 115, 3) := by decide +kernel
theorem dL_refused_241 : decode cL_refused 241 = .ok (.aload_n 0, 1) := by decide +kernel
theorem dL_refused_242 : decode cL_refused 242 = .ok (.iconst 0, 1) := by decide +kernel
theorem dL_refused_243 : decode cL_refused 243 = .ok (.iload_n 2, 1) := by decide +kernel
theorem dL_refused_244 : decode cL_refused 244 = .ok (.invokevirtual 84, 3) := by decide +kernel
theorem dL_refused_247 : decode cL_refused 247 = .ok (.iconst (-1), 1) := by decide +kernel
theorem dL_refused_248 : decode cL_refused 248 = .ok (.if_icmp .ne 105, 3) := by decide +kernel
theorem dL_refused_251 : decode cL_refused 251 = .ok (.aload_n 0, 1) := by decide +kernel
theorem dL_refused_252 : decode cL_refused 252 = .ok (.iload_n 2, 1) := by decide +kernel
theorem dL_refused_253 : decode cL_refused 253 = .ok (.iconst 0, 1) := by decide +kernel
theorem dL_refused_254 : decode cL_refused 254 = .ok (.invokevirtual 87, 3) := by decide +kernel
theorem dL_refused_257 : decode cL_refused 257 = .ok (.iconst (-1), 1) := by decide +kernel
theorem dL_refused_258 : decode cL_refused 258 = .ok (.if_icmp .ne 95, 3) := by decide +kernel
theorem dL_refused_261 : decode cL_refused 261 = .ok (.aload_n 0, 1) := by decide +kernel
theorem dL_refused_262 : decode cL_refused 262 = .ok (.iconst 0, 1) := by decide +kernel
theorem dL_refused_263 : decode cL_refused 263 = .ok (.iload_n 2, 1) := by decide +kernel
theorem dL_refused_264 : decode cL_refused 264 = .ok (.invokevirtual 90, 3) := by decide +kernel
theorem dL_refused_267 : decode cL_refused 267 = .ok (.iconst (-1), 1) := by decide +kernel
theorem dL_refused_268 : decode cL_refused 268 = .ok (.if_icmp .ne 85, 3) := by decide +kernel
theorem dL_refused_271 : decode cL_refused 271 = .ok (.aload_n 0, 1) := by decide +kernel
theorem dL_refused_272 : decode cL_refused 272 = .ok (.iload_n 2, 1) := by decide +kernel
theorem dL_refused_273 : decode cL_refused 273 = .ok (.iconst 0, 1) := by decide +kernel
theorem dL_refused_274 : decode cL_refused 274 = .ok (.invokevirtual 93, 3) := by decide +kernel
theorem dL_refused_277 : decode cL_refused 277 = .ok (.iconst (-1), 1) := by decide +kernel
theorem dL_refused_278 : decode cL_refused 278 = .ok (.if_icmp .ne 75, 3) := by decide +kernel
theorem dL_refused_281 : decode cL_refused 281 = .ok (.aload_n 0, 1) := by decide +kernel
theorem dL_refused_282 : decode cL_refused 282 = .ok (.iconst 0, 1) := by decide +kernel
theorem dL_refused_283 : decode cL_refused 283 = .ok (.iload_n 2, 1) := by decide +kernel
theorem dL_refused_284 : decode cL_refused 284 = .ok (.invokevirtual 96, 3) := by decide +kernel
theorem dL_refused_287 : decode cL_refused 287 = .ok (.iconst (-1), 1) := by decide +kernel
theorem dL_refused_288 : decode cL_refused 288 = .ok (.if_icmp .ne 65, 3) := by decide +kernel
theorem dL_refused_291 : decode cL_refused 291 = .ok (.aload_n 0, 1) := by decide +kernel
theorem dL_refused_292 : decode cL_refused 292 = .ok (.iload_n 2, 1) := by decide +kernel
theorem dL_refused_293 : decode cL_refused 293 = .ok (.invokevirtual 99, 3) := by decide +kernel
theorem dL_refused_296 : decode cL_refused 296 = .ok (.iconst (-1), 1) := by decide +kernel
theorem dL_refused_297 : decode cL_refused 297 = .ok (.if_icmp .ne 56, 3) := by decide +kernel
theorem dL_refused_300 : decode cL_refused 300 = .ok (.aload_n 0, 1) := by decide +kernel
theorem dL_refused_301 : decode cL_refused 301 = .ok (.iconst 0, 1) := by decide +kernel
theorem dL_refused_302 : decode cL_refused 302 = .ok (.iload_n 2, 1) := by decide +kernel
theorem dL_refused_303 : decode cL_refused 303 = .ok (.iconst 0, 1) := by decide +kernel
theorem dL_refused_304 : decode cL_refused 304 = .ok (.invokevirtual 102, 3) := by decide +kernel
theorem dL_refused_307 : decode cL_refused 307 = .ok (.iconst (-1), 1) := by decide +kernel
theorem dL_refused_308 : decode cL_refused 308 = .ok (.if_icmp .ne 45, 3) := by decide +kernel
theorem dL_refused_311 : decode cL_refused 311 = .ok (.aload_n 0, 1) := by decide +kernel
theorem dL_refused_312 : decode cL_refused 312 = .ok (.iconst 0, 1) := by decide +kernel
theorem dL_refused_313 : decode cL_refused 313 = .ok (.iload_n 2, 1) := by decide +kernel
theorem dL_refused_314 : decode cL_refused 314 = .ok (.invokevirtual 105, 3) := by decide +kernel
theorem dL_refused_317 : decode cL_refused 317 = .ok (.iconst (-1), 1) := by decide +kernel
theorem dL_refused_318 : decode cL_refused 318 = .ok (.if_icmp .ne 35, 3) := by decide +kernel
theorem dL_refused_321 : decode cL_refused 321 = .ok (.aload_n 0, 1) := by decide +kernel
theorem dL_refused_322 : decode cL_refused 322 = .ok (.iload_n 2, 1) := by decide +kernel
theorem dL_refused_323 : decode cL_refused 323 = .ok (.iconst 1, 1) := by decide +kernel
theorem dL_refused_324 : decode cL_refused 324 = .ok (.invokevirtual 108, 3) := by decide +kernel
theorem dL_refused_327 : decode cL_refused 327 = .ok (.iconst (-1), 1) := by decide +kernel
theorem dL_refused_328 : decode cL_refused 328 = .ok (.if_icmp .ne 25, 3) := by decide +kernel
theorem dL_refused_331 : decode cL_refused 331 = .ok (.aload_n 0, 1) := by decide +kernel
theorem dL_refused_332 : decode cL_refused 332 = .ok (.iload_n 2, 1) := by decide +kernel
theorem dL_refused_333 : decode cL_refused 333 = .ok (.invokevirtual 111, 3) := by decide +kernel
theorem dL_refused_336 : decode cL_refused 336 = .ok (.iconst (-1), 1) := by decide +kernel
theorem dL_refused_337 : decode cL_refused 337 = .ok (.if_icmp .ne 16, 3) := by decide +kernel
theorem dL_refused_340 : decode cL_refused 340 = .ok (.aload_n 0, 1) := by decide +kernel
theorem dL_refused_341 : decode cL_refused 341 = .ok (.iload_n 2, 1) := by decide +kernel
theorem dL_refused_342 : decode cL_refused 342 = .ok (.invokevirtual 114, 3) := by decide +kernel
theorem dL_refused_345 : decode cL_refused 345 = .ok (.iconst (-1), 1) := by decide +kernel
theorem dL_refused_346 : decode cL_refused 346 = .ok (.if_icmp .ne 7, 3) := by decide +kernel
theorem dL_refused_349 : decode cL_refused 349 = .ok (.iconst 1, 1) := by decide +kernel
theorem dL_refused_350 : decode cL_refused 350 = .ok (.goto 4, 3) := by decide +kernel
theorem dL_refused_353 : decode cL_refused 353 = .ok (.iconst 0, 1) := by decide +kernel
theorem dL_refused_354 : decode cL_refused 354 = .ok (.ireturn, 1) := by decide +kernel
theorem dL_drawer_0 : decode cL_drawer 0 = .ok (.aload_n 0, 1) := by decide +kernel
theorem dL_drawer_1 : decode cL_drawer 1 = .ok (.iconst 0, 1) := by decide +kernel
theorem dL_drawer_2 : decode cL_drawer 2 = .ok (.bipush 31, 2) := by decide +kernel
theorem dL_drawer_4 : decode cL_drawer 4 = .ok (.invokevirtual 33, 3) := by decide +kernel
theorem dL_drawer_7 : decode cL_drawer 7 = .ok (.bipush 31, 2) := by decide +kernel
theorem dL_drawer_9 : decode cL_drawer 9 = .ok (.if_icmp .ne 476, 3) := by decide +kernel
theorem dL_drawer_12 : decode cL_drawer 12 = .ok (.aload_n 0, 1) := by decide +kernel
theorem dL_drawer_13 : decode cL_drawer 13 = .ok (.iconst 0, 1) := by decide +kernel
theorem dL_drawer_14 : decode cL_drawer 14 = .ok (.iconst 0, 1) := by decide +kernel
theorem dL_drawer_15 : decode cL_drawer 15 = .ok (.bipush 100, 2) := by decide +kernel
theorem dL_drawer_17 : decode cL_drawer 17 = .ok (.invokevirtual 36, 3) := by decide +kernel
theorem dL_drawer_20 : decode cL_drawer 20 = .ok (.sipush 1032, 3) := by decide +kernel
theorem dL_drawer_23 : decode cL_drawer 23 = .ok (.if_icmp .ne 462, 3) := by decide +kernel
theorem dL_drawer_26 : decode cL_drawer 26 = .ok (.aload_n 0, 1) := by decide +kernel
theorem dL_drawer_27 : decode cL_drawer 27 = .ok (.iconst 0, 1) := by decide +kernel
theorem dL_drawer_28 : decode cL_drawer 28 = .ok (.iconst 1, 1) := by decide +kernel
theorem dL_drawer_29 : decode cL_drawer 29 = .ok (.bipush 51, 2) := by decide +kernel
theorem dL_drawer_31 : decode cL_drawer 31 = .ok (.invokevirtual 36, 3) := by decide +kernel
theorem dL_drawer_34 : decode cL_drawer 34 = .ok (.sipush 1032, 3) := by decide +kernel
theorem dL_drawer_37 : decode cL_drawer 37 = .ok (.if_icmp .ne 448, 3) := by decide +kernel
theorem dL_drawer_40 : decode cL_drawer 40 = .ok (.aload_n 0, 1) := by decide +kernel
theorem dL_drawer_41 : decode cL_drawer 41 = .ok (.iconst 0, 1) := by decide +kernel
theorem dL_drawer_42 : decode cL_drawer 42 = .ok (.iconst 2, 1) := by decide +kernel
theorem dL_drawer_43 : decode cL_drawer 43 = .ok (.bipush 32, 2) := by decide +kernel
theorem dL_drawer_45 : decode cL_drawer 45 = .ok (.invokevirtual 36, 3) := by decide +kernel
theorem dL_drawer_48 : decode cL_drawer 48 = .ok (.sipush 1032, 3) := by decide +kernel
theorem dL_drawer_51 : decode cL_drawer 51 = .ok (.if_icmp .ne 434, 3) := by decide +kernel
theorem dL_drawer_54 : decode cL_drawer 54 = .ok (.aload_n 0, 1) := by decide +kernel
theorem dL_drawer_55 : decode cL_drawer 55 = .ok (.iconst 0, 1) := by decide +kernel
theorem dL_drawer_56 : decode cL_drawer 56 = .ok (.iconst 3, 1) := by decide +kernel
theorem dL_drawer_57 : decode cL_drawer 57 = .ok (.bipush 103, 2) := by decide +kernel
theorem dL_drawer_59 : decode cL_drawer 59 = .ok (.invokevirtual 36, 3) := by decide +kernel
theorem dL_drawer_62 : decode cL_drawer 62 = .ok (.sipush 1032, 3) := by decide +kernel
theorem dL_drawer_65 : decode cL_drawer 65 = .ok (.if_icmp .ne 420, 3) := by decide +kernel
theorem dL_drawer_68 : decode cL_drawer 68 = .ok (.aload_n 0, 1) := by decide +kernel
theorem dL_drawer_69 : decode cL_drawer 69 = .ok (.iconst 0, 1) := by decide +kernel
theorem dL_drawer_70 : decode cL_drawer 70 = .ok (.iconst 4, 1) := by decide +kernel
theorem dL_drawer_71 : decode cL_drawer 71 = .ok (.bipush 50, 2) := by decide +kernel
theorem dL_drawer_73 : decode cL_drawer 73 = .ok (.invokevirtual 36, 3) := by decide +kernel
theorem dL_drawer_76 : decode cL_drawer 76 = .ok (.sipush 1032, 3) := by decide +kernel
theorem dL_drawer_79 : decode cL_drawer 79 = .ok (.if_icmp .ne 406, 3) := by decide +kernel
theorem dL_drawer_82 : decode cL_drawer 82 = .ok (.aload_n 0, 1) := by decide +kernel
theorem dL_drawer_83 : decode cL_drawer 83 = .ok (.iconst 0, 1) := by decide +kernel
theorem dL_drawer_84 : decode cL_drawer 84 = .ok (.iconst 5, 1) := by decide +kernel
theorem dL_drawer_85 : decode cL_drawer 85 = .ok (.bipush 49, 2) := by decide +kernel
theorem dL_drawer_87 : decode cL_drawer 87 = .ok (.invokevirtual 36, 3) := by decide +kernel
theorem dL_drawer_90 : decode cL_drawer 90 = .ok (.sipush 1032, 3) := by decide +kernel
theorem dL_drawer_93 : decode cL_drawer 93 = .ok (.if_icmp .ne 392, 3) := by decide +kernel
theorem dL_drawer_96 : decode cL_drawer 96 = .ok (.aload_n 0, 1) := by decide +kernel
theorem dL_drawer_97 : decode cL_drawer 97 = .ok (.iconst 0, 1) := by decide +kernel
theorem dL_drawer_98 : decode cL_drawer 98 = .ok (.bipush 6, 2) := by decide +kernel
theorem dL_drawer_100 : decode cL_drawer 100 = .ok (.bipush 55, 2) := by decide +kernel
theorem dL_drawer_102 : decode cL_drawer 102 = .ok (.invokevirtual 36, 3) := by decide +kernel
theorem dL_drawer_105 : decode cL_drawer 105 = .ok (.sipush 1032, 3) := by decide +kernel
theorem dL_drawer_108 : decode cL_drawer 108 = .ok (.if_icmp .ne 377, 3) := by decide +kernel
theorem dL_drawer_111 : decode cL_drawer 111 = .ok (.aload_n 0, 1) := by decide +kernel
theorem dL_drawer_112 : decode cL_drawer 112 = .ok (.iconst 0, 1) := by decide +kernel
theorem dL_drawer_113 : decode cL_drawer 113 = .ok (.bipush 7, 2) := by decide +kernel
theorem dL_drawer_115 : decode cL_drawer 115 = .ok (.bipush 32, 2) := by decide +kernel
theorem dL_drawer_117 : decode cL_drawer 117 = .ok (.invokevirtual 36, 3) := by decide +kernel
theorem dL_drawer_120 : decode cL_drawer 120 = .ok (.sipush 1032, 3) := by decide +kernel
theorem dL_drawer_123 : decode cL_drawer 123 = .ok (.if_icmp .ne 362, 3) := by decide +kernel
theorem dL_drawer_126 : decode cL_drawer 126 = .ok (.aload_n 0, 1) := by decide +kernel
theorem dL_drawer_127 : decode cL_drawer 127 = .ok (.iconst 0, 1) := by decide +kernel
theorem dL_drawer_128 : decode cL_drawer 128 = .ok (.bipush 8, 2) := by decide +kernel
theorem dL_drawer_130 : decode cL_drawer 130 = .ok (.bipush 109, 2) := by decide +kernel
theorem dL_drawer_132 : decode cL_drawer 132 = .ok (.invokevirtual 36, 3) := by decide +kernel
theorem dL_drawer_135 : decode cL_drawer 135 = .ok (.sipush 1032, 3) := by decide +kernel
theorem dL_drawer_138 : decode cL_drawer 138 = .ok (.if_icmp .ne 347, 3) := by decide +kernel
theorem dL_drawer_141 : decode cL_drawer 141 = .ok (.aload_n 0, 1) := by decide +kernel
theorem dL_drawer_142 : decode cL_drawer 142 = .ok (.iconst 0, 1) := by decide +kernel
theorem dL_drawer_143 : decode cL_drawer 143 = .ok (.bipush 9, 2) := by decide +kernel
theorem dL_drawer_145 : decode cL_drawer 145 = .ok (.bipush 51, 2) := by decide +kernel
theorem dL_drawer_147 : decode cL_drawer 147 = .ok (.invokevirtual 36, 3) := by decide +kernel
theorem dL_drawer_150 : decode cL_drawer 150 = .ok (.sipush 1032, 3) := by decide +kernel
theorem dL_drawer_153 : decode cL_drawer 153 = .ok (.if_icmp .ne 332, 3) := by decide +kernel
theorem dL_drawer_156 : decode cL_drawer 156 = .ok (.aload_n 0, 1) := by decide +kernel
theorem dL_drawer_157 : decode cL_drawer 157 = .ok (.iconst 0, 1) := by decide +kernel
theorem dL_drawer_158 : decode cL_drawer 158 = .ok (.bipush 10, 2) := by decide +kernel
theorem dL_drawer_160 : decode cL_drawer 160 = .ok (.bipush 48, 2) := by decide +kernel
theorem dL_drawer_162 : decode cL_drawer 162 = .ok (.invokevirtual 36, 3) := by decide +kernel
theorem dL_drawer_165 : decode cL_drawer 165 = .ok (.sipush 1032, 3) := by decide +kernel
theorem dL_drawer_168 : decode cL_drawer 168 = .ok (.if_icmp .ne 317, 3) := by decide +kernel
theorem dL_drawer_171 : decode cL_drawer 171 = .ok (.aload_n 0, 1) := by decide +kernel
theorem dL_drawer_172 : decode cL_drawer 172 = .ok (.iconst 0, 1) := by decide +kernel
theorem dL_drawer_173 : decode cL_drawer 173 = .ok (.bipush 11, 2) := by decide +kernel
theorem dL_drawer_175 : decode cL_drawer 175 = .ok (.bipush 54, 2) := by decide +kernel
theorem dL_drawer_177 : decode cL_drawer 177 = .ok (.invokevirtual 36, 3) := by decide +kernel
theorem dL_drawer_180 : decode cL_drawer 180 = .ok (.sipush 1032, 3) := by decide +kernel
theorem dL_drawer_183 : decode cL_drawer 183 = .ok (.if_icmp .ne 302, 3) := by decide +kernel
theorem dL_drawer_186 : decode cL_drawer 186 = .ok (.aload_n 0, 1) := by decide +kernel
theorem dL_drawer_187 : decode cL_drawer 187 = .ok (.iconst 0, 1) := by decide +kernel
theorem dL_drawer_188 : decode cL_drawer 188 = .ok (.bipush 12, 2) := by decide +kernel
theorem dL_drawer_190 : decode cL_drawer 190 = .ok (.bipush 101, 2) := by decide +kernel
theorem dL_drawer_192 : decode cL_drawer 192 = .ok (.invokevirtual 36, 3) := by decide +kernel
theorem dL_drawer_195 : decode cL_drawer 195 = .ok (.sipush 1032, 3) := by decide +kernel
theorem dL_drawer_198 : decode cL_drawer 198 = .ok (.if_icmp .ne 287, 3) := by decide +kernel
theorem dL_drawer_201 : decode cL_drawer 201 = .ok (.aload_n 0, 1) := by decide +kernel
theorem dL_drawer_202 : decode cL_drawer 202 = .ok (.iconst 0, 1) := by decide +kernel
theorem dL_drawer_203 : decode cL_drawer 203 = .ok (.bipush 13, 2) := by decide +kernel
theorem dL_drawer_205 : decode cL_drawer 205 = .ok (.bipush 52, 2) := by decide +kernel
theorem dL_drawer_207 : decode cL_drawer 207 = .ok (.invokevirtual 36, 3) := by decide +kernel
theorem dL_drawer_210 : decode cL_drawer 210 = .ok (.sipush 1032, 3) := by decide +kernel
theorem dL_drawer_213 : decode cL_drawer 213 = .ok (.if_icmp .ne 272, 3) := by decide +kernel
theorem dL_drawer_216 : decode cL_drawer 216 = .ok (.aload_n 0, 1) := by decide +kernel
theorem dL_drawer_217 : decode cL_drawer 217 = .ok (.iconst 0, 1) := by decide +kernel
theorem dL_drawer_218 : decode cL_drawer 218 = .ok (.bipush 14, 2) := by decide +kernel
theorem dL_drawer_220 : decode cL_drawer 220 = .ok (.bipush 48, 2) := by decide +kernel
theorem dL_drawer_222 : decode cL_drawer 222 = .ok (.invokevirtual 36, 3) := by decide +kernel
theorem dL_drawer_225 : decode cL_drawer 225 = .ok (.sipush 1032, 3) := by decide +kernel
theorem dL_drawer_228 : decode cL_drawer 228 = .ok (.if_icmp .ne 257, 3) := by decide +kernel
theorem dL_drawer_231 : decode cL_drawer 231 = .ok (.aload_n 0, 1) := by decide +kernel
theorem dL_drawer_232 : decode cL_drawer 232 = .ok (.iconst 0, 1) := by decide +kernel
theorem dL_drawer_233 : decode cL_drawer 233 = .ok (.bipush 15, 2) := by decide +kernel
theorem dL_drawer_235 : decode cL_drawer 235 = .ok (.bipush 53, 2) := by decide +kernel
theorem dL_drawer_237 : decode cL_drawer 237 = .ok (.invokevirtual 36, 3) := by decide +kernel
theorem dL_drawer_240 : decode cL_drawer 240 = .ok (.sipush 1032, 3) := by decide +kernel
theorem dL_drawer_243 : decode cL_drawer 243 = .ok (.if_icmp .ne 242, 3) := by decide +kernel
theorem dL_drawer_246 : decode cL_drawer 246 = .ok (.aload_n 0, 1) := by decide +kernel
theorem dL_drawer_247 : decode cL_drawer 247 = .ok (.iconst 0, 1) := by decide +kernel
theorem dL_drawer_248 : decode cL_drawer 248 = .ok (.bipush 16, 2) := by decide +kernel
theorem dL_drawer_250 : decode cL_drawer 250 = .ok (.bipush 32, 2) := by decide +kernel
theorem dL_drawer_252 : decode cL_drawer 252 = .ok (.invokevirtual 36, 3) := by decide +kernel
theorem dL_drawer_255 : decode cL_drawer 255 = .ok (.sipush 1032, 3) := by decide +kernel
theorem dL_drawer_258 : decode cL_drawer 258 = .ok (.if_icmp .ne 227, 3) := by decide +kernel
theorem dL_drawer_261 : decode cL_drawer 261 = .ok (.aload_n 0, 1) := by decide +kernel
theorem dL_drawer_262 : decode cL_drawer 262 = .ok (.iconst 0, 1) := by decide +kernel
theorem dL_drawer_263 : decode cL_drawer 263 = .ok (.bipush 17, 2) := by decide +kernel
theorem dL_drawer_265 : decode cL_drawer 265 = .ok (.bipush 115, 2) := by decide +kernel
theorem dL_drawer_267 : decode cL_drawer 267 = .ok (.invokevirtual 36, 3) := by decide +kernel
theorem dL_drawer_270 : decode cL_drawer 270 = .ok (.sipush 1032, 3) := by decide +kernel
theorem dL_drawer_273 : decode cL_drawer 273 = .ok (.if_icmp .ne 212, 3) := by decide +kernel
theorem dL_drawer_276 : decode cL_drawer 276 = .ok (.aload_n 0, 1) := by decide +kernel
theorem dL_drawer_277 : decode cL_drawer 277 = .ok (.iconst 0, 1) := by decide +kernel
theorem dL_drawer_278 : decode cL_drawer 278 = .ok (.bipush 18, 2) := by decide +kernel
theorem dL_drawer_280 : decode cL_drawer 280 = .ok (.bipush 55, 2) := by decide +kernel
theorem dL_drawer_282 : decode cL_drawer 282 = .ok (.invokevirtual 36, 3) := by decide +kernel
theorem dL_drawer_285 : decode cL_drawer 285 = .ok (.sipush 1032, 3) := by decide +kernel
theorem dL_drawer_288 : decode cL_drawer 288 = .ok (.if_icmp .ne 197, 3) := by decide +kernel
theorem dL_drawer_291 : decode cL_drawer 291 = .ok (.aload_n 0, 1) := by decide +kernel
theorem dL_drawer_292 : decode cL_drawer 292 = .ok (.iconst 0, 1) := by decide +kernel
theorem dL_drawer_293 : decode cL_drawer 293 = .ok (.bipush 19, 2) := by decide +kernel
theorem dL_drawer_295 : decode cL_drawer 295 = .ok (.bipush 49, 2) := by decide +kernel
theorem dL_drawer_297 : decode cL_drawer 297 = .ok (.invokevirtual 36, 3) := by decide +kernel
theorem dL_drawer_300 : decode cL_drawer 300 = .ok (.sipush 1032, 3) := by decide +kernel
theorem dL_drawer_303 : decode cL_drawer 303 = .ok (.if_icmp .ne 182, 3) := by decide +kernel
theorem dL_drawer_306 : decode cL_drawer 306 = .ok (.aload_n 0, 1) := by decide +kernel
theorem dL_drawer_307 : decode cL_drawer 307 = .ok (.iconst 0, 1) := by decide +kernel
theorem dL_drawer_308 : decode cL_drawer 308 = .ok (.bipush 20, 2) := by decide +kernel
theorem dL_drawer_310 : decode cL_drawer 310 = .ok (.bipush 50, 2) := by decide +kernel
theorem dL_drawer_312 : decode cL_drawer 312 = .ok (.invokevirtual 36, 3) := by decide +kernel
theorem dL_drawer_315 : decode cL_drawer 315 = .ok (.sipush 1032, 3) := by decide +kernel
theorem dL_drawer_318 : decode cL_drawer 318 = .ok (.if_icmp .ne 167, 3) := by decide +kernel
theorem dL_drawer_321 : decode cL_drawer 321 = .ok (.aload_n 0, 1) := by decide +kernel
theorem dL_drawer_322 : decode cL_drawer 322 = .ok (.iconst 0, 1) := by decide +kernel
theorem dL_drawer_323 : decode cL_drawer 323 = .ok (.bipush 21, 2) := by decide +kernel
theorem dL_drawer_325 : decode cL_drawer 325 = .ok (.bipush 32, 2) := by decide +kernel
theorem dL_drawer_327 : decode cL_drawer 327 = .ok (.invokevirtual 36, 3) := by decide +kernel
theorem dL_drawer_330 : decode cL_drawer 330 = .ok (.sipush 1032, 3) := by decide +kernel
theorem dL_drawer_333 : decode cL_drawer 333 = .ok (.if_icmp .ne 152, 3) := by decide +kernel
theorem dL_drawer_336 : decode cL_drawer 336 = .ok (.aload_n 0, 1) := by decide +kernel
theorem dL_drawer_337 : decode cL_drawer 337 = .ok (.iconst 0, 1) := by decide +kernel
theorem dL_drawer_338 : decode cL_drawer 338 = .ok (.bipush 22, 2) := by decide +kernel
theorem dL_drawer_340 : decode cL_drawer 340 = .ok (.bipush 108, 2) := by decide +kernel
theorem dL_drawer_342 : decode cL_drawer 342 = .ok (.invokevirtual 36, 3) := by decide +kernel
theorem dL_drawer_345 : decode cL_drawer 345 = .ok (.sipush 1032, 3) := by decide +kernel
theorem dL_drawer_348 : decode cL_drawer 348 = .ok (.if_icmp .ne 137, 3) := by decide +kernel
theorem dL_drawer_351 : decode cL_drawer 351 = .ok (.aload_n 0, 1) := by decide +kernel
theorem dL_drawer_352 : decode cL_drawer 352 = .ok (.iconst 0, 1) := by decide +kernel
theorem dL_drawer_353 : decode cL_drawer 353 = .ok (.bipush 23, 2) := by decide +kernel
theorem dL_drawer_355 : decode cL_drawer 355 = .ok (.bipush 50, 2) := by decide +kernel
theorem dL_drawer_357 : decode cL_drawer 357 = .ok (.invokevirtual 36, 3) := by decide +kernel
theorem dL_drawer_360 : decode cL_drawer 360 = .ok (.sipush 1032, 3) := by decide +kernel
theorem dL_drawer_363 : decode cL_drawer 363 = .ok (.if_icmp .ne 122, 3) := by decide +kernel
theorem dL_drawer_366 : decode cL_drawer 366 = .ok (.aload_n 0, 1) := by decide +kernel
theorem dL_drawer_367 : decode cL_drawer 367 = .ok (.iconst 0, 1) := by decide +kernel
theorem dL_drawer_368 : decode cL_drawer 368 = .ok (.bipush 24, 2) := by decide +kernel
theorem dL_drawer_370 : decode cL_drawer 370 = .ok (.bipush 48, 2) := by decide +kernel
theorem dL_drawer_372 : decode cL_drawer 372 = .ok (.invokevirtual 36, 3) := by decide +kernel
theorem dL_drawer_375 : decode cL_drawer 375 = .ok (.sipush 1032, 3) := by decide +kernel
theorem dL_drawer_378 : decode cL_drawer 378 = .ok (.if_icmp .ne 107, 3) := by decide +kernel
theorem dL_drawer_381 : decode cL_drawer 381 = .ok (.aload_n 0, 1) := by decide +kernel
theorem dL_drawer_382 : decode cL_drawer 382 = .ok (.iconst 0, 1) := by decide +kernel
theorem dL_drawer_383 : decode cL_drawer 383 = .ok (.bipush 25, 2) := by decide +kernel
theorem dL_drawer_385 : decode cL_drawer 385 = .ok (.bipush 57, 2) := by decide +kernel
theorem dL_drawer_387 : decode cL_drawer 387 = .ok (.invokevirtual 36, 3) := by decide +kernel
theorem dL_drawer_390 : decode cL_drawer 390 = .ok (.sipush 1032, 3) := by decide +kernel
theorem dL_drawer_393 : decode cL_drawer 393 = .ok (.if_icmp .ne 92, 3) := by decide +kernel
theorem dL_drawer_396 : decode cL_drawer 396 = .ok (.aload_n 0, 1) := by decide +kernel
theorem dL_drawer_397 : decode cL_drawer 397 = .ok (.iconst 0, 1) := by decide +kernel
theorem dL_drawer_398 : decode cL_drawer 398 = .ok (.bipush 26, 2) := by decide +kernel
theorem dL_drawer_400 : decode cL_drawer 400 = .ok (.bipush 32, 2) := by decide +kernel
theorem dL_drawer_402 : decode cL_drawer 402 = .ok (.invokevirtual 36, 3) := by decide +kernel
theorem dL_drawer_405 : decode cL_drawer 405 = .ok (.sipush 1032, 3) := by decide +kernel
theorem dL_drawer_408 : decode cL_drawer 408 = .ok (.if_icmp .ne 77, 3) := by decide +kernel
theorem dL_drawer_411 : decode cL_drawer 411 = .ok (.aload_n 0, 1) := by decide +kernel
theorem dL_drawer_412 : decode cL_drawer 412 = .ok (.iconst 0, 1) := by decide +kernel
theorem dL_drawer_413 : decode cL_drawer 413 = .ok (.bipush 27, 2) := by decide +kernel
theorem dL_drawer_415 : decode cL_drawer 415 = .ok (.bipush 116, 2) := by decide +kernel
theorem dL_drawer_417 : decode cL_drawer 417 = .ok (.invokevirtual 36, 3) := by decide +kernel
theorem dL_drawer_420 : decode cL_drawer 420 = .ok (.sipush 1032, 3) := by decide +kernel
theorem dL_drawer_423 : decode cL_drawer 423 = .ok (.if_icmp .ne 62, 3) := by decide +kernel
theorem dL_drawer_426 : decode cL_drawer 426 = .ok (.aload_n 0, 1) := by decide +kernel
theorem dL_drawer_427 : decode cL_drawer 427 = .ok (.iconst 0, 1) := by decide +kernel
theorem dL_drawer_428 : decode cL_drawer 428 = .ok (.bipush 28, 2) := by decide +kernel
theorem dL_drawer_430 : decode cL_drawer 430 = .ok (.bipush 57, 2) := by decide +kernel
theorem dL_drawer_432 : decode cL_drawer 432 = .ok (.invokevirtual 36, 3) := by decide +kernel
theorem dL_drawer_435 : decode cL_drawer 435 = .ok (.sipush 1032, 3) := by decide +kernel
theorem dL_drawer_438 : decode cL_drawer 438 = .ok (.if_icmp .ne 47, 3) := by decide +kernel
theorem dL_drawer_441 : decode cL_drawer 441 = .ok (.aload_n 0, 1) := by decide +kernel
theorem dL_drawer_442 : decode cL_drawer 442 = .ok (.iconst 0, 1) := by decide +kernel
theorem dL_drawer_443 : decode cL_drawer 443 = .ok (.bipush 29, 2) := by decide +kernel
theorem dL_drawer_445 : decode cL_drawer 445 = .ok (.bipush 49, 2) := by decide +kernel
theorem dL_drawer_447 : decode cL_drawer 447 = .ok (.invokevirtual 36, 3) := by decide +kernel
theorem dL_drawer_450 : decode cL_drawer 450 = .ok (.sipush 1032, 3) := by decide +kernel
theorem dL_drawer_453 : decode cL_drawer 453 = .ok (.if_icmp .ne 32, 3) := by decide +kernel
theorem dL_drawer_456 : decode cL_drawer 456 = .ok (.aload_n 0, 1) := by decide +kernel
theorem dL_drawer_457 : decode cL_drawer 457 = .ok (.iconst 0, 1) := by decide +kernel
theorem dL_drawer_458 : decode cL_drawer 458 = .ok (.bipush 30, 2) := by decide +kernel
theorem dL_drawer_460 : decode cL_drawer 460 = .ok (.bipush 52, 2) := by decide +kernel
theorem dL_drawer_462 : decode cL_drawer 462 = .ok (.invokevirtual 36, 3) := by decide +kernel
theorem dL_drawer_465 : decode cL_drawer 465 = .ok (.sipush 1032, 3) := by decide +kernel
theorem dL_drawer_468 : decode cL_drawer 468 = .ok (.if_icmp .ne 17, 3) := by decide +kernel
theorem dL_drawer_471 : decode cL_drawer 471 = .ok (.aload_n 0, 1) := by decide +kernel
theorem dL_drawer_472 : decode cL_drawer 472 = .ok (.iconst 0, 1) := by decide +kernel
theorem dL_drawer_473 : decode cL_drawer 473 = .ok (.invokevirtual 42, 3) := by decide +kernel
theorem dL_drawer_476 : decode cL_drawer 476 = .ok (.bipush 6, 2) := by decide +kernel
theorem dL_drawer_478 : decode cL_drawer 478 = .ok (.if_icmp .ne 7, 3) := by decide +kernel
theorem dL_drawer_481 : decode cL_drawer 481 = .ok (.iconst 1, 1) := by decide +kernel
theorem dL_drawer_482 : decode cL_drawer 482 = .ok (.goto 4, 3) := by decide +kernel
theorem dL_drawer_485 : decode cL_drawer 485 = .ok (.iconst 0, 1) := by decide +kernel
theorem dL_drawer_486 : decode cL_drawer 486 = .ok (.ireturn, 1) := by decide +kernel
theorem dL_turn_0 : decode cL_turn 0 = .ok (.iload_n 1, 1) := by decide +kernel
theorem dL_turn_1 : decode cL_turn 1 = .ok (.iconst 4, 1) := by decide +kernel
theorem dL_turn_2 : decode cL_turn 2 = .ok (.ishr, 1) := by decide +kernel
theorem dL_turn_3 : decode cL_turn 3 = .ok (.istore_n 2, 1) := by decide +kernel
theorem dL_turn_4 : decode cL_turn 4 = .ok (.iload_n 1, 1) := by decide +kernel
theorem dL_turn_5 : decode cL_turn 5 = .ok (.bipush 15, 2) := by decide +kernel
theorem dL_turn_7 : decode cL_turn 7 = .ok (.iand, 1) := by decide +kernel
theorem dL_turn_8 : decode cL_turn 8 = .ok (.tableswitch 456 0 14 #[76, 76, 95, 106, 117, 151, 167, 195, 234, 255, 275, 306, 324, 354, 398], 76) := by decide +kernel
theorem dL_turn_84 : decode cL_turn 84 = .ok (.aload_n 0, 1) := by decide +kernel
theorem dL_turn_85 : decode cL_turn 85 = .ok (.iload_n 2, 1) := by decide +kernel
theorem dL_turn_86 : decode cL_turn 86 = .ok (.bipush 6, 2) := by decide +kernel
theorem dL_turn_88 : decode cL_turn 88 = .ok (.invokestatic 117, 3) := by decide +kernel
theorem dL_turn_91 : decode cL_turn 91 = .ok (.iload_n 2, 1) := by decide +kernel
theorem dL_turn_92 : decode cL_turn 92 = .ok (.iconst 3, 1) := by decide +kernel
theorem dL_turn_93 : decode cL_turn 93 = .ok (.ishr, 1) := by decide +kernel
theorem dL_turn_94 : decode cL_turn 94 = .ok (.bipush 6, 2) := by decide +kernel
theorem dL_turn_96 : decode cL_turn 96 = .ok (.invokestatic 117, 3) := by decide +kernel
theorem dL_turn_99 : decode cL_turn 99 = .ok (.invokevirtual 54, 3) := by decide +kernel
theorem dL_turn_102 : decode cL_turn 102 = .ok (.ireturn, 1) := by decide +kernel
theorem dL_turn_103 : decode cL_turn 103 = .ok (.aload_n 0, 1) := by decide +kernel
theorem dL_turn_104 : decode cL_turn 104 = .ok (.iload_n 2, 1) := by decide +kernel
theorem dL_turn_105 : decode cL_turn 105 = .ok (.bipush 6, 2) := by decide +kernel
theorem dL_turn_107 : decode cL_turn 107 = .ok (.invokestatic 117, 3) := by decide +kernel
theorem dL_turn_110 : decode cL_turn 110 = .ok (.invokevirtual 57, 3) := by decide +kernel
theorem dL_turn_113 : decode cL_turn 113 = .ok (.ireturn, 1) := by decide +kernel
theorem dL_turn_114 : decode cL_turn 114 = .ok (.aload_n 0, 1) := by decide +kernel
theorem dL_turn_115 : decode cL_turn 115 = .ok (.iload_n 2, 1) := by decide +kernel
theorem dL_turn_116 : decode cL_turn 116 = .ok (.bipush 6, 2) := by decide +kernel
theorem dL_turn_118 : decode cL_turn 118 = .ok (.invokestatic 117, 3) := by decide +kernel
theorem dL_turn_121 : decode cL_turn 121 = .ok (.invokevirtual 60, 3) := by decide +kernel
theorem dL_turn_124 : decode cL_turn 124 = .ok (.ireturn, 1) := by decide +kernel
theorem dL_turn_125 : decode cL_turn 125 = .ok (.iload_n 2, 1) := by decide +kernel
theorem dL_turn_126 : decode cL_turn 126 = .ok (.iconst 3, 1) := by decide +kernel
theorem dL_turn_127 : decode cL_turn 127 = .ok (.iand, 1) := by decide +kernel
theorem dL_turn_128 : decode cL_turn 128 = .ok (.ifCond .ne 18, 3) := by decide +kernel
theorem dL_turn_131 : decode cL_turn 131 = .ok (.aload_n 0, 1) := by decide +kernel
theorem dL_turn_132 : decode cL_turn 132 = .ok (.iload_n 2, 1) := by decide +kernel
theorem dL_turn_133 : decode cL_turn 133 = .ok (.iconst 2, 1) := by decide +kernel
theorem dL_turn_134 : decode cL_turn 134 = .ok (.ishr, 1) := by decide +kernel
theorem dL_turn_135 : decode cL_turn 135 = .ok (.bipush 6, 2) := by decide +kernel
theorem dL_turn_137 : decode cL_turn 137 = .ok (.invokestatic 117, 3) := by decide +kernel
theorem dL_turn_140 : decode cL_turn 140 = .ok (.invokevirtual 63, 3) := by decide +kernel
theorem dL_turn_143 : decode cL_turn 143 = .ok (.goto 15, 3) := by decide +kernel
theorem dL_turn_146 : decode cL_turn 146 = .ok (.aload_n 0, 1) := by decide +kernel
theorem dL_turn_147 : decode cL_turn 147 = .ok (.iload_n 2, 1) := by decide +kernel
theorem dL_turn_148 : decode cL_turn 148 = .ok (.iconst 2, 1) := by decide +kernel
theorem dL_turn_149 : decode cL_turn 149 = .ok (.ishr, 1) := by decide +kernel
theorem dL_turn_150 : decode cL_turn 150 = .ok (.bipush 6, 2) := by decide +kernel
theorem dL_turn_152 : decode cL_turn 152 = .ok (.invokestatic 117, 3) := by decide +kernel
theorem dL_turn_155 : decode cL_turn 155 = .ok (.invokevirtual 60, 3) := by decide +kernel
theorem dL_turn_158 : decode cL_turn 158 = .ok (.ireturn, 1) := by decide +kernel
theorem dL_turn_159 : decode cL_turn 159 = .ok (.aload_n 0, 1) := by decide +kernel
theorem dL_turn_160 : decode cL_turn 160 = .ok (.aload_n 0, 1) := by decide +kernel
theorem dL_turn_161 : decode cL_turn 161 = .ok (.iconst 2, 1) := by decide +kernel
theorem dL_turn_162 : decode cL_turn 162 = .ok (.invokevirtual 111, 3) := by decide +kernel
theorem dL_turn_165 : decode cL_turn 165 = .ok (.iload_n 2, 1) := by decide +kernel
theorem dL_turn_166 : decode cL_turn 166 = .ok (.iconst 4, 1) := by decide +kernel
theorem dL_turn_167 : decode cL_turn 167 = .ok (.invokestatic 117, 3) := by decide +kernel
theorem dL_turn_170 : decode cL_turn 170 = .ok (.isub, 1) := by decide +kernel
theorem dL_turn_171 : decode cL_turn 171 = .ok (.invokevirtual 66, 3) := by decide +kernel
theorem dL_turn_174 : decode cL_turn 174 = .ok (.ireturn, 1) := by decide +kernel
theorem dL_turn_175 : decode cL_turn 175 = .ok (.iload_n 2, 1) := by decide +kernel
theorem dL_turn_176 : decode cL_turn 176 = .ok (.iconst 1, 1) := by decide +kernel
theorem dL_turn_177 : decode cL_turn 177 = .ok (.iand, 1) := by decide +kernel
theorem dL_turn_178 : decode cL_turn 178 = .ok (.ifCond .ne 15, 3) := by decide +kernel
theorem dL_turn_181 : decode cL_turn 181 = .ok (.aload_n 0, 1) := by decide +kernel
theorem dL_turn_182 : decode cL_turn 182 = .ok (.iload_n 2, 1) := by decide +kernel
theorem dL_turn_183 : decode cL_turn 183 = .ok (.iconst 1, 1) := by decide +kernel
theorem dL_turn_184 : decode cL_turn 184 = .ok (.ishr, 1) := by decide +kernel
theorem dL_turn_185 : decode cL_turn 185 = .ok (.iconst 1, 1) := by decide +kernel
theorem dL_turn_186 : decode cL_turn 186 = .ok (.iand, 1) := by decide +kernel
theorem dL_turn_187 : decode cL_turn 187 = .ok (.invokevirtual 69, 3) := by decide +kernel
theorem dL_turn_190 : decode cL_turn 190 = .ok (.goto 12, 3) := by decide +kernel
theorem dL_turn_193 : decode cL_turn 193 = .ok (.aload_n 0, 1) := by decide +kernel
theorem dL_turn_194 : decode cL_turn 194 = .ok (.iload_n 2, 1) := by decide +kernel
theorem dL_turn_195 : decode cL_turn 195 = .ok (.iconst 1, 1) := by decide +kernel
theorem dL_turn_196 : decode cL_turn 196 = .ok (.ishr, 1) := by decide +kernel
theorem dL_turn_197 : decode cL_turn 197 = .ok (.iconst 1, 1) := by decide +kernel
theorem dL_turn_198 : decode cL_turn 198 = .ok (.iand, 1) := by decide +kernel
theorem dL_turn_199 : decode cL_turn 199 = .ok (.invokevirtual 72, 3) := by decide +kernel
theorem dL_turn_202 : decode cL_turn 202 = .ok (.ireturn, 1) := by decide +kernel
theorem dL_turn_203 : decode cL_turn 203 = .ok (.iload_n 2, 1) := by decide +kernel
theorem dL_turn_204 : decode cL_turn 204 = .ok (.bipush 7, 2) := by decide +kernel
theorem dL_turn_206 : decode cL_turn 206 = .ok (.iand, 1) := by decide +kernel
theorem dL_turn_207 : decode cL_turn 207 = .ok (.ifCond .ne 18, 3) := by decide +kernel
theorem dL_turn_210 : decode cL_turn 210 = .ok (.aload_n 0, 1) := by decide +kernel
theorem dL_turn_211 : decode cL_turn 211 = .ok (.invokestatic 122, 3) := by decide +kernel
theorem dL_turn_214 : decode cL_turn 214 = .ok (.ifCond .eq 7, 3) := by decide +kernel
theorem dL_turn_217 : decode cL_turn 217 = .ok (.iconst 1, 1) := by decide +kernel
theorem dL_turn_218 : decode cL_turn 218 = .ok (.goto 23, 3) := by decide +kernel
theorem dL_turn_221 : decode cL_turn 221 = .ok (.iconst 0, 1) := by decide +kernel
theorem dL_turn_222 : decode cL_turn 222 = .ok (.goto 19, 3) := by decide +kernel
theorem dL_turn_225 : decode cL_turn 225 = .ok (.aload_n 0, 1) := by decide +kernel
theorem dL_turn_226 : decode cL_turn 226 = .ok (.iload_n 2, 1) := by decide +kernel
theorem dL_turn_227 : decode cL_turn 227 = .ok (.iconst 3, 1) := by decide +kernel
theorem dL_turn_228 : decode cL_turn 228 = .ok (.ishr, 1) := by decide +kernel
theorem dL_turn_229 : decode cL_turn 229 = .ok (.iconst 1, 1) := by decide +kernel
theorem dL_turn_230 : decode cL_turn 230 = .ok (.iand, 1) := by decide +kernel
theorem dL_turn_231 : decode cL_turn 231 = .ok (.iload_n 2, 1) := by decide +kernel
theorem dL_turn_232 : decode cL_turn 232 = .ok (.iconst 4, 1) := by decide +kernel
theorem dL_turn_233 : decode cL_turn 233 = .ok (.ishr, 1) := by decide +kernel
theorem dL_turn_234 : decode cL_turn 234 = .ok (.iconst 5, 1) := by decide +kernel
theorem dL_turn_235 : decode cL_turn 235 = .ok (.invokestatic 117, 3) := by decide +kernel
theorem dL_turn_238 : decode cL_turn 238 = .ok (.invokevirtual 9, 3) := by decide +kernel
theorem dL_turn_241 : decode cL_turn 241 = .ok (.ireturn, 1) := by decide +kernel
theorem dL_turn_242 : decode cL_turn 242 = .ok (.aload_n 0, 1) := by decide +kernel
theorem dL_turn_243 : decode cL_turn 243 = .ok (.iload_n 2, 1) := by decide +kernel
theorem dL_turn_244 : decode cL_turn 244 = .ok (.iconst 1, 1) := by decide +kernel
theorem dL_turn_245 : decode cL_turn 245 = .ok (.iand, 1) := by decide +kernel
theorem dL_turn_246 : decode cL_turn 246 = .ok (.iload_n 2, 1) := by decide +kernel
theorem dL_turn_247 : decode cL_turn 247 = .ok (.iconst 1, 1) := by decide +kernel
theorem dL_turn_248 : decode cL_turn 248 = .ok (.ishr, 1) := by decide +kernel
theorem dL_turn_249 : decode cL_turn 249 = .ok (.iconst 3, 1) := by decide +kernel
theorem dL_turn_250 : decode cL_turn 250 = .ok (.iand, 1) := by decide +kernel
theorem dL_turn_251 : decode cL_turn 251 = .ok (.iload_n 2, 1) := by decide +kernel
theorem dL_turn_252 : decode cL_turn 252 = .ok (.iconst 3, 1) := by decide +kernel
theorem dL_turn_253 : decode cL_turn 253 = .ok (.ishr, 1) := by decide +kernel
theorem dL_turn_254 : decode cL_turn 254 = .ok (.bipush 24, 2) := by decide +kernel
theorem dL_turn_256 : decode cL_turn 256 = .ok (.invokestatic 117, 3) := by decide +kernel
theorem dL_turn_259 : decode cL_turn 259 = .ok (.invokevirtual 15, 3) := by decide +kernel
theorem dL_turn_262 : decode cL_turn 262 = .ok (.ireturn, 1) := by decide +kernel
theorem dL_turn_263 : decode cL_turn 263 = .ok (.aload_n 0, 1) := by decide +kernel
theorem dL_turn_264 : decode cL_turn 264 = .ok (.iload_n 2, 1) := by decide +kernel
theorem dL_turn_265 : decode cL_turn 265 = .ok (.bipush 6, 2) := by decide +kernel
theorem dL_turn_267 : decode cL_turn 267 = .ok (.invokestatic 117, 3) := by decide +kernel
theorem dL_turn_270 : decode cL_turn 270 = .ok (.iconst 1, 1) := by decide +kernel
theorem dL_turn_271 : decode cL_turn 271 = .ok (.iload_n 2, 1) := by decide +kernel
theorem dL_turn_272 : decode cL_turn 272 = .ok (.iconst 3, 1) := by decide +kernel
theorem dL_turn_273 : decode cL_turn 273 = .ok (.ishr, 1) := by decide +kernel
theorem dL_turn_274 : decode cL_turn 274 = .ok (.iconst 5, 1) := by decide +kernel
theorem dL_turn_275 : decode cL_turn 275 = .ok (.invokestatic 117, 3) := by decide +kernel
theorem dL_turn_278 : decode cL_turn 278 = .ok (.iadd, 1) := by decide +kernel
theorem dL_turn_279 : decode cL_turn 279 = .ok (.invokevirtual 48, 3) := by decide +kernel
theorem dL_turn_282 : decode cL_turn 282 = .ok (.ireturn, 1) := by decide +kernel
theorem dL_turn_283 : decode cL_turn 283 = .ok (.iload_n 2, 1) := by decide +kernel
theorem dL_turn_284 : decode cL_turn 284 = .ok (.iconst 1, 1) := by decide +kernel
theorem dL_turn_285 : decode cL_turn 285 = .ok (.iand, 1) := by decide +kernel
theorem dL_turn_286 : decode cL_turn 286 = .ok (.ifCond .ne 18, 3) := by decide +kernel
theorem dL_turn_289 : decode cL_turn 289 = .ok (.aload_n 0, 1) := by decide +kernel
theorem dL_turn_290 : decode cL_turn 290 = .ok (.iload_n 2, 1) := by decide +kernel
theorem dL_turn_291 : decode cL_turn 291 = .ok (.iconst 1, 1) := by decide +kernel
theorem dL_turn_292 : decode cL_turn 292 = .ok (.ishr, 1) := by decide +kernel
theorem dL_turn_293 : decode cL_turn 293 = .ok (.bipush 64, 2) := by decide +kernel
theorem dL_turn_295 : decode cL_turn 295 = .ok (.invokestatic 117, 3) := by decide +kernel
theorem dL_turn_298 : decode cL_turn 298 = .ok (.invokevirtual 75, 3) := by decide +kernel
theorem dL_turn_301 : decode cL_turn 301 = .ok (.goto 12, 3) := by decide +kernel
theorem dL_turn_304 : decode cL_turn 304 = .ok (.aload_n 0, 1) := by decide +kernel
theorem dL_turn_305 : decode cL_turn 305 = .ok (.iload_n 2, 1) := by decide +kernel
theorem dL_turn_306 : decode cL_turn 306 = .ok (.iconst 1, 1) := by decide +kernel
theorem dL_turn_307 : decode cL_turn 307 = .ok (.ishr, 1) := by decide +kernel
theorem dL_turn_308 : decode cL_turn 308 = .ok (.iconst 1, 1) := by decide +kernel
theorem dL_turn_309 : decode cL_turn 309 = .ok (.iand, 1) := by decide +kernel
theorem dL_turn_310 : decode cL_turn 310 = .ok (.invokevirtual 78, 3) := by decide +kernel
theorem dL_turn_313 : decode cL_turn 313 = .ok (.ireturn, 1) := by decide +kernel
theorem dL_turn_314 : decode cL_turn 314 = .ok (.iload_n 2, 1) := by decide +kernel
theorem dL_turn_315 : decode cL_turn 315 = .ok (.iconst 1, 1) := by decide +kernel
theorem dL_turn_316 : decode cL_turn 316 = .ok (.iand, 1) := by decide +kernel
theorem dL_turn_317 : decode cL_turn 317 = .ok (.ifCond .ne 10, 3) := by decide +kernel
theorem dL_turn_320 : decode cL_turn 320 = .ok (.aload_n 0, 1) := by decide +kernel
theorem dL_turn_321 : decode cL_turn 321 = .ok (.invokevirtual 125, 3) := by decide +kernel
theorem dL_turn_324 : decode cL_turn 324 = .ok (.goto 7, 3) := by decide +kernel
theorem dL_turn_327 : decode cL_turn 327 = .ok (.aload_n 0, 1) := by decide +kernel
theorem dL_turn_328 : decode cL_turn 328 = .ok (.invokevirtual 129, 3) := by decide +kernel
theorem dL_turn_331 : decode cL_turn 331 = .ok (.ireturn, 1) := by decide +kernel
theorem dL_turn_332 : decode cL_turn 332 = .ok (.iload_n 2, 1) := by decide +kernel
theorem dL_turn_333 : decode cL_turn 333 = .ok (.iconst 1, 1) := by decide +kernel
theorem dL_turn_334 : decode cL_turn 334 = .ok (.iand, 1) := by decide +kernel
theorem dL_turn_335 : decode cL_turn 335 = .ok (.ifCond .ne 22, 3) := by decide +kernel
theorem dL_turn_338 : decode cL_turn 338 = .ok (.aload_n 0, 1) := by decide +kernel
theorem dL_turn_339 : decode cL_turn 339 = .ok (.iload_n 2, 1) := by decide +kernel
theorem dL_turn_340 : decode cL_turn 340 = .ok (.iconst 1, 1) := by decide +kernel
theorem dL_turn_341 : decode cL_turn 341 = .ok (.ishr, 1) := by decide +kernel
theorem dL_turn_342 : decode cL_turn 342 = .ok (.iconst 3, 1) := by decide +kernel
theorem dL_turn_343 : decode cL_turn 343 = .ok (.invokestatic 117, 3) := by decide +kernel
theorem dL_turn_346 : decode cL_turn 346 = .ok (.iload_n 2, 1) := by decide +kernel
theorem dL_turn_347 : decode cL_turn 347 = .ok (.iconst 3, 1) := by decide +kernel
theorem dL_turn_348 : decode cL_turn 348 = .ok (.ishr, 1) := by decide +kernel
theorem dL_turn_349 : decode cL_turn 349 = .ok (.iconst 1, 1) := by decide +kernel
theorem dL_turn_350 : decode cL_turn 350 = .ok (.iand, 1) := by decide +kernel
theorem dL_turn_351 : decode cL_turn 351 = .ok (.invokevirtual 81, 3) := by decide +kernel
theorem dL_turn_354 : decode cL_turn 354 = .ok (.goto 7, 3) := by decide +kernel
theorem dL_turn_357 : decode cL_turn 357 = .ok (.aload_n 0, 1) := by decide +kernel
theorem dL_turn_358 : decode cL_turn 358 = .ok (.invokevirtual 132, 3) := by decide +kernel
theorem dL_turn_361 : decode cL_turn 361 = .ok (.ireturn, 1) := by decide +kernel
theorem dL_turn_362 : decode cL_turn 362 = .ok (.iload_n 2, 1) := by decide +kernel
theorem dL_turn_363 : decode cL_turn 363 = .ok (.iconst 1, 1) := by decide +kernel
theorem dL_turn_364 : decode cL_turn 364 = .ok (.iand, 1) := by decide +kernel
theorem dL_turn_365 : decode cL_turn 365 = .ok (.ifCond .ne 23, 3) := by decide +kernel
theorem dL_turn_368 : decode cL_turn 368 = .ok (.aload_n 0, 1) := by decide +kernel
theorem dL_turn_369 : decode cL_turn 369 = .ok (.iload_n 2, 1) := by decide +kernel
theorem dL_turn_370 : decode cL_turn 370 = .ok (.iconst 1, 1) := by decide +kernel
theorem dL_turn_371 : decode cL_turn 371 = .ok (.ishr, 1) := by decide +kernel
theorem dL_turn_372 : decode cL_turn 372 = .ok (.bipush 6, 2) := by decide +kernel
theorem dL_turn_374 : decode cL_turn 374 = .ok (.invokestatic 117, 3) := by decide +kernel
theorem dL_turn_377 : decode cL_turn 377 = .ok (.iload_n 2, 1) := by decide +kernel
theorem dL_turn_378 : decode cL_turn 378 = .ok (.iconst 4, 1) := by decide +kernel
theorem dL_turn_379 : decode cL_turn 379 = .ok (.ishr, 1) := by decide +kernel
theorem dL_turn_380 : decode cL_turn 380 = .ok (.iconst 1, 1) := by decide +kernel
theorem dL_turn_381 : decode cL_turn 381 = .ok (.iand, 1) := by decide +kernel
theorem dL_turn_382 : decode cL_turn 382 = .ok (.invokevirtual 93, 3) := by decide +kernel
theorem dL_turn_385 : decode cL_turn 385 = .ok (.goto 20, 3) := by decide +kernel
theorem dL_turn_388 : decode cL_turn 388 = .ok (.aload_n 0, 1) := by decide +kernel
theorem dL_turn_389 : decode cL_turn 389 = .ok (.iload_n 2, 1) := by decide +kernel
theorem dL_turn_390 : decode cL_turn 390 = .ok (.iconst 1, 1) := by decide +kernel
theorem dL_turn_391 : decode cL_turn 391 = .ok (.ishr, 1) := by decide +kernel
theorem dL_turn_392 : decode cL_turn 392 = .ok (.bipush 6, 2) := by decide +kernel
theorem dL_turn_394 : decode cL_turn 394 = .ok (.invokestatic 117, 3) := by decide +kernel
theorem dL_turn_397 : decode cL_turn 397 = .ok (.iload_n 2, 1) := by decide +kernel
theorem dL_turn_398 : decode cL_turn 398 = .ok (.iconst 4, 1) := by decide +kernel
theorem dL_turn_399 : decode cL_turn 399 = .ok (.ishr, 1) := by decide +kernel
theorem dL_turn_400 : decode cL_turn 400 = .ok (.iconst 1, 1) := by decide +kernel
theorem dL_turn_401 : decode cL_turn 401 = .ok (.iand, 1) := by decide +kernel
theorem dL_turn_402 : decode cL_turn 402 = .ok (.invokevirtual 96, 3) := by decide +kernel
theorem dL_turn_405 : decode cL_turn 405 = .ok (.ireturn, 1) := by decide +kernel
theorem dL_turn_406 : decode cL_turn 406 = .ok (.iload_n 2, 1) := by decide +kernel
theorem dL_turn_407 : decode cL_turn 407 = .ok (.iconst 1, 1) := by decide +kernel
theorem dL_turn_408 : decode cL_turn 408 = .ok (.iand, 1) := by decide +kernel
theorem dL_turn_409 : decode cL_turn 409 = .ok (.ifCond .ne 34, 3) := by decide +kernel
theorem dL_turn_412 : decode cL_turn 412 = .ok (.aload_n 0, 1) := by decide +kernel
theorem dL_turn_413 : decode cL_turn 413 = .ok (.iload_n 2, 1) := by decide +kernel
theorem dL_turn_414 : decode cL_turn 414 = .ok (.iconst 1, 1) := by decide +kernel
theorem dL_turn_415 : decode cL_turn 415 = .ok (.ishr, 1) := by decide +kernel
theorem dL_turn_416 : decode cL_turn 416 = .ok (.iconst 5, 1) := by decide +kernel
theorem dL_turn_417 : decode cL_turn 417 = .ok (.invokestatic 117, 3) := by decide +kernel
theorem dL_turn_420 : decode cL_turn 420 = .ok (.iload_n 2, 1) := by decide +kernel
theorem dL_turn_421 : decode cL_turn 421 = .ok (.iconst 4, 1) := by decide +kernel
theorem dL_turn_422 : decode cL_turn 422 = .ok (.ishr, 1) := by decide +kernel
theorem dL_turn_423 : decode cL_turn 423 = .ok (.bipush 13, 2) := by decide +kernel
theorem dL_turn_425 : decode cL_turn 425 = .ok (.invokestatic 117, 3) := by decide +kernel
theorem dL_turn_428 : decode cL_turn 428 = .ok (.iload_n 2, 1) := by decide +kernel
theorem dL_turn_429 : decode cL_turn 429 = .ok (.bipush 8, 2) := by decide +kernel
theorem dL_turn_431 : decode cL_turn 431 = .ok (.ishr, 1) := by decide +kernel
theorem dL_turn_432 : decode cL_turn 432 = .ok (.bipush 13, 2) := by decide +kernel
theorem dL_turn_434 : decode cL_turn 434 = .ok (.invokestatic 117, 3) := by decide +kernel
theorem dL_turn_437 : decode cL_turn 437 = .ok (.invokevirtual 102, 3) := by decide +kernel
theorem dL_turn_440 : decode cL_turn 440 = .ok (.goto 23, 3) := by decide +kernel
theorem dL_turn_443 : decode cL_turn 443 = .ok (.aload_n 0, 1) := by decide +kernel
theorem dL_turn_444 : decode cL_turn 444 = .ok (.iload_n 2, 1) := by decide +kernel
theorem dL_turn_445 : decode cL_turn 445 = .ok (.iconst 1, 1) := by decide +kernel
theorem dL_turn_446 : decode cL_turn 446 = .ok (.ishr, 1) := by decide +kernel
theorem dL_turn_447 : decode cL_turn 447 = .ok (.bipush 13, 2) := by decide +kernel
theorem dL_turn_449 : decode cL_turn 449 = .ok (.invokestatic 117, 3) := by decide +kernel
theorem dL_turn_452 : decode cL_turn 452 = .ok (.iload_n 2, 1) := by decide +kernel
theorem dL_turn_453 : decode cL_turn 453 = .ok (.iconst 5, 1) := by decide +kernel
theorem dL_turn_454 : decode cL_turn 454 = .ok (.ishr, 1) := by decide +kernel
theorem dL_turn_455 : decode cL_turn 455 = .ok (.bipush 13, 2) := by decide +kernel
theorem dL_turn_457 : decode cL_turn 457 = .ok (.invokestatic 117, 3) := by decide +kernel
theorem dL_turn_460 : decode cL_turn 460 = .ok (.invokevirtual 105, 3) := by decide +kernel
theorem dL_turn_463 : decode cL_turn 463 = .ok (.ireturn, 1) := by decide +kernel
theorem dL_turn_464 : decode cL_turn 464 = .ok (.iload_n 2, 1) := by decide +kernel
theorem dL_turn_465 : decode cL_turn 465 = .ok (.iconst 1, 1) := by decide +kernel
theorem dL_turn_466 : decode cL_turn 466 = .ok (.iand, 1) := by decide +kernel
theorem dL_turn_467 : decode cL_turn 467 = .ok (.ifCond .ne 24, 3) := by decide +kernel
theorem dL_turn_470 : decode cL_turn 470 = .ok (.aload_n 0, 1) := by decide +kernel
theorem dL_turn_471 : decode cL_turn 471 = .ok (.iconst 1, 1) := by decide +kernel
theorem dL_turn_472 : decode cL_turn 472 = .ok (.iload_n 2, 1) := by decide +kernel
theorem dL_turn_473 : decode cL_turn 473 = .ok (.iconst 1, 1) := by decide +kernel
theorem dL_turn_474 : decode cL_turn 474 = .ok (.ishr, 1) := by decide +kernel
theorem dL_turn_475 : decode cL_turn 475 = .ok (.iconst 3, 1) := by decide +kernel
theorem dL_turn_476 : decode cL_turn 476 = .ok (.invokestatic 117, 3) := by decide +kernel
theorem dL_turn_479 : decode cL_turn 479 = .ok (.iadd, 1) := by decide +kernel
theorem dL_turn_480 : decode cL_turn 480 = .ok (.iconst 1, 1) := by decide +kernel
theorem dL_turn_481 : decode cL_turn 481 = .ok (.iload_n 2, 1) := by decide +kernel
theorem dL_turn_482 : decode cL_turn 482 = .ok (.iconst 3, 1) := by decide +kernel
theorem dL_turn_483 : decode cL_turn 483 = .ok (.ishr, 1) := by decide +kernel
theorem dL_turn_484 : decode cL_turn 484 = .ok (.iadd, 1) := by decide +kernel
theorem dL_turn_485 : decode cL_turn 485 = .ok (.invokevirtual 108, 3) := by decide +kernel
theorem dL_turn_488 : decode cL_turn 488 = .ok (.goto 14, 3) := by decide +kernel
theorem dL_turn_491 : decode cL_turn 491 = .ok (.aload_n 0, 1) := by decide +kernel
theorem dL_turn_492 : decode cL_turn 492 = .ok (.iload_n 2, 1) := by decide +kernel
theorem dL_turn_493 : decode cL_turn 493 = .ok (.iconst 1, 1) := by decide +kernel
theorem dL_turn_494 : decode cL_turn 494 = .ok (.ishr, 1) := by decide +kernel
theorem dL_turn_495 : decode cL_turn 495 = .ok (.iconst 4, 1) := by decide +kernel
theorem dL_turn_496 : decode cL_turn 496 = .ok (.invokestatic 117, 3) := by decide +kernel
theorem dL_turn_499 : decode cL_turn 499 = .ok (.invokevirtual 99, 3) := by decide +kernel
theorem dL_turn_502 : decode cL_turn 502 = .ok (.ireturn, 1) := by decide +kernel
theorem dL_same_0 : decode cL_same 0 = .ok (.aload_n 0, 1) := by decide +kernel
theorem dL_same_1 : decode cL_same 1 = .ok (.invokevirtual 135, 3) := by decide +kernel
theorem dL_same_4 : decode cL_same 4 = .ok (.aload_n 1, 1) := by decide +kernel
theorem dL_same_5 : decode cL_same 5 = .ok (.invokevirtual 135, 3) := by decide +kernel
theorem dL_same_8 : decode cL_same 8 = .ok (.lcmp, 1) := by decide +kernel
theorem dL_same_9 : decode cL_same 9 = .ok (.ifCond .ne 53, 3) := by decide +kernel
theorem dL_same_12 : decode cL_same 12 = .ok (.aload_n 0, 1) := by decide +kernel
theorem dL_same_13 : decode cL_same 13 = .ok (.invokevirtual 139, 3) := by decide +kernel
theorem dL_same_16 : decode cL_same 16 = .ok (.aload_n 1, 1) := by decide +kernel
theorem dL_same_17 : decode cL_same 17 = .ok (.invokevirtual 139, 3) := by decide +kernel
theorem dL_same_20 : decode cL_same 20 = .ok (.if_icmp .ne 42, 3) := by decide +kernel
theorem dL_same_23 : decode cL_same 23 = .ok (.aload_n 0, 1) := by decide +kernel
theorem dL_same_24 : decode cL_same 24 = .ok (.invokevirtual 142, 3) := by decide +kernel
theorem dL_same_27 : decode cL_same 27 = .ok (.aload_n 1, 1) := by decide +kernel
theorem dL_same_28 : decode cL_same 28 = .ok (.invokevirtual 142, 3) := by decide +kernel
theorem dL_same_31 : decode cL_same 31 = .ok (.lcmp, 1) := by decide +kernel
theorem dL_same_32 : decode cL_same 32 = .ok (.ifCond .ne 30, 3) := by decide +kernel
theorem dL_same_35 : decode cL_same 35 = .ok (.aload_n 0, 1) := by decide +kernel
theorem dL_same_36 : decode cL_same 36 = .ok (.invokevirtual 145, 3) := by decide +kernel
theorem dL_same_39 : decode cL_same 39 = .ok (.aload_n 1, 1) := by decide +kernel
theorem dL_same_40 : decode cL_same 40 = .ok (.invokevirtual 145, 3) := by decide +kernel
theorem dL_same_43 : decode cL_same 43 = .ok (.lcmp, 1) := by decide +kernel
theorem dL_same_44 : decode cL_same 44 = .ok (.ifCond .ne 18, 3) := by decide +kernel
theorem dL_same_47 : decode cL_same 47 = .ok (.aload_n 0, 1) := by decide +kernel
theorem dL_same_48 : decode cL_same 48 = .ok (.invokevirtual 148, 3) := by decide +kernel
theorem dL_same_51 : decode cL_same 51 = .ok (.aload_n 1, 1) := by decide +kernel
theorem dL_same_52 : decode cL_same 52 = .ok (.invokevirtual 148, 3) := by decide +kernel
theorem dL_same_55 : decode cL_same 55 = .ok (.if_icmp .ne 7, 3) := by decide +kernel
theorem dL_same_58 : decode cL_same 58 = .ok (.iconst 1, 1) := by decide +kernel
theorem dL_same_59 : decode cL_same 59 = .ok (.goto 4, 3) := by decide +kernel
theorem dL_same_62 : decode cL_same 62 = .ok (.iconst 0, 1) := by decide +kernel
theorem dL_same_63 : decode cL_same 63 = .ok (.ireturn, 1) := by decide +kernel
theorem dL_law_0 : decode cL_law 0 = .ok (.new 10, 3) := by decide +kernel
theorem dL_law_3 : decode cL_law 3 = .ok (.dup, 1) := by decide +kernel
theorem dL_law_4 : decode cL_law 4 = .ok (.invokespecial 151, 3) := by decide +kernel
theorem dL_law_7 : decode cL_law 7 = .ok (.astore_n 1, 1) := by decide +kernel
theorem dL_law_8 : decode cL_law 8 = .ok (.new 10, 3) := by decide +kernel
theorem dL_law_11 : decode cL_law 11 = .ok (.dup, 1) := by decide +kernel
theorem dL_law_12 : decode cL_law 12 = .ok (.invokespecial 151, 3) := by decide +kernel
theorem dL_law_15 : decode cL_law 15 = .ok (.astore_n 2, 1) := by decide +kernel
theorem dL_law_16 : decode cL_law 16 = .ok (.aload_n 1, 1) := by decide +kernel
theorem dL_law_17 : decode cL_law 17 = .ok (.invokestatic 122, 3) := by decide +kernel
theorem dL_law_20 : decode cL_law 20 = .ok (.ifCond .eq 14, 3) := by decide +kernel
theorem dL_law_23 : decode cL_law 23 = .ok (.aload_n 2, 1) := by decide +kernel
theorem dL_law_24 : decode cL_law 24 = .ok (.invokestatic 122, 3) := by decide +kernel
theorem dL_law_27 : decode cL_law 27 = .ok (.ifCond .eq 7, 3) := by decide +kernel
theorem dL_law_30 : decode cL_law 30 = .ok (.iconst 1, 1) := by decide +kernel
theorem dL_law_31 : decode cL_law 31 = .ok (.goto 4, 3) := by decide +kernel
theorem dL_law_34 : decode cL_law 34 = .ok (.iconst 0, 1) := by decide +kernel
theorem dL_law_35 : decode cL_law 35 = .ok (.istore_n 3, 1) := by decide +kernel
theorem dL_law_36 : decode cL_law 36 = .ok (.iconst 0, 1) := by decide +kernel
theorem dL_law_37 : decode cL_law 37 = .ok (.istore 4, 2) := by decide +kernel
theorem dL_law_39 : decode cL_law 39 = .ok (.iload 4, 2) := by decide +kernel
theorem dL_law_41 : decode cL_law 41 = .ok (.bipush 20, 2) := by decide +kernel
theorem dL_law_43 : decode cL_law 43 = .ok (.if_icmp .ge 260, 3) := by decide +kernel
theorem dL_law_46 : decode cL_law 46 = .ok (.iload_n 3, 1) := by decide +kernel
theorem dL_law_47 : decode cL_law 47 = .ok (.ifCond .eq 256, 3) := by decide +kernel
theorem dL_law_50 : decode cL_law 50 = .ok (.aload_n 0, 1) := by decide +kernel
theorem dL_law_51 : decode cL_law 51 = .ok (.iload 4, 2) := by decide +kernel
theorem dL_law_53 : decode cL_law 53 = .ok (.invokestatic 152, 3) := by decide +kernel
theorem dL_law_56 : decode cL_law 56 = .ok (.istore 5, 2) := by decide +kernel
theorem dL_law_58 : decode cL_law 58 = .ok (.aload_n 2, 1) := by decide +kernel
theorem dL_law_59 : decode cL_law 59 = .ok (.iload 5, 2) := by decide +kernel
theorem dL_law_61 : decode cL_law 61 = .ok (.bipush 6, 2) := by decide +kernel
theorem dL_law_63 : decode cL_law 63 = .ok (.ishr, 1) := by decide +kernel
theorem dL_law_64 : decode cL_law 64 = .ok (.invokestatic 156, 3) := by decide +kernel
theorem dL_law_67 : decode cL_law 67 = .ok (.ifCond .eq 30, 3) := by decide +kernel
theorem dL_law_70 : decode cL_law 70 = .ok (.aload_n 1, 1) := by decide +kernel
theorem dL_law_71 : decode cL_law 71 = .ok (.iload 5, 2) := by decide +kernel
theorem dL_law_73 : decode cL_law 73 = .ok (.invokestatic 160, 3) := by decide +kernel
theorem dL_law_76 : decode cL_law 76 = .ok (.aload_n 2, 1) := by decide +kernel
theorem dL_law_77 : decode cL_law 77 = .ok (.iload 5, 2) := by decide +kernel
theorem dL_law_79 : decode cL_law 79 = .ok (.invokestatic 160, 3) := by decide +kernel
theorem dL_law_82 : decode cL_law 82 = .ok (.if_icmp .ne 15, 3) := by decide +kernel
theorem dL_law_85 : decode cL_law 85 = .ok (.aload_n 1, 1) := by decide +kernel
theorem dL_law_86 : decode cL_law 86 = .ok (.aload_n 2, 1) := by decide +kernel
theorem dL_law_87 : decode cL_law 87 = .ok (.invokestatic 164, 3) := by decide +kernel
theorem dL_law_90 : decode cL_law 90 = .ok (.ifCond .eq 7, 3) := by decide +kernel
theorem dL_law_93 : decode cL_law 93 = .ok (.iconst 1, 1) := by decide +kernel
theorem dL_law_94 : decode cL_law 94 = .ok (.goto 4, 3) := by decide +kernel
theorem dL_law_97 : decode cL_law 97 = .ok (.iconst 0, 1) := by decide +kernel
theorem dL_law_98 : decode cL_law 98 = .ok (.istore_n 3, 1) := by decide +kernel
theorem dL_law_99 : decode cL_law 99 = .ok (.aload_n 2, 1) := by decide +kernel
theorem dL_law_100 : decode cL_law 100 = .ok (.iconst 2, 1) := by decide +kernel
theorem dL_law_101 : decode cL_law 101 = .ok (.invokevirtual 111, 3) := by decide +kernel
theorem dL_law_104 : decode cL_law 104 = .ok (.istore 6, 2) := by decide +kernel
theorem dL_law_106 : decode cL_law 106 = .ok (.iload 6, 2) := by decide +kernel
theorem dL_law_108 : decode cL_law 108 = .ok (.bipush 36, 2) := by decide +kernel
theorem dL_law_110 : decode cL_law 110 = .ok (.if_icmp .ge 187, 3) := by decide +kernel
theorem dL_law_113 : decode cL_law 113 = .ok (.iload_n 3, 1) := by decide +kernel
theorem dL_law_114 : decode cL_law 114 = .ok (.ifCond .eq 183, 3) := by decide +kernel
theorem dL_law_117 : decode cL_law 117 = .ok (.aload_n 2, 1) := by decide +kernel
theorem dL_law_118 : decode cL_law 118 = .ok (.invokevirtual 135, 3) := by decide +kernel
theorem dL_law_121 : decode cL_law 121 = .ok (.lstore 7, 2) := by decide +kernel
theorem dL_law_123 : decode cL_law 123 = .ok (.aload_n 2, 1) := by decide +kernel
theorem dL_law_124 : decode cL_law 124 = .ok (.iload 5, 2) := by decide +kernel
theorem dL_law_126 : decode cL_law 126 = .ok (.iconst 5, 1) := by decide +kernel
theorem dL_law_127 : decode cL_law 127 = .ok (.ishr, 1) := by decide +kernel
theorem dL_law_128 : decode cL_law 128 = .ok (.bipush 6, 2) := by decide +kernel
theorem dL_law_130 : decode cL_law 130 = .ok (.invokestatic 117, 3) := by decide +kernel
theorem dL_law_133 : decode cL_law 133 = .ok (.iload 5, 2) := by decide +kernel
theorem dL_law_135 : decode cL_law 135 = .ok (.bipush 8, 2) := by decide +kernel
theorem dL_law_137 : decode cL_law 137 = .ok (.ishr, 1) := by decide +kernel
theorem dL_law_138 : decode cL_law 138 = .ok (.bipush 6, 2) := by decide +kernel
theorem dL_law_140 : decode cL_law 140 = .ok (.invokestatic 117, 3) := by decide +kernel
theorem dL_law_143 : decode cL_law 143 = .ok (.invokevirtual 54, 3) := by decide +kernel
theorem dL_law_146 : decode cL_law 146 = .ok (.pop, 1) := by decide +kernel
theorem dL_law_147 : decode cL_law 147 = .ok (.aload_n 2, 1) := by decide +kernel
theorem dL_law_148 : decode cL_law 148 = .ok (.iload 5, 2) := by decide +kernel
theorem dL_law_150 : decode cL_law 150 = .ok (.bipush 11, 2) := by decide +kernel
theorem dL_law_152 : decode cL_law 152 = .ok (.ishr, 1) := by decide +kernel
theorem dL_law_153 : decode cL_law 153 = .ok (.bipush 6, 2) := by decide +kernel
theorem dL_law_155 : decode cL_law 155 = .ok (.invokestatic 117, 3) := by decide +kernel
theorem dL_law_158 : decode cL_law 158 = .ok (.invokevirtual 57, 3) := by decide +kernel
theorem dL_law_161 : decode cL_law 161 = .ok (.pop, 1) := by decide +kernel
theorem dL_law_162 : decode cL_law 162 = .ok (.aload_n 2, 1) := by decide +kernel
theorem dL_law_163 : decode cL_law 163 = .ok (.iload 5, 2) := by decide +kernel
theorem dL_law_165 : decode cL_law 165 = .ok (.bipush 14, 2) := by decide +kernel
theorem dL_law_167 : decode cL_law 167 = .ok (.ishr, 1) := by decide +kernel
theorem dL_law_168 : decode cL_law 168 = .ok (.bipush 6, 2) := by decide +kernel
theorem dL_law_170 : decode cL_law 170 = .ok (.invokestatic 117, 3) := by decide +kernel
theorem dL_law_173 : decode cL_law 173 = .ok (.invokevirtual 63, 3) := by decide +kernel
theorem dL_law_176 : decode cL_law 176 = .ok (.pop, 1) := by decide +kernel
theorem dL_law_177 : decode cL_law 177 = .ok (.aload_n 2, 1) := by decide +kernel
theorem dL_law_178 : decode cL_law 178 = .ok (.iconst 2, 1) := by decide +kernel
theorem dL_law_179 : decode cL_law 179 = .ok (.invokevirtual 111, 3) := by decide +kernel
theorem dL_law_182 : decode cL_law 182 = .ok (.iload 6, 2) := by decide +kernel
theorem dL_law_184 : decode cL_law 184 = .ok (.isub, 1) := by decide +kernel
theorem dL_law_185 : decode cL_law 185 = .ok (.istore 9, 2) := by decide +kernel
theorem dL_law_187 : decode cL_law 187 = .ok (.aload_n 2, 1) := by decide +kernel
theorem dL_law_188 : decode cL_law 188 = .ok (.iload 6, 2) := by decide +kernel
theorem dL_law_190 : decode cL_law 190 = .ok (.invokevirtual 66, 3) := by decide +kernel
theorem dL_law_193 : decode cL_law 193 = .ok (.iload 9, 2) := by decide +kernel
theorem dL_law_195 : decode cL_law 195 = .ok (.if_icmp .ne 35, 3) := by decide +kernel
theorem dL_law_198 : decode cL_law 198 = .ok (.aload_n 2, 1) := by decide +kernel
theorem dL_law_199 : decode cL_law 199 = .ok (.iconst 2, 1) := by decide +kernel
theorem dL_law_200 : decode cL_law 200 = .ok (.invokevirtual 111, 3) := by decide +kernel
theorem dL_law_203 : decode cL_law 203 = .ok (.iload 6, 2) := by decide +kernel
theorem dL_law_205 : decode cL_law 205 = .ok (.if_icmp .ne 25, 3) := by decide +kernel
theorem dL_law_208 : decode cL_law 208 = .ok (.aload_n 2, 1) := by decide +kernel
theorem dL_law_209 : decode cL_law 209 = .ok (.invokevirtual 135, 3) := by decide +kernel
theorem dL_law_212 : decode cL_law 212 = .ok (.lload 7, 2) := by decide +kernel
theorem dL_law_214 : decode cL_law 214 = .ok (.lcmp, 1) := by decide +kernel
theorem dL_law_215 : decode cL_law 215 = .ok (.ifCond .ne 15, 3) := by decide +kernel
theorem dL_law_218 : decode cL_law 218 = .ok (.aload_n 1, 1) := by decide +kernel
theorem dL_law_219 : decode cL_law 219 = .ok (.aload_n 2, 1) := by decide +kernel
theorem dL_law_220 : decode cL_law 220 = .ok (.invokestatic 164, 3) := by decide +kernel
theorem dL_law_223 : decode cL_law 223 = .ok (.ifCond .eq 7, 3) := by decide +kernel
theorem dL_law_226 : decode cL_law 226 = .ok (.iconst 1, 1) := by decide +kernel
theorem dL_law_227 : decode cL_law 227 = .ok (.goto 4, 3) := by decide +kernel
theorem dL_law_230 : decode cL_law 230 = .ok (.iconst 0, 1) := by decide +kernel
theorem dL_law_231 : decode cL_law 231 = .ok (.istore_n 3, 1) := by decide +kernel
theorem dL_law_232 : decode cL_law 232 = .ok (.iload_n 3, 1) := by decide +kernel
theorem dL_law_233 : decode cL_law 233 = .ok (.ifCond .eq 62, 3) := by decide +kernel
theorem dL_law_236 : decode cL_law 236 = .ok (.aload_n 2, 1) := by decide +kernel
theorem dL_law_237 : decode cL_law 237 = .ok (.iconst 2, 1) := by decide +kernel
theorem dL_law_238 : decode cL_law 238 = .ok (.invokevirtual 69, 3) := by decide +kernel
theorem dL_law_241 : decode cL_law 241 = .ok (.iload 6, 2) := by decide +kernel
theorem dL_law_243 : decode cL_law 243 = .ok (.if_icmp .ne 52, 3) := by decide +kernel
theorem dL_law_246 : decode cL_law 246 = .ok (.aload_n 2, 1) := by decide +kernel
theorem dL_law_247 : decode cL_law 247 = .ok (.iconst 2, 1) := by decide +kernel
theorem dL_law_248 : decode cL_law 248 = .ok (.iconst 1, 1) := by decide +kernel
theorem dL_law_249 : decode cL_law 249 = .ok (.iload 5, 2) := by decide +kernel
theorem dL_law_251 : decode cL_law 251 = .ok (.iconst 3, 1) := by decide +kernel
theorem dL_law_252 : decode cL_law 252 = .ok (.ishr, 1) := by decide +kernel
theorem dL_law_253 : decode cL_law 253 = .ok (.ldc 168, 2) := by decide +kernel
theorem dL_law_255 : decode cL_law 255 = .ok (.iand, 1) := by decide +kernel
theorem dL_law_256 : decode cL_law 256 = .ok (.iadd, 1) := by decide +kernel
theorem dL_law_257 : decode cL_law 257 = .ok (.invokevirtual 108, 3) := by decide +kernel
theorem dL_law_260 : decode cL_law 260 = .ok (.ifCond .lt 35, 3) := by decide +kernel
theorem dL_law_263 : decode cL_law 263 = .ok (.aload_n 2, 1) := by decide +kernel
theorem dL_law_264 : decode cL_law 264 = .ok (.iconst 2, 1) := by decide +kernel
theorem dL_law_265 : decode cL_law 265 = .ok (.invokevirtual 72, 3) := by decide +kernel
theorem dL_law_268 : decode cL_law 268 = .ok (.iload 6, 2) := by decide +kernel
theorem dL_law_270 : decode cL_law 270 = .ok (.if_icmp .ne 25, 3) := by decide +kernel
theorem dL_law_273 : decode cL_law 273 = .ok (.aload_n 1, 1) := by decide +kernel
theorem dL_law_274 : decode cL_law 274 = .ok (.iconst 2, 1) := by decide +kernel
theorem dL_law_275 : decode cL_law 275 = .ok (.invokevirtual 69, 3) := by decide +kernel
theorem dL_law_278 : decode cL_law 278 = .ok (.iload 6, 2) := by decide +kernel
theorem dL_law_280 : decode cL_law 280 = .ok (.if_icmp .ne 15, 3) := by decide +kernel
theorem dL_law_283 : decode cL_law 283 = .ok (.aload_n 1, 1) := by decide +kernel
theorem dL_law_284 : decode cL_law 284 = .ok (.aload_n 2, 1) := by decide +kernel
theorem dL_law_285 : decode cL_law 285 = .ok (.invokestatic 164, 3) := by decide +kernel
theorem dL_law_288 : decode cL_law 288 = .ok (.ifCond .eq 7, 3) := by decide +kernel
theorem dL_law_291 : decode cL_law 291 = .ok (.iconst 1, 1) := by decide +kernel
theorem dL_law_292 : decode cL_law 292 = .ok (.goto 4, 3) := by decide +kernel
theorem dL_law_295 : decode cL_law 295 = .ok (.iconst 0, 1) := by decide +kernel
theorem dL_law_296 : decode cL_law 296 = .ok (.istore_n 3, 1) := by decide +kernel
theorem dL_law_297 : decode cL_law 297 = .ok (.iinc 4 1, 3) := by decide +kernel
theorem dL_law_300 : decode cL_law 300 = .ok (.goto (-261), 3) := by decide +kernel
theorem dL_law_303 : decode cL_law 303 = .ok (.iload_n 3, 1) := by decide +kernel
theorem dL_law_304 : decode cL_law 304 = .ok (.ifCond .eq 18, 3) := by decide +kernel
theorem dL_law_307 : decode cL_law 307 = .ok (.aload_n 1, 1) := by decide +kernel
theorem dL_law_308 : decode cL_law 308 = .ok (.invokevirtual 132, 3) := by decide +kernel
theorem dL_law_311 : decode cL_law 311 = .ok (.aload_n 2, 1) := by decide +kernel
theorem dL_law_312 : decode cL_law 312 = .ok (.invokevirtual 132, 3) := by decide +kernel
theorem dL_law_315 : decode cL_law 315 = .ok (.if_icmp .ne 7, 3) := by decide +kernel
theorem dL_law_318 : decode cL_law 318 = .ok (.iconst 1, 1) := by decide +kernel
theorem dL_law_319 : decode cL_law 319 = .ok (.goto 4, 3) := by decide +kernel
theorem dL_law_322 : decode cL_law 322 = .ok (.iconst 0, 1) := by decide +kernel
theorem dL_law_323 : decode cL_law 323 = .ok (.ireturn, 1) := by decide +kernel
