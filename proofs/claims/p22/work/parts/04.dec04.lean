theorem dL_wells_1055 : decode cL_wells 1055 = .ok (.lastore, 1) := by decide +kernel
theorem dL_wells_1056 : decode cL_wells 1056 = .ok (.iinc 19 1, 3) := by decide +kernel
theorem dL_wells_1059 : decode cL_wells 1059 = .ok (.goto (-101), 3) := by decide +kernel
theorem dL_wells_1062 : decode cL_wells 1062 = .ok (.return_, 1) := by decide +kernel
theorem dL_ground_0 : decode cL_ground 0 = .ok (.iconst 0, 1) := by decide +kernel
theorem dL_ground_1 : decode cL_ground 1 = .ok (.istore 10, 2) := by decide +kernel
theorem dL_ground_3 : decode cL_ground 3 = .ok (.iload 10, 2) := by decide +kernel
theorem dL_ground_5 : decode cL_ground 5 = .ok (.bipush 12, 2) := by decide +kernel
theorem dL_ground_7 : decode cL_ground 7 = .ok (.if_icmp .ge 108, 3) := by decide +kernel
theorem dL_ground_10 : decode cL_ground 10 = .ok (.aload_n 3, 1) := by decide +kernel
theorem dL_ground_11 : decode cL_ground 11 = .ok (.iload 10, 2) := by decide +kernel
theorem dL_ground_13 : decode cL_ground 13 = .ok (.laload, 1) := by decide +kernel
theorem dL_ground_14 : decode cL_ground 14 = .ok (.ldc2_w 52, 3) := by decide +kernel
theorem dL_ground_17 : decode cL_ground 17 = .ok (.lcmp, 1) := by decide +kernel
theorem dL_ground_18 : decode cL_ground 18 = .ok (.ifCond .le 76, 3) := by decide +kernel
theorem dL_ground_21 : decode cL_ground 21 = .ok (.aload 9, 2) := by decide +kernel
theorem dL_ground_23 : decode cL_ground 23 = .ok (.iconst 4, 1) := by decide +kernel
theorem dL_ground_24 : decode cL_ground 24 = .ok (.iaload, 1) := by decide +kernel
theorem dL_ground_25 : decode cL_ground 25 = .ok (.bipush 20, 2) := by decide +kernel
theorem dL_ground_27 : decode cL_ground 27 = .ok (.if_icmp .ge 49, 3) := by decide +kernel
theorem dL_ground_30 : decode cL_ground 30 = .ok (.aload 8, 2) := by decide +kernel
theorem dL_ground_32 : decode cL_ground 32 = .ok (.iconst 3, 1) := by decide +kernel
theorem dL_ground_33 : decode cL_ground 33 = .ok (.aload 9, 2) := by decide +kernel
theorem dL_ground_35 : decode cL_ground 35 = .ok (.iconst 4, 1) := by decide +kernel
theorem dL_ground_36 : decode cL_ground 36 = .ok (.iaload, 1) := by decide +kernel
theorem dL_ground_37 : decode cL_ground 37 = .ok (.imul, 1) := by decide +kernel
theorem dL_ground_38 : decode cL_ground 38 = .ok (.aload 9, 2) := by decide +kernel
theorem dL_ground_40 : decode cL_ground 40 = .ok (.iconst 0, 1) := by decide +kernel
theorem dL_ground_41 : decode cL_ground 41 = .ok (.iaload, 1) := by decide +kernel
theorem dL_ground_42 : decode cL_ground 42 = .ok (.iastore, 1) := by decide +kernel
theorem dL_ground_43 : decode cL_ground 43 = .ok (.aload 8, 2) := by decide +kernel
theorem dL_ground_45 : decode cL_ground 45 = .ok (.iconst 3, 1) := by decide +kernel
theorem dL_ground_46 : decode cL_ground 46 = .ok (.aload 9, 2) := by decide +kernel
theorem dL_ground_48 : decode cL_ground 48 = .ok (.iconst 4, 1) := by decide +kernel
theorem dL_ground_49 : decode cL_ground 49 = .ok (.iaload, 1) := by decide +kernel
theorem dL_ground_50 : decode cL_ground 50 = .ok (.imul, 1) := by decide +kernel
theorem dL_ground_51 : decode cL_ground 51 = .ok (.iconst 1, 1) := by decide +kernel
theorem dL_ground_52 : decode cL_ground 52 = .ok (.iadd, 1) := by decide +kernel
theorem dL_ground_53 : decode cL_ground 53 = .ok (.iload 10, 2) := by decide +kernel
theorem dL_ground_55 : decode cL_ground 55 = .ok (.iastore, 1) := by decide +kernel
theorem dL_ground_56 : decode cL_ground 56 = .ok (.aload 8, 2) := by decide +kernel
theorem dL_ground_58 : decode cL_ground 58 = .ok (.iconst 3, 1) := by decide +kernel
theorem dL_ground_59 : decode cL_ground 59 = .ok (.aload 9, 2) := by decide +kernel
theorem dL_ground_61 : decode cL_ground 61 = .ok (.iconst 4, 1) := by decide +kernel
theorem dL_ground_62 : decode cL_ground 62 = .ok (.iaload, 1) := by decide +kernel
theorem dL_ground_63 : decode cL_ground 63 = .ok (.imul, 1) := by decide +kernel
theorem dL_ground_64 : decode cL_ground 64 = .ok (.iconst 2, 1) := by decide +kernel
theorem dL_ground_65 : decode cL_ground 65 = .ok (.iadd, 1) := by decide +kernel
theorem dL_ground_66 : decode cL_ground 66 = .ok (.aload_n 3, 1) := by decide +kernel
theorem dL_ground_67 : decode cL_ground 67 = .ok (.iload 10, 2) := by decide +kernel
theorem dL_ground_69 : decode cL_ground 69 = .ok (.laload, 1) := by decide +kernel
theorem dL_ground_70 : decode cL_ground 70 = .ok (.ldc2_w 54, 3) := by decide +kernel
theorem dL_ground_73 : decode cL_ground 73 = .ok (.ldiv, 1) := by decide +kernel
theorem dL_ground_74 : decode cL_ground 74 = .ok (.l2i, 1) := by decide +kernel
theorem dL_ground_75 : decode cL_ground 75 = .ok (.iastore, 1) := by decide +kernel
theorem dL_ground_76 : decode cL_ground 76 = .ok (.aload 9, 2) := by decide +kernel
theorem dL_ground_78 : decode cL_ground 78 = .ok (.iconst 4, 1) := by decide +kernel
theorem dL_ground_79 : decode cL_ground 79 = .ok (.dup2, 1) := by decide +kernel
theorem dL_ground_80 : decode cL_ground 80 = .ok (.iaload, 1) := by decide +kernel
theorem dL_ground_81 : decode cL_ground 81 = .ok (.iconst 1, 1) := by decide +kernel
theorem dL_ground_82 : decode cL_ground 82 = .ok (.iadd, 1) := by decide +kernel
theorem dL_ground_83 : decode cL_ground 83 = .ok (.iastore, 1) := by decide +kernel
theorem dL_ground_84 : decode cL_ground 84 = .ok (.aload_n 3, 1) := by decide +kernel
theorem dL_ground_85 : decode cL_ground 85 = .ok (.iload 10, 2) := by decide +kernel
theorem dL_ground_87 : decode cL_ground 87 = .ok (.dup2, 1) := by decide +kernel
theorem dL_ground_88 : decode cL_ground 88 = .ok (.laload, 1) := by decide +kernel
theorem dL_ground_89 : decode cL_ground 89 = .ok (.ldc2_w 50, 3) := by decide +kernel
theorem dL_ground_92 : decode cL_ground 92 = .ok (.ldiv, 1) := by decide +kernel
theorem dL_ground_93 : decode cL_ground 93 = .ok (.lastore, 1) := by decide +kernel
theorem dL_ground_94 : decode cL_ground 94 = .ok (.aload_n 3, 1) := by decide +kernel
theorem dL_ground_95 : decode cL_ground 95 = .ok (.iload 10, 2) := by decide +kernel
theorem dL_ground_97 : decode cL_ground 97 = .ok (.dup2, 1) := by decide +kernel
theorem dL_ground_98 : decode cL_ground 98 = .ok (.laload, 1) := by decide +kernel
theorem dL_ground_99 : decode cL_ground 99 = .ok (.aload_n 3, 1) := by decide +kernel
theorem dL_ground_100 : decode cL_ground 100 = .ok (.iload 10, 2) := by decide +kernel
theorem dL_ground_102 : decode cL_ground 102 = .ok (.laload, 1) := by decide +kernel
theorem dL_ground_103 : decode cL_ground 103 = .ok (.ldc2_w 28, 3) := by decide +kernel
theorem dL_ground_106 : decode cL_ground 106 = .ok (.ldiv, 1) := by decide +kernel
theorem dL_ground_107 : decode cL_ground 107 = .ok (.lsub, 1) := by decide +kernel
theorem dL_ground_108 : decode cL_ground 108 = .ok (.lastore, 1) := by decide +kernel
theorem dL_ground_109 : decode cL_ground 109 = .ok (.iinc 10 1, 3) := by decide +kernel
theorem dL_ground_112 : decode cL_ground 112 = .ok (.goto (-109), 3) := by decide +kernel
theorem dL_ground_115 : decode cL_ground 115 = .ok (.bipush 12, 2) := by decide +kernel
theorem dL_ground_117 : decode cL_ground 117 = .ok (.newarray .long, 2) := by decide +kernel
theorem dL_ground_119 : decode cL_ground 119 = .ok (.astore 10, 2) := by decide +kernel
theorem dL_ground_121 : decode cL_ground 121 = .ok (.bipush 12, 2) := by decide +kernel
theorem dL_ground_123 : decode cL_ground 123 = .ok (.newarray .long, 2) := by decide +kernel
theorem dL_ground_125 : decode cL_ground 125 = .ok (.astore 11, 2) := by decide +kernel
theorem dL_ground_127 : decode cL_ground 127 = .ok (.bipush 12, 2) := by decide +kernel
theorem dL_ground_129 : decode cL_ground 129 = .ok (.newarray .long, 2) := by decide +kernel
theorem dL_ground_131 : decode cL_ground 131 = .ok (.astore 12, 2) := by decide +kernel
theorem dL_ground_133 : decode cL_ground 133 = .ok (.iconst 0, 1) := by decide +kernel
theorem dL_ground_134 : decode cL_ground 134 = .ok (.istore 13, 2) := by decide +kernel
theorem dL_ground_136 : decode cL_ground 136 = .ok (.iload 13, 2) := by decide +kernel
theorem dL_ground_138 : decode cL_ground 138 = .ok (.bipush 12, 2) := by decide +kernel
theorem dL_ground_140 : decode cL_ground 140 = .ok (.if_icmp .ge 223, 3) := by decide +kernel
theorem dL_ground_143 : decode cL_ground 143 = .ok (.aload 10, 2) := by decide +kernel
theorem dL_ground_145 : decode cL_ground 145 = .ok (.iload 13, 2) := by decide +kernel
theorem dL_ground_147 : decode cL_ground 147 = .ok (.aload_n 0, 1) := by decide +kernel
theorem dL_ground_148 : decode cL_ground 148 = .ok (.iload 13, 2) := by decide +kernel
theorem dL_ground_150 : decode cL_ground 150 = .ok (.laload, 1) := by decide +kernel
theorem dL_ground_151 : decode cL_ground 151 = .ok (.lastore, 1) := by decide +kernel
theorem dL_ground_152 : decode cL_ground 152 = .ok (.aload 11, 2) := by decide +kernel
theorem dL_ground_154 : decode cL_ground 154 = .ok (.iload 13, 2) := by decide +kernel
theorem dL_ground_156 : decode cL_ground 156 = .ok (.aload_n 1, 1) := by decide +kernel
theorem dL_ground_157 : decode cL_ground 157 = .ok (.iload 13, 2) := by decide +kernel
theorem dL_ground_159 : decode cL_ground 159 = .ok (.laload, 1) := by decide +kernel
theorem dL_ground_160 : decode cL_ground 160 = .ok (.lastore, 1) := by decide +kernel
theorem dL_ground_161 : decode cL_ground 161 = .ok (.aload 12, 2) := by decide +kernel
theorem dL_ground_163 : decode cL_ground 163 = .ok (.iload 13, 2) := by decide +kernel
theorem dL_ground_165 : decode cL_ground 165 = .ok (.aload_n 2, 1) := by decide +kernel
theorem dL_ground_166 : decode cL_ground 166 = .ok (.iload 13, 2) := by decide +kernel
theorem dL_ground_168 : decode cL_ground 168 = .ok (.laload, 1) := by decide +kernel
theorem dL_ground_169 : decode cL_ground 169 = .ok (.lastore, 1) := by decide +kernel
theorem dL_ground_170 : decode cL_ground 170 = .ok (.iconst 0, 1) := by decide +kernel
theorem dL_ground_171 : decode cL_ground 171 = .ok (.istore 14, 2) := by decide +kernel
theorem dL_ground_173 : decode cL_ground 173 = .ok (.iload 14, 2) := by decide +kernel
theorem dL_ground_175 : decode cL_ground 175 = .ok (.iconst 4, 1) := by decide +kernel
theorem dL_ground_176 : decode cL_ground 176 = .ok (.if_icmp .ge 181, 3) := by decide +kernel
theorem dL_ground_179 : decode cL_ground 179 = .ok (.iload 13, 2) := by decide +kernel
theorem dL_ground_181 : decode cL_ground 181 = .ok (.iload 14, 2) := by decide +kernel
theorem dL_ground_183 : decode cL_ground 183 = .ok (.invokestatic 10, 3) := by decide +kernel
theorem dL_ground_186 : decode cL_ground 186 = .ok (.istore 15, 2) := by decide +kernel
theorem dL_ground_188 : decode cL_ground 188 = .ok (.iload 15, 2) := by decide +kernel
theorem dL_ground_190 : decode cL_ground 190 = .ok (.ifCond .ge 7, 3) := by decide +kernel
theorem dL_ground_193 : decode cL_ground 193 = .ok (.lconst 0, 1) := by decide +kernel
theorem dL_ground_194 : decode cL_ground 194 = .ok (.goto 12, 3) := by decide +kernel
theorem dL_ground_197 : decode cL_ground 197 = .ok (.aload_n 0, 1) := by decide +kernel
theorem dL_ground_198 : decode cL_ground 198 = .ok (.iload 15, 2) := by decide +kernel
theorem dL_ground_200 : decode cL_ground 200 = .ok (.laload, 1) := by decide +kernel
theorem dL_ground_201 : decode cL_ground 201 = .ok (.aload_n 0, 1) := by decide +kernel
theorem dL_ground_202 : decode cL_ground 202 = .ok (.iload 13, 2) := by decide +kernel
theorem dL_ground_204 : decode cL_ground 204 = .ok (.laload, 1) := by decide +kernel
theorem dL_ground_205 : decode cL_ground 205 = .ok (.lsub, 1) := by decide +kernel
theorem dL_ground_206 : decode cL_ground 206 = .ok (.lstore 16, 2) := by decide +kernel
theorem dL_ground_208 : decode cL_ground 208 = .ok (.lload 16, 2) := by decide +kernel
theorem dL_ground_210 : decode cL_ground 210 = .ok (.lconst 0, 1) := by decide +kernel
theorem dL_ground_211 : decode cL_ground 211 = .ok (.lcmp, 1) := by decide +kernel
theorem dL_ground_212 : decode cL_ground 212 = .ok (.ifCond .le 8, 3) := by decide +kernel
theorem dL_ground_215 : decode cL_ground 215 = .ok (.iload 15, 2) := by decide +kernel
theorem dL_ground_217 : decode cL_ground 217 = .ok (.goto 5, 3) := by decide +kernel
theorem dL_ground_220 : decode cL_ground 220 = .ok (.iload 13, 2) := by decide +kernel
theorem dL_ground_222 : decode cL_ground 222 = .ok (.istore 18, 2) := by decide +kernel
theorem dL_ground_224 : decode cL_ground 224 = .ok (.lload 16, 2) := by decide +kernel
theorem dL_ground_226 : decode cL_ground 226 = .ok (.lconst 0, 1) := by decide +kernel
theorem dL_ground_227 : decode cL_ground 227 = .ok (.lcmp, 1) := by decide +kernel
theorem dL_ground_228 : decode cL_ground 228 = .ok (.ifCond .ne 7, 3) := by decide +kernel
theorem dL_ground_231 : decode cL_ground 231 = .ok (.lconst 0, 1) := by decide +kernel
theorem dL_ground_232 : decode cL_ground 232 = .ok (.goto 33, 3) := by decide +kernel
theorem dL_ground_235 : decode cL_ground 235 = .ok (.lload 16, 2) := by decide +kernel
theorem dL_ground_237 : decode cL_ground 237 = .ok (.lconst 0, 1) := by decide +kernel
theorem dL_ground_238 : decode cL_ground 238 = .ok (.lcmp, 1) := by decide +kernel
theorem dL_ground_239 : decode cL_ground 239 = .ok (.ifCond .le 8, 3) := by decide +kernel
theorem dL_ground_242 : decode cL_ground 242 = .ok (.lload 16, 2) := by decide +kernel
theorem dL_ground_244 : decode cL_ground 244 = .ok (.goto 6, 3) := by decide +kernel
theorem dL_ground_247 : decode cL_ground 247 = .ok (.lload 16, 2) := by decide +kernel
theorem dL_ground_249 : decode cL_ground 249 = .ok (.lneg, 1) := by decide +kernel
theorem dL_ground_250 : decode cL_ground 250 = .ok (.iload 13, 2) := by decide +kernel
theorem dL_ground_252 : decode cL_ground 252 = .ok (.iload 14, 2) := by decide +kernel
theorem dL_ground_254 : decode cL_ground 254 = .ok (.aload 4, 2) := by decide +kernel
theorem dL_ground_256 : decode cL_ground 256 = .ok (.invokestatic 56, 3) := by decide +kernel
theorem dL_ground_259 : decode cL_ground 259 = .ok (.i2l, 1) := by decide +kernel
theorem dL_ground_260 : decode cL_ground 260 = .ok (.lmul, 1) := by decide +kernel
theorem dL_ground_261 : decode cL_ground 261 = .ok (.ldc2_w 54, 3) := by decide +kernel
theorem dL_ground_264 : decode cL_ground 264 = .ok (.ldiv, 1) := by decide +kernel
theorem dL_ground_265 : decode cL_ground 265 = .ok (.lstore 19, 2) := by decide +kernel
theorem dL_ground_267 : decode cL_ground 267 = .ok (.lload 16, 2) := by decide +kernel
theorem dL_ground_269 : decode cL_ground 269 = .ok (.lconst 0, 1) := by decide +kernel
theorem dL_ground_270 : decode cL_ground 270 = .ok (.lcmp, 1) := by decide +kernel
theorem dL_ground_271 : decode cL_ground 271 = .ok (.ifCond .le 7, 3) := by decide +kernel
theorem dL_ground_274 : decode cL_ground 274 = .ok (.lconst 1, 1) := by decide +kernel
theorem dL_ground_275 : decode cL_ground 275 = .ok (.goto 6, 3) := by decide +kernel
theorem dL_ground_278 : decode cL_ground 278 = .ok (.ldc2_w 60, 3) := by decide +kernel
theorem dL_ground_281 : decode cL_ground 281 = .ok (.lstore 21, 2) := by decide +kernel
theorem dL_ground_283 : decode cL_ground 283 = .ok (.aload 10, 2) := by decide +kernel
theorem dL_ground_285 : decode cL_ground 285 = .ok (.iload 13, 2) := by decide +kernel
theorem dL_ground_287 : decode cL_ground 287 = .ok (.dup2, 1) := by decide +kernel
theorem dL_ground_288 : decode cL_ground 288 = .ok (.laload, 1) := by decide +kernel
theorem dL_ground_289 : decode cL_ground 289 = .ok (.lload 21, 2) := by decide +kernel
theorem dL_ground_291 : decode cL_ground 291 = .ok (.lload 19, 2) := by decide +kernel
theorem dL_ground_293 : decode cL_ground 293 = .ok (.lmul, 1) := by decide +kernel
theorem dL_ground_294 : decode cL_ground 294 = .ok (.ladd, 1) := by decide +kernel
theorem dL_ground_295 : decode cL_ground 295 = .ok (.lastore, 1) := by decide +kernel
theorem dL_ground_296 : decode cL_ground 296 = .ok (.aload 11, 2) := by decide +kernel
theorem dL_ground_298 : decode cL_ground 298 = .ok (.iload 13, 2) := by decide +kernel
theorem dL_ground_300 : decode cL_ground 300 = .ok (.dup2, 1) := by decide +kernel
theorem dL_ground_301 : decode cL_ground 301 = .ok (.laload, 1) := by decide +kernel
theorem dL_ground_302 : decode cL_ground 302 = .ok (.lload 21, 2) := by decide +kernel
theorem dL_ground_304 : decode cL_ground 304 = .ok (.lload 19, 2) := by decide +kernel
theorem dL_ground_306 : decode cL_ground 306 = .ok (.lmul, 1) := by decide +kernel
theorem dL_ground_307 : decode cL_ground 307 = .ok (.iload 18, 2) := by decide +kernel
theorem dL_ground_309 : decode cL_ground 309 = .ok (.aload_n 0, 1) := by decide +kernel
theorem dL_ground_310 : decode cL_ground 310 = .ok (.aload_n 1, 1) := by decide +kernel
theorem dL_ground_311 : decode cL_ground 311 = .ok (.invokestatic 18, 3) := by decide +kernel
theorem dL_ground_314 : decode cL_ground 314 = .ok (.lmul, 1) := by decide +kernel
theorem dL_ground_315 : decode cL_ground 315 = .ok (.ladd, 1) := by decide +kernel
theorem dL_ground_316 : decode cL_ground 316 = .ok (.lastore, 1) := by decide +kernel
theorem dL_ground_317 : decode cL_ground 317 = .ok (.aload 12, 2) := by decide +kernel
theorem dL_ground_319 : decode cL_ground 319 = .ok (.iload 13, 2) := by decide +kernel
theorem dL_ground_321 : decode cL_ground 321 = .ok (.dup2, 1) := by decide +kernel
theorem dL_ground_322 : decode cL_ground 322 = .ok (.laload, 1) := by decide +kernel
theorem dL_ground_323 : decode cL_ground 323 = .ok (.lload 19, 2) := by decide +kernel
theorem dL_ground_325 : decode cL_ground 325 = .ok (.lconst 0, 1) := by decide +kernel
theorem dL_ground_326 : decode cL_ground 326 = .ok (.lcmp, 1) := by decide +kernel
theorem dL_ground_327 : decode cL_ground 327 = .ok (.ifCond .ne 7, 3) := by decide +kernel
theorem dL_ground_330 : decode cL_ground 330 = .ok (.lconst 0, 1) := by decide +kernel
theorem dL_ground_331 : decode cL_ground 331 = .ok (.goto 18, 3) := by decide +kernel
theorem dL_ground_334 : decode cL_ground 334 = .ok (.lload 21, 2) := by decide +kernel
theorem dL_ground_336 : decode cL_ground 336 = .ok (.aload_n 2, 1) := by decide +kernel
theorem dL_ground_337 : decode cL_ground 337 = .ok (.iload 18, 2) := by decide +kernel
theorem dL_ground_339 : decode cL_ground 339 = .ok (.laload, 1) := by decide +kernel
theorem dL_ground_340 : decode cL_ground 340 = .ok (.lload 19, 2) := by decide +kernel
theorem dL_ground_342 : decode cL_ground 342 = .ok (.lmul, 1) := by decide +kernel
theorem dL_ground_343 : decode cL_ground 343 = .ok (.aload_n 0, 1) := by decide +kernel
theorem dL_ground_344 : decode cL_ground 344 = .ok (.iload 18, 2) := by decide +kernel
theorem dL_ground_346 : decode cL_ground 346 = .ok (.laload, 1) := by decide +kernel
theorem dL_ground_347 : decode cL_ground 347 = .ok (.ldiv, 1) := by decide +kernel
theorem dL_ground_348 : decode cL_ground 348 = .ok (.lmul, 1) := by decide +kernel
theorem dL_ground_349 : decode cL_ground 349 = .ok (.ladd, 1) := by decide +kernel
theorem dL_ground_350 : decode cL_ground 350 = .ok (.lastore, 1) := by decide +kernel
theorem dL_ground_351 : decode cL_ground 351 = .ok (.iinc 14 1, 3) := by decide +kernel
theorem dL_ground_354 : decode cL_ground 354 = .ok (.goto (-181), 3) := by decide +kernel
theorem dL_ground_357 : decode cL_ground 357 = .ok (.iinc 13 1, 3) := by decide +kernel
theorem dL_ground_360 : decode cL_ground 360 = .ok (.goto (-224), 3) := by decide +kernel
theorem dL_ground_363 : decode cL_ground 363 = .ok (.iconst 0, 1) := by decide +kernel
theorem dL_ground_364 : decode cL_ground 364 = .ok (.istore 13, 2) := by decide +kernel
theorem dL_ground_366 : decode cL_ground 366 = .ok (.iload 13, 2) := by decide +kernel
theorem dL_ground_368 : decode cL_ground 368 = .ok (.bipush 12, 2) := by decide +kernel
theorem dL_ground_370 : decode cL_ground 370 = .ok (.if_icmp .ge 119, 3) := by decide +kernel
theorem dL_ground_373 : decode cL_ground 373 = .ok (.aload_n 0, 1) := by decide +kernel
theorem dL_ground_374 : decode cL_ground 374 = .ok (.iload 13, 2) := by decide +kernel
theorem dL_ground_376 : decode cL_ground 376 = .ok (.iload 13, 2) := by decide +kernel
theorem dL_ground_378 : decode cL_ground 378 = .ok (.bipush 7, 2) := by decide +kernel
theorem dL_ground_380 : decode cL_ground 380 = .ok (.if_icmp .le 17, 3) := by decide +kernel
theorem dL_ground_383 : decode cL_ground 383 = .ok (.aload 10, 2) := by decide +kernel
theorem dL_ground_385 : decode cL_ground 385 = .ok (.iload 13, 2) := by decide +kernel
theorem dL_ground_387 : decode cL_ground 387 = .ok (.laload, 1) := by decide +kernel
theorem dL_ground_388 : decode cL_ground 388 = .ok (.aload 9, 2) := by decide +kernel
theorem dL_ground_390 : decode cL_ground 390 = .ok (.iconst 5, 1) := by decide +kernel
theorem dL_ground_391 : decode cL_ground 391 = .ok (.iaload, 1) := by decide +kernel
theorem dL_ground_392 : decode cL_ground 392 = .ok (.i2l, 1) := by decide +kernel
theorem dL_ground_393 : decode cL_ground 393 = .ok (.ladd, 1) := by decide +kernel
theorem dL_ground_394 : decode cL_ground 394 = .ok (.goto 8, 3) := by decide +kernel
theorem dL_ground_397 : decode cL_ground 397 = .ok (.aload 10, 2) := by decide +kernel
theorem dL_ground_399 : decode cL_ground 399 = .ok (.iload 13, 2) := by decide +kernel
theorem dL_ground_401 : decode cL_ground 401 = .ok (.laload, 1) := by decide +kernel
theorem dL_ground_402 : decode cL_ground 402 = .ok (.lastore, 1) := by decide +kernel
theorem dL_ground_403 : decode cL_ground 403 = .ok (.aload_n 1, 1) := by decide +kernel
theorem dL_ground_404 : decode cL_ground 404 = .ok (.iload 13, 2) := by decide +kernel
theorem dL_ground_406 : decode cL_ground 406 = .ok (.iload 13, 2) := by decide +kernel
theorem dL_ground_408 : decode cL_ground 408 = .ok (.bipush 7, 2) := by decide +kernel
theorem dL_ground_410 : decode cL_ground 410 = .ok (.if_icmp .le 21, 3) := by decide +kernel
theorem dL_ground_413 : decode cL_ground 413 = .ok (.aload 11, 2) := by decide +kernel
theorem dL_ground_415 : decode cL_ground 415 = .ok (.iload 13, 2) := by decide +kernel
theorem dL_ground_417 : decode cL_ground 417 = .ok (.laload, 1) := by decide +kernel
theorem dL_ground_418 : decode cL_ground 418 = .ok (.ldc2_w 62, 3) := by decide +kernel
theorem dL_ground_421 : decode cL_ground 421 = .ok (.aload 9, 2) := by decide +kernel
theorem dL_ground_423 : decode cL_ground 423 = .ok (.iconst 5, 1) := by decide +kernel
theorem dL_ground_424 : decode cL_ground 424 = .ok (.iaload, 1) := by decide +kernel
theorem dL_ground_425 : decode cL_ground 425 = .ok (.i2l, 1) := by decide +kernel
theorem dL_ground_426 : decode cL_ground 426 = .ok (.lmul, 1) := by decide +kernel
theorem dL_ground_427 : decode cL_ground 427 = .ok (.ladd, 1) := by decide +kernel
theorem dL_ground_428 : decode cL_ground 428 = .ok (.goto 8, 3) := by decide +kernel
theorem dL_ground_431 : decode cL_ground 431 = .ok (.aload 11, 2) := by decide +kernel
theorem dL_ground_433 : decode cL_ground 433 = .ok (.iload 13, 2) := by decide +kernel
theorem dL_ground_435 : decode cL_ground 435 = .ok (.laload, 1) := by decide +kernel
theorem dL_ground_436 : decode cL_ground 436 = .ok (.lastore, 1) := by decide +kernel
theorem dL_ground_437 : decode cL_ground 437 = .ok (.aload_n 2, 1) := by decide +kernel
theorem dL_ground_438 : decode cL_ground 438 = .ok (.iload 13, 2) := by decide +kernel
theorem dL_ground_440 : decode cL_ground 440 = .ok (.aload 12, 2) := by decide +kernel
theorem dL_ground_442 : decode cL_ground 442 = .ok (.iload 13, 2) := by decide +kernel
theorem dL_ground_444 : decode cL_ground 444 = .ok (.laload, 1) := by decide +kernel
theorem dL_ground_445 : decode cL_ground 445 = .ok (.lastore, 1) := by decide +kernel
theorem dL_ground_446 : decode cL_ground 446 = .ok (.ldc2_w 36, 3) := by decide +kernel
theorem dL_ground_449 : decode cL_ground 449 = .ok (.iload 13, 2) := by decide +kernel
theorem dL_ground_451 : decode cL_ground 451 = .ok (.aload_n 0, 1) := by decide +kernel
theorem dL_ground_452 : decode cL_ground 452 = .ok (.aload_n 1, 1) := by decide +kernel
theorem dL_ground_453 : decode cL_ground 453 = .ok (.invokestatic 18, 3) := by decide +kernel
theorem dL_ground_456 : decode cL_ground 456 = .ok (.lsub, 1) := by decide +kernel
theorem dL_ground_457 : decode cL_ground 457 = .ok (.lstore 14, 2) := by decide +kernel
theorem dL_ground_459 : decode cL_ground 459 = .ok (.aload_n 1, 1) := by decide +kernel
theorem dL_ground_460 : decode cL_ground 460 = .ok (.iload 13, 2) := by decide +kernel
theorem dL_ground_462 : decode cL_ground 462 = .ok (.dup2, 1) := by decide +kernel
theorem dL_ground_463 : decode cL_ground 463 = .ok (.laload, 1) := by decide +kernel
theorem dL_ground_464 : decode cL_ground 464 = .ok (.lload 14, 2) := by decide +kernel
theorem dL_ground_466 : decode cL_ground 466 = .ok (.lconst 0, 1) := by decide +kernel
theorem dL_ground_467 : decode cL_ground 467 = .ok (.lcmp, 1) := by decide +kernel
theorem dL_ground_468 : decode cL_ground 468 = .ok (.ifCond .le 12, 3) := by decide +kernel
theorem dL_ground_471 : decode cL_ground 471 = .ok (.ldc2_w 64, 3) := by decide +kernel
theorem dL_ground_474 : decode cL_ground 474 = .ok (.lload 14, 2) := by decide +kernel
theorem dL_ground_476 : decode cL_ground 476 = .ok (.lmul, 1) := by decide +kernel
theorem dL_ground_477 : decode cL_ground 477 = .ok (.goto 4, 3) := by decide +kernel
theorem dL_ground_480 : decode cL_ground 480 = .ok (.lconst 0, 1) := by decide +kernel
theorem dL_ground_481 : decode cL_ground 481 = .ok (.ladd, 1) := by decide +kernel
theorem dL_ground_482 : decode cL_ground 482 = .ok (.lastore, 1) := by decide +kernel
theorem dL_ground_483 : decode cL_ground 483 = .ok (.iinc 13 1, 3) := by decide +kernel
theorem dL_ground_486 : decode cL_ground 486 = .ok (.goto (-120), 3) := by decide +kernel
theorem dL_ground_489 : decode cL_ground 489 = .ok (.aload 7, 2) := by decide +kernel
theorem dL_ground_491 : decode cL_ground 491 = .ok (.iconst 4, 1) := by decide +kernel
theorem dL_ground_492 : decode cL_ground 492 = .ok (.dup2, 1) := by decide +kernel
theorem dL_ground_493 : decode cL_ground 493 = .ok (.laload, 1) := by decide +kernel
theorem dL_ground_494 : decode cL_ground 494 = .ok (.ldc2_w 66, 3) := by decide +kernel
theorem dL_ground_497 : decode cL_ground 497 = .ok (.aload 9, 2) := by decide +kernel
theorem dL_ground_499 : decode cL_ground 499 = .ok (.iconst 5, 1) := by decide +kernel
theorem dL_ground_500 : decode cL_ground 500 = .ok (.iaload, 1) := by decide +kernel
theorem dL_ground_501 : decode cL_ground 501 = .ok (.i2l, 1) := by decide +kernel
theorem dL_ground_502 : decode cL_ground 502 = .ok (.lmul, 1) := by decide +kernel
theorem dL_ground_503 : decode cL_ground 503 = .ok (.ladd, 1) := by decide +kernel
theorem dL_ground_504 : decode cL_ground 504 = .ok (.lastore, 1) := by decide +kernel
theorem dL_ground_505 : decode cL_ground 505 = .ok (.iconst 0, 1) := by decide +kernel
theorem dL_ground_506 : decode cL_ground 506 = .ok (.istore 13, 2) := by decide +kernel
theorem dL_ground_508 : decode cL_ground 508 = .ok (.iload 13, 2) := by decide +kernel
theorem dL_ground_510 : decode cL_ground 510 = .ok (.aload 9, 2) := by decide +kernel
theorem dL_ground_512 : decode cL_ground 512 = .ok (.iconst 2, 1) := by decide +kernel
theorem dL_ground_513 : decode cL_ground 513 = .ok (.iaload, 1) := by decide +kernel
theorem dL_ground_514 : decode cL_ground 514 = .ok (.if_icmp .ge 165, 3) := by decide +kernel
theorem dL_ground_517 : decode cL_ground 517 = .ok (.aload 5, 2) := by decide +kernel
theorem dL_ground_519 : decode cL_ground 519 = .ok (.iconst 5, 1) := by decide +kernel
theorem dL_ground_520 : decode cL_ground 520 = .ok (.iload 13, 2) := by decide +kernel
theorem dL_ground_522 : decode cL_ground 522 = .ok (.imul, 1) := by decide +kernel
theorem dL_ground_523 : decode cL_ground 523 = .ok (.iaload, 1) := by decide +kernel
theorem dL_ground_524 : decode cL_ground 524 = .ok (.istore 14, 2) := by decide +kernel
theorem dL_ground_526 : decode cL_ground 526 = .ok (.aload_n 0, 1) := by decide +kernel
theorem dL_ground_527 : decode cL_ground 527 = .ok (.iload 14, 2) := by decide +kernel
theorem dL_ground_529 : decode cL_ground 529 = .ok (.laload, 1) := by decide +kernel
theorem dL_ground_530 : decode cL_ground 530 = .ok (.aload 5, 2) := by decide +kernel
theorem dL_ground_532 : decode cL_ground 532 = .ok (.iconst 5, 1) := by decide +kernel
theorem dL_ground_533 : decode cL_ground 533 = .ok (.iload 13, 2) := by decide +kernel
theorem dL_ground_535 : decode cL_ground 535 = .ok (.imul, 1) := by decide +kernel
theorem dL_ground_536 : decode cL_ground 536 = .ok (.iconst 1, 1) := by decide +kernel
theorem dL_ground_537 : decode cL_ground 537 = .ok (.iadd, 1) := by decide +kernel
theorem dL_ground_538 : decode cL_ground 538 = .ok (.iaload, 1) := by decide +kernel
theorem dL_ground_539 : decode cL_ground 539 = .ok (.i2l, 1) := by decide +kernel
theorem dL_ground_540 : decode cL_ground 540 = .ok (.lcmp, 1) := by decide +kernel
theorem dL_ground_541 : decode cL_ground 541 = .ok (.ifCond .ge 7, 3) := by decide +kernel
theorem dL_ground_544 : decode cL_ground 544 = .ok (.lconst 0, 1) := by decide +kernel
theorem dL_ground_545 : decode cL_ground 545 = .ok (.goto 28, 3) := by decide +kernel
theorem dL_ground_548 : decode cL_ground 548 = .ok (.aload_n 0, 1) := by decide +kernel
theorem dL_ground_549 : decode cL_ground 549 = .ok (.iload 14, 2) := by decide +kernel
theorem dL_ground_551 : decode cL_ground 551 = .ok (.laload, 1) := by decide +kernel
theorem dL_ground_552 : decode cL_ground 552 = .ok (.ldc2_w 68, 3) := by decide +kernel
theorem dL_ground_555 : decode cL_ground 555 = .ok (.lcmp, 1) := by decide +kernel
theorem dL_ground_556 : decode cL_ground 556 = .ok (.ifCond .le 9, 3) := by decide +kernel
theorem dL_ground_559 : decode cL_ground 559 = .ok (.ldc2_w 64, 3) := by decide +kernel
theorem dL_ground_562 : decode cL_ground 562 = .ok (.goto 11, 3) := by decide +kernel
theorem dL_ground_565 : decode cL_ground 565 = .ok (.aload_n 0, 1) := by decide +kernel
theorem dL_ground_566 : decode cL_ground 566 = .ok (.iload 14, 2) := by decide +kernel
theorem dL_ground_568 : decode cL_ground 568 = .ok (.laload, 1) := by decide +kernel
theorem dL_ground_569 : decode cL_ground 569 = .ok (.ldc2_w 40, 3) := by decide +kernel
theorem dL_ground_572 : decode cL_ground 572 = .ok (.ldiv, 1) := by decide +kernel
theorem dL_ground_573 : decode cL_ground 573 = .ok (.lstore 15, 2) := by decide +kernel
theorem dL_ground_575 : decode cL_ground 575 = .ok (.iload 14, 2) := by decide +kernel
theorem dL_ground_577 : decode cL_ground 577 = .ok (.lload 15, 2) := by decide +kernel
theorem dL_ground_579 : decode cL_ground 579 = .ok (.aload_n 0, 1) := by decide +kernel
theorem dL_ground_580 : decode cL_ground 580 = .ok (.aload_n 1, 1) := by decide +kernel
theorem dL_ground_581 : decode cL_ground 581 = .ok (.aload_n 2, 1) := by decide +kernel
theorem dL_ground_582 : decode cL_ground 582 = .ok (.invokestatic 30, 3) := by decide +kernel
theorem dL_ground_585 : decode cL_ground 585 = .ok (.pop2, 1) := by decide +kernel
theorem dL_ground_586 : decode cL_ground 586 = .ok (.aload 5, 2) := by decide +kernel
theorem dL_ground_588 : decode cL_ground 588 = .ok (.iconst 5, 1) := by decide +kernel
theorem dL_ground_589 : decode cL_ground 589 = .ok (.iload 13, 2) := by decide +kernel
theorem dL_ground_591 : decode cL_ground 591 = .ok (.imul, 1) := by decide +kernel
theorem dL_ground_592 : decode cL_ground 592 = .ok (.iconst 3, 1) := by decide +kernel
theorem dL_ground_593 : decode cL_ground 593 = .ok (.iadd, 1) := by decide +kernel
theorem dL_ground_594 : decode cL_ground 594 = .ok (.lload 15, 2) := by decide +kernel
theorem dL_ground_596 : decode cL_ground 596 = .ok (.l2i, 1) := by decide +kernel
theorem dL_ground_597 : decode cL_ground 597 = .ok (.iastore, 1) := by decide +kernel
theorem dL_ground_598 : decode cL_ground 598 = .ok (.aload 5, 2) := by decide +kernel
theorem dL_ground_600 : decode cL_ground 600 = .ok (.iconst 5, 1) := by decide +kernel
theorem dL_ground_601 : decode cL_ground 601 = .ok (.iload 13, 2) := by decide +kernel
theorem dL_ground_603 : decode cL_ground 603 = .ok (.imul, 1) := by decide +kernel
theorem dL_ground_604 : decode cL_ground 604 = .ok (.iconst 4, 1) := by decide +kernel
theorem dL_ground_605 : decode cL_ground 605 = .ok (.iadd, 1) := by decide +kernel
theorem dL_ground_606 : decode cL_ground 606 = .ok (.lload 15, 2) := by decide +kernel
theorem dL_ground_608 : decode cL_ground 608 = .ok (.lconst 0, 1) := by decide +kernel
theorem dL_ground_609 : decode cL_ground 609 = .ok (.lcmp, 1) := by decide +kernel
theorem dL_ground_610 : decode cL_ground 610 = .ok (.ifCond .le 7, 3) := by decide +kernel
theorem dL_ground_613 : decode cL_ground 613 = .ok (.iconst 0, 1) := by decide +kernel
theorem dL_ground_614 : decode cL_ground 614 = .ok (.goto 14, 3) := by decide +kernel
theorem dL_ground_617 : decode cL_ground 617 = .ok (.aload 5, 2) := by decide +kernel
theorem dL_ground_619 : decode cL_ground 619 = .ok (.iconst 5, 1) := by decide +kernel
theorem dL_ground_620 : decode cL_ground 620 = .ok (.iload 13, 2) := by decide +kernel
theorem dL_ground_622 : decode cL_ground 622 = .ok (.imul, 1) := by decide +kernel
theorem dL_ground_623 : decode cL_ground 623 = .ok (.iconst 4, 1) := by decide +kernel
theorem dL_ground_624 : decode cL_ground 624 = .ok (.iadd, 1) := by decide +kernel
theorem dL_ground_625 : decode cL_ground 625 = .ok (.iaload, 1) := by decide +kernel
theorem dL_ground_626 : decode cL_ground 626 = .ok (.iconst 1, 1) := by decide +kernel
theorem dL_ground_627 : decode cL_ground 627 = .ok (.iadd, 1) := by decide +kernel
theorem dL_ground_628 : decode cL_ground 628 = .ok (.iastore, 1) := by decide +kernel
theorem dL_ground_629 : decode cL_ground 629 = .ok (.aload 7, 2) := by decide +kernel
theorem dL_ground_631 : decode cL_ground 631 = .ok (.iconst 3, 1) := by decide +kernel
theorem dL_ground_632 : decode cL_ground 632 = .ok (.dup2, 1) := by decide +kernel
theorem dL_ground_633 : decode cL_ground 633 = .ok (.laload, 1) := by decide +kernel
theorem dL_ground_634 : decode cL_ground 634 = .ok (.lload 15, 2) := by decide +kernel
theorem dL_ground_636 : decode cL_ground 636 = .ok (.ladd, 1) := by decide +kernel
theorem dL_ground_637 : decode cL_ground 637 = .ok (.lastore, 1) := by decide +kernel
theorem dL_ground_638 : decode cL_ground 638 = .ok (.iconst 0, 1) := by decide +kernel
theorem dL_ground_639 : decode cL_ground 639 = .ok (.istore 17, 2) := by decide +kernel
theorem dL_ground_641 : decode cL_ground 641 = .ok (.iload 17, 2) := by decide +kernel
theorem dL_ground_643 : decode cL_ground 643 = .ok (.bipush 8, 2) := by decide +kernel
theorem dL_ground_645 : decode cL_ground 645 = .ok (.if_icmp .ge 28, 3) := by decide +kernel
theorem dL_ground_648 : decode cL_ground 648 = .ok (.lload 15, 2) := by decide +kernel
theorem dL_ground_650 : decode cL_ground 650 = .ok (.lconst 0, 1) := by decide +kernel
theorem dL_ground_651 : decode cL_ground 651 = .ok (.lcmp, 1) := by decide +kernel
theorem dL_ground_652 : decode cL_ground 652 = .ok (.ifCond .le 21, 3) := by decide +kernel
theorem dL_ground_655 : decode cL_ground 655 = .ok (.aload 6, 2) := by decide +kernel
theorem dL_ground_657 : decode cL_ground 657 = .ok (.bipush 8, 2) := by decide +kernel
theorem dL_ground_659 : decode cL_ground 659 = .ok (.iload 13, 2) := by decide +kernel
theorem dL_ground_661 : decode cL_ground 661 = .ok (.imul, 1) := by decide +kernel
theorem dL_ground_662 : decode cL_ground 662 = .ok (.iload 17, 2) := by decide +kernel
theorem dL_ground_664 : decode cL_ground 664 = .ok (.iadd, 1) := by decide +kernel
theorem dL_ground_665 : decode cL_ground 665 = .ok (.lconst 0, 1) := by decide +kernel
theorem dL_ground_666 : decode cL_ground 666 = .ok (.lastore, 1) := by decide +kernel
theorem dL_ground_667 : decode cL_ground 667 = .ok (.iinc 17 1, 3) := by decide +kernel
theorem dL_ground_670 : decode cL_ground 670 = .ok (.goto (-29), 3) := by decide +kernel
theorem dL_ground_673 : decode cL_ground 673 = .ok (.iinc 13 1, 3) := by decide +kernel
theorem dL_ground_676 : decode cL_ground 676 = .ok (.goto (-168), 3) := by decide +kernel
theorem dL_ground_679 : decode cL_ground 679 = .ok (.return_, 1) := by decide +kernel
theorem dL_rounds_0 : decode cL_rounds 0 = .ok (.lload_n 0, 1) := by decide +kernel
theorem dL_rounds_1 : decode cL_rounds 1 = .ok (.lstore_n 3, 1) := by decide +kernel
theorem dL_rounds_2 : decode cL_rounds 2 = .ok (.iload_n 2, 1) := by decide +kernel
theorem dL_rounds_3 : decode cL_rounds 3 = .ok (.istore 5, 2) := by decide +kernel
theorem dL_rounds_5 : decode cL_rounds 5 = .ok (.iconst 0, 1) := by decide +kernel
theorem dL_rounds_6 : decode cL_rounds 6 = .ok (.istore 6, 2) := by decide +kernel
theorem dL_rounds_8 : decode cL_rounds 8 = .ok (.lload_n 3, 1) := by decide +kernel
theorem dL_rounds_9 : decode cL_rounds 9 = .ok (.iload 6, 2) := by decide +kernel
theorem dL_rounds_11 : decode cL_rounds 11 = .ok (.lshr, 1) := by decide +kernel
theorem dL_rounds_12 : decode cL_rounds 12 = .ok (.lconst 1, 1) := by decide +kernel
theorem dL_rounds_13 : decode cL_rounds 13 = .ok (.lcmp, 1) := by decide +kernel
theorem dL_rounds_14 : decode cL_rounds 14 = .ok (.ifCond .le 9, 3) := by decide +kernel
theorem dL_rounds_17 : decode cL_rounds 17 = .ok (.iinc 6 1, 3) := by decide +kernel
theorem dL_rounds_20 : decode cL_rounds 20 = .ok (.goto (-12), 3) := by decide +kernel
theorem dL_rounds_23 : decode cL_rounds 23 = .ok (.iload 6, 2) := by decide +kernel
theorem dL_rounds_25 : decode cL_rounds 25 = .ok (.bipush 23, 2) := by decide +kernel
theorem dL_rounds_27 : decode cL_rounds 27 = .ok (.isub, 1) := by decide +kernel
theorem dL_rounds_28 : decode cL_rounds 28 = .ok (.istore 7, 2) := by decide +kernel
theorem dL_rounds_30 : decode cL_rounds 30 = .ok (.iload 7, 2) := by decide +kernel
theorem dL_rounds_32 : decode cL_rounds 32 = .ok (.ifCond .le 76, 3) := by decide +kernel
theorem dL_rounds_35 : decode cL_rounds 35 = .ok (.lload_n 3, 1) := by decide +kernel
theorem dL_rounds_36 : decode cL_rounds 36 = .ok (.lconst 1, 1) := by decide +kernel
theorem dL_rounds_37 : decode cL_rounds 37 = .ok (.iload 7, 2) := by decide +kernel
theorem dL_rounds_39 : decode cL_rounds 39 = .ok (.lshl, 1) := by decide +kernel
theorem dL_rounds_40 : decode cL_rounds 40 = .ok (.lconst 1, 1) := by decide +kernel
theorem dL_rounds_41 : decode cL_rounds 41 = .ok (.lsub, 1) := by decide +kernel
theorem dL_rounds_42 : decode cL_rounds 42 = .ok (.land, 1) := by decide +kernel
theorem dL_rounds_43 : decode cL_rounds 43 = .ok (.lstore 8, 2) := by decide +kernel
theorem dL_rounds_45 : decode cL_rounds 45 = .ok (.lconst 1, 1) := by decide +kernel
theorem dL_rounds_46 : decode cL_rounds 46 = .ok (.iload 7, 2) := by decide +kernel
theorem dL_rounds_48 : decode cL_rounds 48 = .ok (.iconst 1, 1) := by decide +kernel
theorem dL_rounds_49 : decode cL_rounds 49 = .ok (.isub, 1) := by decide +kernel
theorem dL_rounds_50 : decode cL_rounds 50 = .ok (.lshl, 1) := by decide +kernel
theorem dL_rounds_51 : decode cL_rounds 51 = .ok (.lstore 10, 2) := by decide +kernel
theorem dL_rounds_53 : decode cL_rounds 53 = .ok (.lload_n 3, 1) := by decide +kernel
theorem dL_rounds_54 : decode cL_rounds 54 = .ok (.iload 7, 2) := by decide +kernel
theorem dL_rounds_56 : decode cL_rounds 56 = .ok (.lshr, 1) := by decide +kernel
theorem dL_rounds_57 : decode cL_rounds 57 = .ok (.lstore_n 3, 1) := by decide +kernel
theorem dL_rounds_58 : decode cL_rounds 58 = .ok (.lload_n 3, 1) := by decide +kernel
theorem dL_rounds_59 : decode cL_rounds 59 = .ok (.lload 8, 2) := by decide +kernel
theorem dL_rounds_61 : decode cL_rounds 61 = .ok (.lload 10, 2) := by decide +kernel
theorem dL_rounds_63 : decode cL_rounds 63 = .ok (.lcmp, 1) := by decide +kernel
theorem dL_rounds_64 : decode cL_rounds 64 = .ok (.ifCond .gt 19, 3) := by decide +kernel
theorem dL_rounds_67 : decode cL_rounds 67 = .ok (.lload 8, 2) := by decide +kernel
theorem dL_rounds_69 : decode cL_rounds 69 = .ok (.lload 10, 2) := by decide +kernel
theorem dL_rounds_71 : decode cL_rounds 71 = .ok (.lcmp, 1) := by decide +kernel
theorem dL_rounds_72 : decode cL_rounds 72 = .ok (.ifCond .ne 15, 3) := by decide +kernel
theorem dL_rounds_75 : decode cL_rounds 75 = .ok (.lload_n 3, 1) := by decide +kernel
theorem dL_rounds_76 : decode cL_rounds 76 = .ok (.lconst 1, 1) := by decide +kernel
theorem dL_rounds_77 : decode cL_rounds 77 = .ok (.land, 1) := by decide +kernel
theorem dL_rounds_78 : decode cL_rounds 78 = .ok (.lconst 1, 1) := by decide +kernel
theorem dL_rounds_79 : decode cL_rounds 79 = .ok (.lcmp, 1) := by decide +kernel
theorem dL_rounds_80 : decode cL_rounds 80 = .ok (.ifCond .ne 7, 3) := by decide +kernel
theorem dL_rounds_83 : decode cL_rounds 83 = .ok (.lconst 1, 1) := by decide +kernel
theorem dL_rounds_84 : decode cL_rounds 84 = .ok (.goto 4, 3) := by decide +kernel
theorem dL_rounds_87 : decode cL_rounds 87 = .ok (.lconst 0, 1) := by decide +kernel
theorem dL_rounds_88 : decode cL_rounds 88 = .ok (.ladd, 1) := by decide +kernel
theorem dL_rounds_89 : decode cL_rounds 89 = .ok (.lstore_n 3, 1) := by decide +kernel
theorem dL_rounds_90 : decode cL_rounds 90 = .ok (.lload_n 3, 1) := by decide +kernel
theorem dL_rounds_91 : decode cL_rounds 91 = .ok (.ldc2_w 70, 3) := by decide +kernel
theorem dL_rounds_94 : decode cL_rounds 94 = .ok (.lcmp, 1) := by decide +kernel
theorem dL_rounds_95 : decode cL_rounds 95 = .ok (.ifCond .ne 10, 3) := by decide +kernel
theorem dL_rounds_98 : decode cL_rounds 98 = .ok (.lload_n 3, 1) := by decide +kernel
theorem dL_rounds_99 : decode cL_rounds 99 = .ok (.iconst 1, 1) := by decide +kernel
theorem dL_rounds_100 : decode cL_rounds 100 = .ok (.lshr, 1) := by decide +kernel
theorem dL_rounds_101 : decode cL_rounds 101 = .ok (.lstore_n 3, 1) := by decide +kernel
theorem dL_rounds_102 : decode cL_rounds 102 = .ok (.iinc 5 1, 3) := by decide +kernel
theorem dL_rounds_105 : decode cL_rounds 105 = .ok (.goto 9, 3) := by decide +kernel
theorem dL_rounds_108 : decode cL_rounds 108 = .ok (.lload_n 3, 1) := by decide +kernel
theorem dL_rounds_109 : decode cL_rounds 109 = .ok (.iload 7, 2) := by decide +kernel
theorem dL_rounds_111 : decode cL_rounds 111 = .ok (.ineg, 1) := by decide +kernel
theorem dL_rounds_112 : decode cL_rounds 112 = .ok (.lshl, 1) := by decide +kernel
theorem dL_rounds_113 : decode cL_rounds 113 = .ok (.lstore_n 3, 1) := by decide +kernel
theorem dL_rounds_114 : decode cL_rounds 114 = .ok (.lload_n 3, 1) := by decide +kernel
theorem dL_rounds_115 : decode cL_rounds 115 = .ok (.iload 5, 2) := by decide +kernel
theorem dL_rounds_117 : decode cL_rounds 117 = .ok (.iload 7, 2) := by decide +kernel
theorem dL_rounds_119 : decode cL_rounds 119 = .ok (.iadd, 1) := by decide +kernel
theorem dL_rounds_120 : decode cL_rounds 120 = .ok (.sipush 300, 3) := by decide +kernel
theorem dL_rounds_123 : decode cL_rounds 123 = .ok (.iadd, 1) := by decide +kernel
theorem dL_rounds_124 : decode cL_rounds 124 = .ok (.i2l, 1) := by decide +kernel
theorem dL_rounds_125 : decode cL_rounds 125 = .ok (.bipush 24, 2) := by decide +kernel
theorem dL_rounds_127 : decode cL_rounds 127 = .ok (.lshl, 1) := by decide +kernel
theorem dL_rounds_128 : decode cL_rounds 128 = .ok (.ladd, 1) := by decide +kernel
theorem dL_rounds_129 : decode cL_rounds 129 = .ok (.lreturn, 1) := by decide +kernel
theorem dL_share_0 : decode cL_share 0 = .ok (.lload_n 0, 1) := by decide +kernel
theorem dL_share_1 : decode cL_share 1 = .ok (.lconst 0, 1) := by decide +kernel
theorem dL_share_2 : decode cL_share 2 = .ok (.lcmp, 1) := by decide +kernel
theorem dL_share_3 : decode cL_share 3 = .ok (.ifCond .eq 9, 3) := by decide +kernel
theorem dL_share_6 : decode cL_share 6 = .ok (.lload_n 2, 1) := by decide +kernel
theorem dL_share_7 : decode cL_share 7 = .ok (.lconst 0, 1) := by decide +kernel
theorem dL_share_8 : decode cL_share 8 = .ok (.lcmp, 1) := by decide +kernel
theorem dL_share_9 : decode cL_share 9 = .ok (.ifCond .ne 5, 3) := by decide +kernel
theorem dL_share_12 : decode cL_share 12 = .ok (.iconst 0, 1) := by decide +kernel
theorem dL_share_13 : decode cL_share 13 = .ok (.ireturn, 1) := by decide +kernel
theorem dL_share_14 : decode cL_share 14 = .ok (.lload_n 0, 1) := by decide +kernel
theorem dL_share_15 : decode cL_share 15 = .ok (.iconst 0, 1) := by decide +kernel
theorem dL_share_16 : decode cL_share 16 = .ok (.invokestatic 72, 3) := by decide +kernel
theorem dL_share_19 : decode cL_share 19 = .ok (.lstore 4, 2) := by decide +kernel
theorem dL_share_21 : decode cL_share 21 = .ok (.lload_n 2, 1) := by decide +kernel
theorem dL_share_22 : decode cL_share 22 = .ok (.iconst 0, 1) := by decide +kernel
theorem dL_share_23 : decode cL_share 23 = .ok (.invokestatic 72, 3) := by decide +kernel
theorem dL_share_26 : decode cL_share 26 = .ok (.lstore 6, 2) := by decide +kernel
theorem dL_share_28 : decode cL_share 28 = .ok (.lload 4, 2) := by decide +kernel
theorem dL_share_30 : decode cL_share 30 = .ok (.ldc2_w 76, 3) := by decide +kernel
theorem dL_share_33 : decode cL_share 33 = .ok (.land, 1) := by decide +kernel
theorem dL_share_34 : decode cL_share 34 = .ok (.bipush 32, 2) := by decide +kernel
theorem dL_share_36 : decode cL_share 36 = .ok (.lshl, 1) := by decide +kernel
theorem dL_share_37 : decode cL_share 37 = .ok (.lstore 8, 2) := by decide +kernel
theorem dL_share_39 : decode cL_share 39 = .ok (.lload 6, 2) := by decide +kernel
theorem dL_share_41 : decode cL_share 41 = .ok (.ldc2_w 76, 3) := by decide +kernel
theorem dL_share_44 : decode cL_share 44 = .ok (.land, 1) := by decide +kernel
theorem dL_share_45 : decode cL_share 45 = .ok (.lstore 10, 2) := by decide +kernel
theorem dL_share_47 : decode cL_share 47 = .ok (.lload 8, 2) := by decide +kernel
theorem dL_share_49 : decode cL_share 49 = .ok (.lload 10, 2) := by decide +kernel
theorem dL_share_51 : decode cL_share 51 = .ok (.ldiv, 1) := by decide +kernel
theorem dL_share_52 : decode cL_share 52 = .ok (.lstore 12, 2) := by decide +kernel
theorem dL_share_54 : decode cL_share 54 = .ok (.lload 8, 2) := by decide +kernel
theorem dL_share_56 : decode cL_share 56 = .ok (.lload 10, 2) := by decide +kernel
theorem dL_share_58 : decode cL_share 58 = .ok (.lrem, 1) := by decide +kernel
theorem dL_share_59 : decode cL_share 59 = .ok (.lconst 0, 1) := by decide +kernel
theorem dL_share_60 : decode cL_share 60 = .ok (.lcmp, 1) := by decide +kernel
theorem dL_share_61 : decode cL_share 61 = .ok (.ifCond .ne 8, 3) := by decide +kernel
theorem dL_share_64 : decode cL_share 64 = .ok (.lload 12, 2) := by decide +kernel
theorem dL_share_66 : decode cL_share 66 = .ok (.goto 7, 3) := by decide +kernel
theorem dL_share_69 : decode cL_share 69 = .ok (.lload 12, 2) := by decide +kernel
theorem dL_share_71 : decode cL_share 71 = .ok (.lconst 1, 1) := by decide +kernel
theorem dL_share_72 : decode cL_share 72 = .ok (.lor, 1) := by decide +kernel
theorem dL_share_73 : decode cL_share 73 = .ok (.lload 4, 2) := by decide +kernel
theorem dL_share_75 : decode cL_share 75 = .ok (.bipush 24, 2) := by decide +kernel
theorem dL_share_77 : decode cL_share 77 = .ok (.lshr, 1) := by decide +kernel
theorem dL_share_78 : decode cL_share 78 = .ok (.l2i, 1) := by decide +kernel
theorem dL_share_79 : decode cL_share 79 = .ok (.lload 6, 2) := by decide +kernel
theorem dL_share_81 : decode cL_share 81 = .ok (.bipush 24, 2) := by decide +kernel
theorem dL_share_83 : decode cL_share 83 = .ok (.lshr, 1) := by decide +kernel
theorem dL_share_84 : decode cL_share 84 = .ok (.l2i, 1) := by decide +kernel
theorem dL_share_85 : decode cL_share 85 = .ok (.isub, 1) := by decide +kernel
theorem dL_share_86 : decode cL_share 86 = .ok (.bipush 32, 2) := by decide +kernel
theorem dL_share_88 : decode cL_share 88 = .ok (.isub, 1) := by decide +kernel
theorem dL_share_89 : decode cL_share 89 = .ok (.invokestatic 72, 3) := by decide +kernel
theorem dL_share_92 : decode cL_share 92 = .ok (.lstore 14, 2) := by decide +kernel
theorem dL_share_94 : decode cL_share 94 = .ok (.lload 14, 2) := by decide +kernel
theorem dL_share_96 : decode cL_share 96 = .ok (.bipush 24, 2) := by decide +kernel
theorem dL_share_98 : decode cL_share 98 = .ok (.lshr, 1) := by decide +kernel
theorem dL_share_99 : decode cL_share 99 = .ok (.l2i, 1) := by decide +kernel
theorem dL_share_100 : decode cL_share 100 = .ok (.sipush 150, 3) := by decide +kernel
theorem dL_share_103 : decode cL_share 103 = .ok (.isub, 1) := by decide +kernel
theorem dL_share_104 : decode cL_share 104 = .ok (.bipush 23, 2) := by decide +kernel
theorem dL_share_106 : decode cL_share 106 = .ok (.ishl, 1) := by decide +kernel
theorem dL_share_107 : decode cL_share 107 = .ok (.lload 14, 2) := by decide +kernel
theorem dL_share_109 : decode cL_share 109 = .ok (.ldc2_w 76, 3) := by decide +kernel
theorem dL_share_112 : decode cL_share 112 = .ok (.land, 1) := by decide +kernel
theorem dL_share_113 : decode cL_share 113 = .ok (.ldc2_w 78, 3) := by decide +kernel
theorem dL_share_116 : decode cL_share 116 = .ok (.lsub, 1) := by decide +kernel
theorem dL_share_117 : decode cL_share 117 = .ok (.l2i, 1) := by decide +kernel
theorem dL_share_118 : decode cL_share 118 = .ok (.iadd, 1) := by decide +kernel
theorem dL_share_119 : decode cL_share 119 = .ok (.ireturn, 1) := by decide +kernel
theorem dL_blame_0 : decode cL_blame 0 = .ok (.iconst (-1), 1) := by decide +kernel
theorem dL_blame_1 : decode cL_blame 1 = .ok (.istore_n 3, 1) := by decide +kernel
theorem dL_blame_2 : decode cL_blame 2 = .ok (.aload_n 2, 1) := by decide +kernel
theorem dL_blame_3 : decode cL_blame 3 = .ok (.iconst 1, 1) := by decide +kernel
theorem dL_blame_4 : decode cL_blame 4 = .ok (.iaload, 1) := by decide +kernel
theorem dL_blame_5 : decode cL_blame 5 = .ok (.iconst 1, 1) := by decide +kernel
theorem dL_blame_6 : decode cL_blame 6 = .ok (.isub, 1) := by decide +kernel
theorem dL_blame_7 : decode cL_blame 7 = .ok (.istore 4, 2) := by decide +kernel
theorem dL_blame_9 : decode cL_blame 9 = .ok (.iload 4, 2) := by decide +kernel
theorem dL_blame_11 : decode cL_blame 11 = .ok (.ifCond .lt 55, 3) := by decide +kernel
theorem dL_blame_14 : decode cL_blame 14 = .ok (.aload_n 1, 1) := by decide +kernel
theorem dL_blame_15 : decode cL_blame 15 = .ok (.bipush 8, 2) := by decide +kernel
theorem dL_blame_17 : decode cL_blame 17 = .ok (.iload_n 0, 1) := by decide +kernel
theorem dL_blame_18 : decode cL_blame 18 = .ok (.imul, 1) := by decide +kernel
theorem dL_blame_19 : decode cL_blame 19 = .ok (.iload 4, 2) := by decide +kernel
theorem dL_blame_21 : decode cL_blame 21 = .ok (.iadd, 1) := by decide +kernel
theorem dL_blame_22 : decode cL_blame 22 = .ok (.laload, 1) := by decide +kernel
theorem dL_blame_23 : decode cL_blame 23 = .ok (.lconst 0, 1) := by decide +kernel
theorem dL_blame_24 : decode cL_blame 24 = .ok (.lcmp, 1) := by decide +kernel
theorem dL_blame_25 : decode cL_blame 25 = .ok (.ifCond .le 33, 3) := by decide +kernel
theorem dL_blame_28 : decode cL_blame 28 = .ok (.iload_n 3, 1) := by decide +kernel
theorem dL_blame_29 : decode cL_blame 29 = .ok (.ifCond .lt 24, 3) := by decide +kernel
theorem dL_blame_32 : decode cL_blame 32 = .ok (.aload_n 1, 1) := by decide +kernel
theorem dL_blame_33 : decode cL_blame 33 = .ok (.bipush 8, 2) := by decide +kernel
theorem dL_blame_35 : decode cL_blame 35 = .ok (.iload_n 0, 1) := by decide +kernel
theorem dL_blame_36 : decode cL_blame 36 = .ok (.imul, 1) := by decide +kernel
theorem dL_blame_37 : decode cL_blame 37 = .ok (.iload 4, 2) := by decide +kernel
theorem dL_blame_39 : decode cL_blame 39 = .ok (.iadd, 1) := by decide +kernel
theorem dL_blame_40 : decode cL_blame 40 = .ok (.laload, 1) := by decide +kernel
theorem dL_blame_41 : decode cL_blame 41 = .ok (.aload_n 1, 1) := by decide +kernel
theorem dL_blame_42 : decode cL_blame 42 = .ok (.bipush 8, 2) := by decide +kernel
theorem dL_blame_44 : decode cL_blame 44 = .ok (.iload_n 0, 1) := by decide +kernel
theorem dL_blame_45 : decode cL_blame 45 = .ok (.imul, 1) := by decide +kernel
theorem dL_blame_46 : decode cL_blame 46 = .ok (.iload_n 3, 1) := by decide +kernel
theorem dL_blame_47 : decode cL_blame 47 = .ok (.iadd, 1) := by decide +kernel
theorem dL_blame_48 : decode cL_blame 48 = .ok (.laload, 1) := by decide +kernel
theorem dL_blame_49 : decode cL_blame 49 = .ok (.lcmp, 1) := by decide +kernel
theorem dL_blame_50 : decode cL_blame 50 = .ok (.ifCond .lt 8, 3) := by decide +kernel
theorem dL_blame_53 : decode cL_blame 53 = .ok (.iload 4, 2) := by decide +kernel
theorem dL_blame_55 : decode cL_blame 55 = .ok (.goto 4, 3) := by decide +kernel
theorem dL_blame_58 : decode cL_blame 58 = .ok (.iload_n 3, 1) := by decide +kernel
theorem dL_blame_59 : decode cL_blame 59 = .ok (.istore_n 3, 1) := by decide +kernel
theorem dL_blame_60 : decode cL_blame 60 = .ok (.iinc 4 (-1), 3) := by decide +kernel
theorem dL_blame_63 : decode cL_blame 63 = .ok (.goto (-54), 3) := by decide +kernel
theorem dL_blame_66 : decode cL_blame 66 = .ok (.iload_n 3, 1) := by decide +kernel
theorem dL_blame_67 : decode cL_blame 67 = .ok (.ireturn, 1) := by decide +kernel
theorem dL_same_0 : decode cL_same 0 = .ok (.aload_n 0, 1) := by decide +kernel
theorem dL_same_1 : decode cL_same 1 = .ok (.iconst 0, 1) := by decide +kernel
theorem dL_same_2 : decode cL_same 2 = .ok (.invokevirtual 80, 3) := by decide +kernel
theorem dL_same_5 : decode cL_same 5 = .ok (.aload 12, 2) := by decide +kernel
theorem dL_same_7 : decode cL_same 7 = .ok (.iconst 0, 1) := by decide +kernel
theorem dL_same_8 : decode cL_same 8 = .ok (.iaload, 1) := by decide +kernel
theorem dL_same_9 : decode cL_same 9 = .ok (.if_icmp .ne 39, 3) := by decide +kernel
theorem dL_same_12 : decode cL_same 12 = .ok (.aload_n 0, 1) := by decide +kernel
theorem dL_same_13 : decode cL_same 13 = .ok (.iconst 4, 1) := by decide +kernel
theorem dL_same_14 : decode cL_same 14 = .ok (.invokevirtual 80, 3) := by decide +kernel
theorem dL_same_17 : decode cL_same 17 = .ok (.aload 12, 2) := by decide +kernel
theorem dL_same_19 : decode cL_same 19 = .ok (.iconst 4, 1) := by decide +kernel
theorem dL_same_20 : decode cL_same 20 = .ok (.iaload, 1) := by decide +kernel
theorem dL_same_21 : decode cL_same 21 = .ok (.if_icmp .ne 27, 3) := by decide +kernel
theorem dL_same_24 : decode cL_same 24 = .ok (.aload_n 0, 1) := by decide +kernel
theorem dL_same_25 : decode cL_same 25 = .ok (.invokevirtual 86, 3) := by decide +kernel
theorem dL_same_28 : decode cL_same 28 = .ok (.aload 10, 2) := by decide +kernel
theorem dL_same_30 : decode cL_same 30 = .ok (.bipush 6, 2) := by decide +kernel
theorem dL_same_32 : decode cL_same 32 = .ok (.laload, 1) := by decide +kernel
theorem dL_same_33 : decode cL_same 33 = .ok (.aload 10, 2) := by decide +kernel
theorem dL_same_35 : decode cL_same 35 = .ok (.bipush 7, 2) := by decide +kernel
theorem dL_same_37 : decode cL_same 37 = .ok (.laload, 1) := by decide +kernel
theorem dL_same_38 : decode cL_same 38 = .ok (.invokestatic 90, 3) := by decide +kernel
theorem dL_same_41 : decode cL_same 41 = .ok (.if_icmp .ne 7, 3) := by decide +kernel
theorem dL_same_44 : decode cL_same 44 = .ok (.iconst 1, 1) := by decide +kernel
theorem dL_same_45 : decode cL_same 45 = .ok (.goto 4, 3) := by decide +kernel
theorem dL_same_48 : decode cL_same 48 = .ok (.iconst 0, 1) := by decide +kernel
theorem dL_same_49 : decode cL_same 49 = .ok (.istore 13, 2) := by decide +kernel
theorem dL_same_51 : decode cL_same 51 = .ok (.lconst 0, 1) := by decide +kernel
theorem dL_same_52 : decode cL_same 52 = .ok (.lstore 14, 2) := by decide +kernel
theorem dL_same_54 : decode cL_same 54 = .ok (.iconst 0, 1) := by decide +kernel
theorem dL_same_55 : decode cL_same 55 = .ok (.istore 16, 2) := by decide +kernel
theorem dL_same_57 : decode cL_same 57 = .ok (.iload 16, 2) := by decide +kernel
theorem dL_same_59 : decode cL_same 59 = .ok (.bipush 12, 2) := by decide +kernel
theorem dL_same_61 : decode cL_same 61 = .ok (.if_icmp .ge 165, 3) := by decide +kernel
theorem dL_same_64 : decode cL_same 64 = .ok (.iload 13, 2) := by decide +kernel
theorem dL_same_66 : decode cL_same 66 = .ok (.ifCond .eq 160, 3) := by decide +kernel
theorem dL_same_69 : decode cL_same 69 = .ok (.lload 14, 2) := by decide +kernel
theorem dL_same_71 : decode cL_same 71 = .ok (.aload_n 2, 1) := by decide +kernel
theorem dL_same_72 : decode cL_same 72 = .ok (.iload 16, 2) := by decide +kernel
theorem dL_same_74 : decode cL_same 74 = .ok (.laload, 1) := by decide +kernel
theorem dL_same_75 : decode cL_same 75 = .ok (.ladd, 1) := by decide +kernel
theorem dL_same_76 : decode cL_same 76 = .ok (.lstore 14, 2) := by decide +kernel
theorem dL_same_78 : decode cL_same 78 = .ok (.aload_n 0, 1) := by decide +kernel
theorem dL_same_79 : decode cL_same 79 = .ok (.iload 16, 2) := by decide +kernel
theorem dL_same_81 : decode cL_same 81 = .ok (.iconst 0, 1) := by decide +kernel
theorem dL_same_82 : decode cL_same 82 = .ok (.invokevirtual 93, 3) := by decide +kernel
theorem dL_same_85 : decode cL_same 85 = .ok (.aload_n 2, 1) := by decide +kernel
theorem dL_same_86 : decode cL_same 86 = .ok (.iload 16, 2) := by decide +kernel
theorem dL_same_88 : decode cL_same 88 = .ok (.laload, 1) := by decide +kernel
theorem dL_same_89 : decode cL_same 89 = .ok (.lcmp, 1) := by decide +kernel
theorem dL_same_90 : decode cL_same 90 = .ok (.ifCond .ne 127, 3) := by decide +kernel
theorem dL_same_93 : decode cL_same 93 = .ok (.aload_n 0, 1) := by decide +kernel
theorem dL_same_94 : decode cL_same 94 = .ok (.iload 16, 2) := by decide +kernel
theorem dL_same_96 : decode cL_same 96 = .ok (.iconst 2, 1) := by decide +kernel
theorem dL_same_97 : decode cL_same 97 = .ok (.invokevirtual 93, 3) := by decide +kernel
theorem dL_same_100 : decode cL_same 100 = .ok (.aload_n 3, 1) := by decide +kernel
theorem dL_same_101 : decode cL_same 101 = .ok (.iload 16, 2) := by decide +kernel
theorem dL_same_103 : decode cL_same 103 = .ok (.laload, 1) := by decide +kernel
theorem dL_same_104 : decode cL_same 104 = .ok (.lcmp, 1) := by decide +kernel
theorem dL_same_105 : decode cL_same 105 = .ok (.ifCond .ne 112, 3) := by decide +kernel
theorem dL_same_108 : decode cL_same 108 = .ok (.aload_n 0, 1) := by decide +kernel
theorem dL_same_109 : decode cL_same 109 = .ok (.iload 16, 2) := by decide +kernel
theorem dL_same_111 : decode cL_same 111 = .ok (.iconst 3, 1) := by decide +kernel
theorem dL_same_112 : decode cL_same 112 = .ok (.invokevirtual 93, 3) := by decide +kernel
theorem dL_same_115 : decode cL_same 115 = .ok (.aload 4, 2) := by decide +kernel
theorem dL_same_117 : decode cL_same 117 = .ok (.iload 16, 2) := by decide +kernel
theorem dL_same_119 : decode cL_same 119 = .ok (.laload, 1) := by decide +kernel
theorem dL_same_120 : decode cL_same 120 = .ok (.lcmp, 1) := by decide +kernel
theorem dL_same_121 : decode cL_same 121 = .ok (.ifCond .ne 96, 3) := by decide +kernel
theorem dL_same_124 : decode cL_same 124 = .ok (.aload_n 0, 1) := by decide +kernel
theorem dL_same_125 : decode cL_same 125 = .ok (.iload 16, 2) := by decide +kernel
theorem dL_same_127 : decode cL_same 127 = .ok (.iconst 4, 1) := by decide +kernel
theorem dL_same_128 : decode cL_same 128 = .ok (.invokevirtual 93, 3) := by decide +kernel
theorem dL_same_131 : decode cL_same 131 = .ok (.aload 5, 2) := by decide +kernel
theorem dL_same_133 : decode cL_same 133 = .ok (.iload 16, 2) := by decide +kernel
theorem dL_same_135 : decode cL_same 135 = .ok (.laload, 1) := by decide +kernel
theorem dL_same_136 : decode cL_same 136 = .ok (.lcmp, 1) := by decide +kernel
theorem dL_same_137 : decode cL_same 137 = .ok (.ifCond .ne 80, 3) := by decide +kernel
theorem dL_same_140 : decode cL_same 140 = .ok (.iload 16, 2) := by decide +kernel
theorem dL_same_142 : decode cL_same 142 = .ok (.iconst 4, 1) := by decide +kernel
theorem dL_same_143 : decode cL_same 143 = .ok (.irem, 1) := by decide +kernel
theorem dL_same_144 : decode cL_same 144 = .ok (.iload_n 1, 1) := by decide +kernel
theorem dL_same_145 : decode cL_same 145 = .ok (.iconst 4, 1) := by decide +kernel
theorem dL_same_146 : decode cL_same 146 = .ok (.irem, 1) := by decide +kernel
theorem dL_same_147 : decode cL_same 147 = .ok (.if_icmp .ne 66, 3) := by decide +kernel
theorem dL_same_150 : decode cL_same 150 = .ok (.aload_n 0, 1) := by decide +kernel
theorem dL_same_151 : decode cL_same 151 = .ok (.iload 16, 2) := by decide +kernel
theorem dL_same_153 : decode cL_same 153 = .ok (.iconst 1, 1) := by decide +kernel
theorem dL_same_154 : decode cL_same 154 = .ok (.invokevirtual 93, 3) := by decide +kernel
theorem dL_same_157 : decode cL_same 157 = .ok (.iload 16, 2) := by decide +kernel
theorem dL_same_159 : decode cL_same 159 = .ok (.aload_n 2, 1) := by decide +kernel
theorem dL_same_160 : decode cL_same 160 = .ok (.aload_n 3, 1) := by decide +kernel
theorem dL_same_161 : decode cL_same 161 = .ok (.invokestatic 18, 3) := by decide +kernel
theorem dL_same_164 : decode cL_same 164 = .ok (.lcmp, 1) := by decide +kernel
theorem dL_same_165 : decode cL_same 165 = .ok (.ifCond .ne 52, 3) := by decide +kernel
theorem dL_same_168 : decode cL_same 168 = .ok (.aload_n 0, 1) := by decide +kernel
theorem dL_same_169 : decode cL_same 169 = .ok (.iload 16, 2) := by decide +kernel
theorem dL_same_171 : decode cL_same 171 = .ok (.iconst 5, 1) := by decide +kernel
theorem dL_same_172 : decode cL_same 172 = .ok (.invokevirtual 93, 3) := by decide +kernel
theorem dL_same_175 : decode cL_same 175 = .ok (.aload 5, 2) := by decide +kernel
theorem dL_same_177 : decode cL_same 177 = .ok (.iload 16, 2) := by decide +kernel
theorem dL_same_179 : decode cL_same 179 = .ok (.laload, 1) := by decide +kernel
theorem dL_same_180 : decode cL_same 180 = .ok (.ldc2_w 22, 3) := by decide +kernel
theorem dL_same_183 : decode cL_same 183 = .ok (.lcmp, 1) := by decide +kernel
theorem dL_same_184 : decode cL_same 184 = .ok (.ifCond .le 7, 3) := by decide +kernel
theorem dL_same_187 : decode cL_same 187 = .ok (.iconst 2, 1) := by decide +kernel
theorem dL_same_188 : decode cL_same 188 = .ok (.goto 20, 3) := by decide +kernel
theorem dL_same_191 : decode cL_same 191 = .ok (.aload 5, 2) := by decide +kernel
theorem dL_same_193 : decode cL_same 193 = .ok (.iload 16, 2) := by decide +kernel
theorem dL_same_195 : decode cL_same 195 = .ok (.laload, 1) := by decide +kernel
theorem dL_same_196 : decode cL_same 196 = .ok (.ldc2_w 48, 3) := by decide +kernel
theorem dL_same_199 : decode cL_same 199 = .ok (.lcmp, 1) := by decide +kernel
theorem dL_same_200 : decode cL_same 200 = .ok (.ifCond .le 7, 3) := by decide +kernel
theorem dL_same_203 : decode cL_same 203 = .ok (.iconst 1, 1) := by decide +kernel
theorem dL_same_204 : decode cL_same 204 = .ok (.goto 4, 3) := by decide +kernel
theorem dL_same_207 : decode cL_same 207 = .ok (.iconst 0, 1) := by decide +kernel
theorem dL_same_208 : decode cL_same 208 = .ok (.i2l, 1) := by decide +kernel
theorem dL_same_209 : decode cL_same 209 = .ok (.lcmp, 1) := by decide +kernel
theorem dL_same_210 : decode cL_same 210 = .ok (.ifCond .ne 7, 3) := by decide +kernel
theorem dL_same_213 : decode cL_same 213 = .ok (.iconst 1, 1) := by decide +kernel
theorem dL_same_214 : decode cL_same 214 = .ok (.goto 4, 3) := by decide +kernel
theorem dL_same_217 : decode cL_same 217 = .ok (.iconst 0, 1) := by decide +kernel
theorem dL_same_218 : decode cL_same 218 = .ok (.istore 13, 2) := by decide +kernel
theorem dL_same_220 : decode cL_same 220 = .ok (.iinc 16 1, 3) := by decide +kernel
theorem dL_same_223 : decode cL_same 223 = .ok (.goto (-166), 3) := by decide +kernel
theorem dL_same_226 : decode cL_same 226 = .ok (.iload 13, 2) := by decide +kernel
theorem dL_same_228 : decode cL_same 228 = .ok (.ifCond .eq 18, 3) := by decide +kernel
theorem dL_same_231 : decode cL_same 231 = .ok (.aload_n 0, 1) := by decide +kernel
theorem dL_same_232 : decode cL_same 232 = .ok (.iconst 0, 1) := by decide +kernel
theorem dL_same_233 : decode cL_same 233 = .ok (.invokevirtual 97, 3) := by decide +kernel
theorem dL_same_236 : decode cL_same 236 = .ok (.lload 14, 2) := by decide +kernel
theorem dL_same_238 : decode cL_same 238 = .ok (.lcmp, 1) := by decide +kernel
theorem dL_same_239 : decode cL_same 239 = .ok (.ifCond .ne 7, 3) := by decide +kernel
theorem dL_same_242 : decode cL_same 242 = .ok (.iconst 1, 1) := by decide +kernel
theorem dL_same_243 : decode cL_same 243 = .ok (.goto 4, 3) := by decide +kernel
theorem dL_same_246 : decode cL_same 246 = .ok (.iconst 0, 1) := by decide +kernel
theorem dL_same_247 : decode cL_same 247 = .ok (.istore 13, 2) := by decide +kernel
theorem dL_same_249 : decode cL_same 249 = .ok (.iconst 1, 1) := by decide +kernel
theorem dL_same_250 : decode cL_same 250 = .ok (.istore 16, 2) := by decide +kernel
theorem dL_same_252 : decode cL_same 252 = .ok (.iload 16, 2) := by decide +kernel
theorem dL_same_254 : decode cL_same 254 = .ok (.bipush 8, 2) := by decide +kernel
theorem dL_same_256 : decode cL_same 256 = .ok (.if_icmp .ge 36, 3) := by decide +kernel
theorem dL_same_259 : decode cL_same 259 = .ok (.iload 13, 2) := by decide +kernel
theorem dL_same_261 : decode cL_same 261 = .ok (.ifCond .eq 31, 3) := by decide +kernel
theorem dL_same_264 : decode cL_same 264 = .ok (.aload_n 0, 1) := by decide +kernel
theorem dL_same_265 : decode cL_same 265 = .ok (.iload 16, 2) := by decide +kernel
theorem dL_same_267 : decode cL_same 267 = .ok (.invokevirtual 97, 3) := by decide +kernel
theorem dL_same_270 : decode cL_same 270 = .ok (.aload 10, 2) := by decide +kernel
theorem dL_same_272 : decode cL_same 272 = .ok (.iload 16, 2) := by decide +kernel
theorem dL_same_274 : decode cL_same 274 = .ok (.laload, 1) := by decide +kernel
theorem dL_same_275 : decode cL_same 275 = .ok (.lcmp, 1) := by decide +kernel
theorem dL_same_276 : decode cL_same 276 = .ok (.ifCond .ne 7, 3) := by decide +kernel
theorem dL_same_279 : decode cL_same 279 = .ok (.iconst 1, 1) := by decide +kernel
theorem dL_same_280 : decode cL_same 280 = .ok (.goto 4, 3) := by decide +kernel
theorem dL_same_283 : decode cL_same 283 = .ok (.iconst 0, 1) := by decide +kernel
theorem dL_same_284 : decode cL_same 284 = .ok (.istore 13, 2) := by decide +kernel
theorem dL_same_286 : decode cL_same 286 = .ok (.iinc 16 1, 3) := by decide +kernel
theorem dL_same_289 : decode cL_same 289 = .ok (.goto (-37), 3) := by decide +kernel
theorem dL_same_292 : decode cL_same 292 = .ok (.iconst 0, 1) := by decide +kernel
theorem dL_same_293 : decode cL_same 293 = .ok (.istore 16, 2) := by decide +kernel
theorem dL_same_295 : decode cL_same 295 = .ok (.iload 16, 2) := by decide +kernel
theorem dL_same_297 : decode cL_same 297 = .ok (.aload 12, 2) := by decide +kernel
theorem dL_same_299 : decode cL_same 299 = .ok (.iconst 1, 1) := by decide +kernel
theorem dL_same_300 : decode cL_same 300 = .ok (.iaload, 1) := by decide +kernel
theorem dL_same_301 : decode cL_same 301 = .ok (.if_icmp .ge 171, 3) := by decide +kernel
theorem dL_same_304 : decode cL_same 304 = .ok (.iload 13, 2) := by decide +kernel
theorem dL_same_306 : decode cL_same 306 = .ok (.ifCond .eq 166, 3) := by decide +kernel
theorem dL_same_309 : decode cL_same 309 = .ok (.aload_n 0, 1) := by decide +kernel
theorem dL_same_310 : decode cL_same 310 = .ok (.iload 16, 2) := by decide +kernel
theorem dL_same_312 : decode cL_same 312 = .ok (.iconst 0, 1) := by decide +kernel
theorem dL_same_313 : decode cL_same 313 = .ok (.invokevirtual 101, 3) := by decide +kernel
theorem dL_same_316 : decode cL_same 316 = .ok (.aload 6, 2) := by decide +kernel
theorem dL_same_318 : decode cL_same 318 = .ok (.bipush 7, 2) := by decide +kernel
theorem dL_same_320 : decode cL_same 320 = .ok (.iload 16, 2) := by decide +kernel
theorem dL_same_322 : decode cL_same 322 = .ok (.imul, 1) := by decide +kernel
theorem dL_same_323 : decode cL_same 323 = .ok (.iaload, 1) := by decide +kernel
theorem dL_same_324 : decode cL_same 324 = .ok (.i2l, 1) := by decide +kernel
theorem dL_same_325 : decode cL_same 325 = .ok (.lcmp, 1) := by decide +kernel
theorem dL_same_326 : decode cL_same 326 = .ok (.ifCond .ne 137, 3) := by decide +kernel
theorem dL_same_329 : decode cL_same 329 = .ok (.aload_n 0, 1) := by decide +kernel
theorem dL_same_330 : decode cL_same 330 = .ok (.iload 16, 2) := by decide +kernel
theorem dL_same_332 : decode cL_same 332 = .ok (.iconst 1, 1) := by decide +kernel
theorem dL_same_333 : decode cL_same 333 = .ok (.invokevirtual 101, 3) := by decide +kernel
theorem dL_same_336 : decode cL_same 336 = .ok (.aload 6, 2) := by decide +kernel
theorem dL_same_338 : decode cL_same 338 = .ok (.bipush 7, 2) := by decide +kernel
theorem dL_same_340 : decode cL_same 340 = .ok (.iload 16, 2) := by decide +kernel
theorem dL_same_342 : decode cL_same 342 = .ok (.imul, 1) := by decide +kernel
theorem dL_same_343 : decode cL_same 343 = .ok (.iconst 2, 1) := by decide +kernel
theorem dL_same_344 : decode cL_same 344 = .ok (.iadd, 1) := by decide +kernel
theorem dL_same_345 : decode cL_same 345 = .ok (.iaload, 1) := by decide +kernel
theorem dL_same_346 : decode cL_same 346 = .ok (.i2l, 1) := by decide +kernel
theorem dL_same_347 : decode cL_same 347 = .ok (.lcmp, 1) := by decide +kernel
theorem dL_same_348 : decode cL_same 348 = .ok (.ifCond .ne 115, 3) := by decide +kernel
theorem dL_same_351 : decode cL_same 351 = .ok (.aload_n 0, 1) := by decide +kernel
theorem dL_same_352 : decode cL_same 352 = .ok (.iload 16, 2) := by decide +kernel
theorem dL_same_354 : decode cL_same 354 = .ok (.iconst 2, 1) := by decide +kernel
theorem dL_same_355 : decode cL_same 355 = .ok (.invokevirtual 101, 3) := by decide +kernel
theorem dL_same_358 : decode cL_same 358 = .ok (.aload 6, 2) := by decide +kernel
theorem dL_same_360 : decode cL_same 360 = .ok (.bipush 7, 2) := by decide +kernel
theorem dL_same_362 : decode cL_same 362 = .ok (.iload 16, 2) := by decide +kernel
theorem dL_same_364 : decode cL_same 364 = .ok (.imul, 1) := by decide +kernel
theorem dL_same_365 : decode cL_same 365 = .ok (.iconst 3, 1) := by decide +kernel
theorem dL_same_366 : decode cL_same 366 = .ok (.iadd, 1) := by decide +kernel
theorem dL_same_367 : decode cL_same 367 = .ok (.iaload, 1) := by decide +kernel
theorem dL_same_368 : decode cL_same 368 = .ok (.i2l, 1) := by decide +kernel
theorem dL_same_369 : decode cL_same 369 = .ok (.lcmp, 1) := by decide +kernel
theorem dL_same_370 : decode cL_same 370 = .ok (.ifCond .ne 93, 3) := by decide +kernel
theorem dL_same_373 : decode cL_same 373 = .ok (.aload_n 0, 1) := by decide +kernel
theorem dL_same_374 : decode cL_same 374 = .ok (.iload 16, 2) := by decide +kernel
theorem dL_same_376 : decode cL_same 376 = .ok (.iconst 3, 1) := by decide +kernel
theorem dL_same_377 : decode cL_same 377 = .ok (.invokevirtual 101, 3) := by decide +kernel
theorem dL_same_380 : decode cL_same 380 = .ok (.aload 6, 2) := by decide +kernel
theorem dL_same_382 : decode cL_same 382 = .ok (.bipush 7, 2) := by decide +kernel
theorem dL_same_384 : decode cL_same 384 = .ok (.iload 16, 2) := by decide +kernel
theorem dL_same_386 : decode cL_same 386 = .ok (.imul, 1) := by decide +kernel
theorem dL_same_387 : decode cL_same 387 = .ok (.iconst 4, 1) := by decide +kernel
theorem dL_same_388 : decode cL_same 388 = .ok (.iadd, 1) := by decide +kernel
theorem dL_same_389 : decode cL_same 389 = .ok (.iaload, 1) := by decide +kernel
theorem dL_same_390 : decode cL_same 390 = .ok (.i2l, 1) := by decide +kernel
theorem dL_same_391 : decode cL_same 391 = .ok (.lcmp, 1) := by decide +kernel
theorem dL_same_392 : decode cL_same 392 = .ok (.ifCond .ne 71, 3) := by decide +kernel
theorem dL_same_395 : decode cL_same 395 = .ok (.aload_n 0, 1) := by decide +kernel
theorem dL_same_396 : decode cL_same 396 = .ok (.iload 16, 2) := by decide +kernel
theorem dL_same_398 : decode cL_same 398 = .ok (.iconst 4, 1) := by decide +kernel
theorem dL_same_399 : decode cL_same 399 = .ok (.invokevirtual 101, 3) := by decide +kernel
theorem dL_same_402 : decode cL_same 402 = .ok (.aload 6, 2) := by decide +kernel
theorem dL_same_404 : decode cL_same 404 = .ok (.bipush 7, 2) := by decide +kernel
theorem dL_same_406 : decode cL_same 406 = .ok (.iload 16, 2) := by decide +kernel
theorem dL_same_408 : decode cL_same 408 = .ok (.imul, 1) := by decide +kernel
