theorem dX7_shuts_64 : decode cX7_shuts 64 = .ok (.lconst 1, 1) := by decide +kernel
theorem dX7_shuts_65 : decode cX7_shuts 65 = .ok (.goto 4, 3) := by decide +kernel
theorem dX7_shuts_68 : decode cX7_shuts 68 = .ok (.lconst 0, 1) := by decide +kernel
theorem dX7_shuts_69 : decode cX7_shuts 69 = .ok (.lastore, 1) := by decide +kernel
theorem dX7_shuts_70 : decode cX7_shuts 70 = .ok (.aload_n 0, 1) := by decide +kernel
theorem dX7_shuts_71 : decode cX7_shuts 71 = .ok (.getfield 7, 3) := by decide +kernel
theorem dX7_shuts_74 : decode cX7_shuts 74 = .ok (.bipush 58, 2) := by decide +kernel
theorem dX7_shuts_76 : decode cX7_shuts 76 = .ok (.iload_n 1, 1) := by decide +kernel
theorem dX7_shuts_77 : decode cX7_shuts 77 = .ok (.iadd, 1) := by decide +kernel
theorem dX7_shuts_78 : decode cX7_shuts 78 = .ok (.lconst 0, 1) := by decide +kernel
theorem dX7_shuts_79 : decode cX7_shuts 79 = .ok (.lastore, 1) := by decide +kernel
theorem dX7_shuts_80 : decode cX7_shuts 80 = .ok (.iinc 1 1, 3) := by decide +kernel
theorem dX7_shuts_83 : decode cX7_shuts 83 = .ok (.goto (-81), 3) := by decide +kernel
theorem dX7_shuts_86 : decode cX7_shuts 86 = .ok (.return_, 1) := by decide +kernel
theorem dX7_draws_0 : decode cX7_draws 0 = .ok (.aload_n 0, 1) := by decide +kernel
theorem dX7_draws_1 : decode cX7_draws 1 = .ok (.getfield 23, 3) := by decide +kernel
theorem dX7_draws_4 : decode cX7_draws 4 = .ok (.iload_n 1, 1) := by decide +kernel
theorem dX7_draws_5 : decode cX7_draws 5 = .ok (.iaload, 1) := by decide +kernel
theorem dX7_draws_6 : decode cX7_draws 6 = .ok (.istore_n 2, 1) := by decide +kernel
theorem dX7_draws_7 : decode cX7_draws 7 = .ok (.aload_n 0, 1) := by decide +kernel
theorem dX7_draws_8 : decode cX7_draws 8 = .ok (.getfield 30, 3) := by decide +kernel
theorem dX7_draws_11 : decode cX7_draws 11 = .ok (.iload_n 1, 1) := by decide +kernel
theorem dX7_draws_12 : decode cX7_draws 12 = .ok (.iaload, 1) := by decide +kernel
theorem dX7_draws_13 : decode cX7_draws 13 = .ok (.i2l, 1) := by decide +kernel
theorem dX7_draws_14 : decode cX7_draws 14 = .ok (.ldc2_w 125, 3) := by decide +kernel
theorem dX7_draws_17 : decode cX7_draws 17 = .ok (.aload_n 0, 1) := by decide +kernel
theorem dX7_draws_18 : decode cX7_draws 18 = .ok (.getfield 7, 3) := by decide +kernel
theorem dX7_draws_21 : decode cX7_draws 21 = .ok (.bipush 48, 2) := by decide +kernel
theorem dX7_draws_23 : decode cX7_draws 23 = .ok (.iload_n 1, 1) := by decide +kernel
theorem dX7_draws_24 : decode cX7_draws 24 = .ok (.iadd, 1) := by decide +kernel
theorem dX7_draws_25 : decode cX7_draws 25 = .ok (.laload, 1) := by decide +kernel
theorem dX7_draws_26 : decode cX7_draws 26 = .ok (.lsub, 1) := by decide +kernel
theorem dX7_draws_27 : decode cX7_draws 27 = .ok (.lmul, 1) := by decide +kernel
theorem dX7_draws_28 : decode cX7_draws 28 = .ok (.ldc2_w 125, 3) := by decide +kernel
theorem dX7_draws_31 : decode cX7_draws 31 = .ok (.ldiv, 1) := by decide +kernel
theorem dX7_draws_32 : decode cX7_draws 32 = .ok (.aload_n 0, 1) := by decide +kernel
theorem dX7_draws_33 : decode cX7_draws 33 = .ok (.getfield 7, 3) := by decide +kernel
theorem dX7_draws_36 : decode cX7_draws 36 = .ok (.iconst 0, 1) := by decide +kernel
theorem dX7_draws_37 : decode cX7_draws 37 = .ok (.iload_n 2, 1) := by decide +kernel
theorem dX7_draws_38 : decode cX7_draws 38 = .ok (.iadd, 1) := by decide +kernel
theorem dX7_draws_39 : decode cX7_draws 39 = .ok (.laload, 1) := by decide +kernel
theorem dX7_draws_40 : decode cX7_draws 40 = .ok (.ldc2_w 127, 3) := by decide +kernel
theorem dX7_draws_43 : decode cX7_draws 43 = .ok (.ldiv, 1) := by decide +kernel
theorem dX7_draws_44 : decode cX7_draws 44 = .ok (.invokestatic 129, 3) := by decide +kernel
theorem dX7_draws_47 : decode cX7_draws 47 = .ok (.lstore_n 3, 1) := by decide +kernel
theorem dX7_draws_48 : decode cX7_draws 48 = .ok (.aload_n 0, 1) := by decide +kernel
theorem dX7_draws_49 : decode cX7_draws 49 = .ok (.iload_n 2, 1) := by decide +kernel
theorem dX7_draws_50 : decode cX7_draws 50 = .ok (.invokevirtual 111, 3) := by decide +kernel
theorem dX7_draws_53 : decode cX7_draws 53 = .ok (.lstore 5, 2) := by decide +kernel
theorem dX7_draws_55 : decode cX7_draws 55 = .ok (.aload_n 0, 1) := by decide +kernel
theorem dX7_draws_56 : decode cX7_draws 56 = .ok (.iload_n 2, 1) := by decide +kernel
theorem dX7_draws_57 : decode cX7_draws 57 = .ok (.lload_n 3, 1) := by decide +kernel
theorem dX7_draws_58 : decode cX7_draws 58 = .ok (.invokevirtual 133, 3) := by decide +kernel
theorem dX7_draws_61 : decode cX7_draws 61 = .ok (.lstore 7, 2) := by decide +kernel
theorem dX7_draws_63 : decode cX7_draws 63 = .ok (.aload_n 0, 1) := by decide +kernel
theorem dX7_draws_64 : decode cX7_draws 64 = .ok (.getfield 7, 3) := by decide +kernel
theorem dX7_draws_67 : decode cX7_draws 67 = .ok (.bipush 78, 2) := by decide +kernel
theorem dX7_draws_69 : decode cX7_draws 69 = .ok (.iload_n 1, 1) := by decide +kernel
theorem dX7_draws_70 : decode cX7_draws 70 = .ok (.iadd, 1) := by decide +kernel
theorem dX7_draws_71 : decode cX7_draws 71 = .ok (.dup2, 1) := by decide +kernel
theorem dX7_draws_72 : decode cX7_draws 72 = .ok (.laload, 1) := by decide +kernel
theorem dX7_draws_73 : decode cX7_draws 73 = .ok (.lload 7, 2) := by decide +kernel
theorem dX7_draws_75 : decode cX7_draws 75 = .ok (.ladd, 1) := by decide +kernel
theorem dX7_draws_76 : decode cX7_draws 76 = .ok (.lastore, 1) := by decide +kernel
theorem dX7_draws_77 : decode cX7_draws 77 = .ok (.aload_n 0, 1) := by decide +kernel
theorem dX7_draws_78 : decode cX7_draws 78 = .ok (.getfield 7, 3) := by decide +kernel
theorem dX7_draws_81 : decode cX7_draws 81 = .ok (.bipush 88, 2) := by decide +kernel
theorem dX7_draws_83 : decode cX7_draws 83 = .ok (.iload_n 1, 1) := by decide +kernel
theorem dX7_draws_84 : decode cX7_draws 84 = .ok (.iadd, 1) := by decide +kernel
theorem dX7_draws_85 : decode cX7_draws 85 = .ok (.lload 7, 2) := by decide +kernel
theorem dX7_draws_87 : decode cX7_draws 87 = .ok (.lconst 0, 1) := by decide +kernel
theorem dX7_draws_88 : decode cX7_draws 88 = .ok (.lcmp, 1) := by decide +kernel
theorem dX7_draws_89 : decode cX7_draws 89 = .ok (.ifCond .le 30, 3) := by decide +kernel
theorem dX7_draws_92 : decode cX7_draws 92 = .ok (.aload_n 0, 1) := by decide +kernel
theorem dX7_draws_93 : decode cX7_draws 93 = .ok (.getfield 7, 3) := by decide +kernel
theorem dX7_draws_96 : decode cX7_draws 96 = .ok (.bipush 88, 2) := by decide +kernel
theorem dX7_draws_98 : decode cX7_draws 98 = .ok (.iload_n 1, 1) := by decide +kernel
theorem dX7_draws_99 : decode cX7_draws 99 = .ok (.iadd, 1) := by decide +kernel
theorem dX7_draws_100 : decode cX7_draws 100 = .ok (.laload, 1) := by decide +kernel
theorem dX7_draws_101 : decode cX7_draws 101 = .ok (.ldc2_w 99, 3) := by decide +kernel
theorem dX7_draws_104 : decode cX7_draws 104 = .ok (.lcmp, 1) := by decide +kernel
theorem dX7_draws_105 : decode cX7_draws 105 = .ok (.ifCond .ne 14, 3) := by decide +kernel
theorem dX7_draws_108 : decode cX7_draws 108 = .ok (.aload_n 0, 1) := by decide +kernel
theorem dX7_draws_109 : decode cX7_draws 109 = .ok (.getfield 7, 3) := by decide +kernel
theorem dX7_draws_112 : decode cX7_draws 112 = .ok (.sipush 154, 3) := by decide +kernel
theorem dX7_draws_115 : decode cX7_draws 115 = .ok (.laload, 1) := by decide +kernel
theorem dX7_draws_116 : decode cX7_draws 116 = .ok (.goto 12, 3) := by decide +kernel
theorem dX7_draws_119 : decode cX7_draws 119 = .ok (.aload_n 0, 1) := by decide +kernel
theorem dX7_draws_120 : decode cX7_draws 120 = .ok (.getfield 7, 3) := by decide +kernel
theorem dX7_draws_123 : decode cX7_draws 123 = .ok (.bipush 88, 2) := by decide +kernel
theorem dX7_draws_125 : decode cX7_draws 125 = .ok (.iload_n 1, 1) := by decide +kernel
theorem dX7_draws_126 : decode cX7_draws 126 = .ok (.iadd, 1) := by decide +kernel
theorem dX7_draws_127 : decode cX7_draws 127 = .ok (.laload, 1) := by decide +kernel
theorem dX7_draws_128 : decode cX7_draws 128 = .ok (.lastore, 1) := by decide +kernel
theorem dX7_draws_129 : decode cX7_draws 129 = .ok (.lload 5, 2) := by decide +kernel
theorem dX7_draws_131 : decode cX7_draws 131 = .ok (.ldc2_w 125, 3) := by decide +kernel
theorem dX7_draws_134 : decode cX7_draws 134 = .ok (.lcmp, 1) := by decide +kernel
theorem dX7_draws_135 : decode cX7_draws 135 = .ok (.ifCond .le 24, 3) := by decide +kernel
theorem dX7_draws_138 : decode cX7_draws 138 = .ok (.lload_n 3, 1) := by decide +kernel
theorem dX7_draws_139 : decode cX7_draws 139 = .ok (.lload 5, 2) := by decide +kernel
theorem dX7_draws_141 : decode cX7_draws 141 = .ok (.ldc2_w 125, 3) := by decide +kernel
theorem dX7_draws_144 : decode cX7_draws 144 = .ok (.lsub, 1) := by decide +kernel
theorem dX7_draws_145 : decode cX7_draws 145 = .ok (.ldc2_w 137, 3) := by decide +kernel
theorem dX7_draws_148 : decode cX7_draws 148 = .ok (.invokestatic 129, 3) := by decide +kernel
theorem dX7_draws_151 : decode cX7_draws 151 = .ok (.lmul, 1) := by decide +kernel
theorem dX7_draws_152 : decode cX7_draws 152 = .ok (.ldc2_w 139, 3) := by decide +kernel
theorem dX7_draws_155 : decode cX7_draws 155 = .ok (.ldiv, 1) := by decide +kernel
theorem dX7_draws_156 : decode cX7_draws 156 = .ok (.goto 4, 3) := by decide +kernel
theorem dX7_draws_159 : decode cX7_draws 159 = .ok (.lconst 0, 1) := by decide +kernel
theorem dX7_draws_160 : decode cX7_draws 160 = .ok (.lstore 9, 2) := by decide +kernel
theorem dX7_draws_162 : decode cX7_draws 162 = .ok (.aload_n 0, 1) := by decide +kernel
theorem dX7_draws_163 : decode cX7_draws 163 = .ok (.getfield 7, 3) := by decide +kernel
theorem dX7_draws_166 : decode cX7_draws 166 = .ok (.sipush 147, 3) := by decide +kernel
theorem dX7_draws_169 : decode cX7_draws 169 = .ok (.dup2, 1) := by decide +kernel
theorem dX7_draws_170 : decode cX7_draws 170 = .ok (.laload, 1) := by decide +kernel
theorem dX7_draws_171 : decode cX7_draws 171 = .ok (.lload 9, 2) := by decide +kernel
theorem dX7_draws_173 : decode cX7_draws 173 = .ok (.ladd, 1) := by decide +kernel
theorem dX7_draws_174 : decode cX7_draws 174 = .ok (.lastore, 1) := by decide +kernel
theorem dX7_draws_175 : decode cX7_draws 175 = .ok (.aload_n 0, 1) := by decide +kernel
theorem dX7_draws_176 : decode cX7_draws 176 = .ok (.getfield 7, 3) := by decide +kernel
theorem dX7_draws_179 : decode cX7_draws 179 = .ok (.sipush 152, 3) := by decide +kernel
theorem dX7_draws_182 : decode cX7_draws 182 = .ok (.dup2, 1) := by decide +kernel
theorem dX7_draws_183 : decode cX7_draws 183 = .ok (.laload, 1) := by decide +kernel
theorem dX7_draws_184 : decode cX7_draws 184 = .ok (.lload 5, 2) := by decide +kernel
theorem dX7_draws_186 : decode cX7_draws 186 = .ok (.ldc2_w 141, 3) := by decide +kernel
theorem dX7_draws_189 : decode cX7_draws 189 = .ok (.lcmp, 1) := by decide +kernel
theorem dX7_draws_190 : decode cX7_draws 190 = .ok (.ifCond .le 19, 3) := by decide +kernel
theorem dX7_draws_193 : decode cX7_draws 193 = .ok (.lload 9, 2) := by decide +kernel
theorem dX7_draws_195 : decode cX7_draws 195 = .ok (.lload 5, 2) := by decide +kernel
theorem dX7_draws_197 : decode cX7_draws 197 = .ok (.ldc2_w 141, 3) := by decide +kernel
theorem dX7_draws_200 : decode cX7_draws 200 = .ok (.lsub, 1) := by decide +kernel
theorem dX7_draws_201 : decode cX7_draws 201 = .ok (.lmul, 1) := by decide +kernel
theorem dX7_draws_202 : decode cX7_draws 202 = .ok (.ldc2_w 127, 3) := by decide +kernel
theorem dX7_draws_205 : decode cX7_draws 205 = .ok (.ldiv, 1) := by decide +kernel
theorem dX7_draws_206 : decode cX7_draws 206 = .ok (.goto 4, 3) := by decide +kernel
theorem dX7_draws_209 : decode cX7_draws 209 = .ok (.lconst 0, 1) := by decide +kernel
theorem dX7_draws_210 : decode cX7_draws 210 = .ok (.ladd, 1) := by decide +kernel
theorem dX7_draws_211 : decode cX7_draws 211 = .ok (.lastore, 1) := by decide +kernel
theorem dX7_draws_212 : decode cX7_draws 212 = .ok (.aload_n 0, 1) := by decide +kernel
theorem dX7_draws_213 : decode cX7_draws 213 = .ok (.getfield 7, 3) := by decide +kernel
theorem dX7_draws_216 : decode cX7_draws 216 = .ok (.sipush 153, 3) := by decide +kernel
theorem dX7_draws_219 : decode cX7_draws 219 = .ok (.dup2, 1) := by decide +kernel
theorem dX7_draws_220 : decode cX7_draws 220 = .ok (.laload, 1) := by decide +kernel
theorem dX7_draws_221 : decode cX7_draws 221 = .ok (.lload_n 3, 1) := by decide +kernel
theorem dX7_draws_222 : decode cX7_draws 222 = .ok (.lload 5, 2) := by decide +kernel
theorem dX7_draws_224 : decode cX7_draws 224 = .ok (.lmul, 1) := by decide +kernel
theorem dX7_draws_225 : decode cX7_draws 225 = .ok (.ladd, 1) := by decide +kernel
theorem dX7_draws_226 : decode cX7_draws 226 = .ok (.lastore, 1) := by decide +kernel
theorem dX7_draws_227 : decode cX7_draws 227 = .ok (.aload_n 0, 1) := by decide +kernel
theorem dX7_draws_228 : decode cX7_draws 228 = .ok (.getfield 7, 3) := by decide +kernel
theorem dX7_draws_231 : decode cX7_draws 231 = .ok (.bipush 58, 2) := by decide +kernel
theorem dX7_draws_233 : decode cX7_draws 233 = .ok (.iload_n 1, 1) := by decide +kernel
theorem dX7_draws_234 : decode cX7_draws 234 = .ok (.iadd, 1) := by decide +kernel
theorem dX7_draws_235 : decode cX7_draws 235 = .ok (.lload_n 3, 1) := by decide +kernel
theorem dX7_draws_236 : decode cX7_draws 236 = .ok (.lastore, 1) := by decide +kernel
theorem dX7_draws_237 : decode cX7_draws 237 = .ok (.lload 5, 2) := by decide +kernel
theorem dX7_draws_239 : decode cX7_draws 239 = .ok (.ldc2_w 143, 3) := by decide +kernel
theorem dX7_draws_242 : decode cX7_draws 242 = .ok (.lcmp, 1) := by decide +kernel
theorem dX7_draws_243 : decode cX7_draws 243 = .ok (.ifCond .le 41, 3) := by decide +kernel
theorem dX7_draws_246 : decode cX7_draws 246 = .ok (.lload_n 3, 1) := by decide +kernel
theorem dX7_draws_247 : decode cX7_draws 247 = .ok (.lconst 0, 1) := by decide +kernel
theorem dX7_draws_248 : decode cX7_draws 248 = .ok (.lcmp, 1) := by decide +kernel
theorem dX7_draws_249 : decode cX7_draws 249 = .ok (.ifCond .le 35, 3) := by decide +kernel
theorem dX7_draws_252 : decode cX7_draws 252 = .ok (.aload_n 0, 1) := by decide +kernel
theorem dX7_draws_253 : decode cX7_draws 253 = .ok (.getfield 7, 3) := by decide +kernel
theorem dX7_draws_256 : decode cX7_draws 256 = .ok (.bipush 48, 2) := by decide +kernel
theorem dX7_draws_258 : decode cX7_draws 258 = .ok (.iload_n 1, 1) := by decide +kernel
theorem dX7_draws_259 : decode cX7_draws 259 = .ok (.iadd, 1) := by decide +kernel
theorem dX7_draws_260 : decode cX7_draws 260 = .ok (.ldc2_w 125, 3) := by decide +kernel
theorem dX7_draws_263 : decode cX7_draws 263 = .ok (.aload_n 0, 1) := by decide +kernel
theorem dX7_draws_264 : decode cX7_draws 264 = .ok (.getfield 7, 3) := by decide +kernel
theorem dX7_draws_267 : decode cX7_draws 267 = .ok (.bipush 48, 2) := by decide +kernel
theorem dX7_draws_269 : decode cX7_draws 269 = .ok (.iload_n 1, 1) := by decide +kernel
theorem dX7_draws_270 : decode cX7_draws 270 = .ok (.iadd, 1) := by decide +kernel
theorem dX7_draws_271 : decode cX7_draws 271 = .ok (.laload, 1) := by decide +kernel
theorem dX7_draws_272 : decode cX7_draws 272 = .ok (.lconst 1, 1) := by decide +kernel
theorem dX7_draws_273 : decode cX7_draws 273 = .ok (.ladd, 1) := by decide +kernel
theorem dX7_draws_274 : decode cX7_draws 274 = .ok (.lload_n 3, 1) := by decide +kernel
theorem dX7_draws_275 : decode cX7_draws 275 = .ok (.ldc2_w 145, 3) := by decide +kernel
theorem dX7_draws_278 : decode cX7_draws 278 = .ok (.ldiv, 1) := by decide +kernel
theorem dX7_draws_279 : decode cX7_draws 279 = .ok (.ladd, 1) := by decide +kernel
theorem dX7_draws_280 : decode cX7_draws 280 = .ok (.invokestatic 129, 3) := by decide +kernel
theorem dX7_draws_283 : decode cX7_draws 283 = .ok (.lastore, 1) := by decide +kernel
theorem dX7_draws_284 : decode cX7_draws 284 = .ok (.iconst 0, 1) := by decide +kernel
theorem dX7_draws_285 : decode cX7_draws 285 = .ok (.istore 11, 2) := by decide +kernel
theorem dX7_draws_287 : decode cX7_draws 287 = .ok (.iload 11, 2) := by decide +kernel
theorem dX7_draws_289 : decode cX7_draws 289 = .ok (.aload_n 0, 1) := by decide +kernel
theorem dX7_draws_290 : decode cX7_draws 290 = .ok (.getfield 75, 3) := by decide +kernel
theorem dX7_draws_293 : decode cX7_draws 293 = .ok (.if_icmp .ge 46, 3) := by decide +kernel
theorem dX7_draws_296 : decode cX7_draws 296 = .ok (.aload_n 0, 1) := by decide +kernel
theorem dX7_draws_297 : decode cX7_draws 297 = .ok (.getfield 7, 3) := by decide +kernel
theorem dX7_draws_300 : decode cX7_draws 300 = .ok (.bipush 106, 2) := by decide +kernel
theorem dX7_draws_302 : decode cX7_draws 302 = .ok (.bipush 10, 2) := by decide +kernel
theorem dX7_draws_304 : decode cX7_draws 304 = .ok (.iload 11, 2) := by decide +kernel
theorem dX7_draws_306 : decode cX7_draws 306 = .ok (.imul, 1) := by decide +kernel
theorem dX7_draws_307 : decode cX7_draws 307 = .ok (.iadd, 1) := by decide +kernel
theorem dX7_draws_308 : decode cX7_draws 308 = .ok (.iload_n 1, 1) := by decide +kernel
theorem dX7_draws_309 : decode cX7_draws 309 = .ok (.iadd, 1) := by decide +kernel
theorem dX7_draws_310 : decode cX7_draws 310 = .ok (.dup2, 1) := by decide +kernel
theorem dX7_draws_311 : decode cX7_draws 311 = .ok (.laload, 1) := by decide +kernel
theorem dX7_draws_312 : decode cX7_draws 312 = .ok (.iload_n 2, 1) := by decide +kernel
theorem dX7_draws_313 : decode cX7_draws 313 = .ok (.aload_n 0, 1) := by decide +kernel
theorem dX7_draws_314 : decode cX7_draws 314 = .ok (.getfield 42, 3) := by decide +kernel
theorem dX7_draws_317 : decode cX7_draws 317 = .ok (.iload 11, 2) := by decide +kernel
theorem dX7_draws_319 : decode cX7_draws 319 = .ok (.iaload, 1) := by decide +kernel
theorem dX7_draws_320 : decode cX7_draws 320 = .ok (.invokestatic 115, 3) := by decide +kernel
theorem dX7_draws_323 : decode cX7_draws 323 = .ok (.ifCond .eq 7, 3) := by decide +kernel
theorem dX7_draws_326 : decode cX7_draws 326 = .ok (.lload_n 3, 1) := by decide +kernel
theorem dX7_draws_327 : decode cX7_draws 327 = .ok (.goto 4, 3) := by decide +kernel
theorem dX7_draws_330 : decode cX7_draws 330 = .ok (.lconst 0, 1) := by decide +kernel
theorem dX7_draws_331 : decode cX7_draws 331 = .ok (.ladd, 1) := by decide +kernel
theorem dX7_draws_332 : decode cX7_draws 332 = .ok (.lastore, 1) := by decide +kernel
theorem dX7_draws_333 : decode cX7_draws 333 = .ok (.iinc 11 1, 3) := by decide +kernel
theorem dX7_draws_336 : decode cX7_draws 336 = .ok (.goto (-49), 3) := by decide +kernel
theorem dX7_draws_339 : decode cX7_draws 339 = .ok (.lload_n 3, 1) := by decide +kernel
theorem dX7_draws_340 : decode cX7_draws 340 = .ok (.lload 9, 2) := by decide +kernel
theorem dX7_draws_342 : decode cX7_draws 342 = .ok (.lsub, 1) := by decide +kernel
theorem dX7_draws_343 : decode cX7_draws 343 = .ok (.lreturn, 1) := by decide +kernel
theorem dX7_returns_0 : decode cX7_returns 0 = .ok (.lconst 0, 1) := by decide +kernel
theorem dX7_returns_1 : decode cX7_returns 1 = .ok (.lstore 5, 2) := by decide +kernel
theorem dX7_returns_3 : decode cX7_returns 3 = .ok (.iconst 0, 1) := by decide +kernel
theorem dX7_returns_4 : decode cX7_returns 4 = .ok (.istore 7, 2) := by decide +kernel
theorem dX7_returns_6 : decode cX7_returns 6 = .ok (.iload 7, 2) := by decide +kernel
theorem dX7_returns_8 : decode cX7_returns 8 = .ok (.aload_n 0, 1) := by decide +kernel
theorem dX7_returns_9 : decode cX7_returns 9 = .ok (.getfield 72, 3) := by decide +kernel
theorem dX7_returns_12 : decode cX7_returns 12 = .ok (.if_icmp .ge 51, 3) := by decide +kernel
theorem dX7_returns_15 : decode cX7_returns 15 = .ok (.lload 5, 2) := by decide +kernel
theorem dX7_returns_17 : decode cX7_returns 17 = .ok (.aload_n 0, 1) := by decide +kernel
theorem dX7_returns_18 : decode cX7_returns 18 = .ok (.getfield 26, 3) := by decide +kernel
theorem dX7_returns_21 : decode cX7_returns 21 = .ok (.iload 7, 2) := by decide +kernel
theorem dX7_returns_23 : decode cX7_returns 23 = .ok (.baload, 1) := by decide +kernel
theorem dX7_returns_24 : decode cX7_returns 24 = .ok (.ifCond .eq 29, 3) := by decide +kernel
theorem dX7_returns_27 : decode cX7_returns 27 = .ok (.aload_n 0, 1) := by decide +kernel
theorem dX7_returns_28 : decode cX7_returns 28 = .ok (.getfield 7, 3) := by decide +kernel
theorem dX7_returns_31 : decode cX7_returns 31 = .ok (.bipush 68, 2) := by decide +kernel
theorem dX7_returns_33 : decode cX7_returns 33 = .ok (.iload 7, 2) := by decide +kernel
theorem dX7_returns_35 : decode cX7_returns 35 = .ok (.iadd, 1) := by decide +kernel
theorem dX7_returns_36 : decode cX7_returns 36 = .ok (.laload, 1) := by decide +kernel
theorem dX7_returns_37 : decode cX7_returns 37 = .ok (.lconst 0, 1) := by decide +kernel
theorem dX7_returns_38 : decode cX7_returns 38 = .ok (.lcmp, 1) := by decide +kernel
theorem dX7_returns_39 : decode cX7_returns 39 = .ok (.ifCond .ne 14, 3) := by decide +kernel
theorem dX7_returns_42 : decode cX7_returns 42 = .ok (.aload_n 0, 1) := by decide +kernel
theorem dX7_returns_43 : decode cX7_returns 43 = .ok (.getfield 30, 3) := by decide +kernel
theorem dX7_returns_46 : decode cX7_returns 46 = .ok (.iload 7, 2) := by decide +kernel
theorem dX7_returns_48 : decode cX7_returns 48 = .ok (.iaload, 1) := by decide +kernel
theorem dX7_returns_49 : decode cX7_returns 49 = .ok (.i2l, 1) := by decide +kernel
theorem dX7_returns_50 : decode cX7_returns 50 = .ok (.goto 4, 3) := by decide +kernel
theorem dX7_returns_53 : decode cX7_returns 53 = .ok (.lconst 0, 1) := by decide +kernel
theorem dX7_returns_54 : decode cX7_returns 54 = .ok (.ladd, 1) := by decide +kernel
theorem dX7_returns_55 : decode cX7_returns 55 = .ok (.lstore 5, 2) := by decide +kernel
theorem dX7_returns_57 : decode cX7_returns 57 = .ok (.iinc 7 1, 3) := by decide +kernel
theorem dX7_returns_60 : decode cX7_returns 60 = .ok (.goto (-54), 3) := by decide +kernel
theorem dX7_returns_63 : decode cX7_returns 63 = .ok (.lload_n 1, 1) := by decide +kernel
theorem dX7_returns_64 : decode cX7_returns 64 = .ok (.lstore 7, 2) := by decide +kernel
theorem dX7_returns_66 : decode cX7_returns 66 = .ok (.iconst 0, 1) := by decide +kernel
theorem dX7_returns_67 : decode cX7_returns 67 = .ok (.istore 9, 2) := by decide +kernel
theorem dX7_returns_69 : decode cX7_returns 69 = .ok (.iload 9, 2) := by decide +kernel
theorem dX7_returns_71 : decode cX7_returns 71 = .ok (.aload_n 0, 1) := by decide +kernel
theorem dX7_returns_72 : decode cX7_returns 72 = .ok (.getfield 72, 3) := by decide +kernel
theorem dX7_returns_75 : decode cX7_returns 75 = .ok (.if_icmp .ge 130, 3) := by decide +kernel
theorem dX7_returns_78 : decode cX7_returns 78 = .ok (.aload_n 0, 1) := by decide +kernel
theorem dX7_returns_79 : decode cX7_returns 79 = .ok (.getfield 33, 3) := by decide +kernel
theorem dX7_returns_82 : decode cX7_returns 82 = .ok (.iload 9, 2) := by decide +kernel
theorem dX7_returns_84 : decode cX7_returns 84 = .ok (.aload_n 0, 1) := by decide +kernel
theorem dX7_returns_85 : decode cX7_returns 85 = .ok (.getfield 26, 3) := by decide +kernel
theorem dX7_returns_88 : decode cX7_returns 88 = .ok (.iload 9, 2) := by decide +kernel
theorem dX7_returns_90 : decode cX7_returns 90 = .ok (.baload, 1) := by decide +kernel
theorem dX7_returns_91 : decode cX7_returns 91 = .ok (.ifCond .eq 41, 3) := by decide +kernel
theorem dX7_returns_94 : decode cX7_returns 94 = .ok (.aload_n 0, 1) := by decide +kernel
theorem dX7_returns_95 : decode cX7_returns 95 = .ok (.getfield 7, 3) := by decide +kernel
theorem dX7_returns_98 : decode cX7_returns 98 = .ok (.bipush 68, 2) := by decide +kernel
theorem dX7_returns_100 : decode cX7_returns 100 = .ok (.iload 9, 2) := by decide +kernel
theorem dX7_returns_102 : decode cX7_returns 102 = .ok (.iadd, 1) := by decide +kernel
theorem dX7_returns_103 : decode cX7_returns 103 = .ok (.laload, 1) := by decide +kernel
theorem dX7_returns_104 : decode cX7_returns 104 = .ok (.lconst 0, 1) := by decide +kernel
theorem dX7_returns_105 : decode cX7_returns 105 = .ok (.lcmp, 1) := by decide +kernel
theorem dX7_returns_106 : decode cX7_returns 106 = .ok (.ifCond .ne 26, 3) := by decide +kernel
theorem dX7_returns_109 : decode cX7_returns 109 = .ok (.lload 5, 2) := by decide +kernel
theorem dX7_returns_111 : decode cX7_returns 111 = .ok (.lconst 0, 1) := by decide +kernel
theorem dX7_returns_112 : decode cX7_returns 112 = .ok (.lcmp, 1) := by decide +kernel
theorem dX7_returns_113 : decode cX7_returns 113 = .ok (.ifCond .le 19, 3) := by decide +kernel
theorem dX7_returns_116 : decode cX7_returns 116 = .ok (.lload_n 1, 1) := by decide +kernel
theorem dX7_returns_117 : decode cX7_returns 117 = .ok (.aload_n 0, 1) := by decide +kernel
theorem dX7_returns_118 : decode cX7_returns 118 = .ok (.getfield 30, 3) := by decide +kernel
theorem dX7_returns_121 : decode cX7_returns 121 = .ok (.iload 9, 2) := by decide +kernel
theorem dX7_returns_123 : decode cX7_returns 123 = .ok (.iaload, 1) := by decide +kernel
theorem dX7_returns_124 : decode cX7_returns 124 = .ok (.i2l, 1) := by decide +kernel
theorem dX7_returns_125 : decode cX7_returns 125 = .ok (.lmul, 1) := by decide +kernel
theorem dX7_returns_126 : decode cX7_returns 126 = .ok (.lload 5, 2) := by decide +kernel
theorem dX7_returns_128 : decode cX7_returns 128 = .ok (.ldiv, 1) := by decide +kernel
theorem dX7_returns_129 : decode cX7_returns 129 = .ok (.goto 4, 3) := by decide +kernel
theorem dX7_returns_132 : decode cX7_returns 132 = .ok (.lconst 0, 1) := by decide +kernel
theorem dX7_returns_133 : decode cX7_returns 133 = .ok (.lastore, 1) := by decide +kernel
theorem dX7_returns_134 : decode cX7_returns 134 = .ok (.aload_n 0, 1) := by decide +kernel
theorem dX7_returns_135 : decode cX7_returns 135 = .ok (.getfield 33, 3) := by decide +kernel
theorem dX7_returns_138 : decode cX7_returns 138 = .ok (.iload 9, 2) := by decide +kernel
theorem dX7_returns_140 : decode cX7_returns 140 = .ok (.aload_n 0, 1) := by decide +kernel
theorem dX7_returns_141 : decode cX7_returns 141 = .ok (.getfield 26, 3) := by decide +kernel
theorem dX7_returns_144 : decode cX7_returns 144 = .ok (.iload 9, 2) := by decide +kernel
theorem dX7_returns_146 : decode cX7_returns 146 = .ok (.baload, 1) := by decide +kernel
theorem dX7_returns_147 : decode cX7_returns 147 = .ok (.ifCond .eq 32, 3) := by decide +kernel
theorem dX7_returns_150 : decode cX7_returns 150 = .ok (.aload_n 0, 1) := by decide +kernel
theorem dX7_returns_151 : decode cX7_returns 151 = .ok (.aload_n 0, 1) := by decide +kernel
theorem dX7_returns_152 : decode cX7_returns 152 = .ok (.getfield 23, 3) := by decide +kernel
theorem dX7_returns_155 : decode cX7_returns 155 = .ok (.iload 9, 2) := by decide +kernel
theorem dX7_returns_157 : decode cX7_returns 157 = .ok (.iaload, 1) := by decide +kernel
theorem dX7_returns_158 : decode cX7_returns 158 = .ok (.invokevirtual 118, 3) := by decide +kernel
theorem dX7_returns_161 : decode cX7_returns 161 = .ok (.iconst 1, 1) := by decide +kernel
theorem dX7_returns_162 : decode cX7_returns 162 = .ok (.if_icmp .ne 17, 3) := by decide +kernel
theorem dX7_returns_165 : decode cX7_returns 165 = .ok (.aload_n 0, 1) := by decide +kernel
theorem dX7_returns_166 : decode cX7_returns 166 = .ok (.getfield 33, 3) := by decide +kernel
theorem dX7_returns_169 : decode cX7_returns 169 = .ok (.iload 9, 2) := by decide +kernel
theorem dX7_returns_171 : decode cX7_returns 171 = .ok (.laload, 1) := by decide +kernel
theorem dX7_returns_172 : decode cX7_returns 172 = .ok (.ldc2_w 147, 3) := by decide +kernel
theorem dX7_returns_175 : decode cX7_returns 175 = .ok (.ldiv, 1) := by decide +kernel
theorem dX7_returns_176 : decode cX7_returns 176 = .ok (.goto 10, 3) := by decide +kernel
theorem dX7_returns_179 : decode cX7_returns 179 = .ok (.aload_n 0, 1) := by decide +kernel
theorem dX7_returns_180 : decode cX7_returns 180 = .ok (.getfield 33, 3) := by decide +kernel
theorem dX7_returns_183 : decode cX7_returns 183 = .ok (.iload 9, 2) := by decide +kernel
theorem dX7_returns_185 : decode cX7_returns 185 = .ok (.laload, 1) := by decide +kernel
theorem dX7_returns_186 : decode cX7_returns 186 = .ok (.lastore, 1) := by decide +kernel
theorem dX7_returns_187 : decode cX7_returns 187 = .ok (.lload 7, 2) := by decide +kernel
theorem dX7_returns_189 : decode cX7_returns 189 = .ok (.aload_n 0, 1) := by decide +kernel
theorem dX7_returns_190 : decode cX7_returns 190 = .ok (.getfield 33, 3) := by decide +kernel
theorem dX7_returns_193 : decode cX7_returns 193 = .ok (.iload 9, 2) := by decide +kernel
theorem dX7_returns_195 : decode cX7_returns 195 = .ok (.laload, 1) := by decide +kernel
theorem dX7_returns_196 : decode cX7_returns 196 = .ok (.lsub, 1) := by decide +kernel
theorem dX7_returns_197 : decode cX7_returns 197 = .ok (.lstore 7, 2) := by decide +kernel
theorem dX7_returns_199 : decode cX7_returns 199 = .ok (.iinc 9 1, 3) := by decide +kernel
theorem dX7_returns_202 : decode cX7_returns 202 = .ok (.goto (-133), 3) := by decide +kernel
theorem dX7_returns_205 : decode cX7_returns 205 = .ok (.aload_n 0, 1) := by decide +kernel
theorem dX7_returns_206 : decode cX7_returns 206 = .ok (.getfield 7, 3) := by decide +kernel
theorem dX7_returns_209 : decode cX7_returns 209 = .ok (.sipush 148, 3) := by decide +kernel
theorem dX7_returns_212 : decode cX7_returns 212 = .ok (.dup2, 1) := by decide +kernel
theorem dX7_returns_213 : decode cX7_returns 213 = .ok (.laload, 1) := by decide +kernel
theorem dX7_returns_214 : decode cX7_returns 214 = .ok (.lload 7, 2) := by decide +kernel
theorem dX7_returns_216 : decode cX7_returns 216 = .ok (.ladd, 1) := by decide +kernel
theorem dX7_returns_217 : decode cX7_returns 217 = .ok (.lastore, 1) := by decide +kernel
theorem dX7_returns_218 : decode cX7_returns 218 = .ok (.iconst 0, 1) := by decide +kernel
theorem dX7_returns_219 : decode cX7_returns 219 = .ok (.istore 9, 2) := by decide +kernel
theorem dX7_returns_221 : decode cX7_returns 221 = .ok (.iload 9, 2) := by decide +kernel
theorem dX7_returns_223 : decode cX7_returns 223 = .ok (.aload_n 0, 1) := by decide +kernel
theorem dX7_returns_224 : decode cX7_returns 224 = .ok (.getfield 72, 3) := by decide +kernel
theorem dX7_returns_227 : decode cX7_returns 227 = .ok (.if_icmp .ge 112, 3) := by decide +kernel
theorem dX7_returns_230 : decode cX7_returns 230 = .ok (.aload_n 0, 1) := by decide +kernel
theorem dX7_returns_231 : decode cX7_returns 231 = .ok (.getfield 26, 3) := by decide +kernel
theorem dX7_returns_234 : decode cX7_returns 234 = .ok (.iload 9, 2) := by decide +kernel
theorem dX7_returns_236 : decode cX7_returns 236 = .ok (.baload, 1) := by decide +kernel
theorem dX7_returns_237 : decode cX7_returns 237 = .ok (.ifCond .eq 96, 3) := by decide +kernel
theorem dX7_returns_240 : decode cX7_returns 240 = .ok (.aload_n 0, 1) := by decide +kernel
theorem dX7_returns_241 : decode cX7_returns 241 = .ok (.getfield 7, 3) := by decide +kernel
theorem dX7_returns_244 : decode cX7_returns 244 = .ok (.bipush 58, 2) := by decide +kernel
theorem dX7_returns_246 : decode cX7_returns 246 = .ok (.iload 9, 2) := by decide +kernel
theorem dX7_returns_248 : decode cX7_returns 248 = .ok (.iadd, 1) := by decide +kernel
theorem dX7_returns_249 : decode cX7_returns 249 = .ok (.aload_n 0, 1) := by decide +kernel
theorem dX7_returns_250 : decode cX7_returns 250 = .ok (.getfield 33, 3) := by decide +kernel
theorem dX7_returns_253 : decode cX7_returns 253 = .ok (.iload 9, 2) := by decide +kernel
theorem dX7_returns_255 : decode cX7_returns 255 = .ok (.laload, 1) := by decide +kernel
theorem dX7_returns_256 : decode cX7_returns 256 = .ok (.lastore, 1) := by decide +kernel
theorem dX7_returns_257 : decode cX7_returns 257 = .ok (.aload_n 0, 1) := by decide +kernel
theorem dX7_returns_258 : decode cX7_returns 258 = .ok (.getfield 7, 3) := by decide +kernel
theorem dX7_returns_261 : decode cX7_returns 261 = .ok (.iconst 0, 1) := by decide +kernel
theorem dX7_returns_262 : decode cX7_returns 262 = .ok (.aload_n 0, 1) := by decide +kernel
theorem dX7_returns_263 : decode cX7_returns 263 = .ok (.getfield 23, 3) := by decide +kernel
theorem dX7_returns_266 : decode cX7_returns 266 = .ok (.iload 9, 2) := by decide +kernel
theorem dX7_returns_268 : decode cX7_returns 268 = .ok (.iaload, 1) := by decide +kernel
theorem dX7_returns_269 : decode cX7_returns 269 = .ok (.iadd, 1) := by decide +kernel
theorem dX7_returns_270 : decode cX7_returns 270 = .ok (.dup2, 1) := by decide +kernel
theorem dX7_returns_271 : decode cX7_returns 271 = .ok (.laload, 1) := by decide +kernel
theorem dX7_returns_272 : decode cX7_returns 272 = .ok (.aload_n 0, 1) := by decide +kernel
theorem dX7_returns_273 : decode cX7_returns 273 = .ok (.getfield 33, 3) := by decide +kernel
theorem dX7_returns_276 : decode cX7_returns 276 = .ok (.iload 9, 2) := by decide +kernel
theorem dX7_returns_278 : decode cX7_returns 278 = .ok (.laload, 1) := by decide +kernel
theorem dX7_returns_279 : decode cX7_returns 279 = .ok (.ladd, 1) := by decide +kernel
theorem dX7_returns_280 : decode cX7_returns 280 = .ok (.lastore, 1) := by decide +kernel
theorem dX7_returns_281 : decode cX7_returns 281 = .ok (.aload_n 0, 1) := by decide +kernel
theorem dX7_returns_282 : decode cX7_returns 282 = .ok (.getfield 7, 3) := by decide +kernel
theorem dX7_returns_285 : decode cX7_returns 285 = .ok (.bipush 12, 2) := by decide +kernel
theorem dX7_returns_287 : decode cX7_returns 287 = .ok (.aload_n 0, 1) := by decide +kernel
theorem dX7_returns_288 : decode cX7_returns 288 = .ok (.getfield 23, 3) := by decide +kernel
theorem dX7_returns_291 : decode cX7_returns 291 = .ok (.iload 9, 2) := by decide +kernel
theorem dX7_returns_293 : decode cX7_returns 293 = .ok (.iaload, 1) := by decide +kernel
theorem dX7_returns_294 : decode cX7_returns 294 = .ok (.iadd, 1) := by decide +kernel
theorem dX7_returns_295 : decode cX7_returns 295 = .ok (.dup2, 1) := by decide +kernel
theorem dX7_returns_296 : decode cX7_returns 296 = .ok (.laload, 1) := by decide +kernel
theorem dX7_returns_297 : decode cX7_returns 297 = .ok (.aload_n 0, 1) := by decide +kernel
theorem dX7_returns_298 : decode cX7_returns 298 = .ok (.getfield 33, 3) := by decide +kernel
theorem dX7_returns_301 : decode cX7_returns 301 = .ok (.iload 9, 2) := by decide +kernel
theorem dX7_returns_303 : decode cX7_returns 303 = .ok (.laload, 1) := by decide +kernel
theorem dX7_returns_304 : decode cX7_returns 304 = .ok (.lload_n 3, 1) := by decide +kernel
theorem dX7_returns_305 : decode cX7_returns 305 = .ok (.lmul, 1) := by decide +kernel
theorem dX7_returns_306 : decode cX7_returns 306 = .ok (.ladd, 1) := by decide +kernel
theorem dX7_returns_307 : decode cX7_returns 307 = .ok (.lastore, 1) := by decide +kernel
theorem dX7_returns_308 : decode cX7_returns 308 = .ok (.aload_n 0, 1) := by decide +kernel
theorem dX7_returns_309 : decode cX7_returns 309 = .ok (.getfield 7, 3) := by decide +kernel
theorem dX7_returns_312 : decode cX7_returns 312 = .ok (.bipush 36, 2) := by decide +kernel
theorem dX7_returns_314 : decode cX7_returns 314 = .ok (.aload_n 0, 1) := by decide +kernel
theorem dX7_returns_315 : decode cX7_returns 315 = .ok (.getfield 23, 3) := by decide +kernel
theorem dX7_returns_318 : decode cX7_returns 318 = .ok (.iload 9, 2) := by decide +kernel
theorem dX7_returns_320 : decode cX7_returns 320 = .ok (.iaload, 1) := by decide +kernel
theorem dX7_returns_321 : decode cX7_returns 321 = .ok (.iadd, 1) := by decide +kernel
theorem dX7_returns_322 : decode cX7_returns 322 = .ok (.dup2, 1) := by decide +kernel
theorem dX7_returns_323 : decode cX7_returns 323 = .ok (.laload, 1) := by decide +kernel
theorem dX7_returns_324 : decode cX7_returns 324 = .ok (.aload_n 0, 1) := by decide +kernel
theorem dX7_returns_325 : decode cX7_returns 325 = .ok (.getfield 33, 3) := by decide +kernel
theorem dX7_returns_328 : decode cX7_returns 328 = .ok (.iload 9, 2) := by decide +kernel
theorem dX7_returns_330 : decode cX7_returns 330 = .ok (.laload, 1) := by decide +kernel
theorem dX7_returns_331 : decode cX7_returns 331 = .ok (.ladd, 1) := by decide +kernel
theorem dX7_returns_332 : decode cX7_returns 332 = .ok (.lastore, 1) := by decide +kernel
theorem dX7_returns_333 : decode cX7_returns 333 = .ok (.iinc 9 1, 3) := by decide +kernel
theorem dX7_returns_336 : decode cX7_returns 336 = .ok (.goto (-115), 3) := by decide +kernel
theorem dX7_returns_339 : decode cX7_returns 339 = .ok (.return_, 1) := by decide +kernel
theorem dX7_quakes_0 : decode cX7_quakes 0 = .ok (.aload_n 0, 1) := by decide +kernel
theorem dX7_quakes_1 : decode cX7_quakes 1 = .ok (.getfield 7, 3) := by decide +kernel
theorem dX7_quakes_4 : decode cX7_quakes 4 = .ok (.bipush 36, 2) := by decide +kernel
theorem dX7_quakes_6 : decode cX7_quakes 6 = .ok (.iload_n 1, 1) := by decide +kernel
theorem dX7_quakes_7 : decode cX7_quakes 7 = .ok (.iadd, 1) := by decide +kernel
theorem dX7_quakes_8 : decode cX7_quakes 8 = .ok (.laload, 1) := by decide +kernel
theorem dX7_quakes_9 : decode cX7_quakes 9 = .ok (.ldc2_w 149, 3) := by decide +kernel
theorem dX7_quakes_12 : decode cX7_quakes 12 = .ok (.lcmp, 1) := by decide +kernel
theorem dX7_quakes_13 : decode cX7_quakes 13 = .ok (.ifCond .le 106, 3) := by decide +kernel
theorem dX7_quakes_16 : decode cX7_quakes 16 = .ok (.aload_n 0, 1) := by decide +kernel
theorem dX7_quakes_17 : decode cX7_quakes 17 = .ok (.getfield 7, 3) := by decide +kernel
theorem dX7_quakes_20 : decode cX7_quakes 20 = .ok (.sipush 155, 3) := by decide +kernel
theorem dX7_quakes_23 : decode cX7_quakes 23 = .ok (.laload, 1) := by decide +kernel
theorem dX7_quakes_24 : decode cX7_quakes 24 = .ok (.ldc2_w 141, 3) := by decide +kernel
theorem dX7_quakes_27 : decode cX7_quakes 27 = .ok (.lcmp, 1) := by decide +kernel
theorem dX7_quakes_28 : decode cX7_quakes 28 = .ok (.ifCond .ge 64, 3) := by decide +kernel
theorem dX7_quakes_31 : decode cX7_quakes 31 = .ok (.sipush 156, 3) := by decide +kernel
theorem dX7_quakes_34 : decode cX7_quakes 34 = .ok (.iconst 3, 1) := by decide +kernel
theorem dX7_quakes_35 : decode cX7_quakes 35 = .ok (.aload_n 0, 1) := by decide +kernel
theorem dX7_quakes_36 : decode cX7_quakes 36 = .ok (.getfield 7, 3) := by decide +kernel
theorem dX7_quakes_39 : decode cX7_quakes 39 = .ok (.sipush 155, 3) := by decide +kernel
theorem dX7_quakes_42 : decode cX7_quakes 42 = .ok (.laload, 1) := by decide +kernel
theorem dX7_quakes_43 : decode cX7_quakes 43 = .ok (.l2i, 1) := by decide +kernel
theorem dX7_quakes_44 : decode cX7_quakes 44 = .ok (.imul, 1) := by decide +kernel
theorem dX7_quakes_45 : decode cX7_quakes 45 = .ok (.iadd, 1) := by decide +kernel
theorem dX7_quakes_46 : decode cX7_quakes 46 = .ok (.istore_n 2, 1) := by decide +kernel
theorem dX7_quakes_47 : decode cX7_quakes 47 = .ok (.aload_n 0, 1) := by decide +kernel
theorem dX7_quakes_48 : decode cX7_quakes 48 = .ok (.getfield 7, 3) := by decide +kernel
theorem dX7_quakes_51 : decode cX7_quakes 51 = .ok (.iload_n 2, 1) := by decide +kernel
theorem dX7_quakes_52 : decode cX7_quakes 52 = .ok (.aload_n 0, 1) := by decide +kernel
theorem dX7_quakes_53 : decode cX7_quakes 53 = .ok (.getfield 7, 3) := by decide +kernel
theorem dX7_quakes_56 : decode cX7_quakes 56 = .ok (.sipush 154, 3) := by decide +kernel
theorem dX7_quakes_59 : decode cX7_quakes 59 = .ok (.laload, 1) := by decide +kernel
theorem dX7_quakes_60 : decode cX7_quakes 60 = .ok (.lastore, 1) := by decide +kernel
theorem dX7_quakes_61 : decode cX7_quakes 61 = .ok (.aload_n 0, 1) := by decide +kernel
theorem dX7_quakes_62 : decode cX7_quakes 62 = .ok (.getfield 7, 3) := by decide +kernel
theorem dX7_quakes_65 : decode cX7_quakes 65 = .ok (.iload_n 2, 1) := by decide +kernel
theorem dX7_quakes_66 : decode cX7_quakes 66 = .ok (.iconst 1, 1) := by decide +kernel
theorem dX7_quakes_67 : decode cX7_quakes 67 = .ok (.iadd, 1) := by decide +kernel
theorem dX7_quakes_68 : decode cX7_quakes 68 = .ok (.iload_n 1, 1) := by decide +kernel
theorem dX7_quakes_69 : decode cX7_quakes 69 = .ok (.i2l, 1) := by decide +kernel
theorem dX7_quakes_70 : decode cX7_quakes 70 = .ok (.lastore, 1) := by decide +kernel
theorem dX7_quakes_71 : decode cX7_quakes 71 = .ok (.aload_n 0, 1) := by decide +kernel
theorem dX7_quakes_72 : decode cX7_quakes 72 = .ok (.getfield 7, 3) := by decide +kernel
theorem dX7_quakes_75 : decode cX7_quakes 75 = .ok (.iload_n 2, 1) := by decide +kernel
theorem dX7_quakes_76 : decode cX7_quakes 76 = .ok (.iconst 2, 1) := by decide +kernel
theorem dX7_quakes_77 : decode cX7_quakes 77 = .ok (.iadd, 1) := by decide +kernel
theorem dX7_quakes_78 : decode cX7_quakes 78 = .ok (.aload_n 0, 1) := by decide +kernel
theorem dX7_quakes_79 : decode cX7_quakes 79 = .ok (.getfield 7, 3) := by decide +kernel
theorem dX7_quakes_82 : decode cX7_quakes 82 = .ok (.bipush 36, 2) := by decide +kernel
theorem dX7_quakes_84 : decode cX7_quakes 84 = .ok (.iload_n 1, 1) := by decide +kernel
theorem dX7_quakes_85 : decode cX7_quakes 85 = .ok (.iadd, 1) := by decide +kernel
theorem dX7_quakes_86 : decode cX7_quakes 86 = .ok (.laload, 1) := by decide +kernel
theorem dX7_quakes_87 : decode cX7_quakes 87 = .ok (.ldc2_w 87, 3) := by decide +kernel
theorem dX7_quakes_90 : decode cX7_quakes 90 = .ok (.ldiv, 1) := by decide +kernel
theorem dX7_quakes_91 : decode cX7_quakes 91 = .ok (.lastore, 1) := by decide +kernel
theorem dX7_quakes_92 : decode cX7_quakes 92 = .ok (.aload_n 0, 1) := by decide +kernel
theorem dX7_quakes_93 : decode cX7_quakes 93 = .ok (.getfield 7, 3) := by decide +kernel
theorem dX7_quakes_96 : decode cX7_quakes 96 = .ok (.sipush 155, 3) := by decide +kernel
theorem dX7_quakes_99 : decode cX7_quakes 99 = .ok (.dup2, 1) := by decide +kernel
theorem dX7_quakes_100 : decode cX7_quakes 100 = .ok (.laload, 1) := by decide +kernel
theorem dX7_quakes_101 : decode cX7_quakes 101 = .ok (.lconst 1, 1) := by decide +kernel
theorem dX7_quakes_102 : decode cX7_quakes 102 = .ok (.ladd, 1) := by decide +kernel
theorem dX7_quakes_103 : decode cX7_quakes 103 = .ok (.lastore, 1) := by decide +kernel
theorem dX7_quakes_104 : decode cX7_quakes 104 = .ok (.aload_n 0, 1) := by decide +kernel
theorem dX7_quakes_105 : decode cX7_quakes 105 = .ok (.getfield 7, 3) := by decide +kernel
theorem dX7_quakes_108 : decode cX7_quakes 108 = .ok (.bipush 36, 2) := by decide +kernel
theorem dX7_quakes_110 : decode cX7_quakes 110 = .ok (.iload_n 1, 1) := by decide +kernel
theorem dX7_quakes_111 : decode cX7_quakes 111 = .ok (.iadd, 1) := by decide +kernel
theorem dX7_quakes_112 : decode cX7_quakes 112 = .ok (.dup2, 1) := by decide +kernel
theorem dX7_quakes_113 : decode cX7_quakes 113 = .ok (.laload, 1) := by decide +kernel
theorem dX7_quakes_114 : decode cX7_quakes 114 = .ok (.ldc2_w 147, 3) := by decide +kernel
theorem dX7_quakes_117 : decode cX7_quakes 117 = .ok (.ldiv, 1) := by decide +kernel
theorem dX7_quakes_118 : decode cX7_quakes 118 = .ok (.lastore, 1) := by decide +kernel
theorem dX7_quakes_119 : decode cX7_quakes 119 = .ok (.aload_n 0, 1) := by decide +kernel
theorem dX7_quakes_120 : decode cX7_quakes 120 = .ok (.getfield 7, 3) := by decide +kernel
theorem dX7_quakes_123 : decode cX7_quakes 123 = .ok (.bipush 36, 2) := by decide +kernel
theorem dX7_quakes_125 : decode cX7_quakes 125 = .ok (.iload_n 1, 1) := by decide +kernel
theorem dX7_quakes_126 : decode cX7_quakes 126 = .ok (.iadd, 1) := by decide +kernel
theorem dX7_quakes_127 : decode cX7_quakes 127 = .ok (.dup2, 1) := by decide +kernel
theorem dX7_quakes_128 : decode cX7_quakes 128 = .ok (.laload, 1) := by decide +kernel
theorem dX7_quakes_129 : decode cX7_quakes 129 = .ok (.aload_n 0, 1) := by decide +kernel
theorem dX7_quakes_130 : decode cX7_quakes 130 = .ok (.getfield 7, 3) := by decide +kernel
theorem dX7_quakes_133 : decode cX7_quakes 133 = .ok (.bipush 36, 2) := by decide +kernel
theorem dX7_quakes_135 : decode cX7_quakes 135 = .ok (.iload_n 1, 1) := by decide +kernel
theorem dX7_quakes_136 : decode cX7_quakes 136 = .ok (.iadd, 1) := by decide +kernel
theorem dX7_quakes_137 : decode cX7_quakes 137 = .ok (.laload, 1) := by decide +kernel
theorem dX7_quakes_138 : decode cX7_quakes 138 = .ok (.ldc2_w 127, 3) := by decide +kernel
theorem dX7_quakes_141 : decode cX7_quakes 141 = .ok (.ldiv, 1) := by decide +kernel
theorem dX7_quakes_142 : decode cX7_quakes 142 = .ok (.lsub, 1) := by decide +kernel
theorem dX7_quakes_143 : decode cX7_quakes 143 = .ok (.lastore, 1) := by decide +kernel
theorem dX7_quakes_144 : decode cX7_quakes 144 = .ok (.return_, 1) := by decide +kernel
theorem dX7_leaks_0 : decode cX7_leaks 0 = .ok (.aload_n 0, 1) := by decide +kernel
theorem dX7_leaks_1 : decode cX7_leaks 1 = .ok (.getfield 7, 3) := by decide +kernel
theorem dX7_leaks_4 : decode cX7_leaks 4 = .ok (.iconst 0, 1) := by decide +kernel
theorem dX7_leaks_5 : decode cX7_leaks 5 = .ok (.iload_n 1, 1) := by decide +kernel
theorem dX7_leaks_6 : decode cX7_leaks 6 = .ok (.iadd, 1) := by decide +kernel
theorem dX7_leaks_7 : decode cX7_leaks 7 = .ok (.laload, 1) := by decide +kernel
theorem dX7_leaks_8 : decode cX7_leaks 8 = .ok (.aload_n 0, 1) := by decide +kernel
theorem dX7_leaks_9 : decode cX7_leaks 9 = .ok (.getfield 7, 3) := by decide +kernel
theorem dX7_leaks_12 : decode cX7_leaks 12 = .ok (.iconst 0, 1) := by decide +kernel
theorem dX7_leaks_13 : decode cX7_leaks 13 = .ok (.iload_n 2, 1) := by decide +kernel
theorem dX7_leaks_14 : decode cX7_leaks 14 = .ok (.iadd, 1) := by decide +kernel
theorem dX7_leaks_15 : decode cX7_leaks 15 = .ok (.laload, 1) := by decide +kernel
theorem dX7_leaks_16 : decode cX7_leaks 16 = .ok (.lcmp, 1) := by decide +kernel
theorem dX7_leaks_17 : decode cX7_leaks 17 = .ok (.ifCond .le 7, 3) := by decide +kernel
theorem dX7_leaks_20 : decode cX7_leaks 20 = .ok (.iload_n 1, 1) := by decide +kernel
theorem dX7_leaks_21 : decode cX7_leaks 21 = .ok (.goto 4, 3) := by decide +kernel
theorem dX7_leaks_24 : decode cX7_leaks 24 = .ok (.iload_n 2, 1) := by decide +kernel
theorem dX7_leaks_25 : decode cX7_leaks 25 = .ok (.istore 4, 2) := by decide +kernel
theorem dX7_leaks_27 : decode cX7_leaks 27 = .ok (.iload 4, 2) := by decide +kernel
theorem dX7_leaks_29 : decode cX7_leaks 29 = .ok (.iload_n 1, 1) := by decide +kernel
theorem dX7_leaks_30 : decode cX7_leaks 30 = .ok (.if_icmp .ne 7, 3) := by decide +kernel
theorem dX7_leaks_33 : decode cX7_leaks 33 = .ok (.iload_n 2, 1) := by decide +kernel
theorem dX7_leaks_34 : decode cX7_leaks 34 = .ok (.goto 4, 3) := by decide +kernel
theorem dX7_leaks_37 : decode cX7_leaks 37 = .ok (.iload_n 1, 1) := by decide +kernel
theorem dX7_leaks_38 : decode cX7_leaks 38 = .ok (.istore 5, 2) := by decide +kernel
theorem dX7_leaks_40 : decode cX7_leaks 40 = .ok (.aload_n 0, 1) := by decide +kernel
theorem dX7_leaks_41 : decode cX7_leaks 41 = .ok (.getfield 7, 3) := by decide +kernel
theorem dX7_leaks_44 : decode cX7_leaks 44 = .ok (.iconst 0, 1) := by decide +kernel
theorem dX7_leaks_45 : decode cX7_leaks 45 = .ok (.iload 4, 2) := by decide +kernel
theorem dX7_leaks_47 : decode cX7_leaks 47 = .ok (.iadd, 1) := by decide +kernel
theorem dX7_leaks_48 : decode cX7_leaks 48 = .ok (.laload, 1) := by decide +kernel
theorem dX7_leaks_49 : decode cX7_leaks 49 = .ok (.aload_n 0, 1) := by decide +kernel
theorem dX7_leaks_50 : decode cX7_leaks 50 = .ok (.getfield 7, 3) := by decide +kernel
theorem dX7_leaks_53 : decode cX7_leaks 53 = .ok (.iconst 0, 1) := by decide +kernel
theorem dX7_leaks_54 : decode cX7_leaks 54 = .ok (.iload 5, 2) := by decide +kernel
theorem dX7_leaks_56 : decode cX7_leaks 56 = .ok (.iadd, 1) := by decide +kernel
theorem dX7_leaks_57 : decode cX7_leaks 57 = .ok (.laload, 1) := by decide +kernel
theorem dX7_leaks_58 : decode cX7_leaks 58 = .ok (.lsub, 1) := by decide +kernel
theorem dX7_leaks_59 : decode cX7_leaks 59 = .ok (.iload_n 3, 1) := by decide +kernel
theorem dX7_leaks_60 : decode cX7_leaks 60 = .ok (.i2l, 1) := by decide +kernel
theorem dX7_leaks_61 : decode cX7_leaks 61 = .ok (.lmul, 1) := by decide +kernel
theorem dX7_leaks_62 : decode cX7_leaks 62 = .ok (.ldc2_w 87, 3) := by decide +kernel
theorem dX7_leaks_65 : decode cX7_leaks 65 = .ok (.ldiv, 1) := by decide +kernel
theorem dX7_leaks_66 : decode cX7_leaks 66 = .ok (.lstore 6, 2) := by decide +kernel
theorem dX7_leaks_68 : decode cX7_leaks 68 = .ok (.aload_n 0, 1) := by decide +kernel
theorem dX7_leaks_69 : decode cX7_leaks 69 = .ok (.getfield 7, 3) := by decide +kernel
theorem dX7_leaks_72 : decode cX7_leaks 72 = .ok (.iconst 0, 1) := by decide +kernel
theorem dX7_leaks_73 : decode cX7_leaks 73 = .ok (.iload 4, 2) := by decide +kernel
theorem dX7_leaks_75 : decode cX7_leaks 75 = .ok (.iadd, 1) := by decide +kernel
theorem dX7_leaks_76 : decode cX7_leaks 76 = .ok (.laload, 1) := by decide +kernel
theorem dX7_leaks_77 : decode cX7_leaks 77 = .ok (.lconst 0, 1) := by decide +kernel
theorem dX7_leaks_78 : decode cX7_leaks 78 = .ok (.lcmp, 1) := by decide +kernel
theorem dX7_leaks_79 : decode cX7_leaks 79 = .ok (.ifCond .ne 7, 3) := by decide +kernel
theorem dX7_leaks_82 : decode cX7_leaks 82 = .ok (.lconst 0, 1) := by decide +kernel
theorem dX7_leaks_83 : decode cX7_leaks 83 = .ok (.goto 26, 3) := by decide +kernel
theorem dX7_leaks_86 : decode cX7_leaks 86 = .ok (.aload_n 0, 1) := by decide +kernel
theorem dX7_leaks_87 : decode cX7_leaks 87 = .ok (.getfield 7, 3) := by decide +kernel
theorem dX7_leaks_90 : decode cX7_leaks 90 = .ok (.bipush 24, 2) := by decide +kernel
theorem dX7_leaks_92 : decode cX7_leaks 92 = .ok (.iload 4, 2) := by decide +kernel
theorem dX7_leaks_94 : decode cX7_leaks 94 = .ok (.iadd, 1) := by decide +kernel
theorem dX7_leaks_95 : decode cX7_leaks 95 = .ok (.laload, 1) := by decide +kernel
theorem dX7_leaks_96 : decode cX7_leaks 96 = .ok (.lload 6, 2) := by decide +kernel
theorem dX7_leaks_98 : decode cX7_leaks 98 = .ok (.lmul, 1) := by decide +kernel
theorem dX7_leaks_99 : decode cX7_leaks 99 = .ok (.aload_n 0, 1) := by decide +kernel
theorem dX7_leaks_100 : decode cX7_leaks 100 = .ok (.getfield 7, 3) := by decide +kernel
theorem dX7_leaks_103 : decode cX7_leaks 103 = .ok (.iconst 0, 1) := by decide +kernel
theorem dX7_leaks_104 : decode cX7_leaks 104 = .ok (.iload 4, 2) := by decide +kernel
theorem dX7_leaks_106 : decode cX7_leaks 106 = .ok (.iadd, 1) := by decide +kernel
theorem dX7_leaks_107 : decode cX7_leaks 107 = .ok (.laload, 1) := by decide +kernel
theorem dX7_leaks_108 : decode cX7_leaks 108 = .ok (.ldiv, 1) := by decide +kernel
theorem dX7_leaks_109 : decode cX7_leaks 109 = .ok (.lstore 8, 2) := by decide +kernel
theorem dX7_leaks_111 : decode cX7_leaks 111 = .ok (.aload_n 0, 1) := by decide +kernel
theorem dX7_leaks_112 : decode cX7_leaks 112 = .ok (.getfield 51, 3) := by decide +kernel
theorem dX7_leaks_115 : decode cX7_leaks 115 = .ok (.iload 4, 2) := by decide +kernel
theorem dX7_leaks_117 : decode cX7_leaks 117 = .ok (.dup2, 1) := by decide +kernel
theorem dX7_leaks_118 : decode cX7_leaks 118 = .ok (.laload, 1) := by decide +kernel
theorem dX7_leaks_119 : decode cX7_leaks 119 = .ok (.lload 6, 2) := by decide +kernel
theorem dX7_leaks_121 : decode cX7_leaks 121 = .ok (.lsub, 1) := by decide +kernel
theorem dX7_leaks_122 : decode cX7_leaks 122 = .ok (.lastore, 1) := by decide +kernel
theorem dX7_leaks_123 : decode cX7_leaks 123 = .ok (.aload_n 0, 1) := by decide +kernel
theorem dX7_leaks_124 : decode cX7_leaks 124 = .ok (.getfield 51, 3) := by decide +kernel
theorem dX7_leaks_127 : decode cX7_leaks 127 = .ok (.iload 5, 2) := by decide +kernel
theorem dX7_leaks_129 : decode cX7_leaks 129 = .ok (.dup2, 1) := by decide +kernel
theorem dX7_leaks_130 : decode cX7_leaks 130 = .ok (.laload, 1) := by decide +kernel
theorem dX7_leaks_131 : decode cX7_leaks 131 = .ok (.lload 6, 2) := by decide +kernel
theorem dX7_leaks_133 : decode cX7_leaks 133 = .ok (.ladd, 1) := by decide +kernel
theorem dX7_leaks_134 : decode cX7_leaks 134 = .ok (.lastore, 1) := by decide +kernel
theorem dX7_leaks_135 : decode cX7_leaks 135 = .ok (.aload_n 0, 1) := by decide +kernel
theorem dX7_leaks_136 : decode cX7_leaks 136 = .ok (.getfield 54, 3) := by decide +kernel
theorem dX7_leaks_139 : decode cX7_leaks 139 = .ok (.iload 4, 2) := by decide +kernel
theorem dX7_leaks_141 : decode cX7_leaks 141 = .ok (.dup2, 1) := by decide +kernel
theorem dX7_leaks_142 : decode cX7_leaks 142 = .ok (.laload, 1) := by decide +kernel
theorem dX7_leaks_143 : decode cX7_leaks 143 = .ok (.lload 6, 2) := by decide +kernel
theorem dX7_leaks_145 : decode cX7_leaks 145 = .ok (.aload_n 0, 1) := by decide +kernel
theorem dX7_leaks_146 : decode cX7_leaks 146 = .ok (.iload 4, 2) := by decide +kernel
theorem dX7_leaks_148 : decode cX7_leaks 148 = .ok (.invokevirtual 111, 3) := by decide +kernel
theorem dX7_leaks_151 : decode cX7_leaks 151 = .ok (.lmul, 1) := by decide +kernel
theorem dX7_leaks_152 : decode cX7_leaks 152 = .ok (.lsub, 1) := by decide +kernel
theorem dX7_leaks_153 : decode cX7_leaks 153 = .ok (.lastore, 1) := by decide +kernel
theorem dX7_leaks_154 : decode cX7_leaks 154 = .ok (.aload_n 0, 1) := by decide +kernel
theorem dX7_leaks_155 : decode cX7_leaks 155 = .ok (.getfield 54, 3) := by decide +kernel
theorem dX7_leaks_158 : decode cX7_leaks 158 = .ok (.iload 5, 2) := by decide +kernel
theorem dX7_leaks_160 : decode cX7_leaks 160 = .ok (.dup2, 1) := by decide +kernel
theorem dX7_leaks_161 : decode cX7_leaks 161 = .ok (.laload, 1) := by decide +kernel
theorem dX7_leaks_162 : decode cX7_leaks 162 = .ok (.lload 6, 2) := by decide +kernel
theorem dX7_leaks_164 : decode cX7_leaks 164 = .ok (.aload_n 0, 1) := by decide +kernel
theorem dX7_leaks_165 : decode cX7_leaks 165 = .ok (.iload 4, 2) := by decide +kernel
theorem dX7_leaks_167 : decode cX7_leaks 167 = .ok (.invokevirtual 111, 3) := by decide +kernel
theorem dX7_leaks_170 : decode cX7_leaks 170 = .ok (.lmul, 1) := by decide +kernel
theorem dX7_leaks_171 : decode cX7_leaks 171 = .ok (.ladd, 1) := by decide +kernel
theorem dX7_leaks_172 : decode cX7_leaks 172 = .ok (.lastore, 1) := by decide +kernel
theorem dX7_leaks_173 : decode cX7_leaks 173 = .ok (.aload_n 0, 1) := by decide +kernel
theorem dX7_leaks_174 : decode cX7_leaks 174 = .ok (.getfield 57, 3) := by decide +kernel
theorem dX7_leaks_177 : decode cX7_leaks 177 = .ok (.iload 4, 2) := by decide +kernel
theorem dX7_leaks_179 : decode cX7_leaks 179 = .ok (.dup2, 1) := by decide +kernel
theorem dX7_leaks_180 : decode cX7_leaks 180 = .ok (.laload, 1) := by decide +kernel
theorem dX7_leaks_181 : decode cX7_leaks 181 = .ok (.lload 8, 2) := by decide +kernel
theorem dX7_leaks_183 : decode cX7_leaks 183 = .ok (.lsub, 1) := by decide +kernel
theorem dX7_leaks_184 : decode cX7_leaks 184 = .ok (.lastore, 1) := by decide +kernel
theorem dX7_leaks_185 : decode cX7_leaks 185 = .ok (.aload_n 0, 1) := by decide +kernel
theorem dX7_leaks_186 : decode cX7_leaks 186 = .ok (.getfield 57, 3) := by decide +kernel
theorem dX7_leaks_189 : decode cX7_leaks 189 = .ok (.iload 5, 2) := by decide +kernel
theorem dX7_leaks_191 : decode cX7_leaks 191 = .ok (.dup2, 1) := by decide +kernel
theorem dX7_leaks_192 : decode cX7_leaks 192 = .ok (.laload, 1) := by decide +kernel
theorem dX7_leaks_193 : decode cX7_leaks 193 = .ok (.lload 8, 2) := by decide +kernel
theorem dX7_leaks_195 : decode cX7_leaks 195 = .ok (.ladd, 1) := by decide +kernel
theorem dX7_leaks_196 : decode cX7_leaks 196 = .ok (.lastore, 1) := by decide +kernel
theorem dX7_leaks_197 : decode cX7_leaks 197 = .ok (.return_, 1) := by decide +kernel
theorem dX7_cracks_0 : decode cX7_cracks 0 = .ok (.iconst 0, 1) := by decide +kernel
theorem dX7_cracks_1 : decode cX7_cracks 1 = .ok (.istore_n 1, 1) := by decide +kernel
theorem dX7_cracks_2 : decode cX7_cracks 2 = .ok (.iload_n 1, 1) := by decide +kernel
theorem dX7_cracks_3 : decode cX7_cracks 3 = .ok (.bipush 12, 2) := by decide +kernel
theorem dX7_cracks_5 : decode cX7_cracks 5 = .ok (.if_icmp .ge 30, 3) := by decide +kernel
theorem dX7_cracks_8 : decode cX7_cracks 8 = .ok (.aload_n 0, 1) := by decide +kernel
theorem dX7_cracks_9 : decode cX7_cracks 9 = .ok (.getfield 51, 3) := by decide +kernel
theorem dX7_cracks_12 : decode cX7_cracks 12 = .ok (.iload_n 1, 1) := by decide +kernel
theorem dX7_cracks_13 : decode cX7_cracks 13 = .ok (.lconst 0, 1) := by decide +kernel
theorem dX7_cracks_14 : decode cX7_cracks 14 = .ok (.lastore, 1) := by decide +kernel
theorem dX7_cracks_15 : decode cX7_cracks 15 = .ok (.aload_n 0, 1) := by decide +kernel
theorem dX7_cracks_16 : decode cX7_cracks 16 = .ok (.getfield 54, 3) := by decide +kernel
theorem dX7_cracks_19 : decode cX7_cracks 19 = .ok (.iload_n 1, 1) := by decide +kernel
theorem dX7_cracks_20 : decode cX7_cracks 20 = .ok (.lconst 0, 1) := by decide +kernel
theorem dX7_cracks_21 : decode cX7_cracks 21 = .ok (.lastore, 1) := by decide +kernel
theorem dX7_cracks_22 : decode cX7_cracks 22 = .ok (.aload_n 0, 1) := by decide +kernel
theorem dX7_cracks_23 : decode cX7_cracks 23 = .ok (.getfield 57, 3) := by decide +kernel
theorem dX7_cracks_26 : decode cX7_cracks 26 = .ok (.iload_n 1, 1) := by decide +kernel
theorem dX7_cracks_27 : decode cX7_cracks 27 = .ok (.lconst 0, 1) := by decide +kernel
theorem dX7_cracks_28 : decode cX7_cracks 28 = .ok (.lastore, 1) := by decide +kernel
theorem dX7_cracks_29 : decode cX7_cracks 29 = .ok (.iinc 1 1, 3) := by decide +kernel
theorem dX7_cracks_32 : decode cX7_cracks 32 = .ok (.goto (-30), 3) := by decide +kernel
theorem dX7_cracks_35 : decode cX7_cracks 35 = .ok (.iconst 0, 1) := by decide +kernel
theorem dX7_cracks_36 : decode cX7_cracks 36 = .ok (.istore_n 1, 1) := by decide +kernel
theorem dX7_cracks_37 : decode cX7_cracks 37 = .ok (.iload_n 1, 1) := by decide +kernel
theorem dX7_cracks_38 : decode cX7_cracks 38 = .ok (.bipush 12, 2) := by decide +kernel
theorem dX7_cracks_40 : decode cX7_cracks 40 = .ok (.if_icmp .ge 50, 3) := by decide +kernel
theorem dX7_cracks_43 : decode cX7_cracks 43 = .ok (.iload_n 1, 1) := by decide +kernel
theorem dX7_cracks_44 : decode cX7_cracks 44 = .ok (.iconst 4, 1) := by decide +kernel
theorem dX7_cracks_45 : decode cX7_cracks 45 = .ok (.irem, 1) := by decide +kernel
theorem dX7_cracks_46 : decode cX7_cracks 46 = .ok (.iconst 3, 1) := by decide +kernel
theorem dX7_cracks_47 : decode cX7_cracks 47 = .ok (.if_icmp .ge 17, 3) := by decide +kernel
theorem dX7_cracks_50 : decode cX7_cracks 50 = .ok (.aload_n 0, 1) := by decide +kernel
theorem dX7_cracks_51 : decode cX7_cracks 51 = .ok (.iload_n 1, 1) := by decide +kernel
theorem dX7_cracks_52 : decode cX7_cracks 52 = .ok (.iload_n 1, 1) := by decide +kernel
theorem dX7_cracks_53 : decode cX7_cracks 53 = .ok (.iconst 1, 1) := by decide +kernel
theorem dX7_cracks_54 : decode cX7_cracks 54 = .ok (.iadd, 1) := by decide +kernel
theorem dX7_cracks_55 : decode cX7_cracks 55 = .ok (.aload_n 0, 1) := by decide +kernel
theorem dX7_cracks_56 : decode cX7_cracks 56 = .ok (.getfield 16, 3) := by decide +kernel
theorem dX7_cracks_59 : decode cX7_cracks 59 = .ok (.iload_n 1, 1) := by decide +kernel
theorem dX7_cracks_60 : decode cX7_cracks 60 = .ok (.iaload, 1) := by decide +kernel
theorem dX7_cracks_61 : decode cX7_cracks 61 = .ok (.invokevirtual 151, 3) := by decide +kernel
theorem dX7_cracks_64 : decode cX7_cracks 64 = .ok (.iload_n 1, 1) := by decide +kernel
theorem dX7_cracks_65 : decode cX7_cracks 65 = .ok (.bipush 8, 2) := by decide +kernel
theorem dX7_cracks_67 : decode cX7_cracks 67 = .ok (.if_icmp .ge 17, 3) := by decide +kernel
theorem dX7_cracks_70 : decode cX7_cracks 70 = .ok (.aload_n 0, 1) := by decide +kernel
theorem dX7_cracks_71 : decode cX7_cracks 71 = .ok (.iload_n 1, 1) := by decide +kernel
theorem dX7_cracks_72 : decode cX7_cracks 72 = .ok (.iload_n 1, 1) := by decide +kernel
theorem dX7_cracks_73 : decode cX7_cracks 73 = .ok (.iconst 4, 1) := by decide +kernel
theorem dX7_cracks_74 : decode cX7_cracks 74 = .ok (.iadd, 1) := by decide +kernel
theorem dX7_cracks_75 : decode cX7_cracks 75 = .ok (.aload_n 0, 1) := by decide +kernel
theorem dX7_cracks_76 : decode cX7_cracks 76 = .ok (.getfield 20, 3) := by decide +kernel
theorem dX7_cracks_79 : decode cX7_cracks 79 = .ok (.iload_n 1, 1) := by decide +kernel
theorem dX7_cracks_80 : decode cX7_cracks 80 = .ok (.iaload, 1) := by decide +kernel
theorem dX7_cracks_81 : decode cX7_cracks 81 = .ok (.invokevirtual 151, 3) := by decide +kernel
theorem dX7_cracks_84 : decode cX7_cracks 84 = .ok (.iinc 1 1, 3) := by decide +kernel
theorem dX7_cracks_87 : decode cX7_cracks 87 = .ok (.goto (-50), 3) := by decide +kernel
theorem dX7_cracks_90 : decode cX7_cracks 90 = .ok (.iconst 0, 1) := by decide +kernel
theorem dX7_cracks_91 : decode cX7_cracks 91 = .ok (.istore_n 1, 1) := by decide +kernel
theorem dX7_cracks_92 : decode cX7_cracks 92 = .ok (.iload_n 1, 1) := by decide +kernel
theorem dX7_cracks_93 : decode cX7_cracks 93 = .ok (.bipush 12, 2) := by decide +kernel
theorem dX7_cracks_95 : decode cX7_cracks 95 = .ok (.if_icmp .ge 62, 3) := by decide +kernel
theorem dX7_cracks_98 : decode cX7_cracks 98 = .ok (.aload_n 0, 1) := by decide +kernel
theorem dX7_cracks_99 : decode cX7_cracks 99 = .ok (.getfield 7, 3) := by decide +kernel
theorem dX7_cracks_102 : decode cX7_cracks 102 = .ok (.iconst 0, 1) := by decide +kernel
theorem dX7_cracks_103 : decode cX7_cracks 103 = .ok (.iload_n 1, 1) := by decide +kernel
theorem dX7_cracks_104 : decode cX7_cracks 104 = .ok (.iadd, 1) := by decide +kernel
theorem dX7_cracks_105 : decode cX7_cracks 105 = .ok (.dup2, 1) := by decide +kernel
theorem dX7_cracks_106 : decode cX7_cracks 106 = .ok (.laload, 1) := by decide +kernel
theorem dX7_cracks_107 : decode cX7_cracks 107 = .ok (.aload_n 0, 1) := by decide +kernel
theorem dX7_cracks_108 : decode cX7_cracks 108 = .ok (.getfield 51, 3) := by decide +kernel
theorem dX7_cracks_111 : decode cX7_cracks 111 = .ok (.iload_n 1, 1) := by decide +kernel
theorem dX7_cracks_112 : decode cX7_cracks 112 = .ok (.laload, 1) := by decide +kernel
theorem dX7_cracks_113 : decode cX7_cracks 113 = .ok (.ladd, 1) := by decide +kernel
theorem dX7_cracks_114 : decode cX7_cracks 114 = .ok (.lastore, 1) := by decide +kernel
theorem dX7_cracks_115 : decode cX7_cracks 115 = .ok (.aload_n 0, 1) := by decide +kernel
theorem dX7_cracks_116 : decode cX7_cracks 116 = .ok (.getfield 7, 3) := by decide +kernel
theorem dX7_cracks_119 : decode cX7_cracks 119 = .ok (.bipush 12, 2) := by decide +kernel
theorem dX7_cracks_121 : decode cX7_cracks 121 = .ok (.iload_n 1, 1) := by decide +kernel
theorem dX7_cracks_122 : decode cX7_cracks 122 = .ok (.iadd, 1) := by decide +kernel
theorem dX7_cracks_123 : decode cX7_cracks 123 = .ok (.dup2, 1) := by decide +kernel
theorem dX7_cracks_124 : decode cX7_cracks 124 = .ok (.laload, 1) := by decide +kernel
theorem dX7_cracks_125 : decode cX7_cracks 125 = .ok (.aload_n 0, 1) := by decide +kernel
theorem dX7_cracks_126 : decode cX7_cracks 126 = .ok (.getfield 54, 3) := by decide +kernel
theorem dX7_cracks_129 : decode cX7_cracks 129 = .ok (.iload_n 1, 1) := by decide +kernel
theorem dX7_cracks_130 : decode cX7_cracks 130 = .ok (.laload, 1) := by decide +kernel
theorem dX7_cracks_131 : decode cX7_cracks 131 = .ok (.ladd, 1) := by decide +kernel
theorem dX7_cracks_132 : decode cX7_cracks 132 = .ok (.lastore, 1) := by decide +kernel
theorem dX7_cracks_133 : decode cX7_cracks 133 = .ok (.aload_n 0, 1) := by decide +kernel
theorem dX7_cracks_134 : decode cX7_cracks 134 = .ok (.getfield 7, 3) := by decide +kernel
theorem dX7_cracks_137 : decode cX7_cracks 137 = .ok (.bipush 24, 2) := by decide +kernel
theorem dX7_cracks_139 : decode cX7_cracks 139 = .ok (.iload_n 1, 1) := by decide +kernel
theorem dX7_cracks_140 : decode cX7_cracks 140 = .ok (.iadd, 1) := by decide +kernel
theorem dX7_cracks_141 : decode cX7_cracks 141 = .ok (.dup2, 1) := by decide +kernel
theorem dX7_cracks_142 : decode cX7_cracks 142 = .ok (.laload, 1) := by decide +kernel
theorem dX7_cracks_143 : decode cX7_cracks 143 = .ok (.aload_n 0, 1) := by decide +kernel
theorem dX7_cracks_144 : decode cX7_cracks 144 = .ok (.getfield 57, 3) := by decide +kernel
theorem dX7_cracks_147 : decode cX7_cracks 147 = .ok (.iload_n 1, 1) := by decide +kernel
theorem dX7_cracks_148 : decode cX7_cracks 148 = .ok (.laload, 1) := by decide +kernel
theorem dX7_cracks_149 : decode cX7_cracks 149 = .ok (.ladd, 1) := by decide +kernel
theorem dX7_cracks_150 : decode cX7_cracks 150 = .ok (.lastore, 1) := by decide +kernel
theorem dX7_cracks_151 : decode cX7_cracks 151 = .ok (.iinc 1 1, 3) := by decide +kernel
theorem dX7_cracks_154 : decode cX7_cracks 154 = .ok (.goto (-62), 3) := by decide +kernel
theorem dX7_cracks_157 : decode cX7_cracks 157 = .ok (.return_, 1) := by decide +kernel
theorem dX7_warms_0 : decode cX7_warms 0 = .ok (.iload_n 1, 1) := by decide +kernel
theorem dX7_warms_1 : decode cX7_warms 1 = .ok (.bipush 7, 2) := by decide +kernel
theorem dX7_warms_3 : decode cX7_warms 3 = .ok (.if_icmp .le 56, 3) := by decide +kernel
theorem dX7_warms_6 : decode cX7_warms 6 = .ok (.aload_n 0, 1) := by decide +kernel
theorem dX7_warms_7 : decode cX7_warms 7 = .ok (.getfield 7, 3) := by decide +kernel
theorem dX7_warms_10 : decode cX7_warms 10 = .ok (.iconst 0, 1) := by decide +kernel
theorem dX7_warms_11 : decode cX7_warms 11 = .ok (.iload_n 1, 1) := by decide +kernel
theorem dX7_warms_12 : decode cX7_warms 12 = .ok (.iadd, 1) := by decide +kernel
theorem dX7_warms_13 : decode cX7_warms 13 = .ok (.dup2, 1) := by decide +kernel
theorem dX7_warms_14 : decode cX7_warms 14 = .ok (.laload, 1) := by decide +kernel
theorem dX7_warms_15 : decode cX7_warms 15 = .ok (.aload_n 0, 1) := by decide +kernel
theorem dX7_warms_16 : decode cX7_warms 16 = .ok (.getfield 96, 3) := by decide +kernel
theorem dX7_warms_19 : decode cX7_warms 19 = .ok (.i2l, 1) := by decide +kernel
theorem dX7_warms_20 : decode cX7_warms 20 = .ok (.ladd, 1) := by decide +kernel
theorem dX7_warms_21 : decode cX7_warms 21 = .ok (.lastore, 1) := by decide +kernel
theorem dX7_warms_22 : decode cX7_warms 22 = .ok (.aload_n 0, 1) := by decide +kernel
theorem dX7_warms_23 : decode cX7_warms 23 = .ok (.getfield 7, 3) := by decide +kernel
theorem dX7_warms_26 : decode cX7_warms 26 = .ok (.bipush 12, 2) := by decide +kernel
theorem dX7_warms_28 : decode cX7_warms 28 = .ok (.iload_n 1, 1) := by decide +kernel
theorem dX7_warms_29 : decode cX7_warms 29 = .ok (.iadd, 1) := by decide +kernel
theorem dX7_warms_30 : decode cX7_warms 30 = .ok (.dup2, 1) := by decide +kernel
theorem dX7_warms_31 : decode cX7_warms 31 = .ok (.laload, 1) := by decide +kernel
theorem dX7_warms_32 : decode cX7_warms 32 = .ok (.ldc2_w 155, 3) := by decide +kernel
theorem dX7_warms_35 : decode cX7_warms 35 = .ok (.aload_n 0, 1) := by decide +kernel
theorem dX7_warms_36 : decode cX7_warms 36 = .ok (.getfield 96, 3) := by decide +kernel
theorem dX7_warms_39 : decode cX7_warms 39 = .ok (.i2l, 1) := by decide +kernel
theorem dX7_warms_40 : decode cX7_warms 40 = .ok (.lmul, 1) := by decide +kernel
theorem dX7_warms_41 : decode cX7_warms 41 = .ok (.ladd, 1) := by decide +kernel
theorem dX7_warms_42 : decode cX7_warms 42 = .ok (.lastore, 1) := by decide +kernel
theorem dX7_warms_43 : decode cX7_warms 43 = .ok (.aload_n 0, 1) := by decide +kernel
theorem dX7_warms_44 : decode cX7_warms 44 = .ok (.getfield 7, 3) := by decide +kernel
theorem dX7_warms_47 : decode cX7_warms 47 = .ok (.sipush 150, 3) := by decide +kernel
theorem dX7_warms_50 : decode cX7_warms 50 = .ok (.dup2, 1) := by decide +kernel
theorem dX7_warms_51 : decode cX7_warms 51 = .ok (.laload, 1) := by decide +kernel
theorem dX7_warms_52 : decode cX7_warms 52 = .ok (.aload_n 0, 1) := by decide +kernel
theorem dX7_warms_53 : decode cX7_warms 53 = .ok (.getfield 96, 3) := by decide +kernel
theorem dX7_warms_56 : decode cX7_warms 56 = .ok (.i2l, 1) := by decide +kernel
theorem dX7_warms_57 : decode cX7_warms 57 = .ok (.ladd, 1) := by decide +kernel
theorem dX7_warms_58 : decode cX7_warms 58 = .ok (.lastore, 1) := by decide +kernel
theorem dX7_warms_59 : decode cX7_warms 59 = .ok (.aload_n 0, 1) := by decide +kernel
theorem dX7_warms_60 : decode cX7_warms 60 = .ok (.getfield 7, 3) := by decide +kernel
theorem dX7_warms_63 : decode cX7_warms 63 = .ok (.bipush 12, 2) := by decide +kernel
theorem dX7_warms_65 : decode cX7_warms 65 = .ok (.iload_n 1, 1) := by decide +kernel
theorem dX7_warms_66 : decode cX7_warms 66 = .ok (.iadd, 1) := by decide +kernel
theorem dX7_warms_67 : decode cX7_warms 67 = .ok (.dup2, 1) := by decide +kernel
theorem dX7_warms_68 : decode cX7_warms 68 = .ok (.laload, 1) := by decide +kernel
theorem dX7_warms_69 : decode cX7_warms 69 = .ok (.aload_n 0, 1) := by decide +kernel
theorem dX7_warms_70 : decode cX7_warms 70 = .ok (.iload_n 1, 1) := by decide +kernel
theorem dX7_warms_71 : decode cX7_warms 71 = .ok (.invokevirtual 111, 3) := by decide +kernel
theorem dX7_warms_74 : decode cX7_warms 74 = .ok (.ldc2_w 157, 3) := by decide +kernel
theorem dX7_warms_77 : decode cX7_warms 77 = .ok (.lcmp, 1) := by decide +kernel
theorem dX7_warms_78 : decode cX7_warms 78 = .ok (.ifCond .ge 19, 3) := by decide +kernel
theorem dX7_warms_81 : decode cX7_warms 81 = .ok (.ldc2_w 159, 3) := by decide +kernel
theorem dX7_warms_84 : decode cX7_warms 84 = .ok (.ldc2_w 157, 3) := by decide +kernel
theorem dX7_warms_87 : decode cX7_warms 87 = .ok (.aload_n 0, 1) := by decide +kernel
theorem dX7_warms_88 : decode cX7_warms 88 = .ok (.iload_n 1, 1) := by decide +kernel
theorem dX7_warms_89 : decode cX7_warms 89 = .ok (.invokevirtual 111, 3) := by decide +kernel
theorem dX7_warms_92 : decode cX7_warms 92 = .ok (.lsub, 1) := by decide +kernel
theorem dX7_warms_93 : decode cX7_warms 93 = .ok (.lmul, 1) := by decide +kernel
theorem dX7_warms_94 : decode cX7_warms 94 = .ok (.goto 4, 3) := by decide +kernel
theorem dX7_warms_97 : decode cX7_warms 97 = .ok (.lconst 0, 1) := by decide +kernel
theorem dX7_warms_98 : decode cX7_warms 98 = .ok (.ladd, 1) := by decide +kernel
theorem dX7_warms_99 : decode cX7_warms 99 = .ok (.lastore, 1) := by decide +kernel
theorem dX7_warms_100 : decode cX7_warms 100 = .ok (.return_, 1) := by decide +kernel
theorem dX7_springs_0 : decode cX7_springs 0 = .ok (.aload_n 0, 1) := by decide +kernel
theorem dX7_springs_1 : decode cX7_springs 1 = .ok (.getfield 42, 3) := by decide +kernel
theorem dX7_springs_4 : decode cX7_springs 4 = .ok (.iload_n 1, 1) := by decide +kernel
theorem dX7_springs_5 : decode cX7_springs 5 = .ok (.iaload, 1) := by decide +kernel
theorem dX7_springs_6 : decode cX7_springs 6 = .ok (.istore_n 2, 1) := by decide +kernel
theorem dX7_springs_7 : decode cX7_springs 7 = .ok (.aload_n 0, 1) := by decide +kernel
theorem dX7_springs_8 : decode cX7_springs 8 = .ok (.getfield 7, 3) := by decide +kernel
theorem dX7_springs_11 : decode cX7_springs 11 = .ok (.iconst 0, 1) := by decide +kernel
theorem dX7_springs_12 : decode cX7_springs 12 = .ok (.iload_n 2, 1) := by decide +kernel
theorem dX7_springs_13 : decode cX7_springs 13 = .ok (.iadd, 1) := by decide +kernel
theorem dX7_springs_14 : decode cX7_springs 14 = .ok (.laload, 1) := by decide +kernel
theorem dX7_springs_15 : decode cX7_springs 15 = .ok (.aload_n 0, 1) := by decide +kernel
theorem dX7_springs_16 : decode cX7_springs 16 = .ok (.getfield 45, 3) := by decide +kernel
theorem dX7_springs_19 : decode cX7_springs 19 = .ok (.iload_n 1, 1) := by decide +kernel
theorem dX7_springs_20 : decode cX7_springs 20 = .ok (.iaload, 1) := by decide +kernel
theorem dX7_springs_21 : decode cX7_springs 21 = .ok (.i2l, 1) := by decide +kernel
theorem dX7_springs_22 : decode cX7_springs 22 = .ok (.lcmp, 1) := by decide +kernel
theorem dX7_springs_23 : decode cX7_springs 23 = .ok (.ifCond .lt 24, 3) := by decide +kernel
theorem dX7_springs_26 : decode cX7_springs 26 = .ok (.aload_n 0, 1) := by decide +kernel
theorem dX7_springs_27 : decode cX7_springs 27 = .ok (.getfield 7, 3) := by decide +kernel
theorem dX7_springs_30 : decode cX7_springs 30 = .ok (.iconst 0, 1) := by decide +kernel
theorem dX7_springs_31 : decode cX7_springs 31 = .ok (.iload_n 2, 1) := by decide +kernel
theorem dX7_springs_32 : decode cX7_springs 32 = .ok (.iadd, 1) := by decide +kernel
theorem dX7_springs_33 : decode cX7_springs 33 = .ok (.laload, 1) := by decide +kernel
theorem dX7_springs_34 : decode cX7_springs 34 = .ok (.ldc2_w 125, 3) := by decide +kernel
theorem dX7_springs_37 : decode cX7_springs 37 = .ok (.ldiv, 1) := by decide +kernel
theorem dX7_springs_38 : decode cX7_springs 38 = .ok (.ldc2_w 159, 3) := by decide +kernel
theorem dX7_springs_41 : decode cX7_springs 41 = .ok (.invokestatic 129, 3) := by decide +kernel
theorem dX7_springs_44 : decode cX7_springs 44 = .ok (.goto 4, 3) := by decide +kernel
theorem dX7_springs_47 : decode cX7_springs 47 = .ok (.lconst 0, 1) := by decide +kernel
theorem dX7_springs_48 : decode cX7_springs 48 = .ok (.lstore_n 3, 1) := by decide +kernel
theorem dX7_springs_49 : decode cX7_springs 49 = .ok (.aload_n 0, 1) := by decide +kernel
theorem dX7_springs_50 : decode cX7_springs 50 = .ok (.iload_n 2, 1) := by decide +kernel
theorem dX7_springs_51 : decode cX7_springs 51 = .ok (.lload_n 3, 1) := by decide +kernel
theorem dX7_springs_52 : decode cX7_springs 52 = .ok (.invokevirtual 133, 3) := by decide +kernel
theorem dX7_springs_55 : decode cX7_springs 55 = .ok (.pop2, 1) := by decide +kernel
theorem dX7_springs_56 : decode cX7_springs 56 = .ok (.aload_n 0, 1) := by decide +kernel
theorem dX7_springs_57 : decode cX7_springs 57 = .ok (.getfield 7, 3) := by decide +kernel
theorem dX7_springs_60 : decode cX7_springs 60 = .ok (.bipush 98, 2) := by decide +kernel
theorem dX7_springs_62 : decode cX7_springs 62 = .ok (.iload_n 1, 1) := by decide +kernel
theorem dX7_springs_63 : decode cX7_springs 63 = .ok (.iadd, 1) := by decide +kernel
theorem dX7_springs_64 : decode cX7_springs 64 = .ok (.lload_n 3, 1) := by decide +kernel
theorem dX7_springs_65 : decode cX7_springs 65 = .ok (.lastore, 1) := by decide +kernel
theorem dX7_springs_66 : decode cX7_springs 66 = .ok (.aload_n 0, 1) := by decide +kernel
theorem dX7_springs_67 : decode cX7_springs 67 = .ok (.getfield 7, 3) := by decide +kernel
theorem dX7_springs_70 : decode cX7_springs 70 = .ok (.sipush 149, 3) := by decide +kernel
theorem dX7_springs_73 : decode cX7_springs 73 = .ok (.dup2, 1) := by decide +kernel
theorem dX7_springs_74 : decode cX7_springs 74 = .ok (.laload, 1) := by decide +kernel
theorem dX7_springs_75 : decode cX7_springs 75 = .ok (.lload_n 3, 1) := by decide +kernel
theorem dX7_springs_76 : decode cX7_springs 76 = .ok (.ladd, 1) := by decide +kernel
