theorem dX7_springs_77 : decode cX7_springs 77 = .ok (.lastore, 1) := by decide +kernel
theorem dX7_springs_78 : decode cX7_springs 78 = .ok (.aload_n 0, 1) := by decide +kernel
theorem dX7_springs_79 : decode cX7_springs 79 = .ok (.getfield 7, 3) := by decide +kernel
theorem dX7_springs_82 : decode cX7_springs 82 = .ok (.bipush 102, 2) := by decide +kernel
theorem dX7_springs_84 : decode cX7_springs 84 = .ok (.iload_n 1, 1) := by decide +kernel
theorem dX7_springs_85 : decode cX7_springs 85 = .ok (.iadd, 1) := by decide +kernel
theorem dX7_springs_86 : decode cX7_springs 86 = .ok (.lload_n 3, 1) := by decide +kernel
theorem dX7_springs_87 : decode cX7_springs 87 = .ok (.lconst 0, 1) := by decide +kernel
theorem dX7_springs_88 : decode cX7_springs 88 = .ok (.lcmp, 1) := by decide +kernel
theorem dX7_springs_89 : decode cX7_springs 89 = .ok (.ifCond .le 7, 3) := by decide +kernel
theorem dX7_springs_92 : decode cX7_springs 92 = .ok (.lconst 0, 1) := by decide +kernel
theorem dX7_springs_93 : decode cX7_springs 93 = .ok (.goto 14, 3) := by decide +kernel
theorem dX7_springs_96 : decode cX7_springs 96 = .ok (.aload_n 0, 1) := by decide +kernel
theorem dX7_springs_97 : decode cX7_springs 97 = .ok (.getfield 7, 3) := by decide +kernel
theorem dX7_springs_100 : decode cX7_springs 100 = .ok (.bipush 102, 2) := by decide +kernel
theorem dX7_springs_102 : decode cX7_springs 102 = .ok (.iload_n 1, 1) := by decide +kernel
theorem dX7_springs_103 : decode cX7_springs 103 = .ok (.iadd, 1) := by decide +kernel
theorem dX7_springs_104 : decode cX7_springs 104 = .ok (.laload, 1) := by decide +kernel
theorem dX7_springs_105 : decode cX7_springs 105 = .ok (.lconst 1, 1) := by decide +kernel
theorem dX7_springs_106 : decode cX7_springs 106 = .ok (.ladd, 1) := by decide +kernel
theorem dX7_springs_107 : decode cX7_springs 107 = .ok (.lastore, 1) := by decide +kernel
theorem dX7_springs_108 : decode cX7_springs 108 = .ok (.iconst 0, 1) := by decide +kernel
theorem dX7_springs_109 : decode cX7_springs 109 = .ok (.istore 5, 2) := by decide +kernel
theorem dX7_springs_111 : decode cX7_springs 111 = .ok (.iload 5, 2) := by decide +kernel
theorem dX7_springs_113 : decode cX7_springs 113 = .ok (.bipush 10, 2) := by decide +kernel
theorem dX7_springs_115 : decode cX7_springs 115 = .ok (.if_icmp .ge 31, 3) := by decide +kernel
theorem dX7_springs_118 : decode cX7_springs 118 = .ok (.lload_n 3, 1) := by decide +kernel
theorem dX7_springs_119 : decode cX7_springs 119 = .ok (.lconst 0, 1) := by decide +kernel
theorem dX7_springs_120 : decode cX7_springs 120 = .ok (.lcmp, 1) := by decide +kernel
theorem dX7_springs_121 : decode cX7_springs 121 = .ok (.ifCond .le 25, 3) := by decide +kernel
theorem dX7_springs_124 : decode cX7_springs 124 = .ok (.aload_n 0, 1) := by decide +kernel
theorem dX7_springs_125 : decode cX7_springs 125 = .ok (.getfield 7, 3) := by decide +kernel
theorem dX7_springs_128 : decode cX7_springs 128 = .ok (.bipush 106, 2) := by decide +kernel
theorem dX7_springs_130 : decode cX7_springs 130 = .ok (.bipush 10, 2) := by decide +kernel
theorem dX7_springs_132 : decode cX7_springs 132 = .ok (.iload_n 1, 1) := by decide +kernel
theorem dX7_springs_133 : decode cX7_springs 133 = .ok (.imul, 1) := by decide +kernel
theorem dX7_springs_134 : decode cX7_springs 134 = .ok (.iadd, 1) := by decide +kernel
theorem dX7_springs_135 : decode cX7_springs 135 = .ok (.iload 5, 2) := by decide +kernel
theorem dX7_springs_137 : decode cX7_springs 137 = .ok (.iadd, 1) := by decide +kernel
theorem dX7_springs_138 : decode cX7_springs 138 = .ok (.lconst 0, 1) := by decide +kernel
theorem dX7_springs_139 : decode cX7_springs 139 = .ok (.lastore, 1) := by decide +kernel
theorem dX7_springs_140 : decode cX7_springs 140 = .ok (.iinc 5 1, 3) := by decide +kernel
theorem dX7_springs_143 : decode cX7_springs 143 = .ok (.goto (-32), 3) := by decide +kernel
theorem dX7_springs_146 : decode cX7_springs 146 = .ok (.return_, 1) := by decide +kernel
theorem dX7_month_0 : decode cX7_month 0 = .ok (.aload_n 0, 1) := by decide +kernel
theorem dX7_month_1 : decode cX7_month 1 = .ok (.getfield 7, 3) := by decide +kernel
theorem dX7_month_4 : decode cX7_month 4 = .ok (.sipush 154, 3) := by decide +kernel
theorem dX7_month_7 : decode cX7_month 7 = .ok (.dup2, 1) := by decide +kernel
theorem dX7_month_8 : decode cX7_month 8 = .ok (.laload, 1) := by decide +kernel
theorem dX7_month_9 : decode cX7_month 9 = .ok (.lconst 1, 1) := by decide +kernel
theorem dX7_month_10 : decode cX7_month 10 = .ok (.ladd, 1) := by decide +kernel
theorem dX7_month_11 : decode cX7_month 11 = .ok (.lastore, 1) := by decide +kernel
theorem dX7_month_12 : decode cX7_month 12 = .ok (.aload_n 0, 1) := by decide +kernel
theorem dX7_month_13 : decode cX7_month 13 = .ok (.invokevirtual 161, 3) := by decide +kernel
theorem dX7_month_16 : decode cX7_month 16 = .ok (.lconst 0, 1) := by decide +kernel
theorem dX7_month_17 : decode cX7_month 17 = .ok (.lstore_n 1, 1) := by decide +kernel
theorem dX7_month_18 : decode cX7_month 18 = .ok (.lconst 0, 1) := by decide +kernel
theorem dX7_month_19 : decode cX7_month 19 = .ok (.lstore_n 3, 1) := by decide +kernel
theorem dX7_month_20 : decode cX7_month 20 = .ok (.iconst 0, 1) := by decide +kernel
theorem dX7_month_21 : decode cX7_month 21 = .ok (.istore 5, 2) := by decide +kernel
theorem dX7_month_23 : decode cX7_month 23 = .ok (.iload 5, 2) := by decide +kernel
theorem dX7_month_25 : decode cX7_month 25 = .ok (.aload_n 0, 1) := by decide +kernel
theorem dX7_month_26 : decode cX7_month 26 = .ok (.getfield 72, 3) := by decide +kernel
theorem dX7_month_29 : decode cX7_month 29 = .ok (.if_icmp .ge 74, 3) := by decide +kernel
theorem dX7_month_32 : decode cX7_month 32 = .ok (.aload_n 0, 1) := by decide +kernel
theorem dX7_month_33 : decode cX7_month 33 = .ok (.getfield 26, 3) := by decide +kernel
theorem dX7_month_36 : decode cX7_month 36 = .ok (.iload 5, 2) := by decide +kernel
theorem dX7_month_38 : decode cX7_month 38 = .ok (.baload, 1) := by decide +kernel
theorem dX7_month_39 : decode cX7_month 39 = .ok (.ifCond .ne 58, 3) := by decide +kernel
theorem dX7_month_42 : decode cX7_month 42 = .ok (.aload_n 0, 1) := by decide +kernel
theorem dX7_month_43 : decode cX7_month 43 = .ok (.getfield 7, 3) := by decide +kernel
theorem dX7_month_46 : decode cX7_month 46 = .ok (.bipush 68, 2) := by decide +kernel
theorem dX7_month_48 : decode cX7_month 48 = .ok (.iload 5, 2) := by decide +kernel
theorem dX7_month_50 : decode cX7_month 50 = .ok (.iadd, 1) := by decide +kernel
theorem dX7_month_51 : decode cX7_month 51 = .ok (.laload, 1) := by decide +kernel
theorem dX7_month_52 : decode cX7_month 52 = .ok (.lconst 0, 1) := by decide +kernel
theorem dX7_month_53 : decode cX7_month 53 = .ok (.lcmp, 1) := by decide +kernel
theorem dX7_month_54 : decode cX7_month 54 = .ok (.ifCond .ne 43, 3) := by decide +kernel
theorem dX7_month_57 : decode cX7_month 57 = .ok (.aload_n 0, 1) := by decide +kernel
theorem dX7_month_58 : decode cX7_month 58 = .ok (.aload_n 0, 1) := by decide +kernel
theorem dX7_month_59 : decode cX7_month 59 = .ok (.getfield 23, 3) := by decide +kernel
theorem dX7_month_62 : decode cX7_month 62 = .ok (.iload 5, 2) := by decide +kernel
theorem dX7_month_64 : decode cX7_month 64 = .ok (.iaload, 1) := by decide +kernel
theorem dX7_month_65 : decode cX7_month 65 = .ok (.invokevirtual 111, 3) := by decide +kernel
theorem dX7_month_68 : decode cX7_month 68 = .ok (.ldc2_w 125, 3) := by decide +kernel
theorem dX7_month_71 : decode cX7_month 71 = .ok (.invokestatic 129, 3) := by decide +kernel
theorem dX7_month_74 : decode cX7_month 74 = .ok (.lstore 6, 2) := by decide +kernel
theorem dX7_month_76 : decode cX7_month 76 = .ok (.aload_n 0, 1) := by decide +kernel
theorem dX7_month_77 : decode cX7_month 77 = .ok (.iload 5, 2) := by decide +kernel
theorem dX7_month_79 : decode cX7_month 79 = .ok (.invokevirtual 164, 3) := by decide +kernel
theorem dX7_month_82 : decode cX7_month 82 = .ok (.lstore 8, 2) := by decide +kernel
theorem dX7_month_84 : decode cX7_month 84 = .ok (.lload_n 1, 1) := by decide +kernel
theorem dX7_month_85 : decode cX7_month 85 = .ok (.lload 8, 2) := by decide +kernel
theorem dX7_month_87 : decode cX7_month 87 = .ok (.ladd, 1) := by decide +kernel
theorem dX7_month_88 : decode cX7_month 88 = .ok (.lstore_n 1, 1) := by decide +kernel
theorem dX7_month_89 : decode cX7_month 89 = .ok (.lload_n 3, 1) := by decide +kernel
theorem dX7_month_90 : decode cX7_month 90 = .ok (.lload 8, 2) := by decide +kernel
theorem dX7_month_92 : decode cX7_month 92 = .ok (.lload 6, 2) := by decide +kernel
theorem dX7_month_94 : decode cX7_month 94 = .ok (.lmul, 1) := by decide +kernel
theorem dX7_month_95 : decode cX7_month 95 = .ok (.ladd, 1) := by decide +kernel
theorem dX7_month_96 : decode cX7_month 96 = .ok (.lstore_n 3, 1) := by decide +kernel
theorem dX7_month_97 : decode cX7_month 97 = .ok (.iinc 5 1, 3) := by decide +kernel
theorem dX7_month_100 : decode cX7_month 100 = .ok (.goto (-77), 3) := by decide +kernel
theorem dX7_month_103 : decode cX7_month 103 = .ok (.lload_n 1, 1) := by decide +kernel
theorem dX7_month_104 : decode cX7_month 104 = .ok (.lconst 0, 1) := by decide +kernel
theorem dX7_month_105 : decode cX7_month 105 = .ok (.lcmp, 1) := by decide +kernel
theorem dX7_month_106 : decode cX7_month 106 = .ok (.ifCond .le 9, 3) := by decide +kernel
theorem dX7_month_109 : decode cX7_month 109 = .ok (.lload_n 3, 1) := by decide +kernel
theorem dX7_month_110 : decode cX7_month 110 = .ok (.lload_n 1, 1) := by decide +kernel
theorem dX7_month_111 : decode cX7_month 111 = .ok (.ldiv, 1) := by decide +kernel
theorem dX7_month_112 : decode cX7_month 112 = .ok (.goto 4, 3) := by decide +kernel
theorem dX7_month_115 : decode cX7_month 115 = .ok (.lconst 0, 1) := by decide +kernel
theorem dX7_month_116 : decode cX7_month 116 = .ok (.lstore 5, 2) := by decide +kernel
theorem dX7_month_118 : decode cX7_month 118 = .ok (.iconst 0, 1) := by decide +kernel
theorem dX7_month_119 : decode cX7_month 119 = .ok (.istore 7, 2) := by decide +kernel
theorem dX7_month_121 : decode cX7_month 121 = .ok (.iload 7, 2) := by decide +kernel
theorem dX7_month_123 : decode cX7_month 123 = .ok (.aload_n 0, 1) := by decide +kernel
theorem dX7_month_124 : decode cX7_month 124 = .ok (.getfield 104, 3) := by decide +kernel
theorem dX7_month_127 : decode cX7_month 127 = .ok (.if_icmp .ge 66, 3) := by decide +kernel
theorem dX7_month_130 : decode cX7_month 130 = .ok (.lload_n 1, 1) := by decide +kernel
theorem dX7_month_131 : decode cX7_month 131 = .ok (.lconst 0, 1) := by decide +kernel
theorem dX7_month_132 : decode cX7_month 132 = .ok (.lcmp, 1) := by decide +kernel
theorem dX7_month_133 : decode cX7_month 133 = .ok (.ifCond .le 60, 3) := by decide +kernel
theorem dX7_month_136 : decode cX7_month 136 = .ok (.lload 5, 2) := by decide +kernel
theorem dX7_month_138 : decode cX7_month 138 = .ok (.aload_n 0, 1) := by decide +kernel
theorem dX7_month_139 : decode cX7_month 139 = .ok (.getfield 36, 3) := by decide +kernel
theorem dX7_month_142 : decode cX7_month 142 = .ok (.iload 7, 2) := by decide +kernel
theorem dX7_month_144 : decode cX7_month 144 = .ok (.iaload, 1) := by decide +kernel
theorem dX7_month_145 : decode cX7_month 145 = .ok (.i2l, 1) := by decide +kernel
theorem dX7_month_146 : decode cX7_month 146 = .ok (.lcmp, 1) := by decide +kernel
theorem dX7_month_147 : decode cX7_month 147 = .ok (.ifCond .lt 40, 3) := by decide +kernel
theorem dX7_month_150 : decode cX7_month 150 = .ok (.aload_n 0, 1) := by decide +kernel
theorem dX7_month_151 : decode cX7_month 151 = .ok (.getfield 39, 3) := by decide +kernel
theorem dX7_month_154 : decode cX7_month 154 = .ok (.iload 7, 2) := by decide +kernel
theorem dX7_month_156 : decode cX7_month 156 = .ok (.iaload, 1) := by decide +kernel
theorem dX7_month_157 : decode cX7_month 157 = .ok (.i2l, 1) := by decide +kernel
theorem dX7_month_158 : decode cX7_month 158 = .ok (.lload 5, 2) := by decide +kernel
theorem dX7_month_160 : decode cX7_month 160 = .ok (.invokestatic 129, 3) := by decide +kernel
theorem dX7_month_163 : decode cX7_month 163 = .ok (.lstore 8, 2) := by decide +kernel
theorem dX7_month_165 : decode cX7_month 165 = .ok (.aload_n 0, 1) := by decide +kernel
theorem dX7_month_166 : decode cX7_month 166 = .ok (.getfield 7, 3) := by decide +kernel
theorem dX7_month_169 : decode cX7_month 169 = .ok (.sipush 151, 3) := by decide +kernel
theorem dX7_month_172 : decode cX7_month 172 = .ok (.dup2, 1) := by decide +kernel
theorem dX7_month_173 : decode cX7_month 173 = .ok (.laload, 1) := by decide +kernel
theorem dX7_month_174 : decode cX7_month 174 = .ok (.lload 8, 2) := by decide +kernel
theorem dX7_month_176 : decode cX7_month 176 = .ok (.lload_n 1, 1) := by decide +kernel
theorem dX7_month_177 : decode cX7_month 177 = .ok (.lmul, 1) := by decide +kernel
theorem dX7_month_178 : decode cX7_month 178 = .ok (.ladd, 1) := by decide +kernel
theorem dX7_month_179 : decode cX7_month 179 = .ok (.lastore, 1) := by decide +kernel
theorem dX7_month_180 : decode cX7_month 180 = .ok (.lload 5, 2) := by decide +kernel
theorem dX7_month_182 : decode cX7_month 182 = .ok (.lload 8, 2) := by decide +kernel
theorem dX7_month_184 : decode cX7_month 184 = .ok (.lsub, 1) := by decide +kernel
theorem dX7_month_185 : decode cX7_month 185 = .ok (.lstore 5, 2) := by decide +kernel
theorem dX7_month_187 : decode cX7_month 187 = .ok (.iinc 7 1, 3) := by decide +kernel
theorem dX7_month_190 : decode cX7_month 190 = .ok (.goto (-69), 3) := by decide +kernel
theorem dX7_month_193 : decode cX7_month 193 = .ok (.aload_n 0, 1) := by decide +kernel
theorem dX7_month_194 : decode cX7_month 194 = .ok (.lload_n 1, 1) := by decide +kernel
theorem dX7_month_195 : decode cX7_month 195 = .ok (.lload 5, 2) := by decide +kernel
theorem dX7_month_197 : decode cX7_month 197 = .ok (.invokevirtual 167, 3) := by decide +kernel
theorem dX7_month_200 : decode cX7_month 200 = .ok (.iconst 0, 1) := by decide +kernel
theorem dX7_month_201 : decode cX7_month 201 = .ok (.istore 7, 2) := by decide +kernel
theorem dX7_month_203 : decode cX7_month 203 = .ok (.iload 7, 2) := by decide +kernel
theorem dX7_month_205 : decode cX7_month 205 = .ok (.bipush 12, 2) := by decide +kernel
theorem dX7_month_207 : decode cX7_month 207 = .ok (.if_icmp .ge 15, 3) := by decide +kernel
theorem dX7_month_210 : decode cX7_month 210 = .ok (.aload_n 0, 1) := by decide +kernel
theorem dX7_month_211 : decode cX7_month 211 = .ok (.iload 7, 2) := by decide +kernel
theorem dX7_month_213 : decode cX7_month 213 = .ok (.invokevirtual 171, 3) := by decide +kernel
theorem dX7_month_216 : decode cX7_month 216 = .ok (.iinc 7 1, 3) := by decide +kernel
theorem dX7_month_219 : decode cX7_month 219 = .ok (.goto (-16), 3) := by decide +kernel
theorem dX7_month_222 : decode cX7_month 222 = .ok (.aload_n 0, 1) := by decide +kernel
theorem dX7_month_223 : decode cX7_month 223 = .ok (.invokevirtual 175, 3) := by decide +kernel
theorem dX7_month_226 : decode cX7_month 226 = .ok (.iconst 0, 1) := by decide +kernel
theorem dX7_month_227 : decode cX7_month 227 = .ok (.istore 7, 2) := by decide +kernel
theorem dX7_month_229 : decode cX7_month 229 = .ok (.iload 7, 2) := by decide +kernel
theorem dX7_month_231 : decode cX7_month 231 = .ok (.bipush 12, 2) := by decide +kernel
theorem dX7_month_233 : decode cX7_month 233 = .ok (.if_icmp .ge 15, 3) := by decide +kernel
theorem dX7_month_236 : decode cX7_month 236 = .ok (.aload_n 0, 1) := by decide +kernel
theorem dX7_month_237 : decode cX7_month 237 = .ok (.iload 7, 2) := by decide +kernel
theorem dX7_month_239 : decode cX7_month 239 = .ok (.invokevirtual 178, 3) := by decide +kernel
theorem dX7_month_242 : decode cX7_month 242 = .ok (.iinc 7 1, 3) := by decide +kernel
theorem dX7_month_245 : decode cX7_month 245 = .ok (.goto (-16), 3) := by decide +kernel
theorem dX7_month_248 : decode cX7_month 248 = .ok (.iconst 0, 1) := by decide +kernel
theorem dX7_month_249 : decode cX7_month 249 = .ok (.istore 7, 2) := by decide +kernel
theorem dX7_month_251 : decode cX7_month 251 = .ok (.iload 7, 2) := by decide +kernel
theorem dX7_month_253 : decode cX7_month 253 = .ok (.aload_n 0, 1) := by decide +kernel
theorem dX7_month_254 : decode cX7_month 254 = .ok (.getfield 75, 3) := by decide +kernel
theorem dX7_month_257 : decode cX7_month 257 = .ok (.if_icmp .ge 15, 3) := by decide +kernel
theorem dX7_month_260 : decode cX7_month 260 = .ok (.aload_n 0, 1) := by decide +kernel
theorem dX7_month_261 : decode cX7_month 261 = .ok (.iload 7, 2) := by decide +kernel
theorem dX7_month_263 : decode cX7_month 263 = .ok (.invokevirtual 181, 3) := by decide +kernel
theorem dX7_month_266 : decode cX7_month 266 = .ok (.iinc 7 1, 3) := by decide +kernel
theorem dX7_month_269 : decode cX7_month 269 = .ok (.goto (-18), 3) := by decide +kernel
theorem dX7_month_272 : decode cX7_month 272 = .ok (.return_, 1) := by decide +kernel
theorem dX7_pass_0 : decode cX7_pass 0 = .ok (.aload_n 0, 1) := by decide +kernel
theorem dX7_pass_1 : decode cX7_pass 1 = .ok (.iload_n 1, 1) := by decide +kernel
theorem dX7_pass_2 : decode cX7_pass 2 = .ok (.iconst 1, 1) := by decide +kernel
theorem dX7_pass_3 : decode cX7_pass 3 = .ok (.bipush 24, 2) := by decide +kernel
theorem dX7_pass_5 : decode cX7_pass 5 = .ok (.invokestatic 68, 3) := by decide +kernel
theorem dX7_pass_8 : decode cX7_pass 8 = .ok (.ifCond .ne 7, 3) := by decide +kernel
theorem dX7_pass_11 : decode cX7_pass 11 = .ok (.iconst 1, 1) := by decide +kernel
theorem dX7_pass_12 : decode cX7_pass 12 = .ok (.goto 26, 3) := by decide +kernel
theorem dX7_pass_15 : decode cX7_pass 15 = .ok (.aload_n 0, 1) := by decide +kernel
theorem dX7_pass_16 : decode cX7_pass 16 = .ok (.getfield 7, 3) := by decide +kernel
theorem dX7_pass_19 : decode cX7_pass 19 = .ok (.sipush 154, 3) := by decide +kernel
theorem dX7_pass_22 : decode cX7_pass 22 = .ok (.laload, 1) := by decide +kernel
theorem dX7_pass_23 : decode cX7_pass 23 = .ok (.iload_n 1, 1) := by decide +kernel
theorem dX7_pass_24 : decode cX7_pass 24 = .ok (.i2l, 1) := by decide +kernel
theorem dX7_pass_25 : decode cX7_pass 25 = .ok (.ladd, 1) := by decide +kernel
theorem dX7_pass_26 : decode cX7_pass 26 = .ok (.ldc2_w 183, 3) := by decide +kernel
theorem dX7_pass_29 : decode cX7_pass 29 = .ok (.lcmp, 1) := by decide +kernel
theorem dX7_pass_30 : decode cX7_pass 30 = .ok (.ifCond .le 7, 3) := by decide +kernel
theorem dX7_pass_33 : decode cX7_pass 33 = .ok (.iconst 2, 1) := by decide +kernel
theorem dX7_pass_34 : decode cX7_pass 34 = .ok (.goto 4, 3) := by decide +kernel
theorem dX7_pass_37 : decode cX7_pass 37 = .ok (.iconst 0, 1) := by decide +kernel
theorem dX7_pass_38 : decode cX7_pass 38 = .ok (.putfield 64, 3) := by decide +kernel
theorem dX7_pass_41 : decode cX7_pass 41 = .ok (.iconst 0, 1) := by decide +kernel
theorem dX7_pass_42 : decode cX7_pass 42 = .ok (.istore_n 2, 1) := by decide +kernel
theorem dX7_pass_43 : decode cX7_pass 43 = .ok (.iload_n 2, 1) := by decide +kernel
theorem dX7_pass_44 : decode cX7_pass 44 = .ok (.iload_n 1, 1) := by decide +kernel
theorem dX7_pass_45 : decode cX7_pass 45 = .ok (.if_icmp .ge 20, 3) := by decide +kernel
theorem dX7_pass_48 : decode cX7_pass 48 = .ok (.aload_n 0, 1) := by decide +kernel
theorem dX7_pass_49 : decode cX7_pass 49 = .ok (.getfield 64, 3) := by decide +kernel
theorem dX7_pass_52 : decode cX7_pass 52 = .ok (.ifCond .ne 13, 3) := by decide +kernel
theorem dX7_pass_55 : decode cX7_pass 55 = .ok (.aload_n 0, 1) := by decide +kernel
theorem dX7_pass_56 : decode cX7_pass 56 = .ok (.invokevirtual 185, 3) := by decide +kernel
theorem dX7_pass_59 : decode cX7_pass 59 = .ok (.iinc 2 1, 3) := by decide +kernel
theorem dX7_pass_62 : decode cX7_pass 62 = .ok (.goto (-19), 3) := by decide +kernel
theorem dX7_pass_65 : decode cX7_pass 65 = .ok (.aload_n 0, 1) := by decide +kernel
theorem dX7_pass_66 : decode cX7_pass 66 = .ok (.getfield 64, 3) := by decide +kernel
theorem dX7_pass_69 : decode cX7_pass 69 = .ok (.ifCond .le 7, 3) := by decide +kernel
theorem dX7_pass_72 : decode cX7_pass 72 = .ok (.iconst 0, 1) := by decide +kernel
theorem dX7_pass_73 : decode cX7_pass 73 = .ok (.goto 12, 3) := by decide +kernel
theorem dX7_pass_76 : decode cX7_pass 76 = .ok (.aload_n 0, 1) := by decide +kernel
theorem dX7_pass_77 : decode cX7_pass 77 = .ok (.getfield 7, 3) := by decide +kernel
theorem dX7_pass_80 : decode cX7_pass 80 = .ok (.sipush 154, 3) := by decide +kernel
theorem dX7_pass_83 : decode cX7_pass 83 = .ok (.laload, 1) := by decide +kernel
theorem dX7_pass_84 : decode cX7_pass 84 = .ok (.l2i, 1) := by decide +kernel
theorem dX7_pass_85 : decode cX7_pass 85 = .ok (.ireturn, 1) := by decide +kernel
theorem dX7_told_0 : decode cX7_told 0 = .ok (.iload_n 2, 1) := by decide +kernel
theorem dX7_told_1 : decode cX7_told 1 = .ok (.ifCond .ne 14, 3) := by decide +kernel
theorem dX7_told_4 : decode cX7_told 4 = .ok (.aload_n 0, 1) := by decide +kernel
theorem dX7_told_5 : decode cX7_told 5 = .ok (.getfield 7, 3) := by decide +kernel
theorem dX7_told_8 : decode cX7_told 8 = .ok (.iconst 0, 1) := by decide +kernel
theorem dX7_told_9 : decode cX7_told 9 = .ok (.iload_n 1, 1) := by decide +kernel
theorem dX7_told_10 : decode cX7_told 10 = .ok (.iadd, 1) := by decide +kernel
theorem dX7_told_11 : decode cX7_told 11 = .ok (.laload, 1) := by decide +kernel
theorem dX7_told_12 : decode cX7_told 12 = .ok (.goto 73, 3) := by decide +kernel
theorem dX7_told_15 : decode cX7_told 15 = .ok (.iload_n 2, 1) := by decide +kernel
theorem dX7_told_16 : decode cX7_told 16 = .ok (.iconst 1, 1) := by decide +kernel
theorem dX7_told_17 : decode cX7_told 17 = .ok (.if_icmp .ne 11, 3) := by decide +kernel
theorem dX7_told_20 : decode cX7_told 20 = .ok (.aload_n 0, 1) := by decide +kernel
theorem dX7_told_21 : decode cX7_told 21 = .ok (.iload_n 1, 1) := by decide +kernel
theorem dX7_told_22 : decode cX7_told 22 = .ok (.invokevirtual 111, 3) := by decide +kernel
theorem dX7_told_25 : decode cX7_told 25 = .ok (.goto 60, 3) := by decide +kernel
theorem dX7_told_28 : decode cX7_told 28 = .ok (.iload_n 2, 1) := by decide +kernel
theorem dX7_told_29 : decode cX7_told 29 = .ok (.iconst 2, 1) := by decide +kernel
theorem dX7_told_30 : decode cX7_told 30 = .ok (.if_icmp .ne 15, 3) := by decide +kernel
theorem dX7_told_33 : decode cX7_told 33 = .ok (.aload_n 0, 1) := by decide +kernel
theorem dX7_told_34 : decode cX7_told 34 = .ok (.getfield 7, 3) := by decide +kernel
theorem dX7_told_37 : decode cX7_told 37 = .ok (.bipush 12, 2) := by decide +kernel
theorem dX7_told_39 : decode cX7_told 39 = .ok (.iload_n 1, 1) := by decide +kernel
theorem dX7_told_40 : decode cX7_told 40 = .ok (.iadd, 1) := by decide +kernel
theorem dX7_told_41 : decode cX7_told 41 = .ok (.laload, 1) := by decide +kernel
theorem dX7_told_42 : decode cX7_told 42 = .ok (.goto 43, 3) := by decide +kernel
theorem dX7_told_45 : decode cX7_told 45 = .ok (.iload_n 2, 1) := by decide +kernel
theorem dX7_told_46 : decode cX7_told 46 = .ok (.iconst 3, 1) := by decide +kernel
theorem dX7_told_47 : decode cX7_told 47 = .ok (.if_icmp .ne 15, 3) := by decide +kernel
theorem dX7_told_50 : decode cX7_told 50 = .ok (.aload_n 0, 1) := by decide +kernel
theorem dX7_told_51 : decode cX7_told 51 = .ok (.getfield 7, 3) := by decide +kernel
theorem dX7_told_54 : decode cX7_told 54 = .ok (.bipush 24, 2) := by decide +kernel
theorem dX7_told_56 : decode cX7_told 56 = .ok (.iload_n 1, 1) := by decide +kernel
theorem dX7_told_57 : decode cX7_told 57 = .ok (.iadd, 1) := by decide +kernel
theorem dX7_told_58 : decode cX7_told 58 = .ok (.laload, 1) := by decide +kernel
theorem dX7_told_59 : decode cX7_told 59 = .ok (.goto 26, 3) := by decide +kernel
theorem dX7_told_62 : decode cX7_told 62 = .ok (.iload_n 2, 1) := by decide +kernel
theorem dX7_told_63 : decode cX7_told 63 = .ok (.iconst 4, 1) := by decide +kernel
theorem dX7_told_64 : decode cX7_told 64 = .ok (.if_icmp .ne 15, 3) := by decide +kernel
theorem dX7_told_67 : decode cX7_told 67 = .ok (.aload_n 0, 1) := by decide +kernel
theorem dX7_told_68 : decode cX7_told 68 = .ok (.getfield 7, 3) := by decide +kernel
theorem dX7_told_71 : decode cX7_told 71 = .ok (.bipush 36, 2) := by decide +kernel
theorem dX7_told_73 : decode cX7_told 73 = .ok (.iload_n 1, 1) := by decide +kernel
theorem dX7_told_74 : decode cX7_told 74 = .ok (.iadd, 1) := by decide +kernel
theorem dX7_told_75 : decode cX7_told 75 = .ok (.laload, 1) := by decide +kernel
theorem dX7_told_76 : decode cX7_told 76 = .ok (.goto 9, 3) := by decide +kernel
theorem dX7_told_79 : decode cX7_told 79 = .ok (.aload_n 0, 1) := by decide +kernel
theorem dX7_told_80 : decode cX7_told 80 = .ok (.iload_n 1, 1) := by decide +kernel
theorem dX7_told_81 : decode cX7_told 81 = .ok (.invokevirtual 118, 3) := by decide +kernel
theorem dX7_told_84 : decode cX7_told 84 = .ok (.i2l, 1) := by decide +kernel
theorem dX7_told_85 : decode cX7_told 85 = .ok (.lreturn, 1) := by decide +kernel
theorem dX7_ofBlock_0 : decode cX7_ofBlock 0 = .ok (.aload_n 0, 1) := by decide +kernel
theorem dX7_ofBlock_1 : decode cX7_ofBlock 1 = .ok (.iload_n 1, 1) := by decide +kernel
theorem dX7_ofBlock_2 : decode cX7_ofBlock 2 = .ok (.invokestatic 91, 3) := by decide +kernel
theorem dX7_ofBlock_5 : decode cX7_ofBlock 5 = .ok (.ifCond .ne 7, 3) := by decide +kernel
theorem dX7_ofBlock_8 : decode cX7_ofBlock 8 = .ok (.iconst 1, 1) := by decide +kernel
theorem dX7_ofBlock_9 : decode cX7_ofBlock 9 = .ok (.goto 17, 3) := by decide +kernel
theorem dX7_ofBlock_12 : decode cX7_ofBlock 12 = .ok (.iload_n 2, 1) := by decide +kernel
theorem dX7_ofBlock_13 : decode cX7_ofBlock 13 = .ok (.iconst 0, 1) := by decide +kernel
theorem dX7_ofBlock_14 : decode cX7_ofBlock 14 = .ok (.iconst 5, 1) := by decide +kernel
theorem dX7_ofBlock_15 : decode cX7_ofBlock 15 = .ok (.invokestatic 68, 3) := by decide +kernel
theorem dX7_ofBlock_18 : decode cX7_ofBlock 18 = .ok (.ifCond .ne 7, 3) := by decide +kernel
theorem dX7_ofBlock_21 : decode cX7_ofBlock 21 = .ok (.iconst 2, 1) := by decide +kernel
theorem dX7_ofBlock_22 : decode cX7_ofBlock 22 = .ok (.goto 4, 3) := by decide +kernel
theorem dX7_ofBlock_25 : decode cX7_ofBlock 25 = .ok (.iconst 0, 1) := by decide +kernel
theorem dX7_ofBlock_26 : decode cX7_ofBlock 26 = .ok (.putfield 64, 3) := by decide +kernel
theorem dX7_ofBlock_29 : decode cX7_ofBlock 29 = .ok (.aload_n 0, 1) := by decide +kernel
theorem dX7_ofBlock_30 : decode cX7_ofBlock 30 = .ok (.getfield 64, 3) := by decide +kernel
theorem dX7_ofBlock_33 : decode cX7_ofBlock 33 = .ok (.ifCond .le 7, 3) := by decide +kernel
theorem dX7_ofBlock_36 : decode cX7_ofBlock 36 = .ok (.lconst 0, 1) := by decide +kernel
theorem dX7_ofBlock_37 : decode cX7_ofBlock 37 = .ok (.goto 9, 3) := by decide +kernel
theorem dX7_ofBlock_40 : decode cX7_ofBlock 40 = .ok (.aload_n 0, 1) := by decide +kernel
theorem dX7_ofBlock_41 : decode cX7_ofBlock 41 = .ok (.iload_n 1, 1) := by decide +kernel
theorem dX7_ofBlock_42 : decode cX7_ofBlock 42 = .ok (.iload_n 2, 1) := by decide +kernel
theorem dX7_ofBlock_43 : decode cX7_ofBlock 43 = .ok (.invokevirtual 188, 3) := by decide +kernel
theorem dX7_ofBlock_46 : decode cX7_ofBlock 46 = .ok (.lreturn, 1) := by decide +kernel
theorem dX7_would_0 : decode cX7_would 0 = .ok (.aload_n 0, 1) := by decide +kernel
theorem dX7_would_1 : decode cX7_would 1 = .ok (.iload_n 2, 1) := by decide +kernel
theorem dX7_would_2 : decode cX7_would 2 = .ok (.invokestatic 91, 3) := by decide +kernel
theorem dX7_would_5 : decode cX7_would 5 = .ok (.ifCond .ne 7, 3) := by decide +kernel
theorem dX7_would_8 : decode cX7_would 8 = .ok (.iconst 1, 1) := by decide +kernel
theorem dX7_would_9 : decode cX7_would 9 = .ok (.goto 27, 3) := by decide +kernel
theorem dX7_would_12 : decode cX7_would 12 = .ok (.iload_n 1, 1) := by decide +kernel
theorem dX7_would_13 : decode cX7_would 13 = .ok (.iconst 0, 1) := by decide +kernel
theorem dX7_would_14 : decode cX7_would 14 = .ok (.bipush 24, 2) := by decide +kernel
theorem dX7_would_16 : decode cX7_would 16 = .ok (.invokestatic 68, 3) := by decide +kernel
theorem dX7_would_19 : decode cX7_would 19 = .ok (.ifCond .eq 12, 3) := by decide +kernel
theorem dX7_would_22 : decode cX7_would 22 = .ok (.iload_n 3, 1) := by decide +kernel
theorem dX7_would_23 : decode cX7_would 23 = .ok (.iconst 0, 1) := by decide +kernel
theorem dX7_would_24 : decode cX7_would 24 = .ok (.iconst 5, 1) := by decide +kernel
theorem dX7_would_25 : decode cX7_would 25 = .ok (.invokestatic 68, 3) := by decide +kernel
theorem dX7_would_28 : decode cX7_would 28 = .ok (.ifCond .ne 7, 3) := by decide +kernel
theorem dX7_would_31 : decode cX7_would 31 = .ok (.iconst 2, 1) := by decide +kernel
theorem dX7_would_32 : decode cX7_would 32 = .ok (.goto 4, 3) := by decide +kernel
theorem dX7_would_35 : decode cX7_would 35 = .ok (.iconst 0, 1) := by decide +kernel
theorem dX7_would_36 : decode cX7_would 36 = .ok (.putfield 64, 3) := by decide +kernel
theorem dX7_would_39 : decode cX7_would 39 = .ok (.aload_n 0, 1) := by decide +kernel
theorem dX7_would_40 : decode cX7_would 40 = .ok (.getfield 64, 3) := by decide +kernel
theorem dX7_would_43 : decode cX7_would 43 = .ok (.ifCond .le 5, 3) := by decide +kernel
theorem dX7_would_46 : decode cX7_would 46 = .ok (.lconst 0, 1) := by decide +kernel
theorem dX7_would_47 : decode cX7_would 47 = .ok (.lreturn, 1) := by decide +kernel
theorem dX7_would_48 : decode cX7_would 48 = .ok (.iconst 0, 1) := by decide +kernel
theorem dX7_would_49 : decode cX7_would 49 = .ok (.istore 4, 2) := by decide +kernel
theorem dX7_would_51 : decode cX7_would 51 = .ok (.iload 4, 2) := by decide +kernel
theorem dX7_would_53 : decode cX7_would 53 = .ok (.sipush 336, 3) := by decide +kernel
theorem dX7_would_56 : decode cX7_would 56 = .ok (.if_icmp .ge 23, 3) := by decide +kernel
theorem dX7_would_59 : decode cX7_would 59 = .ok (.aload_n 0, 1) := by decide +kernel
theorem dX7_would_60 : decode cX7_would 60 = .ok (.getfield 13, 3) := by decide +kernel
theorem dX7_would_63 : decode cX7_would 63 = .ok (.iload 4, 2) := by decide +kernel
theorem dX7_would_65 : decode cX7_would 65 = .ok (.aload_n 0, 1) := by decide +kernel
theorem dX7_would_66 : decode cX7_would 66 = .ok (.getfield 7, 3) := by decide +kernel
theorem dX7_would_69 : decode cX7_would 69 = .ok (.iload 4, 2) := by decide +kernel
theorem dX7_would_71 : decode cX7_would 71 = .ok (.laload, 1) := by decide +kernel
theorem dX7_would_72 : decode cX7_would 72 = .ok (.lastore, 1) := by decide +kernel
theorem dX7_would_73 : decode cX7_would 73 = .ok (.iinc 4 1, 3) := by decide +kernel
theorem dX7_would_76 : decode cX7_would 76 = .ok (.goto (-25), 3) := by decide +kernel
theorem dX7_would_79 : decode cX7_would 79 = .ok (.iconst 0, 1) := by decide +kernel
theorem dX7_would_80 : decode cX7_would 80 = .ok (.istore 4, 2) := by decide +kernel
theorem dX7_would_82 : decode cX7_would 82 = .ok (.iload 4, 2) := by decide +kernel
theorem dX7_would_84 : decode cX7_would 84 = .ok (.iload_n 1, 1) := by decide +kernel
theorem dX7_would_85 : decode cX7_would 85 = .ok (.if_icmp .ge 13, 3) := by decide +kernel
theorem dX7_would_88 : decode cX7_would 88 = .ok (.aload_n 0, 1) := by decide +kernel
theorem dX7_would_89 : decode cX7_would 89 = .ok (.invokevirtual 185, 3) := by decide +kernel
theorem dX7_would_92 : decode cX7_would 92 = .ok (.iinc 4 1, 3) := by decide +kernel
theorem dX7_would_95 : decode cX7_would 95 = .ok (.goto (-13), 3) := by decide +kernel
theorem dX7_would_98 : decode cX7_would 98 = .ok (.aload_n 0, 1) := by decide +kernel
theorem dX7_would_99 : decode cX7_would 99 = .ok (.iload_n 2, 1) := by decide +kernel
theorem dX7_would_100 : decode cX7_would 100 = .ok (.iload_n 3, 1) := by decide +kernel
theorem dX7_would_101 : decode cX7_would 101 = .ok (.invokevirtual 188, 3) := by decide +kernel
theorem dX7_would_104 : decode cX7_would 104 = .ok (.lstore 4, 2) := by decide +kernel
theorem dX7_would_106 : decode cX7_would 106 = .ok (.iconst 0, 1) := by decide +kernel
theorem dX7_would_107 : decode cX7_would 107 = .ok (.istore 6, 2) := by decide +kernel
theorem dX7_would_109 : decode cX7_would 109 = .ok (.iload 6, 2) := by decide +kernel
theorem dX7_would_111 : decode cX7_would 111 = .ok (.sipush 336, 3) := by decide +kernel
theorem dX7_would_114 : decode cX7_would 114 = .ok (.if_icmp .ge 23, 3) := by decide +kernel
theorem dX7_would_117 : decode cX7_would 117 = .ok (.aload_n 0, 1) := by decide +kernel
theorem dX7_would_118 : decode cX7_would 118 = .ok (.getfield 7, 3) := by decide +kernel
theorem dX7_would_121 : decode cX7_would 121 = .ok (.iload 6, 2) := by decide +kernel
theorem dX7_would_123 : decode cX7_would 123 = .ok (.aload_n 0, 1) := by decide +kernel
theorem dX7_would_124 : decode cX7_would 124 = .ok (.getfield 13, 3) := by decide +kernel
theorem dX7_would_127 : decode cX7_would 127 = .ok (.iload 6, 2) := by decide +kernel
theorem dX7_would_129 : decode cX7_would 129 = .ok (.laload, 1) := by decide +kernel
theorem dX7_would_130 : decode cX7_would 130 = .ok (.lastore, 1) := by decide +kernel
theorem dX7_would_131 : decode cX7_would 131 = .ok (.iinc 6 1, 3) := by decide +kernel
theorem dX7_would_134 : decode cX7_would 134 = .ok (.goto (-25), 3) := by decide +kernel
theorem dX7_would_137 : decode cX7_would 137 = .ok (.lload 4, 2) := by decide +kernel
theorem dX7_would_139 : decode cX7_would 139 = .ok (.lreturn, 1) := by decide +kernel
theorem dX7_ofWell_0 : decode cX7_ofWell 0 = .ok (.aload_n 0, 1) := by decide +kernel
theorem dX7_ofWell_1 : decode cX7_ofWell 1 = .ok (.aload_n 0, 1) := by decide +kernel
theorem dX7_ofWell_2 : decode cX7_ofWell 2 = .ok (.iload_n 1, 1) := by decide +kernel
theorem dX7_ofWell_3 : decode cX7_ofWell 3 = .ok (.invokevirtual 101, 3) := by decide +kernel
theorem dX7_ofWell_6 : decode cX7_ofWell 6 = .ok (.ifCond .ne 7, 3) := by decide +kernel
theorem dX7_ofWell_9 : decode cX7_ofWell 9 = .ok (.iconst 1, 1) := by decide +kernel
theorem dX7_ofWell_10 : decode cX7_ofWell 10 = .ok (.goto 18, 3) := by decide +kernel
theorem dX7_ofWell_13 : decode cX7_ofWell 13 = .ok (.iload_n 2, 1) := by decide +kernel
theorem dX7_ofWell_14 : decode cX7_ofWell 14 = .ok (.iconst 0, 1) := by decide +kernel
theorem dX7_ofWell_15 : decode cX7_ofWell 15 = .ok (.bipush 6, 2) := by decide +kernel
theorem dX7_ofWell_17 : decode cX7_ofWell 17 = .ok (.invokestatic 68, 3) := by decide +kernel
theorem dX7_ofWell_20 : decode cX7_ofWell 20 = .ok (.ifCond .ne 7, 3) := by decide +kernel
theorem dX7_ofWell_23 : decode cX7_ofWell 23 = .ok (.iconst 2, 1) := by decide +kernel
theorem dX7_ofWell_24 : decode cX7_ofWell 24 = .ok (.goto 4, 3) := by decide +kernel
theorem dX7_ofWell_27 : decode cX7_ofWell 27 = .ok (.iconst 0, 1) := by decide +kernel
theorem dX7_ofWell_28 : decode cX7_ofWell 28 = .ok (.putfield 64, 3) := by decide +kernel
theorem dX7_ofWell_31 : decode cX7_ofWell 31 = .ok (.aload_n 0, 1) := by decide +kernel
theorem dX7_ofWell_32 : decode cX7_ofWell 32 = .ok (.getfield 64, 3) := by decide +kernel
theorem dX7_ofWell_35 : decode cX7_ofWell 35 = .ok (.ifCond .le 5, 3) := by decide +kernel
theorem dX7_ofWell_38 : decode cX7_ofWell 38 = .ok (.lconst 0, 1) := by decide +kernel
theorem dX7_ofWell_39 : decode cX7_ofWell 39 = .ok (.lreturn, 1) := by decide +kernel
theorem dX7_ofWell_40 : decode cX7_ofWell 40 = .ok (.iload_n 2, 1) := by decide +kernel
theorem dX7_ofWell_41 : decode cX7_ofWell 41 = .ok (.ifCond .ne 13, 3) := by decide +kernel
theorem dX7_ofWell_44 : decode cX7_ofWell 44 = .ok (.aload_n 0, 1) := by decide +kernel
theorem dX7_ofWell_45 : decode cX7_ofWell 45 = .ok (.getfield 23, 3) := by decide +kernel
theorem dX7_ofWell_48 : decode cX7_ofWell 48 = .ok (.iload_n 1, 1) := by decide +kernel
theorem dX7_ofWell_49 : decode cX7_ofWell 49 = .ok (.iaload, 1) := by decide +kernel
theorem dX7_ofWell_50 : decode cX7_ofWell 50 = .ok (.i2l, 1) := by decide +kernel
theorem dX7_ofWell_51 : decode cX7_ofWell 51 = .ok (.goto 95, 3) := by decide +kernel
theorem dX7_ofWell_54 : decode cX7_ofWell 54 = .ok (.iload_n 2, 1) := by decide +kernel
theorem dX7_ofWell_55 : decode cX7_ofWell 55 = .ok (.iconst 1, 1) := by decide +kernel
theorem dX7_ofWell_56 : decode cX7_ofWell 56 = .ok (.if_icmp .ne 13, 3) := by decide +kernel
theorem dX7_ofWell_59 : decode cX7_ofWell 59 = .ok (.aload_n 0, 1) := by decide +kernel
theorem dX7_ofWell_60 : decode cX7_ofWell 60 = .ok (.getfield 30, 3) := by decide +kernel
theorem dX7_ofWell_63 : decode cX7_ofWell 63 = .ok (.iload_n 1, 1) := by decide +kernel
theorem dX7_ofWell_64 : decode cX7_ofWell 64 = .ok (.iaload, 1) := by decide +kernel
theorem dX7_ofWell_65 : decode cX7_ofWell 65 = .ok (.i2l, 1) := by decide +kernel
theorem dX7_ofWell_66 : decode cX7_ofWell 66 = .ok (.goto 80, 3) := by decide +kernel
theorem dX7_ofWell_69 : decode cX7_ofWell 69 = .ok (.iload_n 2, 1) := by decide +kernel
theorem dX7_ofWell_70 : decode cX7_ofWell 70 = .ok (.iconst 2, 1) := by decide +kernel
theorem dX7_ofWell_71 : decode cX7_ofWell 71 = .ok (.if_icmp .ne 15, 3) := by decide +kernel
theorem dX7_ofWell_74 : decode cX7_ofWell 74 = .ok (.aload_n 0, 1) := by decide +kernel
theorem dX7_ofWell_75 : decode cX7_ofWell 75 = .ok (.getfield 7, 3) := by decide +kernel
theorem dX7_ofWell_78 : decode cX7_ofWell 78 = .ok (.bipush 48, 2) := by decide +kernel
theorem dX7_ofWell_80 : decode cX7_ofWell 80 = .ok (.iload_n 1, 1) := by decide +kernel
theorem dX7_ofWell_81 : decode cX7_ofWell 81 = .ok (.iadd, 1) := by decide +kernel
theorem dX7_ofWell_82 : decode cX7_ofWell 82 = .ok (.laload, 1) := by decide +kernel
theorem dX7_ofWell_83 : decode cX7_ofWell 83 = .ok (.goto 63, 3) := by decide +kernel
theorem dX7_ofWell_86 : decode cX7_ofWell 86 = .ok (.iload_n 2, 1) := by decide +kernel
theorem dX7_ofWell_87 : decode cX7_ofWell 87 = .ok (.iconst 3, 1) := by decide +kernel
theorem dX7_ofWell_88 : decode cX7_ofWell 88 = .ok (.if_icmp .ne 15, 3) := by decide +kernel
theorem dX7_ofWell_91 : decode cX7_ofWell 91 = .ok (.aload_n 0, 1) := by decide +kernel
theorem dX7_ofWell_92 : decode cX7_ofWell 92 = .ok (.getfield 7, 3) := by decide +kernel
theorem dX7_ofWell_95 : decode cX7_ofWell 95 = .ok (.bipush 58, 2) := by decide +kernel
theorem dX7_ofWell_97 : decode cX7_ofWell 97 = .ok (.iload_n 1, 1) := by decide +kernel
theorem dX7_ofWell_98 : decode cX7_ofWell 98 = .ok (.iadd, 1) := by decide +kernel
theorem dX7_ofWell_99 : decode cX7_ofWell 99 = .ok (.laload, 1) := by decide +kernel
theorem dX7_ofWell_100 : decode cX7_ofWell 100 = .ok (.goto 46, 3) := by decide +kernel
theorem dX7_ofWell_103 : decode cX7_ofWell 103 = .ok (.iload_n 2, 1) := by decide +kernel
theorem dX7_ofWell_104 : decode cX7_ofWell 104 = .ok (.iconst 4, 1) := by decide +kernel
theorem dX7_ofWell_105 : decode cX7_ofWell 105 = .ok (.if_icmp .ne 15, 3) := by decide +kernel
theorem dX7_ofWell_108 : decode cX7_ofWell 108 = .ok (.aload_n 0, 1) := by decide +kernel
theorem dX7_ofWell_109 : decode cX7_ofWell 109 = .ok (.getfield 7, 3) := by decide +kernel
theorem dX7_ofWell_112 : decode cX7_ofWell 112 = .ok (.bipush 68, 2) := by decide +kernel
theorem dX7_ofWell_114 : decode cX7_ofWell 114 = .ok (.iload_n 1, 1) := by decide +kernel
theorem dX7_ofWell_115 : decode cX7_ofWell 115 = .ok (.iadd, 1) := by decide +kernel
theorem dX7_ofWell_116 : decode cX7_ofWell 116 = .ok (.laload, 1) := by decide +kernel
theorem dX7_ofWell_117 : decode cX7_ofWell 117 = .ok (.goto 29, 3) := by decide +kernel
theorem dX7_ofWell_120 : decode cX7_ofWell 120 = .ok (.iload_n 2, 1) := by decide +kernel
theorem dX7_ofWell_121 : decode cX7_ofWell 121 = .ok (.iconst 5, 1) := by decide +kernel
theorem dX7_ofWell_122 : decode cX7_ofWell 122 = .ok (.if_icmp .ne 15, 3) := by decide +kernel
theorem dX7_ofWell_125 : decode cX7_ofWell 125 = .ok (.aload_n 0, 1) := by decide +kernel
theorem dX7_ofWell_126 : decode cX7_ofWell 126 = .ok (.getfield 7, 3) := by decide +kernel
theorem dX7_ofWell_129 : decode cX7_ofWell 129 = .ok (.bipush 78, 2) := by decide +kernel
theorem dX7_ofWell_131 : decode cX7_ofWell 131 = .ok (.iload_n 1, 1) := by decide +kernel
theorem dX7_ofWell_132 : decode cX7_ofWell 132 = .ok (.iadd, 1) := by decide +kernel
theorem dX7_ofWell_133 : decode cX7_ofWell 133 = .ok (.laload, 1) := by decide +kernel
theorem dX7_ofWell_134 : decode cX7_ofWell 134 = .ok (.goto 12, 3) := by decide +kernel
theorem dX7_ofWell_137 : decode cX7_ofWell 137 = .ok (.aload_n 0, 1) := by decide +kernel
theorem dX7_ofWell_138 : decode cX7_ofWell 138 = .ok (.getfield 7, 3) := by decide +kernel
theorem dX7_ofWell_141 : decode cX7_ofWell 141 = .ok (.bipush 88, 2) := by decide +kernel
theorem dX7_ofWell_143 : decode cX7_ofWell 143 = .ok (.iload_n 1, 1) := by decide +kernel
theorem dX7_ofWell_144 : decode cX7_ofWell 144 = .ok (.iadd, 1) := by decide +kernel
theorem dX7_ofWell_145 : decode cX7_ofWell 145 = .ok (.laload, 1) := by decide +kernel
theorem dX7_ofWell_146 : decode cX7_ofWell 146 = .ok (.lreturn, 1) := by decide +kernel
theorem dX7_toBlame_0 : decode cX7_toBlame 0 = .ok (.iconst (-1), 1) := by decide +kernel
theorem dX7_toBlame_1 : decode cX7_toBlame 1 = .ok (.istore_n 2, 1) := by decide +kernel
theorem dX7_toBlame_2 : decode cX7_toBlame 2 = .ok (.iconst 0, 1) := by decide +kernel
theorem dX7_toBlame_3 : decode cX7_toBlame 3 = .ok (.istore_n 3, 1) := by decide +kernel
theorem dX7_toBlame_4 : decode cX7_toBlame 4 = .ok (.iload_n 3, 1) := by decide +kernel
theorem dX7_toBlame_5 : decode cX7_toBlame 5 = .ok (.aload_n 0, 1) := by decide +kernel
theorem dX7_toBlame_6 : decode cX7_toBlame 6 = .ok (.getfield 72, 3) := by decide +kernel
theorem dX7_toBlame_9 : decode cX7_toBlame 9 = .ok (.if_icmp .ge 60, 3) := by decide +kernel
theorem dX7_toBlame_12 : decode cX7_toBlame 12 = .ok (.iload_n 2, 1) := by decide +kernel
theorem dX7_toBlame_13 : decode cX7_toBlame 13 = .ok (.iconst (-1), 1) := by decide +kernel
theorem dX7_toBlame_14 : decode cX7_toBlame 14 = .ok (.if_icmp .ne 7, 3) := by decide +kernel
theorem dX7_toBlame_17 : decode cX7_toBlame 17 = .ok (.lconst 0, 1) := by decide +kernel
theorem dX7_toBlame_18 : decode cX7_toBlame 18 = .ok (.goto 17, 3) := by decide +kernel
theorem dX7_toBlame_21 : decode cX7_toBlame 21 = .ok (.aload_n 0, 1) := by decide +kernel
theorem dX7_toBlame_22 : decode cX7_toBlame 22 = .ok (.getfield 7, 3) := by decide +kernel
theorem dX7_toBlame_25 : decode cX7_toBlame 25 = .ok (.bipush 106, 2) := by decide +kernel
theorem dX7_toBlame_27 : decode cX7_toBlame 27 = .ok (.bipush 10, 2) := by decide +kernel
theorem dX7_toBlame_29 : decode cX7_toBlame 29 = .ok (.iload_n 1, 1) := by decide +kernel
theorem dX7_toBlame_30 : decode cX7_toBlame 30 = .ok (.imul, 1) := by decide +kernel
theorem dX7_toBlame_31 : decode cX7_toBlame 31 = .ok (.iadd, 1) := by decide +kernel
theorem dX7_toBlame_32 : decode cX7_toBlame 32 = .ok (.iload_n 2, 1) := by decide +kernel
theorem dX7_toBlame_33 : decode cX7_toBlame 33 = .ok (.iadd, 1) := by decide +kernel
theorem dX7_toBlame_34 : decode cX7_toBlame 34 = .ok (.laload, 1) := by decide +kernel
theorem dX7_toBlame_35 : decode cX7_toBlame 35 = .ok (.lstore 4, 2) := by decide +kernel
theorem dX7_toBlame_37 : decode cX7_toBlame 37 = .ok (.aload_n 0, 1) := by decide +kernel
theorem dX7_toBlame_38 : decode cX7_toBlame 38 = .ok (.getfield 7, 3) := by decide +kernel
theorem dX7_toBlame_41 : decode cX7_toBlame 41 = .ok (.bipush 106, 2) := by decide +kernel
theorem dX7_toBlame_43 : decode cX7_toBlame 43 = .ok (.bipush 10, 2) := by decide +kernel
theorem dX7_toBlame_45 : decode cX7_toBlame 45 = .ok (.iload_n 1, 1) := by decide +kernel
theorem dX7_toBlame_46 : decode cX7_toBlame 46 = .ok (.imul, 1) := by decide +kernel
theorem dX7_toBlame_47 : decode cX7_toBlame 47 = .ok (.iadd, 1) := by decide +kernel
theorem dX7_toBlame_48 : decode cX7_toBlame 48 = .ok (.iload_n 3, 1) := by decide +kernel
theorem dX7_toBlame_49 : decode cX7_toBlame 49 = .ok (.iadd, 1) := by decide +kernel
theorem dX7_toBlame_50 : decode cX7_toBlame 50 = .ok (.laload, 1) := by decide +kernel
theorem dX7_toBlame_51 : decode cX7_toBlame 51 = .ok (.lload 4, 2) := by decide +kernel
theorem dX7_toBlame_53 : decode cX7_toBlame 53 = .ok (.lcmp, 1) := by decide +kernel
theorem dX7_toBlame_54 : decode cX7_toBlame 54 = .ok (.ifCond .le 7, 3) := by decide +kernel
theorem dX7_toBlame_57 : decode cX7_toBlame 57 = .ok (.iload_n 3, 1) := by decide +kernel
theorem dX7_toBlame_58 : decode cX7_toBlame 58 = .ok (.goto 4, 3) := by decide +kernel
theorem dX7_toBlame_61 : decode cX7_toBlame 61 = .ok (.iload_n 2, 1) := by decide +kernel
theorem dX7_toBlame_62 : decode cX7_toBlame 62 = .ok (.istore_n 2, 1) := by decide +kernel
theorem dX7_toBlame_63 : decode cX7_toBlame 63 = .ok (.iinc 3 1, 3) := by decide +kernel
theorem dX7_toBlame_66 : decode cX7_toBlame 66 = .ok (.goto (-62), 3) := by decide +kernel
theorem dX7_toBlame_69 : decode cX7_toBlame 69 = .ok (.iload_n 2, 1) := by decide +kernel
theorem dX7_toBlame_70 : decode cX7_toBlame 70 = .ok (.ireturn, 1) := by decide +kernel
theorem dX7_ofSpring_0 : decode cX7_ofSpring 0 = .ok (.aload_n 0, 1) := by decide +kernel
theorem dX7_ofSpring_1 : decode cX7_ofSpring 1 = .ok (.aload_n 0, 1) := by decide +kernel
theorem dX7_ofSpring_2 : decode cX7_ofSpring 2 = .ok (.iload_n 1, 1) := by decide +kernel
theorem dX7_ofSpring_3 : decode cX7_ofSpring 3 = .ok (.invokevirtual 107, 3) := by decide +kernel
theorem dX7_ofSpring_6 : decode cX7_ofSpring 6 = .ok (.ifCond .ne 7, 3) := by decide +kernel
theorem dX7_ofSpring_9 : decode cX7_ofSpring 9 = .ok (.iconst 1, 1) := by decide +kernel
theorem dX7_ofSpring_10 : decode cX7_ofSpring 10 = .ok (.goto 17, 3) := by decide +kernel
theorem dX7_ofSpring_13 : decode cX7_ofSpring 13 = .ok (.iload_n 2, 1) := by decide +kernel
theorem dX7_ofSpring_14 : decode cX7_ofSpring 14 = .ok (.iconst 0, 1) := by decide +kernel
theorem dX7_ofSpring_15 : decode cX7_ofSpring 15 = .ok (.iconst 4, 1) := by decide +kernel
theorem dX7_ofSpring_16 : decode cX7_ofSpring 16 = .ok (.invokestatic 68, 3) := by decide +kernel
theorem dX7_ofSpring_19 : decode cX7_ofSpring 19 = .ok (.ifCond .ne 7, 3) := by decide +kernel
theorem dX7_ofSpring_22 : decode cX7_ofSpring 22 = .ok (.iconst 2, 1) := by decide +kernel
theorem dX7_ofSpring_23 : decode cX7_ofSpring 23 = .ok (.goto 4, 3) := by decide +kernel
theorem dX7_ofSpring_26 : decode cX7_ofSpring 26 = .ok (.iconst 0, 1) := by decide +kernel
theorem dX7_ofSpring_27 : decode cX7_ofSpring 27 = .ok (.putfield 64, 3) := by decide +kernel
theorem dX7_ofSpring_30 : decode cX7_ofSpring 30 = .ok (.aload_n 0, 1) := by decide +kernel
theorem dX7_ofSpring_31 : decode cX7_ofSpring 31 = .ok (.getfield 64, 3) := by decide +kernel
theorem dX7_ofSpring_34 : decode cX7_ofSpring 34 = .ok (.ifCond .le 5, 3) := by decide +kernel
theorem dX7_ofSpring_37 : decode cX7_ofSpring 37 = .ok (.lconst 0, 1) := by decide +kernel
theorem dX7_ofSpring_38 : decode cX7_ofSpring 38 = .ok (.lreturn, 1) := by decide +kernel
theorem dX7_ofSpring_39 : decode cX7_ofSpring 39 = .ok (.iload_n 2, 1) := by decide +kernel
theorem dX7_ofSpring_40 : decode cX7_ofSpring 40 = .ok (.ifCond .ne 13, 3) := by decide +kernel
theorem dX7_ofSpring_43 : decode cX7_ofSpring 43 = .ok (.aload_n 0, 1) := by decide +kernel
theorem dX7_ofSpring_44 : decode cX7_ofSpring 44 = .ok (.getfield 42, 3) := by decide +kernel
theorem dX7_ofSpring_47 : decode cX7_ofSpring 47 = .ok (.iload_n 1, 1) := by decide +kernel
theorem dX7_ofSpring_48 : decode cX7_ofSpring 48 = .ok (.iaload, 1) := by decide +kernel
theorem dX7_ofSpring_49 : decode cX7_ofSpring 49 = .ok (.i2l, 1) := by decide +kernel
theorem dX7_ofSpring_50 : decode cX7_ofSpring 50 = .ok (.goto 58, 3) := by decide +kernel
theorem dX7_ofSpring_53 : decode cX7_ofSpring 53 = .ok (.iload_n 2, 1) := by decide +kernel
theorem dX7_ofSpring_54 : decode cX7_ofSpring 54 = .ok (.iconst 1, 1) := by decide +kernel
theorem dX7_ofSpring_55 : decode cX7_ofSpring 55 = .ok (.if_icmp .ne 15, 3) := by decide +kernel
theorem dX7_ofSpring_58 : decode cX7_ofSpring 58 = .ok (.aload_n 0, 1) := by decide +kernel
theorem dX7_ofSpring_59 : decode cX7_ofSpring 59 = .ok (.getfield 7, 3) := by decide +kernel
theorem dX7_ofSpring_62 : decode cX7_ofSpring 62 = .ok (.bipush 98, 2) := by decide +kernel
theorem dX7_ofSpring_64 : decode cX7_ofSpring 64 = .ok (.iload_n 1, 1) := by decide +kernel
theorem dX7_ofSpring_65 : decode cX7_ofSpring 65 = .ok (.iadd, 1) := by decide +kernel
theorem dX7_ofSpring_66 : decode cX7_ofSpring 66 = .ok (.laload, 1) := by decide +kernel
theorem dX7_ofSpring_67 : decode cX7_ofSpring 67 = .ok (.goto 41, 3) := by decide +kernel
theorem dX7_ofSpring_70 : decode cX7_ofSpring 70 = .ok (.iload_n 2, 1) := by decide +kernel
theorem dX7_ofSpring_71 : decode cX7_ofSpring 71 = .ok (.iconst 2, 1) := by decide +kernel
theorem dX7_ofSpring_72 : decode cX7_ofSpring 72 = .ok (.if_icmp .ne 13, 3) := by decide +kernel
theorem dX7_ofSpring_75 : decode cX7_ofSpring 75 = .ok (.aload_n 0, 1) := by decide +kernel
theorem dX7_ofSpring_76 : decode cX7_ofSpring 76 = .ok (.getfield 48, 3) := by decide +kernel
theorem dX7_ofSpring_79 : decode cX7_ofSpring 79 = .ok (.iload_n 1, 1) := by decide +kernel
theorem dX7_ofSpring_80 : decode cX7_ofSpring 80 = .ok (.iaload, 1) := by decide +kernel
theorem dX7_ofSpring_81 : decode cX7_ofSpring 81 = .ok (.i2l, 1) := by decide +kernel
theorem dX7_ofSpring_82 : decode cX7_ofSpring 82 = .ok (.goto 26, 3) := by decide +kernel
theorem dX7_ofSpring_85 : decode cX7_ofSpring 85 = .ok (.iload_n 2, 1) := by decide +kernel
theorem dX7_ofSpring_86 : decode cX7_ofSpring 86 = .ok (.iconst 3, 1) := by decide +kernel
theorem dX7_ofSpring_87 : decode cX7_ofSpring 87 = .ok (.if_icmp .ne 15, 3) := by decide +kernel
theorem dX7_ofSpring_90 : decode cX7_ofSpring 90 = .ok (.aload_n 0, 1) := by decide +kernel
theorem dX7_ofSpring_91 : decode cX7_ofSpring 91 = .ok (.getfield 7, 3) := by decide +kernel
theorem dX7_ofSpring_94 : decode cX7_ofSpring 94 = .ok (.bipush 102, 2) := by decide +kernel
theorem dX7_ofSpring_96 : decode cX7_ofSpring 96 = .ok (.iload_n 1, 1) := by decide +kernel
theorem dX7_ofSpring_97 : decode cX7_ofSpring 97 = .ok (.iadd, 1) := by decide +kernel
theorem dX7_ofSpring_98 : decode cX7_ofSpring 98 = .ok (.laload, 1) := by decide +kernel
theorem dX7_ofSpring_99 : decode cX7_ofSpring 99 = .ok (.goto 9, 3) := by decide +kernel
theorem dX7_ofSpring_102 : decode cX7_ofSpring 102 = .ok (.aload_n 0, 1) := by decide +kernel
theorem dX7_ofSpring_103 : decode cX7_ofSpring 103 = .ok (.iload_n 1, 1) := by decide +kernel
theorem dX7_ofSpring_104 : decode cX7_ofSpring 104 = .ok (.invokevirtual 192, 3) := by decide +kernel
theorem dX7_ofSpring_107 : decode cX7_ofSpring 107 = .ok (.i2l, 1) := by decide +kernel
theorem dX7_ofSpring_108 : decode cX7_ofSpring 108 = .ok (.lreturn, 1) := by decide +kernel
theorem dX7_quake_0 : decode cX7_quake 0 = .ok (.aload_n 0, 1) := by decide +kernel
theorem dX7_quake_1 : decode cX7_quake 1 = .ok (.getfield 7, 3) := by decide +kernel
theorem dX7_quake_4 : decode cX7_quake 4 = .ok (.sipush 155, 3) := by decide +kernel
theorem dX7_quake_7 : decode cX7_quake 7 = .ok (.laload, 1) := by decide +kernel
theorem dX7_quake_8 : decode cX7_quake 8 = .ok (.ldc2_w 141, 3) := by decide +kernel
theorem dX7_quake_11 : decode cX7_quake 11 = .ok (.lcmp, 1) := by decide +kernel
theorem dX7_quake_12 : decode cX7_quake 12 = .ok (.ifCond .ge 15, 3) := by decide +kernel
theorem dX7_quake_15 : decode cX7_quake 15 = .ok (.aload_n 0, 1) := by decide +kernel
theorem dX7_quake_16 : decode cX7_quake 16 = .ok (.getfield 7, 3) := by decide +kernel
theorem dX7_quake_19 : decode cX7_quake 19 = .ok (.sipush 155, 3) := by decide +kernel
theorem dX7_quake_22 : decode cX7_quake 22 = .ok (.laload, 1) := by decide +kernel
theorem dX7_quake_23 : decode cX7_quake 23 = .ok (.l2i, 1) := by decide +kernel
theorem dX7_quake_24 : decode cX7_quake 24 = .ok (.goto 5, 3) := by decide +kernel
theorem dX7_quake_27 : decode cX7_quake 27 = .ok (.bipush 60, 2) := by decide +kernel
theorem dX7_quake_29 : decode cX7_quake 29 = .ok (.istore_n 3, 1) := by decide +kernel
theorem dX7_quake_30 : decode cX7_quake 30 = .ok (.aload_n 0, 1) := by decide +kernel
theorem dX7_quake_31 : decode cX7_quake 31 = .ok (.iload_n 1, 1) := by decide +kernel
theorem dX7_quake_32 : decode cX7_quake 32 = .ok (.iconst 0, 1) := by decide +kernel
theorem dX7_quake_33 : decode cX7_quake 33 = .ok (.iload_n 3, 1) := by decide +kernel
theorem dX7_quake_34 : decode cX7_quake 34 = .ok (.iconst 1, 1) := by decide +kernel
theorem dX7_quake_35 : decode cX7_quake 35 = .ok (.isub, 1) := by decide +kernel
theorem dX7_quake_36 : decode cX7_quake 36 = .ok (.invokestatic 68, 3) := by decide +kernel
theorem dX7_quake_39 : decode cX7_quake 39 = .ok (.ifCond .ne 7, 3) := by decide +kernel
theorem dX7_quake_42 : decode cX7_quake 42 = .ok (.iconst 1, 1) := by decide +kernel
theorem dX7_quake_43 : decode cX7_quake 43 = .ok (.goto 17, 3) := by decide +kernel
theorem dX7_quake_46 : decode cX7_quake 46 = .ok (.iload_n 2, 1) := by decide +kernel
theorem dX7_quake_47 : decode cX7_quake 47 = .ok (.iconst 0, 1) := by decide +kernel
theorem dX7_quake_48 : decode cX7_quake 48 = .ok (.iconst 2, 1) := by decide +kernel
theorem dX7_quake_49 : decode cX7_quake 49 = .ok (.invokestatic 68, 3) := by decide +kernel
theorem dX7_quake_52 : decode cX7_quake 52 = .ok (.ifCond .ne 7, 3) := by decide +kernel
theorem dX7_quake_55 : decode cX7_quake 55 = .ok (.iconst 2, 1) := by decide +kernel
theorem dX7_quake_56 : decode cX7_quake 56 = .ok (.goto 4, 3) := by decide +kernel
theorem dX7_quake_59 : decode cX7_quake 59 = .ok (.iconst 0, 1) := by decide +kernel
theorem dX7_quake_60 : decode cX7_quake 60 = .ok (.putfield 64, 3) := by decide +kernel
theorem dX7_quake_63 : decode cX7_quake 63 = .ok (.aload_n 0, 1) := by decide +kernel
theorem dX7_quake_64 : decode cX7_quake 64 = .ok (.getfield 64, 3) := by decide +kernel
theorem dX7_quake_67 : decode cX7_quake 67 = .ok (.ifCond .le 7, 3) := by decide +kernel
theorem dX7_quake_70 : decode cX7_quake 70 = .ok (.iconst 0, 1) := by decide +kernel
theorem dX7_quake_71 : decode cX7_quake 71 = .ok (.goto 18, 3) := by decide +kernel
theorem dX7_quake_74 : decode cX7_quake 74 = .ok (.aload_n 0, 1) := by decide +kernel
theorem dX7_quake_75 : decode cX7_quake 75 = .ok (.getfield 7, 3) := by decide +kernel
theorem dX7_quake_78 : decode cX7_quake 78 = .ok (.sipush 156, 3) := by decide +kernel
theorem dX7_quake_81 : decode cX7_quake 81 = .ok (.iconst 3, 1) := by decide +kernel
theorem dX7_quake_82 : decode cX7_quake 82 = .ok (.iload_n 1, 1) := by decide +kernel
theorem dX7_quake_83 : decode cX7_quake 83 = .ok (.imul, 1) := by decide +kernel
theorem dX7_quake_84 : decode cX7_quake 84 = .ok (.iadd, 1) := by decide +kernel
theorem dX7_quake_85 : decode cX7_quake 85 = .ok (.iload_n 2, 1) := by decide +kernel
theorem dX7_quake_86 : decode cX7_quake 86 = .ok (.iadd, 1) := by decide +kernel
theorem dX7_quake_87 : decode cX7_quake 87 = .ok (.laload, 1) := by decide +kernel
theorem dX7_quake_88 : decode cX7_quake 88 = .ok (.l2i, 1) := by decide +kernel
theorem dX7_quake_89 : decode cX7_quake 89 = .ok (.ireturn, 1) := by decide +kernel
theorem dX7_count_0 : decode cX7_count 0 = .ok (.aload_n 0, 1) := by decide +kernel
theorem dX7_count_1 : decode cX7_count 1 = .ok (.iload_n 1, 1) := by decide +kernel
theorem dX7_count_2 : decode cX7_count 2 = .ok (.iconst 0, 1) := by decide +kernel
theorem dX7_count_3 : decode cX7_count 3 = .ok (.iconst 4, 1) := by decide +kernel
theorem dX7_count_4 : decode cX7_count 4 = .ok (.invokestatic 68, 3) := by decide +kernel
theorem dX7_count_7 : decode cX7_count 7 = .ok (.ifCond .eq 7, 3) := by decide +kernel
theorem dX7_count_10 : decode cX7_count 10 = .ok (.iconst 0, 1) := by decide +kernel
theorem dX7_count_11 : decode cX7_count 11 = .ok (.goto 4, 3) := by decide +kernel
theorem dX7_count_14 : decode cX7_count 14 = .ok (.iconst 1, 1) := by decide +kernel
theorem dX7_count_15 : decode cX7_count 15 = .ok (.putfield 64, 3) := by decide +kernel
theorem dX7_count_18 : decode cX7_count 18 = .ok (.aload_n 0, 1) := by decide +kernel
theorem dX7_count_19 : decode cX7_count 19 = .ok (.getfield 64, 3) := by decide +kernel
theorem dX7_count_22 : decode cX7_count 22 = .ok (.ifCond .le 5, 3) := by decide +kernel
theorem dX7_count_25 : decode cX7_count 25 = .ok (.iconst 0, 1) := by decide +kernel
theorem dX7_count_26 : decode cX7_count 26 = .ok (.ireturn, 1) := by decide +kernel
theorem dX7_count_27 : decode cX7_count 27 = .ok (.iload_n 1, 1) := by decide +kernel
theorem dX7_count_28 : decode cX7_count 28 = .ok (.ifCond .ne 15, 3) := by decide +kernel
theorem dX7_count_31 : decode cX7_count 31 = .ok (.aload_n 0, 1) := by decide +kernel
theorem dX7_count_32 : decode cX7_count 32 = .ok (.getfield 7, 3) := by decide +kernel
theorem dX7_count_35 : decode cX7_count 35 = .ok (.sipush 154, 3) := by decide +kernel
theorem dX7_count_38 : decode cX7_count 38 = .ok (.laload, 1) := by decide +kernel
theorem dX7_count_39 : decode cX7_count 39 = .ok (.l2i, 1) := by decide +kernel
theorem dX7_count_40 : decode cX7_count 40 = .ok (.goto 48, 3) := by decide +kernel
theorem dX7_count_43 : decode cX7_count 43 = .ok (.iload_n 1, 1) := by decide +kernel
theorem dX7_count_44 : decode cX7_count 44 = .ok (.iconst 1, 1) := by decide +kernel
theorem dX7_count_45 : decode cX7_count 45 = .ok (.if_icmp .ne 10, 3) := by decide +kernel
theorem dX7_count_48 : decode cX7_count 48 = .ok (.aload_n 0, 1) := by decide +kernel
theorem dX7_count_49 : decode cX7_count 49 = .ok (.getfield 72, 3) := by decide +kernel
theorem dX7_count_52 : decode cX7_count 52 = .ok (.goto 36, 3) := by decide +kernel
theorem dX7_count_55 : decode cX7_count 55 = .ok (.iload_n 1, 1) := by decide +kernel
theorem dX7_count_56 : decode cX7_count 56 = .ok (.iconst 2, 1) := by decide +kernel
theorem dX7_count_57 : decode cX7_count 57 = .ok (.if_icmp .ne 10, 3) := by decide +kernel
theorem dX7_count_60 : decode cX7_count 60 = .ok (.aload_n 0, 1) := by decide +kernel
theorem dX7_count_61 : decode cX7_count 61 = .ok (.getfield 75, 3) := by decide +kernel
theorem dX7_count_64 : decode cX7_count 64 = .ok (.goto 24, 3) := by decide +kernel
theorem dX7_count_67 : decode cX7_count 67 = .ok (.iload_n 1, 1) := by decide +kernel
theorem dX7_count_68 : decode cX7_count 68 = .ok (.iconst 3, 1) := by decide +kernel
theorem dX7_count_69 : decode cX7_count 69 = .ok (.if_icmp .ne 10, 3) := by decide +kernel
theorem dX7_count_72 : decode cX7_count 72 = .ok (.aload_n 0, 1) := by decide +kernel
theorem dX7_count_73 : decode cX7_count 73 = .ok (.getfield 104, 3) := by decide +kernel
theorem dX7_count_76 : decode cX7_count 76 = .ok (.goto 12, 3) := by decide +kernel
theorem dX7_count_79 : decode cX7_count 79 = .ok (.aload_n 0, 1) := by decide +kernel
theorem dX7_count_80 : decode cX7_count 80 = .ok (.getfield 7, 3) := by decide +kernel
theorem dX7_count_83 : decode cX7_count 83 = .ok (.sipush 155, 3) := by decide +kernel
theorem dX7_count_86 : decode cX7_count 86 = .ok (.laload, 1) := by decide +kernel
theorem dX7_count_87 : decode cX7_count 87 = .ok (.l2i, 1) := by decide +kernel
theorem dX7_count_88 : decode cX7_count 88 = .ok (.ireturn, 1) := by decide +kernel
theorem dX7_sum_0 : decode cX7_sum 0 = .ok (.aload_n 0, 1) := by decide +kernel
theorem dX7_sum_1 : decode cX7_sum 1 = .ok (.iload_n 1, 1) := by decide +kernel
theorem dX7_sum_2 : decode cX7_sum 2 = .ok (.iconst 0, 1) := by decide +kernel
theorem dX7_sum_3 : decode cX7_sum 3 = .ok (.bipush 7, 2) := by decide +kernel
theorem dX7_sum_5 : decode cX7_sum 5 = .ok (.invokestatic 68, 3) := by decide +kernel
theorem dX7_sum_8 : decode cX7_sum 8 = .ok (.ifCond .eq 7, 3) := by decide +kernel
theorem dX7_sum_11 : decode cX7_sum 11 = .ok (.iconst 0, 1) := by decide +kernel
theorem dX7_sum_12 : decode cX7_sum 12 = .ok (.goto 4, 3) := by decide +kernel
theorem dX7_sum_15 : decode cX7_sum 15 = .ok (.iconst 1, 1) := by decide +kernel
theorem dX7_sum_16 : decode cX7_sum 16 = .ok (.putfield 64, 3) := by decide +kernel
theorem dX7_sum_19 : decode cX7_sum 19 = .ok (.aload_n 0, 1) := by decide +kernel
theorem dX7_sum_20 : decode cX7_sum 20 = .ok (.getfield 64, 3) := by decide +kernel
theorem dX7_sum_23 : decode cX7_sum 23 = .ok (.ifCond .ne 20, 3) := by decide +kernel
theorem dX7_sum_26 : decode cX7_sum 26 = .ok (.iload_n 1, 1) := by decide +kernel
theorem dX7_sum_27 : decode cX7_sum 27 = .ok (.ifCond .le 16, 3) := by decide +kernel
theorem dX7_sum_30 : decode cX7_sum 30 = .ok (.aload_n 0, 1) := by decide +kernel
theorem dX7_sum_31 : decode cX7_sum 31 = .ok (.getfield 7, 3) := by decide +kernel
theorem dX7_sum_34 : decode cX7_sum 34 = .ok (.sipush 146, 3) := by decide +kernel
theorem dX7_sum_37 : decode cX7_sum 37 = .ok (.iload_n 1, 1) := by decide +kernel
theorem dX7_sum_38 : decode cX7_sum 38 = .ok (.iadd, 1) := by decide +kernel
theorem dX7_sum_39 : decode cX7_sum 39 = .ok (.laload, 1) := by decide +kernel
theorem dX7_sum_40 : decode cX7_sum 40 = .ok (.goto 4, 3) := by decide +kernel
theorem dX7_sum_43 : decode cX7_sum 43 = .ok (.lconst 0, 1) := by decide +kernel
theorem dX7_sum_44 : decode cX7_sum 44 = .ok (.lstore_n 2, 1) := by decide +kernel
theorem dX7_sum_45 : decode cX7_sum 45 = .ok (.iconst 0, 1) := by decide +kernel
theorem dX7_sum_46 : decode cX7_sum 46 = .ok (.istore 4, 2) := by decide +kernel
theorem dX7_sum_48 : decode cX7_sum 48 = .ok (.iload 4, 2) := by decide +kernel
theorem dX7_sum_50 : decode cX7_sum 50 = .ok (.bipush 12, 2) := by decide +kernel
theorem dX7_sum_52 : decode cX7_sum 52 = .ok (.if_icmp .ge 32, 3) := by decide +kernel
theorem dX7_sum_55 : decode cX7_sum 55 = .ok (.aload_n 0, 1) := by decide +kernel
theorem dX7_sum_56 : decode cX7_sum 56 = .ok (.getfield 64, 3) := by decide +kernel
theorem dX7_sum_59 : decode cX7_sum 59 = .ok (.ifCond .ne 25, 3) := by decide +kernel
theorem dX7_sum_62 : decode cX7_sum 62 = .ok (.iload_n 1, 1) := by decide +kernel
theorem dX7_sum_63 : decode cX7_sum 63 = .ok (.ifCond .ne 21, 3) := by decide +kernel
theorem dX7_sum_66 : decode cX7_sum 66 = .ok (.lload_n 2, 1) := by decide +kernel
theorem dX7_sum_67 : decode cX7_sum 67 = .ok (.aload_n 0, 1) := by decide +kernel
theorem dX7_sum_68 : decode cX7_sum 68 = .ok (.getfield 7, 3) := by decide +kernel
theorem dX7_sum_71 : decode cX7_sum 71 = .ok (.iconst 0, 1) := by decide +kernel
theorem dX7_sum_72 : decode cX7_sum 72 = .ok (.iload 4, 2) := by decide +kernel
theorem dX7_sum_74 : decode cX7_sum 74 = .ok (.iadd, 1) := by decide +kernel
theorem dX7_sum_75 : decode cX7_sum 75 = .ok (.laload, 1) := by decide +kernel
theorem dX7_sum_76 : decode cX7_sum 76 = .ok (.ladd, 1) := by decide +kernel
theorem dX7_sum_77 : decode cX7_sum 77 = .ok (.lstore_n 2, 1) := by decide +kernel
theorem dX7_sum_78 : decode cX7_sum 78 = .ok (.iinc 4 1, 3) := by decide +kernel
theorem dX7_sum_81 : decode cX7_sum 81 = .ok (.goto (-33), 3) := by decide +kernel
theorem dX7_sum_84 : decode cX7_sum 84 = .ok (.lload_n 2, 1) := by decide +kernel
theorem dX7_sum_85 : decode cX7_sum 85 = .ok (.lreturn, 1) := by decide +kernel
theorem dX7_share_0 : decode cX7_share 0 = .ok (.aload_n 0, 1) := by decide +kernel
theorem dX7_share_1 : decode cX7_share 1 = .ok (.iconst 0, 1) := by decide +kernel
theorem dX7_share_2 : decode cX7_share 2 = .ok (.putfield 64, 3) := by decide +kernel
theorem dX7_share_5 : decode cX7_share 5 = .ok (.aload_n 0, 1) := by decide +kernel
theorem dX7_share_6 : decode cX7_share 6 = .ok (.getfield 7, 3) := by decide +kernel
theorem dX7_share_9 : decode cX7_share 9 = .ok (.sipush 153, 3) := by decide +kernel
theorem dX7_share_12 : decode cX7_share 12 = .ok (.laload, 1) := by decide +kernel
theorem dX7_share_13 : decode cX7_share 13 = .ok (.lconst 0, 1) := by decide +kernel
theorem dX7_share_14 : decode cX7_share 14 = .ok (.lcmp, 1) := by decide +kernel
theorem dX7_share_15 : decode cX7_share 15 = .ok (.ifCond .eq 16, 3) := by decide +kernel
theorem dX7_share_18 : decode cX7_share 18 = .ok (.aload_n 0, 1) := by decide +kernel
theorem dX7_share_19 : decode cX7_share 19 = .ok (.getfield 7, 3) := by decide +kernel
theorem dX7_share_22 : decode cX7_share 22 = .ok (.sipush 152, 3) := by decide +kernel
theorem dX7_share_25 : decode cX7_share 25 = .ok (.laload, 1) := by decide +kernel
theorem dX7_share_26 : decode cX7_share 26 = .ok (.lconst 0, 1) := by decide +kernel
theorem dX7_share_27 : decode cX7_share 27 = .ok (.lcmp, 1) := by decide +kernel
theorem dX7_share_28 : decode cX7_share 28 = .ok (.ifCond .ne 5, 3) := by decide +kernel
theorem dX7_share_31 : decode cX7_share 31 = .ok (.iconst 0, 1) := by decide +kernel
theorem dX7_share_32 : decode cX7_share 32 = .ok (.ireturn, 1) := by decide +kernel
theorem dX7_share_33 : decode cX7_share 33 = .ok (.aload_n 0, 1) := by decide +kernel
theorem dX7_share_34 : decode cX7_share 34 = .ok (.getfield 7, 3) := by decide +kernel
theorem dX7_share_37 : decode cX7_share 37 = .ok (.sipush 152, 3) := by decide +kernel
theorem dX7_share_40 : decode cX7_share 40 = .ok (.laload, 1) := by decide +kernel
theorem dX7_share_41 : decode cX7_share 41 = .ok (.l2f, 1) := by decide +kernel
theorem dX7_share_42 : decode cX7_share 42 = .ok (.aload_n 0, 1) := by decide +kernel
theorem dX7_share_43 : decode cX7_share 43 = .ok (.getfield 7, 3) := by decide +kernel
theorem dX7_share_46 : decode cX7_share 46 = .ok (.sipush 153, 3) := by decide +kernel
theorem dX7_share_49 : decode cX7_share 49 = .ok (.laload, 1) := by decide +kernel
theorem dX7_share_50 : decode cX7_share 50 = .ok (.l2f, 1) := by decide +kernel
theorem dX7_share_51 : decode cX7_share 51 = .ok (.fdiv, 1) := by decide +kernel
theorem dX7_share_52 : decode cX7_share 52 = .ok (.fstore_n 1, 1) := by decide +kernel
theorem dX7_share_53 : decode cX7_share 53 = .ok (.bipush 127, 2) := by decide +kernel
theorem dX7_share_55 : decode cX7_share 55 = .ok (.istore_n 2, 1) := by decide +kernel
theorem dX7_share_56 : decode cX7_share 56 = .ok (.fload_n 1, 1) := by decide +kernel
theorem dX7_share_57 : decode cX7_share 57 = .ok (.fconst 2, 1) := by decide +kernel
theorem dX7_share_58 : decode cX7_share 58 = .ok (.fcmp .l, 1) := by decide +kernel
theorem dX7_share_59 : decode cX7_share 59 = .ok (.ifCond .lt 13, 3) := by decide +kernel
theorem dX7_share_62 : decode cX7_share 62 = .ok (.fload_n 1, 1) := by decide +kernel
theorem dX7_share_63 : decode cX7_share 63 = .ok (.fconst 2, 1) := by decide +kernel
theorem dX7_share_64 : decode cX7_share 64 = .ok (.fdiv, 1) := by decide +kernel
theorem dX7_share_65 : decode cX7_share 65 = .ok (.fstore_n 1, 1) := by decide +kernel
theorem dX7_share_66 : decode cX7_share 66 = .ok (.iinc 2 1, 3) := by decide +kernel
theorem dX7_share_69 : decode cX7_share 69 = .ok (.goto (-13), 3) := by decide +kernel
theorem dX7_share_72 : decode cX7_share 72 = .ok (.fload_n 1, 1) := by decide +kernel
theorem dX7_share_73 : decode cX7_share 73 = .ok (.fconst 1, 1) := by decide +kernel
theorem dX7_share_74 : decode cX7_share 74 = .ok (.fcmp .g, 1) := by decide +kernel
theorem dX7_share_75 : decode cX7_share 75 = .ok (.ifCond .ge 13, 3) := by decide +kernel
theorem dX7_share_78 : decode cX7_share 78 = .ok (.fload_n 1, 1) := by decide +kernel
theorem dX7_share_79 : decode cX7_share 79 = .ok (.fconst 2, 1) := by decide +kernel
theorem dX7_share_80 : decode cX7_share 80 = .ok (.fmul, 1) := by decide +kernel
theorem dX7_share_81 : decode cX7_share 81 = .ok (.fstore_n 1, 1) := by decide +kernel
theorem dX7_share_82 : decode cX7_share 82 = .ok (.iinc 2 (-1), 3) := by decide +kernel
theorem dX7_share_85 : decode cX7_share 85 = .ok (.goto (-13), 3) := by decide +kernel
theorem dX7_share_88 : decode cX7_share 88 = .ok (.iload_n 2, 1) := by decide +kernel
theorem dX7_share_89 : decode cX7_share 89 = .ok (.bipush 23, 2) := by decide +kernel
theorem dX7_share_91 : decode cX7_share 91 = .ok (.ishl, 1) := by decide +kernel
theorem dX7_share_92 : decode cX7_share 92 = .ok (.fload_n 1, 1) := by decide +kernel
theorem dX7_share_93 : decode cX7_share 93 = .ok (.fconst 1, 1) := by decide +kernel
theorem dX7_share_94 : decode cX7_share 94 = .ok (.fsub, 1) := by decide +kernel
theorem dX7_share_95 : decode cX7_share 95 = .ok (.ldc 195, 2) := by decide +kernel
theorem dX7_share_97 : decode cX7_share 97 = .ok (.fmul, 1) := by decide +kernel
theorem dX7_share_98 : decode cX7_share 98 = .ok (.f2i, 1) := by decide +kernel
theorem dX7_share_99 : decode cX7_share 99 = .ok (.ior, 1) := by decide +kernel
theorem dX7_share_100 : decode cX7_share 100 = .ok (.ireturn, 1) := by decide +kernel
theorem dJ9_max_f86c9_0 : decode cJ9_max_f86c9 0 = .ok (.lload_n 0, 1) := by decide +kernel
theorem dJ9_max_f86c9_1 : decode cJ9_max_f86c9 1 = .ok (.lload_n 2, 1) := by decide +kernel
theorem dJ9_max_f86c9_2 : decode cJ9_max_f86c9 2 = .ok (.lcmp, 1) := by decide +kernel
theorem dJ9_max_f86c9_3 : decode cJ9_max_f86c9 3 = .ok (.ifCond .lt 7, 3) := by decide +kernel
theorem dJ9_max_f86c9_6 : decode cJ9_max_f86c9 6 = .ok (.lload_n 0, 1) := by decide +kernel
theorem dJ9_max_f86c9_7 : decode cJ9_max_f86c9 7 = .ok (.goto 4, 3) := by decide +kernel
theorem dJ9_max_f86c9_10 : decode cJ9_max_f86c9 10 = .ok (.lload_n 2, 1) := by decide +kernel
theorem dJ9_max_f86c9_11 : decode cJ9_max_f86c9 11 = .ok (.lreturn, 1) := by decide +kernel
theorem dJ9_min_7cf53_0 : decode cJ9_min_7cf53 0 = .ok (.iload_n 0, 1) := by decide +kernel
theorem dJ9_min_7cf53_1 : decode cJ9_min_7cf53 1 = .ok (.iload_n 1, 1) := by decide +kernel
theorem dJ9_min_7cf53_2 : decode cJ9_min_7cf53 2 = .ok (.if_icmp .gt 7, 3) := by decide +kernel
theorem dJ9_min_7cf53_5 : decode cJ9_min_7cf53 5 = .ok (.iload_n 0, 1) := by decide +kernel
theorem dJ9_min_7cf53_6 : decode cJ9_min_7cf53 6 = .ok (.goto 4, 3) := by decide +kernel
theorem dJ9_min_7cf53_9 : decode cJ9_min_7cf53 9 = .ok (.iload_n 1, 1) := by decide +kernel
theorem dJ9_min_7cf53_10 : decode cJ9_min_7cf53 10 = .ok (.ireturn, 1) := by decide +kernel
theorem dJ9_min_f86c9_0 : decode cJ9_min_f86c9 0 = .ok (.lload_n 0, 1) := by decide +kernel
theorem dJ9_min_f86c9_1 : decode cJ9_min_f86c9 1 = .ok (.lload_n 2, 1) := by decide +kernel
theorem dJ9_min_f86c9_2 : decode cJ9_min_f86c9 2 = .ok (.lcmp, 1) := by decide +kernel
theorem dJ9_min_f86c9_3 : decode cJ9_min_f86c9 3 = .ok (.ifCond .gt 7, 3) := by decide +kernel
theorem dJ9_min_f86c9_6 : decode cJ9_min_f86c9 6 = .ok (.lload_n 0, 1) := by decide +kernel
theorem dJ9_min_f86c9_7 : decode cJ9_min_f86c9 7 = .ok (.goto 4, 3) := by decide +kernel
theorem dJ9_min_f86c9_10 : decode cJ9_min_f86c9 10 = .ok (.lload_n 2, 1) := by decide +kernel
theorem dJ9_min_f86c9_11 : decode cJ9_min_f86c9 11 = .ok (.lreturn, 1) := by decide +kernel
theorem dL_block_0 : decode cL_block 0 = .ok (.aload 4, 2) := by decide +kernel
theorem dL_block_2 : decode cL_block 2 = .ok (.iconst 0, 1) := by decide +kernel
theorem dL_block_3 : decode cL_block 3 = .ok (.aload_n 0, 1) := by decide +kernel
theorem dL_block_4 : decode cL_block 4 = .ok (.iload_n 1, 1) := by decide +kernel
theorem dL_block_5 : decode cL_block 5 = .ok (.iload_n 2, 1) := by decide +kernel
theorem dL_block_6 : decode cL_block 6 = .ok (.iload_n 3, 1) := by decide +kernel
theorem dL_block_7 : decode cL_block 7 = .ok (.invokevirtual 7, 3) := by decide +kernel
theorem dL_block_10 : decode cL_block 10 = .ok (.i2l, 1) := by decide +kernel
theorem dL_block_11 : decode cL_block 11 = .ok (.lastore, 1) := by decide +kernel
theorem dL_block_12 : decode cL_block 12 = .ok (.goto 15, 3) := by decide +kernel
theorem dL_block_15 : decode cL_block 15 = .ok (.astore 5, 2) := by decide +kernel
theorem dL_block_17 : decode cL_block 17 = .ok (.iconst 1, 1) := by decide +kernel
theorem dL_block_18 : decode cL_block 18 = .ok (.ireturn, 1) := by decide +kernel
theorem dL_block_19 : decode cL_block 19 = .ok (.astore 5, 2) := by decide +kernel
theorem dL_block_21 : decode cL_block 21 = .ok (.iconst 2, 1) := by decide +kernel
theorem dL_block_22 : decode cL_block 22 = .ok (.ireturn, 1) := by decide +kernel
theorem dL_block_23 : decode cL_block 23 = .ok (.astore 5, 2) := by decide +kernel
theorem dL_block_25 : decode cL_block 25 = .ok (.iconst 3, 1) := by decide +kernel
theorem dL_block_26 : decode cL_block 26 = .ok (.ireturn, 1) := by decide +kernel
theorem dL_block_27 : decode cL_block 27 = .ok (.iconst 0, 1) := by decide +kernel
theorem dL_block_28 : decode cL_block 28 = .ok (.ireturn, 1) := by decide +kernel
theorem dL_crack_0 : decode cL_crack 0 = .ok (.aload 4, 2) := by decide +kernel
theorem dL_crack_2 : decode cL_crack 2 = .ok (.iconst 0, 1) := by decide +kernel
theorem dL_crack_3 : decode cL_crack 3 = .ok (.aload_n 0, 1) := by decide +kernel
theorem dL_crack_4 : decode cL_crack 4 = .ok (.iload_n 1, 1) := by decide +kernel
theorem dL_crack_5 : decode cL_crack 5 = .ok (.iload_n 2, 1) := by decide +kernel
theorem dL_crack_6 : decode cL_crack 6 = .ok (.iload_n 3, 1) := by decide +kernel
theorem dL_crack_7 : decode cL_crack 7 = .ok (.invokevirtual 19, 3) := by decide +kernel
theorem dL_crack_10 : decode cL_crack 10 = .ok (.i2l, 1) := by decide +kernel
theorem dL_crack_11 : decode cL_crack 11 = .ok (.lastore, 1) := by decide +kernel
theorem dL_crack_12 : decode cL_crack 12 = .ok (.goto 11, 3) := by decide +kernel
theorem dL_crack_15 : decode cL_crack 15 = .ok (.astore 5, 2) := by decide +kernel
theorem dL_crack_17 : decode cL_crack 17 = .ok (.iconst 1, 1) := by decide +kernel
theorem dL_crack_18 : decode cL_crack 18 = .ok (.ireturn, 1) := by decide +kernel
theorem dL_crack_19 : decode cL_crack 19 = .ok (.astore 5, 2) := by decide +kernel
theorem dL_crack_21 : decode cL_crack 21 = .ok (.iconst 2, 1) := by decide +kernel
theorem dL_crack_22 : decode cL_crack 22 = .ok (.ireturn, 1) := by decide +kernel
theorem dL_crack_23 : decode cL_crack 23 = .ok (.iconst 0, 1) := by decide +kernel
theorem dL_crack_24 : decode cL_crack 24 = .ok (.ireturn, 1) := by decide +kernel
theorem dL_rain_0 : decode cL_rain 0 = .ok (.aload_n 2, 1) := by decide +kernel
