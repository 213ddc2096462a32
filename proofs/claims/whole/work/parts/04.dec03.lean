theorem dX7_init_19 : decode cX7_init 19 = .ok (.putfield 13, 3) := by decide +kernel
theorem dX7_init_22 : decode cX7_init 22 = .ok (.aload_n 0, 1) := by decide +kernel
theorem dX7_init_23 : decode cX7_init 23 = .ok (.bipush 12, 2) := by decide +kernel
theorem dX7_init_25 : decode cX7_init 25 = .ok (.newarray .int, 2) := by decide +kernel
theorem dX7_init_27 : decode cX7_init 27 = .ok (.putfield 16, 3) := by decide +kernel
theorem dX7_init_30 : decode cX7_init 30 = .ok (.aload_n 0, 1) := by decide +kernel
theorem dX7_init_31 : decode cX7_init 31 = .ok (.bipush 12, 2) := by decide +kernel
theorem dX7_init_33 : decode cX7_init 33 = .ok (.newarray .int, 2) := by decide +kernel
theorem dX7_init_35 : decode cX7_init 35 = .ok (.putfield 20, 3) := by decide +kernel
theorem dX7_init_38 : decode cX7_init 38 = .ok (.aload_n 0, 1) := by decide +kernel
theorem dX7_init_39 : decode cX7_init 39 = .ok (.bipush 10, 2) := by decide +kernel
theorem dX7_init_41 : decode cX7_init 41 = .ok (.newarray .int, 2) := by decide +kernel
theorem dX7_init_43 : decode cX7_init 43 = .ok (.putfield 23, 3) := by decide +kernel
theorem dX7_init_46 : decode cX7_init 46 = .ok (.aload_n 0, 1) := by decide +kernel
theorem dX7_init_47 : decode cX7_init 47 = .ok (.bipush 10, 2) := by decide +kernel
theorem dX7_init_49 : decode cX7_init 49 = .ok (.newarray .boolean, 2) := by decide +kernel
theorem dX7_init_51 : decode cX7_init 51 = .ok (.putfield 26, 3) := by decide +kernel
theorem dX7_init_54 : decode cX7_init 54 = .ok (.aload_n 0, 1) := by decide +kernel
theorem dX7_init_55 : decode cX7_init 55 = .ok (.bipush 10, 2) := by decide +kernel
theorem dX7_init_57 : decode cX7_init 57 = .ok (.newarray .int, 2) := by decide +kernel
theorem dX7_init_59 : decode cX7_init 59 = .ok (.putfield 30, 3) := by decide +kernel
theorem dX7_init_62 : decode cX7_init 62 = .ok (.aload_n 0, 1) := by decide +kernel
theorem dX7_init_63 : decode cX7_init 63 = .ok (.bipush 10, 2) := by decide +kernel
theorem dX7_init_65 : decode cX7_init 65 = .ok (.newarray .long, 2) := by decide +kernel
theorem dX7_init_67 : decode cX7_init 67 = .ok (.putfield 33, 3) := by decide +kernel
theorem dX7_init_70 : decode cX7_init 70 = .ok (.aload_n 0, 1) := by decide +kernel
theorem dX7_init_71 : decode cX7_init 71 = .ok (.bipush 6, 2) := by decide +kernel
theorem dX7_init_73 : decode cX7_init 73 = .ok (.newarray .int, 2) := by decide +kernel
theorem dX7_init_75 : decode cX7_init 75 = .ok (.putfield 36, 3) := by decide +kernel
theorem dX7_init_78 : decode cX7_init 78 = .ok (.aload_n 0, 1) := by decide +kernel
theorem dX7_init_79 : decode cX7_init 79 = .ok (.bipush 6, 2) := by decide +kernel
theorem dX7_init_81 : decode cX7_init 81 = .ok (.newarray .int, 2) := by decide +kernel
theorem dX7_init_83 : decode cX7_init 83 = .ok (.putfield 39, 3) := by decide +kernel
theorem dX7_init_86 : decode cX7_init 86 = .ok (.aload_n 0, 1) := by decide +kernel
theorem dX7_init_87 : decode cX7_init 87 = .ok (.iconst 4, 1) := by decide +kernel
theorem dX7_init_88 : decode cX7_init 88 = .ok (.newarray .int, 2) := by decide +kernel
theorem dX7_init_90 : decode cX7_init 90 = .ok (.putfield 42, 3) := by decide +kernel
theorem dX7_init_93 : decode cX7_init 93 = .ok (.aload_n 0, 1) := by decide +kernel
theorem dX7_init_94 : decode cX7_init 94 = .ok (.iconst 4, 1) := by decide +kernel
theorem dX7_init_95 : decode cX7_init 95 = .ok (.newarray .int, 2) := by decide +kernel
theorem dX7_init_97 : decode cX7_init 97 = .ok (.putfield 45, 3) := by decide +kernel
theorem dX7_init_100 : decode cX7_init 100 = .ok (.aload_n 0, 1) := by decide +kernel
theorem dX7_init_101 : decode cX7_init 101 = .ok (.iconst 4, 1) := by decide +kernel
theorem dX7_init_102 : decode cX7_init 102 = .ok (.newarray .int, 2) := by decide +kernel
theorem dX7_init_104 : decode cX7_init 104 = .ok (.putfield 48, 3) := by decide +kernel
theorem dX7_init_107 : decode cX7_init 107 = .ok (.aload_n 0, 1) := by decide +kernel
theorem dX7_init_108 : decode cX7_init 108 = .ok (.bipush 12, 2) := by decide +kernel
theorem dX7_init_110 : decode cX7_init 110 = .ok (.newarray .long, 2) := by decide +kernel
theorem dX7_init_112 : decode cX7_init 112 = .ok (.putfield 51, 3) := by decide +kernel
theorem dX7_init_115 : decode cX7_init 115 = .ok (.aload_n 0, 1) := by decide +kernel
theorem dX7_init_116 : decode cX7_init 116 = .ok (.bipush 12, 2) := by decide +kernel
theorem dX7_init_118 : decode cX7_init 118 = .ok (.newarray .long, 2) := by decide +kernel
theorem dX7_init_120 : decode cX7_init 120 = .ok (.putfield 54, 3) := by decide +kernel
theorem dX7_init_123 : decode cX7_init 123 = .ok (.aload_n 0, 1) := by decide +kernel
theorem dX7_init_124 : decode cX7_init 124 = .ok (.bipush 12, 2) := by decide +kernel
theorem dX7_init_126 : decode cX7_init 126 = .ok (.newarray .long, 2) := by decide +kernel
theorem dX7_init_128 : decode cX7_init 128 = .ok (.putfield 57, 3) := by decide +kernel
theorem dX7_init_131 : decode cX7_init 131 = .ok (.iconst 0, 1) := by decide +kernel
theorem dX7_init_132 : decode cX7_init 132 = .ok (.istore_n 1, 1) := by decide +kernel
theorem dX7_init_133 : decode cX7_init 133 = .ok (.iload_n 1, 1) := by decide +kernel
theorem dX7_init_134 : decode cX7_init 134 = .ok (.bipush 12, 2) := by decide +kernel
theorem dX7_init_136 : decode cX7_init 136 = .ok (.if_icmp .ge 48, 3) := by decide +kernel
theorem dX7_init_139 : decode cX7_init 139 = .ok (.aload_n 0, 1) := by decide +kernel
theorem dX7_init_140 : decode cX7_init 140 = .ok (.getfield 7, 3) := by decide +kernel
theorem dX7_init_143 : decode cX7_init 143 = .ok (.iconst 0, 1) := by decide +kernel
theorem dX7_init_144 : decode cX7_init 144 = .ok (.iload_n 1, 1) := by decide +kernel
theorem dX7_init_145 : decode cX7_init 145 = .ok (.iadd, 1) := by decide +kernel
theorem dX7_init_146 : decode cX7_init 146 = .ok (.ldc2_w 60, 3) := by decide +kernel
theorem dX7_init_149 : decode cX7_init 149 = .ok (.lastore, 1) := by decide +kernel
theorem dX7_init_150 : decode cX7_init 150 = .ok (.aload_n 0, 1) := by decide +kernel
theorem dX7_init_151 : decode cX7_init 151 = .ok (.getfield 7, 3) := by decide +kernel
theorem dX7_init_154 : decode cX7_init 154 = .ok (.bipush 12, 2) := by decide +kernel
theorem dX7_init_156 : decode cX7_init 156 = .ok (.iload_n 1, 1) := by decide +kernel
theorem dX7_init_157 : decode cX7_init 157 = .ok (.iadd, 1) := by decide +kernel
theorem dX7_init_158 : decode cX7_init 158 = .ok (.ldc2_w 62, 3) := by decide +kernel
theorem dX7_init_161 : decode cX7_init 161 = .ok (.lastore, 1) := by decide +kernel
theorem dX7_init_162 : decode cX7_init 162 = .ok (.aload_n 0, 1) := by decide +kernel
theorem dX7_init_163 : decode cX7_init 163 = .ok (.getfield 16, 3) := by decide +kernel
theorem dX7_init_166 : decode cX7_init 166 = .ok (.iload_n 1, 1) := by decide +kernel
theorem dX7_init_167 : decode cX7_init 167 = .ok (.bipush 20, 2) := by decide +kernel
theorem dX7_init_169 : decode cX7_init 169 = .ok (.iastore, 1) := by decide +kernel
theorem dX7_init_170 : decode cX7_init 170 = .ok (.aload_n 0, 1) := by decide +kernel
theorem dX7_init_171 : decode cX7_init 171 = .ok (.getfield 20, 3) := by decide +kernel
theorem dX7_init_174 : decode cX7_init 174 = .ok (.iload_n 1, 1) := by decide +kernel
theorem dX7_init_175 : decode cX7_init 175 = .ok (.bipush 20, 2) := by decide +kernel
theorem dX7_init_177 : decode cX7_init 177 = .ok (.iastore, 1) := by decide +kernel
theorem dX7_init_178 : decode cX7_init 178 = .ok (.iinc 1 1, 3) := by decide +kernel
theorem dX7_init_181 : decode cX7_init 181 = .ok (.goto (-48), 3) := by decide +kernel
theorem dX7_init_184 : decode cX7_init 184 = .ok (.return_, 1) := by decide +kernel
theorem dX7_thrown_0 : decode cX7_thrown 0 = .ok (.aload_n 0, 1) := by decide +kernel
theorem dX7_thrown_1 : decode cX7_thrown 1 = .ok (.getfield 64, 3) := by decide +kernel
theorem dX7_thrown_4 : decode cX7_thrown 4 = .ok (.ireturn, 1) := by decide +kernel
theorem dX7_in_0 : decode cX7_in 0 = .ok (.iload_n 0, 1) := by decide +kernel
theorem dX7_in_1 : decode cX7_in 1 = .ok (.iload_n 1, 1) := by decide +kernel
theorem dX7_in_2 : decode cX7_in 2 = .ok (.if_icmp .lt 12, 3) := by decide +kernel
theorem dX7_in_5 : decode cX7_in 5 = .ok (.iload_n 0, 1) := by decide +kernel
theorem dX7_in_6 : decode cX7_in 6 = .ok (.iload_n 2, 1) := by decide +kernel
theorem dX7_in_7 : decode cX7_in 7 = .ok (.if_icmp .gt 7, 3) := by decide +kernel
theorem dX7_in_10 : decode cX7_in 10 = .ok (.iconst 1, 1) := by decide +kernel
theorem dX7_in_11 : decode cX7_in 11 = .ok (.goto 4, 3) := by decide +kernel
theorem dX7_in_14 : decode cX7_in 14 = .ok (.iconst 0, 1) := by decide +kernel
theorem dX7_in_15 : decode cX7_in 15 = .ok (.ireturn, 1) := by decide +kernel
theorem dX7_isBlock_0 : decode cX7_isBlock 0 = .ok (.iload_n 0, 1) := by decide +kernel
theorem dX7_isBlock_1 : decode cX7_isBlock 1 = .ok (.iconst 0, 1) := by decide +kernel
theorem dX7_isBlock_2 : decode cX7_isBlock 2 = .ok (.bipush 11, 2) := by decide +kernel
theorem dX7_isBlock_4 : decode cX7_isBlock 4 = .ok (.invokestatic 68, 3) := by decide +kernel
theorem dX7_isBlock_7 : decode cX7_isBlock 7 = .ok (.ireturn, 1) := by decide +kernel
theorem dX7_isWell_0 : decode cX7_isWell 0 = .ok (.iload_n 1, 1) := by decide +kernel
theorem dX7_isWell_1 : decode cX7_isWell 1 = .ok (.iconst 0, 1) := by decide +kernel
theorem dX7_isWell_2 : decode cX7_isWell 2 = .ok (.aload_n 0, 1) := by decide +kernel
theorem dX7_isWell_3 : decode cX7_isWell 3 = .ok (.getfield 72, 3) := by decide +kernel
theorem dX7_isWell_6 : decode cX7_isWell 6 = .ok (.iconst 1, 1) := by decide +kernel
theorem dX7_isWell_7 : decode cX7_isWell 7 = .ok (.isub, 1) := by decide +kernel
theorem dX7_isWell_8 : decode cX7_isWell 8 = .ok (.invokestatic 68, 3) := by decide +kernel
theorem dX7_isWell_11 : decode cX7_isWell 11 = .ok (.ireturn, 1) := by decide +kernel
theorem dX7_isSpring_0 : decode cX7_isSpring 0 = .ok (.iload_n 1, 1) := by decide +kernel
theorem dX7_isSpring_1 : decode cX7_isSpring 1 = .ok (.iconst 0, 1) := by decide +kernel
theorem dX7_isSpring_2 : decode cX7_isSpring 2 = .ok (.aload_n 0, 1) := by decide +kernel
theorem dX7_isSpring_3 : decode cX7_isSpring 3 = .ok (.getfield 75, 3) := by decide +kernel
theorem dX7_isSpring_6 : decode cX7_isSpring 6 = .ok (.iconst 1, 1) := by decide +kernel
theorem dX7_isSpring_7 : decode cX7_isSpring 7 = .ok (.isub, 1) := by decide +kernel
theorem dX7_isSpring_8 : decode cX7_isSpring 8 = .ok (.invokestatic 68, 3) := by decide +kernel
theorem dX7_isSpring_11 : decode cX7_isSpring 11 = .ok (.ireturn, 1) := by decide +kernel
theorem dX7_lesser_0 : decode cX7_lesser 0 = .ok (.lload_n 0, 1) := by decide +kernel
theorem dX7_lesser_1 : decode cX7_lesser 1 = .ok (.lload_n 2, 1) := by decide +kernel
theorem dX7_lesser_2 : decode cX7_lesser 2 = .ok (.lcmp, 1) := by decide +kernel
theorem dX7_lesser_3 : decode cX7_lesser 3 = .ok (.ifCond .ge 7, 3) := by decide +kernel
theorem dX7_lesser_6 : decode cX7_lesser 6 = .ok (.lload_n 0, 1) := by decide +kernel
theorem dX7_lesser_7 : decode cX7_lesser 7 = .ok (.goto 4, 3) := by decide +kernel
theorem dX7_lesser_10 : decode cX7_lesser 10 = .ok (.lload_n 2, 1) := by decide +kernel
theorem dX7_lesser_11 : decode cX7_lesser 11 = .ok (.lreturn, 1) := by decide +kernel
theorem dX7_isRight_0 : decode cX7_isRight 0 = .ok (.iload_n 1, 1) := by decide +kernel
theorem dX7_isRight_1 : decode cX7_isRight 1 = .ok (.iload_n 0, 1) := by decide +kernel
theorem dX7_isRight_2 : decode cX7_isRight 2 = .ok (.iconst 1, 1) := by decide +kernel
theorem dX7_isRight_3 : decode cX7_isRight 3 = .ok (.iadd, 1) := by decide +kernel
theorem dX7_isRight_4 : decode cX7_isRight 4 = .ok (.if_icmp .ne 14, 3) := by decide +kernel
theorem dX7_isRight_7 : decode cX7_isRight 7 = .ok (.iload_n 0, 1) := by decide +kernel
theorem dX7_isRight_8 : decode cX7_isRight 8 = .ok (.iconst 4, 1) := by decide +kernel
theorem dX7_isRight_9 : decode cX7_isRight 9 = .ok (.irem, 1) := by decide +kernel
theorem dX7_isRight_10 : decode cX7_isRight 10 = .ok (.iconst 3, 1) := by decide +kernel
theorem dX7_isRight_11 : decode cX7_isRight 11 = .ok (.if_icmp .ge 7, 3) := by decide +kernel
theorem dX7_isRight_14 : decode cX7_isRight 14 = .ok (.iconst 1, 1) := by decide +kernel
theorem dX7_isRight_15 : decode cX7_isRight 15 = .ok (.goto 4, 3) := by decide +kernel
theorem dX7_isRight_18 : decode cX7_isRight 18 = .ok (.iconst 0, 1) := by decide +kernel
theorem dX7_isRight_19 : decode cX7_isRight 19 = .ok (.ireturn, 1) := by decide +kernel
theorem dX7_areNeighbours_0 : decode cX7_areNeighbours 0 = .ok (.iload_n 0, 1) := by decide +kernel
theorem dX7_areNeighbours_1 : decode cX7_areNeighbours 1 = .ok (.iload_n 1, 1) := by decide +kernel
theorem dX7_areNeighbours_2 : decode cX7_areNeighbours 2 = .ok (.invokestatic 78, 3) := by decide +kernel
theorem dX7_areNeighbours_5 : decode cX7_areNeighbours 5 = .ok (.ifCond .ne 25, 3) := by decide +kernel
theorem dX7_areNeighbours_8 : decode cX7_areNeighbours 8 = .ok (.iload_n 1, 1) := by decide +kernel
theorem dX7_areNeighbours_9 : decode cX7_areNeighbours 9 = .ok (.iload_n 0, 1) := by decide +kernel
theorem dX7_areNeighbours_10 : decode cX7_areNeighbours 10 = .ok (.invokestatic 78, 3) := by decide +kernel
theorem dX7_areNeighbours_13 : decode cX7_areNeighbours 13 = .ok (.ifCond .ne 17, 3) := by decide +kernel
theorem dX7_areNeighbours_16 : decode cX7_areNeighbours 16 = .ok (.iload_n 1, 1) := by decide +kernel
theorem dX7_areNeighbours_17 : decode cX7_areNeighbours 17 = .ok (.iload_n 0, 1) := by decide +kernel
theorem dX7_areNeighbours_18 : decode cX7_areNeighbours 18 = .ok (.iconst 4, 1) := by decide +kernel
theorem dX7_areNeighbours_19 : decode cX7_areNeighbours 19 = .ok (.iadd, 1) := by decide +kernel
theorem dX7_areNeighbours_20 : decode cX7_areNeighbours 20 = .ok (.if_icmp .eq 10, 3) := by decide +kernel
theorem dX7_areNeighbours_23 : decode cX7_areNeighbours 23 = .ok (.iload_n 0, 1) := by decide +kernel
theorem dX7_areNeighbours_24 : decode cX7_areNeighbours 24 = .ok (.iload_n 1, 1) := by decide +kernel
theorem dX7_areNeighbours_25 : decode cX7_areNeighbours 25 = .ok (.iconst 4, 1) := by decide +kernel
theorem dX7_areNeighbours_26 : decode cX7_areNeighbours 26 = .ok (.iadd, 1) := by decide +kernel
theorem dX7_areNeighbours_27 : decode cX7_areNeighbours 27 = .ok (.if_icmp .ne 7, 3) := by decide +kernel
theorem dX7_areNeighbours_30 : decode cX7_areNeighbours 30 = .ok (.iconst 1, 1) := by decide +kernel
theorem dX7_areNeighbours_31 : decode cX7_areNeighbours 31 = .ok (.goto 4, 3) := by decide +kernel
theorem dX7_areNeighbours_34 : decode cX7_areNeighbours 34 = .ok (.iconst 0, 1) := by decide +kernel
theorem dX7_areNeighbours_35 : decode cX7_areNeighbours 35 = .ok (.ireturn, 1) := by decide +kernel
theorem dX7_isNear_0 : decode cX7_isNear 0 = .ok (.iload_n 0, 1) := by decide +kernel
theorem dX7_isNear_1 : decode cX7_isNear 1 = .ok (.iload_n 1, 1) := by decide +kernel
theorem dX7_isNear_2 : decode cX7_isNear 2 = .ok (.if_icmp .eq 11, 3) := by decide +kernel
theorem dX7_isNear_5 : decode cX7_isNear 5 = .ok (.iload_n 0, 1) := by decide +kernel
theorem dX7_isNear_6 : decode cX7_isNear 6 = .ok (.iload_n 1, 1) := by decide +kernel
theorem dX7_isNear_7 : decode cX7_isNear 7 = .ok (.invokestatic 82, 3) := by decide +kernel
theorem dX7_isNear_10 : decode cX7_isNear 10 = .ok (.ifCond .eq 7, 3) := by decide +kernel
theorem dX7_isNear_13 : decode cX7_isNear 13 = .ok (.iconst 1, 1) := by decide +kernel
theorem dX7_isNear_14 : decode cX7_isNear 14 = .ok (.goto 4, 3) := by decide +kernel
theorem dX7_isNear_17 : decode cX7_isNear 17 = .ok (.iconst 0, 1) := by decide +kernel
theorem dX7_isNear_18 : decode cX7_isNear 18 = .ok (.ireturn, 1) := by decide +kernel
theorem dX7_degrees_0 : decode cX7_degrees 0 = .ok (.aload_n 0, 1) := by decide +kernel
theorem dX7_degrees_1 : decode cX7_degrees 1 = .ok (.getfield 7, 3) := by decide +kernel
theorem dX7_degrees_4 : decode cX7_degrees 4 = .ok (.bipush 12, 2) := by decide +kernel
theorem dX7_degrees_6 : decode cX7_degrees 6 = .ok (.iload_n 1, 1) := by decide +kernel
theorem dX7_degrees_7 : decode cX7_degrees 7 = .ok (.iadd, 1) := by decide +kernel
theorem dX7_degrees_8 : decode cX7_degrees 8 = .ok (.laload, 1) := by decide +kernel
theorem dX7_degrees_9 : decode cX7_degrees 9 = .ok (.aload_n 0, 1) := by decide +kernel
theorem dX7_degrees_10 : decode cX7_degrees 10 = .ok (.getfield 7, 3) := by decide +kernel
theorem dX7_degrees_13 : decode cX7_degrees 13 = .ok (.iconst 0, 1) := by decide +kernel
theorem dX7_degrees_14 : decode cX7_degrees 14 = .ok (.iload_n 1, 1) := by decide +kernel
theorem dX7_degrees_15 : decode cX7_degrees 15 = .ok (.iadd, 1) := by decide +kernel
theorem dX7_degrees_16 : decode cX7_degrees 16 = .ok (.laload, 1) := by decide +kernel
theorem dX7_degrees_17 : decode cX7_degrees 17 = .ok (.ldc2_w 85, 3) := by decide +kernel
theorem dX7_degrees_20 : decode cX7_degrees 20 = .ok (.ladd, 1) := by decide +kernel
theorem dX7_degrees_21 : decode cX7_degrees 21 = .ok (.ldiv, 1) := by decide +kernel
theorem dX7_degrees_22 : decode cX7_degrees 22 = .ok (.lreturn, 1) := by decide +kernel
theorem dX7_light_0 : decode cX7_light 0 = .ok (.aload_n 0, 1) := by decide +kernel
theorem dX7_light_1 : decode cX7_light 1 = .ok (.getfield 7, 3) := by decide +kernel
theorem dX7_light_4 : decode cX7_light 4 = .ok (.bipush 36, 2) := by decide +kernel
theorem dX7_light_6 : decode cX7_light 6 = .ok (.iload_n 1, 1) := by decide +kernel
theorem dX7_light_7 : decode cX7_light 7 = .ok (.iadd, 1) := by decide +kernel
theorem dX7_light_8 : decode cX7_light 8 = .ok (.laload, 1) := by decide +kernel
theorem dX7_light_9 : decode cX7_light 9 = .ok (.ldc2_w 87, 3) := by decide +kernel
theorem dX7_light_12 : decode cX7_light 12 = .ok (.lcmp, 1) := by decide +kernel
theorem dX7_light_13 : decode cX7_light 13 = .ok (.ifCond .ge 7, 3) := by decide +kernel
theorem dX7_light_16 : decode cX7_light 16 = .ok (.iconst 0, 1) := by decide +kernel
theorem dX7_light_17 : decode cX7_light 17 = .ok (.goto 24, 3) := by decide +kernel
theorem dX7_light_20 : decode cX7_light 20 = .ok (.aload_n 0, 1) := by decide +kernel
theorem dX7_light_21 : decode cX7_light 21 = .ok (.getfield 7, 3) := by decide +kernel
theorem dX7_light_24 : decode cX7_light 24 = .ok (.bipush 36, 2) := by decide +kernel
theorem dX7_light_26 : decode cX7_light 26 = .ok (.iload_n 1, 1) := by decide +kernel
theorem dX7_light_27 : decode cX7_light 27 = .ok (.iadd, 1) := by decide +kernel
theorem dX7_light_28 : decode cX7_light 28 = .ok (.laload, 1) := by decide +kernel
theorem dX7_light_29 : decode cX7_light 29 = .ok (.ldc2_w 89, 3) := by decide +kernel
theorem dX7_light_32 : decode cX7_light 32 = .ok (.lcmp, 1) := by decide +kernel
theorem dX7_light_33 : decode cX7_light 33 = .ok (.ifCond .ge 7, 3) := by decide +kernel
theorem dX7_light_36 : decode cX7_light 36 = .ok (.iconst 1, 1) := by decide +kernel
theorem dX7_light_37 : decode cX7_light 37 = .ok (.goto 4, 3) := by decide +kernel
theorem dX7_light_40 : decode cX7_light 40 = .ok (.iconst 2, 1) := by decide +kernel
theorem dX7_light_41 : decode cX7_light 41 = .ok (.ireturn, 1) := by decide +kernel
theorem dX7_block_0 : decode cX7_block 0 = .ok (.aload_n 0, 1) := by decide +kernel
theorem dX7_block_1 : decode cX7_block 1 = .ok (.iload_n 1, 1) := by decide +kernel
theorem dX7_block_2 : decode cX7_block 2 = .ok (.invokestatic 91, 3) := by decide +kernel
theorem dX7_block_5 : decode cX7_block 5 = .ok (.ifCond .ne 7, 3) := by decide +kernel
theorem dX7_block_8 : decode cX7_block 8 = .ok (.iconst 1, 1) := by decide +kernel
theorem dX7_block_9 : decode cX7_block 9 = .ok (.goto 46, 3) := by decide +kernel
theorem dX7_block_12 : decode cX7_block 12 = .ok (.iload_n 2, 1) := by decide +kernel
theorem dX7_block_13 : decode cX7_block 13 = .ok (.iconst 0, 1) := by decide +kernel
theorem dX7_block_14 : decode cX7_block 14 = .ok (.ldc 95, 2) := by decide +kernel
theorem dX7_block_16 : decode cX7_block 16 = .ok (.invokestatic 68, 3) := by decide +kernel
theorem dX7_block_19 : decode cX7_block 19 = .ok (.ifCond .eq 14, 3) := by decide +kernel
theorem dX7_block_22 : decode cX7_block 22 = .ok (.iload_n 3, 1) := by decide +kernel
theorem dX7_block_23 : decode cX7_block 23 = .ok (.iconst 0, 1) := by decide +kernel
theorem dX7_block_24 : decode cX7_block 24 = .ok (.sipush 350, 3) := by decide +kernel
theorem dX7_block_27 : decode cX7_block 27 = .ok (.invokestatic 68, 3) := by decide +kernel
theorem dX7_block_30 : decode cX7_block 30 = .ok (.ifCond .ne 7, 3) := by decide +kernel
theorem dX7_block_33 : decode cX7_block 33 = .ok (.iconst 2, 1) := by decide +kernel
theorem dX7_block_34 : decode cX7_block 34 = .ok (.goto 21, 3) := by decide +kernel
theorem dX7_block_37 : decode cX7_block 37 = .ok (.aload_n 0, 1) := by decide +kernel
theorem dX7_block_38 : decode cX7_block 38 = .ok (.getfield 7, 3) := by decide +kernel
theorem dX7_block_41 : decode cX7_block 41 = .ok (.sipush 154, 3) := by decide +kernel
theorem dX7_block_44 : decode cX7_block 44 = .ok (.laload, 1) := by decide +kernel
theorem dX7_block_45 : decode cX7_block 45 = .ok (.lconst 0, 1) := by decide +kernel
theorem dX7_block_46 : decode cX7_block 46 = .ok (.lcmp, 1) := by decide +kernel
theorem dX7_block_47 : decode cX7_block 47 = .ok (.ifCond .le 7, 3) := by decide +kernel
theorem dX7_block_50 : decode cX7_block 50 = .ok (.iconst 3, 1) := by decide +kernel
theorem dX7_block_51 : decode cX7_block 51 = .ok (.goto 4, 3) := by decide +kernel
theorem dX7_block_54 : decode cX7_block 54 = .ok (.iconst 0, 1) := by decide +kernel
theorem dX7_block_55 : decode cX7_block 55 = .ok (.putfield 64, 3) := by decide +kernel
theorem dX7_block_58 : decode cX7_block 58 = .ok (.aload_n 0, 1) := by decide +kernel
theorem dX7_block_59 : decode cX7_block 59 = .ok (.getfield 64, 3) := by decide +kernel
theorem dX7_block_62 : decode cX7_block 62 = .ok (.ifCond .le 5, 3) := by decide +kernel
theorem dX7_block_65 : decode cX7_block 65 = .ok (.iconst 0, 1) := by decide +kernel
theorem dX7_block_66 : decode cX7_block 66 = .ok (.ireturn, 1) := by decide +kernel
theorem dX7_block_67 : decode cX7_block 67 = .ok (.aload_n 0, 1) := by decide +kernel
theorem dX7_block_68 : decode cX7_block 68 = .ok (.getfield 7, 3) := by decide +kernel
theorem dX7_block_71 : decode cX7_block 71 = .ok (.iconst 0, 1) := by decide +kernel
theorem dX7_block_72 : decode cX7_block 72 = .ok (.iload_n 1, 1) := by decide +kernel
theorem dX7_block_73 : decode cX7_block 73 = .ok (.iadd, 1) := by decide +kernel
theorem dX7_block_74 : decode cX7_block 74 = .ok (.laload, 1) := by decide +kernel
theorem dX7_block_75 : decode cX7_block 75 = .ok (.l2i, 1) := by decide +kernel
theorem dX7_block_76 : decode cX7_block 76 = .ok (.istore 4, 2) := by decide +kernel
theorem dX7_block_78 : decode cX7_block 78 = .ok (.aload_n 0, 1) := by decide +kernel
theorem dX7_block_79 : decode cX7_block 79 = .ok (.getfield 7, 3) := by decide +kernel
theorem dX7_block_82 : decode cX7_block 82 = .ok (.iconst 0, 1) := by decide +kernel
theorem dX7_block_83 : decode cX7_block 83 = .ok (.iload_n 1, 1) := by decide +kernel
theorem dX7_block_84 : decode cX7_block 84 = .ok (.iadd, 1) := by decide +kernel
theorem dX7_block_85 : decode cX7_block 85 = .ok (.iload_n 2, 1) := by decide +kernel
theorem dX7_block_86 : decode cX7_block 86 = .ok (.i2l, 1) := by decide +kernel
theorem dX7_block_87 : decode cX7_block 87 = .ok (.lastore, 1) := by decide +kernel
theorem dX7_block_88 : decode cX7_block 88 = .ok (.aload_n 0, 1) := by decide +kernel
theorem dX7_block_89 : decode cX7_block 89 = .ok (.getfield 7, 3) := by decide +kernel
theorem dX7_block_92 : decode cX7_block 92 = .ok (.bipush 12, 2) := by decide +kernel
theorem dX7_block_94 : decode cX7_block 94 = .ok (.iload_n 1, 1) := by decide +kernel
theorem dX7_block_95 : decode cX7_block 95 = .ok (.iadd, 1) := by decide +kernel
theorem dX7_block_96 : decode cX7_block 96 = .ok (.iload_n 3, 1) := by decide +kernel
theorem dX7_block_97 : decode cX7_block 97 = .ok (.i2l, 1) := by decide +kernel
theorem dX7_block_98 : decode cX7_block 98 = .ok (.iload_n 2, 1) := by decide +kernel
theorem dX7_block_99 : decode cX7_block 99 = .ok (.sipush 20000, 3) := by decide +kernel
theorem dX7_block_102 : decode cX7_block 102 = .ok (.iadd, 1) := by decide +kernel
theorem dX7_block_103 : decode cX7_block 103 = .ok (.i2l, 1) := by decide +kernel
theorem dX7_block_104 : decode cX7_block 104 = .ok (.lmul, 1) := by decide +kernel
theorem dX7_block_105 : decode cX7_block 105 = .ok (.lastore, 1) := by decide +kernel
theorem dX7_block_106 : decode cX7_block 106 = .ok (.iload 4, 2) := by decide +kernel
theorem dX7_block_108 : decode cX7_block 108 = .ok (.ireturn, 1) := by decide +kernel
theorem dX7_crack_0 : decode cX7_crack 0 = .ok (.aload_n 0, 1) := by decide +kernel
theorem dX7_crack_1 : decode cX7_crack 1 = .ok (.iload_n 1, 1) := by decide +kernel
theorem dX7_crack_2 : decode cX7_crack 2 = .ok (.invokestatic 91, 3) := by decide +kernel
theorem dX7_crack_5 : decode cX7_crack 5 = .ok (.ifCond .eq 10, 3) := by decide +kernel
theorem dX7_crack_8 : decode cX7_crack 8 = .ok (.iload_n 2, 1) := by decide +kernel
theorem dX7_crack_9 : decode cX7_crack 9 = .ok (.invokestatic 91, 3) := by decide +kernel
theorem dX7_crack_12 : decode cX7_crack 12 = .ok (.ifCond .ne 7, 3) := by decide +kernel
theorem dX7_crack_15 : decode cX7_crack 15 = .ok (.iconst 1, 1) := by decide +kernel
theorem dX7_crack_16 : decode cX7_crack 16 = .ok (.goto 26, 3) := by decide +kernel
theorem dX7_crack_19 : decode cX7_crack 19 = .ok (.iload_n 1, 1) := by decide +kernel
theorem dX7_crack_20 : decode cX7_crack 20 = .ok (.iload_n 2, 1) := by decide +kernel
theorem dX7_crack_21 : decode cX7_crack 21 = .ok (.invokestatic 82, 3) := by decide +kernel
theorem dX7_crack_24 : decode cX7_crack 24 = .ok (.ifCond .eq 13, 3) := by decide +kernel
theorem dX7_crack_27 : decode cX7_crack 27 = .ok (.iload_n 3, 1) := by decide +kernel
theorem dX7_crack_28 : decode cX7_crack 28 = .ok (.iconst 0, 1) := by decide +kernel
theorem dX7_crack_29 : decode cX7_crack 29 = .ok (.bipush 100, 2) := by decide +kernel
theorem dX7_crack_31 : decode cX7_crack 31 = .ok (.invokestatic 68, 3) := by decide +kernel
theorem dX7_crack_34 : decode cX7_crack 34 = .ok (.ifCond .ne 7, 3) := by decide +kernel
theorem dX7_crack_37 : decode cX7_crack 37 = .ok (.iconst 2, 1) := by decide +kernel
theorem dX7_crack_38 : decode cX7_crack 38 = .ok (.goto 4, 3) := by decide +kernel
theorem dX7_crack_41 : decode cX7_crack 41 = .ok (.iconst 0, 1) := by decide +kernel
theorem dX7_crack_42 : decode cX7_crack 42 = .ok (.putfield 64, 3) := by decide +kernel
theorem dX7_crack_45 : decode cX7_crack 45 = .ok (.aload_n 0, 1) := by decide +kernel
theorem dX7_crack_46 : decode cX7_crack 46 = .ok (.getfield 64, 3) := by decide +kernel
theorem dX7_crack_49 : decode cX7_crack 49 = .ok (.ifCond .le 5, 3) := by decide +kernel
theorem dX7_crack_52 : decode cX7_crack 52 = .ok (.iconst 0, 1) := by decide +kernel
theorem dX7_crack_53 : decode cX7_crack 53 = .ok (.ireturn, 1) := by decide +kernel
theorem dX7_crack_54 : decode cX7_crack 54 = .ok (.iload_n 1, 1) := by decide +kernel
theorem dX7_crack_55 : decode cX7_crack 55 = .ok (.iload_n 2, 1) := by decide +kernel
theorem dX7_crack_56 : decode cX7_crack 56 = .ok (.if_icmp .ge 7, 3) := by decide +kernel
theorem dX7_crack_59 : decode cX7_crack 59 = .ok (.iload_n 1, 1) := by decide +kernel
theorem dX7_crack_60 : decode cX7_crack 60 = .ok (.goto 4, 3) := by decide +kernel
theorem dX7_crack_63 : decode cX7_crack 63 = .ok (.iload_n 2, 1) := by decide +kernel
theorem dX7_crack_64 : decode cX7_crack 64 = .ok (.istore 4, 2) := by decide +kernel
theorem dX7_crack_66 : decode cX7_crack 66 = .ok (.iload_n 1, 1) := by decide +kernel
theorem dX7_crack_67 : decode cX7_crack 67 = .ok (.iload_n 2, 1) := by decide +kernel
theorem dX7_crack_68 : decode cX7_crack 68 = .ok (.invokestatic 78, 3) := by decide +kernel
theorem dX7_crack_71 : decode cX7_crack 71 = .ok (.ifCond .ne 11, 3) := by decide +kernel
theorem dX7_crack_74 : decode cX7_crack 74 = .ok (.iload_n 2, 1) := by decide +kernel
theorem dX7_crack_75 : decode cX7_crack 75 = .ok (.iload_n 1, 1) := by decide +kernel
theorem dX7_crack_76 : decode cX7_crack 76 = .ok (.invokestatic 78, 3) := by decide +kernel
theorem dX7_crack_79 : decode cX7_crack 79 = .ok (.ifCond .eq 7, 3) := by decide +kernel
theorem dX7_crack_82 : decode cX7_crack 82 = .ok (.iconst 1, 1) := by decide +kernel
theorem dX7_crack_83 : decode cX7_crack 83 = .ok (.goto 4, 3) := by decide +kernel
theorem dX7_crack_86 : decode cX7_crack 86 = .ok (.iconst 0, 1) := by decide +kernel
theorem dX7_crack_87 : decode cX7_crack 87 = .ok (.istore 5, 2) := by decide +kernel
theorem dX7_crack_89 : decode cX7_crack 89 = .ok (.iload 5, 2) := by decide +kernel
theorem dX7_crack_91 : decode cX7_crack 91 = .ok (.ifCond .eq 13, 3) := by decide +kernel
theorem dX7_crack_94 : decode cX7_crack 94 = .ok (.aload_n 0, 1) := by decide +kernel
theorem dX7_crack_95 : decode cX7_crack 95 = .ok (.getfield 16, 3) := by decide +kernel
theorem dX7_crack_98 : decode cX7_crack 98 = .ok (.iload 4, 2) := by decide +kernel
theorem dX7_crack_100 : decode cX7_crack 100 = .ok (.iaload, 1) := by decide +kernel
theorem dX7_crack_101 : decode cX7_crack 101 = .ok (.goto 10, 3) := by decide +kernel
theorem dX7_crack_104 : decode cX7_crack 104 = .ok (.aload_n 0, 1) := by decide +kernel
theorem dX7_crack_105 : decode cX7_crack 105 = .ok (.getfield 20, 3) := by decide +kernel
theorem dX7_crack_108 : decode cX7_crack 108 = .ok (.iload 4, 2) := by decide +kernel
theorem dX7_crack_110 : decode cX7_crack 110 = .ok (.iaload, 1) := by decide +kernel
theorem dX7_crack_111 : decode cX7_crack 111 = .ok (.istore 6, 2) := by decide +kernel
theorem dX7_crack_113 : decode cX7_crack 113 = .ok (.aload_n 0, 1) := by decide +kernel
theorem dX7_crack_114 : decode cX7_crack 114 = .ok (.getfield 16, 3) := by decide +kernel
theorem dX7_crack_117 : decode cX7_crack 117 = .ok (.iload 4, 2) := by decide +kernel
theorem dX7_crack_119 : decode cX7_crack 119 = .ok (.iload 5, 2) := by decide +kernel
theorem dX7_crack_121 : decode cX7_crack 121 = .ok (.ifCond .eq 7, 3) := by decide +kernel
theorem dX7_crack_124 : decode cX7_crack 124 = .ok (.iload_n 3, 1) := by decide +kernel
theorem dX7_crack_125 : decode cX7_crack 125 = .ok (.goto 10, 3) := by decide +kernel
theorem dX7_crack_128 : decode cX7_crack 128 = .ok (.aload_n 0, 1) := by decide +kernel
theorem dX7_crack_129 : decode cX7_crack 129 = .ok (.getfield 16, 3) := by decide +kernel
theorem dX7_crack_132 : decode cX7_crack 132 = .ok (.iload 4, 2) := by decide +kernel
theorem dX7_crack_134 : decode cX7_crack 134 = .ok (.iaload, 1) := by decide +kernel
theorem dX7_crack_135 : decode cX7_crack 135 = .ok (.iastore, 1) := by decide +kernel
theorem dX7_crack_136 : decode cX7_crack 136 = .ok (.aload_n 0, 1) := by decide +kernel
theorem dX7_crack_137 : decode cX7_crack 137 = .ok (.getfield 20, 3) := by decide +kernel
theorem dX7_crack_140 : decode cX7_crack 140 = .ok (.iload 4, 2) := by decide +kernel
theorem dX7_crack_142 : decode cX7_crack 142 = .ok (.iload 5, 2) := by decide +kernel
theorem dX7_crack_144 : decode cX7_crack 144 = .ok (.ifCond .eq 13, 3) := by decide +kernel
theorem dX7_crack_147 : decode cX7_crack 147 = .ok (.aload_n 0, 1) := by decide +kernel
theorem dX7_crack_148 : decode cX7_crack 148 = .ok (.getfield 20, 3) := by decide +kernel
theorem dX7_crack_151 : decode cX7_crack 151 = .ok (.iload 4, 2) := by decide +kernel
theorem dX7_crack_153 : decode cX7_crack 153 = .ok (.iaload, 1) := by decide +kernel
theorem dX7_crack_154 : decode cX7_crack 154 = .ok (.goto 4, 3) := by decide +kernel
theorem dX7_crack_157 : decode cX7_crack 157 = .ok (.iload_n 3, 1) := by decide +kernel
theorem dX7_crack_158 : decode cX7_crack 158 = .ok (.iastore, 1) := by decide +kernel
theorem dX7_crack_159 : decode cX7_crack 159 = .ok (.iload 6, 2) := by decide +kernel
theorem dX7_crack_161 : decode cX7_crack 161 = .ok (.ireturn, 1) := by decide +kernel
theorem dX7_rain_0 : decode cX7_rain 0 = .ok (.aload_n 0, 1) := by decide +kernel
theorem dX7_rain_1 : decode cX7_rain 1 = .ok (.iload_n 1, 1) := by decide +kernel
theorem dX7_rain_2 : decode cX7_rain 2 = .ok (.iconst 0, 1) := by decide +kernel
theorem dX7_rain_3 : decode cX7_rain 3 = .ok (.sipush 500, 3) := by decide +kernel
theorem dX7_rain_6 : decode cX7_rain 6 = .ok (.invokestatic 68, 3) := by decide +kernel
theorem dX7_rain_9 : decode cX7_rain 9 = .ok (.ifCond .eq 7, 3) := by decide +kernel
theorem dX7_rain_12 : decode cX7_rain 12 = .ok (.iconst 0, 1) := by decide +kernel
theorem dX7_rain_13 : decode cX7_rain 13 = .ok (.goto 4, 3) := by decide +kernel
theorem dX7_rain_16 : decode cX7_rain 16 = .ok (.iconst 1, 1) := by decide +kernel
theorem dX7_rain_17 : decode cX7_rain 17 = .ok (.putfield 64, 3) := by decide +kernel
theorem dX7_rain_20 : decode cX7_rain 20 = .ok (.aload_n 0, 1) := by decide +kernel
theorem dX7_rain_21 : decode cX7_rain 21 = .ok (.getfield 64, 3) := by decide +kernel
theorem dX7_rain_24 : decode cX7_rain 24 = .ok (.ifCond .le 5, 3) := by decide +kernel
theorem dX7_rain_27 : decode cX7_rain 27 = .ok (.iconst 0, 1) := by decide +kernel
theorem dX7_rain_28 : decode cX7_rain 28 = .ok (.ireturn, 1) := by decide +kernel
theorem dX7_rain_29 : decode cX7_rain 29 = .ok (.aload_n 0, 1) := by decide +kernel
theorem dX7_rain_30 : decode cX7_rain 30 = .ok (.getfield 96, 3) := by decide +kernel
theorem dX7_rain_33 : decode cX7_rain 33 = .ok (.istore_n 2, 1) := by decide +kernel
theorem dX7_rain_34 : decode cX7_rain 34 = .ok (.aload_n 0, 1) := by decide +kernel
theorem dX7_rain_35 : decode cX7_rain 35 = .ok (.iload_n 1, 1) := by decide +kernel
theorem dX7_rain_36 : decode cX7_rain 36 = .ok (.putfield 96, 3) := by decide +kernel
theorem dX7_rain_39 : decode cX7_rain 39 = .ok (.iload_n 2, 1) := by decide +kernel
theorem dX7_rain_40 : decode cX7_rain 40 = .ok (.ireturn, 1) := by decide +kernel
theorem dX7_well_0 : decode cX7_well 0 = .ok (.aload_n 0, 1) := by decide +kernel
theorem dX7_well_1 : decode cX7_well 1 = .ok (.iload_n 1, 1) := by decide +kernel
theorem dX7_well_2 : decode cX7_well 2 = .ok (.invokestatic 91, 3) := by decide +kernel
theorem dX7_well_5 : decode cX7_well 5 = .ok (.ifCond .ne 7, 3) := by decide +kernel
theorem dX7_well_8 : decode cX7_well 8 = .ok (.iconst 1, 1) := by decide +kernel
theorem dX7_well_9 : decode cX7_well 9 = .ok (.goto 17, 3) := by decide +kernel
theorem dX7_well_12 : decode cX7_well 12 = .ok (.aload_n 0, 1) := by decide +kernel
theorem dX7_well_13 : decode cX7_well 13 = .ok (.getfield 72, 3) := by decide +kernel
theorem dX7_well_16 : decode cX7_well 16 = .ok (.bipush 10, 2) := by decide +kernel
theorem dX7_well_18 : decode cX7_well 18 = .ok (.if_icmp .ne 7, 3) := by decide +kernel
theorem dX7_well_21 : decode cX7_well 21 = .ok (.iconst 2, 1) := by decide +kernel
theorem dX7_well_22 : decode cX7_well 22 = .ok (.goto 4, 3) := by decide +kernel
theorem dX7_well_25 : decode cX7_well 25 = .ok (.iconst 0, 1) := by decide +kernel
theorem dX7_well_26 : decode cX7_well 26 = .ok (.putfield 64, 3) := by decide +kernel
theorem dX7_well_29 : decode cX7_well 29 = .ok (.aload_n 0, 1) := by decide +kernel
theorem dX7_well_30 : decode cX7_well 30 = .ok (.getfield 64, 3) := by decide +kernel
theorem dX7_well_33 : decode cX7_well 33 = .ok (.ifCond .le 5, 3) := by decide +kernel
theorem dX7_well_36 : decode cX7_well 36 = .ok (.iconst 0, 1) := by decide +kernel
theorem dX7_well_37 : decode cX7_well 37 = .ok (.ireturn, 1) := by decide +kernel
theorem dX7_well_38 : decode cX7_well 38 = .ok (.aload_n 0, 1) := by decide +kernel
theorem dX7_well_39 : decode cX7_well 39 = .ok (.getfield 23, 3) := by decide +kernel
theorem dX7_well_42 : decode cX7_well 42 = .ok (.aload_n 0, 1) := by decide +kernel
theorem dX7_well_43 : decode cX7_well 43 = .ok (.getfield 72, 3) := by decide +kernel
theorem dX7_well_46 : decode cX7_well 46 = .ok (.iload_n 1, 1) := by decide +kernel
theorem dX7_well_47 : decode cX7_well 47 = .ok (.iastore, 1) := by decide +kernel
theorem dX7_well_48 : decode cX7_well 48 = .ok (.aload_n 0, 1) := by decide +kernel
theorem dX7_well_49 : decode cX7_well 49 = .ok (.getfield 26, 3) := by decide +kernel
theorem dX7_well_52 : decode cX7_well 52 = .ok (.aload_n 0, 1) := by decide +kernel
theorem dX7_well_53 : decode cX7_well 53 = .ok (.getfield 72, 3) := by decide +kernel
theorem dX7_well_56 : decode cX7_well 56 = .ok (.iload_n 2, 1) := by decide +kernel
theorem dX7_well_57 : decode cX7_well 57 = .ok (.bastore, 1) := by decide +kernel
theorem dX7_well_58 : decode cX7_well 58 = .ok (.aload_n 0, 1) := by decide +kernel
theorem dX7_well_59 : decode cX7_well 59 = .ok (.getfield 7, 3) := by decide +kernel
theorem dX7_well_62 : decode cX7_well 62 = .ok (.bipush 88, 2) := by decide +kernel
theorem dX7_well_64 : decode cX7_well 64 = .ok (.aload_n 0, 1) := by decide +kernel
theorem dX7_well_65 : decode cX7_well 65 = .ok (.getfield 72, 3) := by decide +kernel
theorem dX7_well_68 : decode cX7_well 68 = .ok (.iadd, 1) := by decide +kernel
theorem dX7_well_69 : decode cX7_well 69 = .ok (.ldc2_w 99, 3) := by decide +kernel
theorem dX7_well_72 : decode cX7_well 72 = .ok (.lastore, 1) := by decide +kernel
theorem dX7_well_73 : decode cX7_well 73 = .ok (.aload_n 0, 1) := by decide +kernel
theorem dX7_well_74 : decode cX7_well 74 = .ok (.dup, 1) := by decide +kernel
theorem dX7_well_75 : decode cX7_well 75 = .ok (.getfield 72, 3) := by decide +kernel
theorem dX7_well_78 : decode cX7_well 78 = .ok (.iconst 1, 1) := by decide +kernel
theorem dX7_well_79 : decode cX7_well 79 = .ok (.iadd, 1) := by decide +kernel
theorem dX7_well_80 : decode cX7_well 80 = .ok (.putfield 72, 3) := by decide +kernel
theorem dX7_well_83 : decode cX7_well 83 = .ok (.aload_n 0, 1) := by decide +kernel
theorem dX7_well_84 : decode cX7_well 84 = .ok (.getfield 72, 3) := by decide +kernel
theorem dX7_well_87 : decode cX7_well 87 = .ok (.iconst 1, 1) := by decide +kernel
theorem dX7_well_88 : decode cX7_well 88 = .ok (.isub, 1) := by decide +kernel
theorem dX7_well_89 : decode cX7_well 89 = .ok (.ireturn, 1) := by decide +kernel
theorem dX7_open_0 : decode cX7_open 0 = .ok (.aload_n 0, 1) := by decide +kernel
theorem dX7_open_1 : decode cX7_open 1 = .ok (.aload_n 0, 1) := by decide +kernel
theorem dX7_open_2 : decode cX7_open 2 = .ok (.iload_n 1, 1) := by decide +kernel
theorem dX7_open_3 : decode cX7_open 3 = .ok (.invokevirtual 101, 3) := by decide +kernel
theorem dX7_open_6 : decode cX7_open 6 = .ok (.ifCond .ne 7, 3) := by decide +kernel
theorem dX7_open_9 : decode cX7_open 9 = .ok (.iconst 1, 1) := by decide +kernel
theorem dX7_open_10 : decode cX7_open 10 = .ok (.goto 33, 3) := by decide +kernel
theorem dX7_open_13 : decode cX7_open 13 = .ok (.iload_n 2, 1) := by decide +kernel
theorem dX7_open_14 : decode cX7_open 14 = .ok (.iconst 0, 1) := by decide +kernel
theorem dX7_open_15 : decode cX7_open 15 = .ok (.aload_n 0, 1) := by decide +kernel
theorem dX7_open_16 : decode cX7_open 16 = .ok (.getfield 26, 3) := by decide +kernel
theorem dX7_open_19 : decode cX7_open 19 = .ok (.iload_n 1, 1) := by decide +kernel
theorem dX7_open_20 : decode cX7_open 20 = .ok (.baload, 1) := by decide +kernel
theorem dX7_open_21 : decode cX7_open 21 = .ok (.ifCond .eq 8, 3) := by decide +kernel
theorem dX7_open_24 : decode cX7_open 24 = .ok (.bipush 10, 2) := by decide +kernel
theorem dX7_open_26 : decode cX7_open 26 = .ok (.goto 6, 3) := by decide +kernel
theorem dX7_open_29 : decode cX7_open 29 = .ok (.sipush 1000, 3) := by decide +kernel
theorem dX7_open_32 : decode cX7_open 32 = .ok (.invokestatic 68, 3) := by decide +kernel
theorem dX7_open_35 : decode cX7_open 35 = .ok (.ifCond .ne 7, 3) := by decide +kernel
theorem dX7_open_38 : decode cX7_open 38 = .ok (.iconst 2, 1) := by decide +kernel
theorem dX7_open_39 : decode cX7_open 39 = .ok (.goto 4, 3) := by decide +kernel
theorem dX7_open_42 : decode cX7_open 42 = .ok (.iconst 0, 1) := by decide +kernel
theorem dX7_open_43 : decode cX7_open 43 = .ok (.putfield 64, 3) := by decide +kernel
theorem dX7_open_46 : decode cX7_open 46 = .ok (.aload_n 0, 1) := by decide +kernel
theorem dX7_open_47 : decode cX7_open 47 = .ok (.getfield 64, 3) := by decide +kernel
theorem dX7_open_50 : decode cX7_open 50 = .ok (.ifCond .le 5, 3) := by decide +kernel
theorem dX7_open_53 : decode cX7_open 53 = .ok (.iconst 0, 1) := by decide +kernel
theorem dX7_open_54 : decode cX7_open 54 = .ok (.ireturn, 1) := by decide +kernel
theorem dX7_open_55 : decode cX7_open 55 = .ok (.aload_n 0, 1) := by decide +kernel
theorem dX7_open_56 : decode cX7_open 56 = .ok (.getfield 30, 3) := by decide +kernel
theorem dX7_open_59 : decode cX7_open 59 = .ok (.iload_n 1, 1) := by decide +kernel
theorem dX7_open_60 : decode cX7_open 60 = .ok (.iaload, 1) := by decide +kernel
theorem dX7_open_61 : decode cX7_open 61 = .ok (.istore_n 3, 1) := by decide +kernel
theorem dX7_open_62 : decode cX7_open 62 = .ok (.aload_n 0, 1) := by decide +kernel
theorem dX7_open_63 : decode cX7_open 63 = .ok (.getfield 30, 3) := by decide +kernel
theorem dX7_open_66 : decode cX7_open 66 = .ok (.iload_n 1, 1) := by decide +kernel
theorem dX7_open_67 : decode cX7_open 67 = .ok (.iload_n 2, 1) := by decide +kernel
theorem dX7_open_68 : decode cX7_open 68 = .ok (.iastore, 1) := by decide +kernel
theorem dX7_open_69 : decode cX7_open 69 = .ok (.iload_n 3, 1) := by decide +kernel
theorem dX7_open_70 : decode cX7_open 70 = .ok (.ireturn, 1) := by decide +kernel
theorem dX7_clean_0 : decode cX7_clean 0 = .ok (.aload_n 0, 1) := by decide +kernel
theorem dX7_clean_1 : decode cX7_clean 1 = .ok (.aload_n 0, 1) := by decide +kernel
theorem dX7_clean_2 : decode cX7_clean 2 = .ok (.iload_n 1, 1) := by decide +kernel
theorem dX7_clean_3 : decode cX7_clean 3 = .ok (.invokevirtual 101, 3) := by decide +kernel
theorem dX7_clean_6 : decode cX7_clean 6 = .ok (.ifCond .ne 7, 3) := by decide +kernel
theorem dX7_clean_9 : decode cX7_clean 9 = .ok (.iconst 1, 1) := by decide +kernel
theorem dX7_clean_10 : decode cX7_clean 10 = .ok (.goto 17, 3) := by decide +kernel
theorem dX7_clean_13 : decode cX7_clean 13 = .ok (.aload_n 0, 1) := by decide +kernel
theorem dX7_clean_14 : decode cX7_clean 14 = .ok (.getfield 26, 3) := by decide +kernel
theorem dX7_clean_17 : decode cX7_clean 17 = .ok (.iload_n 1, 1) := by decide +kernel
theorem dX7_clean_18 : decode cX7_clean 18 = .ok (.baload, 1) := by decide +kernel
theorem dX7_clean_19 : decode cX7_clean 19 = .ok (.ifCond .eq 7, 3) := by decide +kernel
theorem dX7_clean_22 : decode cX7_clean 22 = .ok (.iconst 2, 1) := by decide +kernel
theorem dX7_clean_23 : decode cX7_clean 23 = .ok (.goto 4, 3) := by decide +kernel
theorem dX7_clean_26 : decode cX7_clean 26 = .ok (.iconst 0, 1) := by decide +kernel
theorem dX7_clean_27 : decode cX7_clean 27 = .ok (.putfield 64, 3) := by decide +kernel
theorem dX7_clean_30 : decode cX7_clean 30 = .ok (.aload_n 0, 1) := by decide +kernel
theorem dX7_clean_31 : decode cX7_clean 31 = .ok (.getfield 64, 3) := by decide +kernel
theorem dX7_clean_34 : decode cX7_clean 34 = .ok (.ifCond .le 5, 3) := by decide +kernel
theorem dX7_clean_37 : decode cX7_clean 37 = .ok (.iconst 0, 1) := by decide +kernel
theorem dX7_clean_38 : decode cX7_clean 38 = .ok (.ireturn, 1) := by decide +kernel
theorem dX7_clean_39 : decode cX7_clean 39 = .ok (.aload_n 0, 1) := by decide +kernel
theorem dX7_clean_40 : decode cX7_clean 40 = .ok (.getfield 7, 3) := by decide +kernel
theorem dX7_clean_43 : decode cX7_clean 43 = .ok (.bipush 48, 2) := by decide +kernel
theorem dX7_clean_45 : decode cX7_clean 45 = .ok (.iload_n 1, 1) := by decide +kernel
theorem dX7_clean_46 : decode cX7_clean 46 = .ok (.iadd, 1) := by decide +kernel
theorem dX7_clean_47 : decode cX7_clean 47 = .ok (.laload, 1) := by decide +kernel
theorem dX7_clean_48 : decode cX7_clean 48 = .ok (.l2i, 1) := by decide +kernel
theorem dX7_clean_49 : decode cX7_clean 49 = .ok (.istore_n 2, 1) := by decide +kernel
theorem dX7_clean_50 : decode cX7_clean 50 = .ok (.aload_n 0, 1) := by decide +kernel
theorem dX7_clean_51 : decode cX7_clean 51 = .ok (.getfield 7, 3) := by decide +kernel
theorem dX7_clean_54 : decode cX7_clean 54 = .ok (.bipush 48, 2) := by decide +kernel
theorem dX7_clean_56 : decode cX7_clean 56 = .ok (.iload_n 1, 1) := by decide +kernel
theorem dX7_clean_57 : decode cX7_clean 57 = .ok (.iadd, 1) := by decide +kernel
theorem dX7_clean_58 : decode cX7_clean 58 = .ok (.lconst 0, 1) := by decide +kernel
theorem dX7_clean_59 : decode cX7_clean 59 = .ok (.lastore, 1) := by decide +kernel
theorem dX7_clean_60 : decode cX7_clean 60 = .ok (.iload_n 2, 1) := by decide +kernel
theorem dX7_clean_61 : decode cX7_clean 61 = .ok (.ireturn, 1) := by decide +kernel
theorem dX7_use_0 : decode cX7_use 0 = .ok (.aload_n 0, 1) := by decide +kernel
theorem dX7_use_1 : decode cX7_use 1 = .ok (.iload_n 1, 1) := by decide +kernel
theorem dX7_use_2 : decode cX7_use 2 = .ok (.iconst 0, 1) := by decide +kernel
theorem dX7_use_3 : decode cX7_use 3 = .ok (.bipush 100, 2) := by decide +kernel
theorem dX7_use_5 : decode cX7_use 5 = .ok (.invokestatic 68, 3) := by decide +kernel
theorem dX7_use_8 : decode cX7_use 8 = .ok (.ifCond .eq 13, 3) := by decide +kernel
theorem dX7_use_11 : decode cX7_use 11 = .ok (.iload_n 2, 1) := by decide +kernel
theorem dX7_use_12 : decode cX7_use 12 = .ok (.iconst 1, 1) := by decide +kernel
theorem dX7_use_13 : decode cX7_use 13 = .ok (.bipush 50, 2) := by decide +kernel
theorem dX7_use_15 : decode cX7_use 15 = .ok (.invokestatic 68, 3) := by decide +kernel
theorem dX7_use_18 : decode cX7_use 18 = .ok (.ifCond .ne 7, 3) := by decide +kernel
theorem dX7_use_21 : decode cX7_use 21 = .ok (.iconst 1, 1) := by decide +kernel
theorem dX7_use_22 : decode cX7_use 22 = .ok (.goto 17, 3) := by decide +kernel
theorem dX7_use_25 : decode cX7_use 25 = .ok (.aload_n 0, 1) := by decide +kernel
theorem dX7_use_26 : decode cX7_use 26 = .ok (.getfield 104, 3) := by decide +kernel
theorem dX7_use_29 : decode cX7_use 29 = .ok (.bipush 6, 2) := by decide +kernel
theorem dX7_use_31 : decode cX7_use 31 = .ok (.if_icmp .ne 7, 3) := by decide +kernel
theorem dX7_use_34 : decode cX7_use 34 = .ok (.iconst 2, 1) := by decide +kernel
theorem dX7_use_35 : decode cX7_use 35 = .ok (.goto 4, 3) := by decide +kernel
theorem dX7_use_38 : decode cX7_use 38 = .ok (.iconst 0, 1) := by decide +kernel
theorem dX7_use_39 : decode cX7_use 39 = .ok (.putfield 64, 3) := by decide +kernel
theorem dX7_use_42 : decode cX7_use 42 = .ok (.aload_n 0, 1) := by decide +kernel
theorem dX7_use_43 : decode cX7_use 43 = .ok (.getfield 64, 3) := by decide +kernel
theorem dX7_use_46 : decode cX7_use 46 = .ok (.ifCond .le 5, 3) := by decide +kernel
theorem dX7_use_49 : decode cX7_use 49 = .ok (.iconst 0, 1) := by decide +kernel
theorem dX7_use_50 : decode cX7_use 50 = .ok (.ireturn, 1) := by decide +kernel
theorem dX7_use_51 : decode cX7_use 51 = .ok (.aload_n 0, 1) := by decide +kernel
theorem dX7_use_52 : decode cX7_use 52 = .ok (.getfield 36, 3) := by decide +kernel
theorem dX7_use_55 : decode cX7_use 55 = .ok (.aload_n 0, 1) := by decide +kernel
theorem dX7_use_56 : decode cX7_use 56 = .ok (.getfield 104, 3) := by decide +kernel
theorem dX7_use_59 : decode cX7_use 59 = .ok (.iload_n 1, 1) := by decide +kernel
theorem dX7_use_60 : decode cX7_use 60 = .ok (.iastore, 1) := by decide +kernel
theorem dX7_use_61 : decode cX7_use 61 = .ok (.aload_n 0, 1) := by decide +kernel
theorem dX7_use_62 : decode cX7_use 62 = .ok (.getfield 39, 3) := by decide +kernel
theorem dX7_use_65 : decode cX7_use 65 = .ok (.aload_n 0, 1) := by decide +kernel
theorem dX7_use_66 : decode cX7_use 66 = .ok (.getfield 104, 3) := by decide +kernel
theorem dX7_use_69 : decode cX7_use 69 = .ok (.iload_n 2, 1) := by decide +kernel
theorem dX7_use_70 : decode cX7_use 70 = .ok (.iastore, 1) := by decide +kernel
theorem dX7_use_71 : decode cX7_use 71 = .ok (.aload_n 0, 1) := by decide +kernel
theorem dX7_use_72 : decode cX7_use 72 = .ok (.dup, 1) := by decide +kernel
theorem dX7_use_73 : decode cX7_use 73 = .ok (.getfield 104, 3) := by decide +kernel
theorem dX7_use_76 : decode cX7_use 76 = .ok (.iconst 1, 1) := by decide +kernel
theorem dX7_use_77 : decode cX7_use 77 = .ok (.iadd, 1) := by decide +kernel
theorem dX7_use_78 : decode cX7_use 78 = .ok (.putfield 104, 3) := by decide +kernel
theorem dX7_use_81 : decode cX7_use 81 = .ok (.aload_n 0, 1) := by decide +kernel
theorem dX7_use_82 : decode cX7_use 82 = .ok (.getfield 104, 3) := by decide +kernel
theorem dX7_use_85 : decode cX7_use 85 = .ok (.iconst 1, 1) := by decide +kernel
theorem dX7_use_86 : decode cX7_use 86 = .ok (.isub, 1) := by decide +kernel
theorem dX7_use_87 : decode cX7_use 87 = .ok (.ireturn, 1) := by decide +kernel
theorem dX7_spring_0 : decode cX7_spring 0 = .ok (.aload_n 0, 1) := by decide +kernel
theorem dX7_spring_1 : decode cX7_spring 1 = .ok (.iload_n 1, 1) := by decide +kernel
theorem dX7_spring_2 : decode cX7_spring 2 = .ok (.invokestatic 91, 3) := by decide +kernel
theorem dX7_spring_5 : decode cX7_spring 5 = .ok (.ifCond .ne 7, 3) := by decide +kernel
theorem dX7_spring_8 : decode cX7_spring 8 = .ok (.iconst 1, 1) := by decide +kernel
theorem dX7_spring_9 : decode cX7_spring 9 = .ok (.goto 40, 3) := by decide +kernel
theorem dX7_spring_12 : decode cX7_spring 12 = .ok (.iload_n 2, 1) := by decide +kernel
theorem dX7_spring_13 : decode cX7_spring 13 = .ok (.iconst 0, 1) := by decide +kernel
theorem dX7_spring_14 : decode cX7_spring 14 = .ok (.ldc 95, 2) := by decide +kernel
theorem dX7_spring_16 : decode cX7_spring 16 = .ok (.invokestatic 68, 3) := by decide +kernel
theorem dX7_spring_19 : decode cX7_spring 19 = .ok (.ifCond .eq 13, 3) := by decide +kernel
theorem dX7_spring_22 : decode cX7_spring 22 = .ok (.iload_n 3, 1) := by decide +kernel
theorem dX7_spring_23 : decode cX7_spring 23 = .ok (.iconst 0, 1) := by decide +kernel
theorem dX7_spring_24 : decode cX7_spring 24 = .ok (.ldc 95, 2) := by decide +kernel
theorem dX7_spring_26 : decode cX7_spring 26 = .ok (.invokestatic 68, 3) := by decide +kernel
theorem dX7_spring_29 : decode cX7_spring 29 = .ok (.ifCond .ne 7, 3) := by decide +kernel
theorem dX7_spring_32 : decode cX7_spring 32 = .ok (.iconst 2, 1) := by decide +kernel
theorem dX7_spring_33 : decode cX7_spring 33 = .ok (.goto 16, 3) := by decide +kernel
theorem dX7_spring_36 : decode cX7_spring 36 = .ok (.aload_n 0, 1) := by decide +kernel
theorem dX7_spring_37 : decode cX7_spring 37 = .ok (.getfield 75, 3) := by decide +kernel
theorem dX7_spring_40 : decode cX7_spring 40 = .ok (.iconst 4, 1) := by decide +kernel
theorem dX7_spring_41 : decode cX7_spring 41 = .ok (.if_icmp .ne 7, 3) := by decide +kernel
theorem dX7_spring_44 : decode cX7_spring 44 = .ok (.iconst 3, 1) := by decide +kernel
theorem dX7_spring_45 : decode cX7_spring 45 = .ok (.goto 4, 3) := by decide +kernel
theorem dX7_spring_48 : decode cX7_spring 48 = .ok (.iconst 0, 1) := by decide +kernel
theorem dX7_spring_49 : decode cX7_spring 49 = .ok (.putfield 64, 3) := by decide +kernel
theorem dX7_spring_52 : decode cX7_spring 52 = .ok (.aload_n 0, 1) := by decide +kernel
theorem dX7_spring_53 : decode cX7_spring 53 = .ok (.getfield 64, 3) := by decide +kernel
theorem dX7_spring_56 : decode cX7_spring 56 = .ok (.ifCond .le 5, 3) := by decide +kernel
theorem dX7_spring_59 : decode cX7_spring 59 = .ok (.iconst 0, 1) := by decide +kernel
theorem dX7_spring_60 : decode cX7_spring 60 = .ok (.ireturn, 1) := by decide +kernel
theorem dX7_spring_61 : decode cX7_spring 61 = .ok (.aload_n 0, 1) := by decide +kernel
theorem dX7_spring_62 : decode cX7_spring 62 = .ok (.getfield 42, 3) := by decide +kernel
theorem dX7_spring_65 : decode cX7_spring 65 = .ok (.aload_n 0, 1) := by decide +kernel
theorem dX7_spring_66 : decode cX7_spring 66 = .ok (.getfield 75, 3) := by decide +kernel
theorem dX7_spring_69 : decode cX7_spring 69 = .ok (.iload_n 1, 1) := by decide +kernel
theorem dX7_spring_70 : decode cX7_spring 70 = .ok (.iastore, 1) := by decide +kernel
theorem dX7_spring_71 : decode cX7_spring 71 = .ok (.aload_n 0, 1) := by decide +kernel
theorem dX7_spring_72 : decode cX7_spring 72 = .ok (.getfield 45, 3) := by decide +kernel
theorem dX7_spring_75 : decode cX7_spring 75 = .ok (.aload_n 0, 1) := by decide +kernel
theorem dX7_spring_76 : decode cX7_spring 76 = .ok (.getfield 75, 3) := by decide +kernel
theorem dX7_spring_79 : decode cX7_spring 79 = .ok (.iload_n 2, 1) := by decide +kernel
theorem dX7_spring_80 : decode cX7_spring 80 = .ok (.iastore, 1) := by decide +kernel
theorem dX7_spring_81 : decode cX7_spring 81 = .ok (.aload_n 0, 1) := by decide +kernel
theorem dX7_spring_82 : decode cX7_spring 82 = .ok (.getfield 48, 3) := by decide +kernel
theorem dX7_spring_85 : decode cX7_spring 85 = .ok (.aload_n 0, 1) := by decide +kernel
theorem dX7_spring_86 : decode cX7_spring 86 = .ok (.getfield 75, 3) := by decide +kernel
theorem dX7_spring_89 : decode cX7_spring 89 = .ok (.iload_n 3, 1) := by decide +kernel
theorem dX7_spring_90 : decode cX7_spring 90 = .ok (.iastore, 1) := by decide +kernel
theorem dX7_spring_91 : decode cX7_spring 91 = .ok (.aload_n 0, 1) := by decide +kernel
theorem dX7_spring_92 : decode cX7_spring 92 = .ok (.dup, 1) := by decide +kernel
theorem dX7_spring_93 : decode cX7_spring 93 = .ok (.getfield 75, 3) := by decide +kernel
theorem dX7_spring_96 : decode cX7_spring 96 = .ok (.iconst 1, 1) := by decide +kernel
theorem dX7_spring_97 : decode cX7_spring 97 = .ok (.iadd, 1) := by decide +kernel
theorem dX7_spring_98 : decode cX7_spring 98 = .ok (.putfield 75, 3) := by decide +kernel
theorem dX7_spring_101 : decode cX7_spring 101 = .ok (.aload_n 0, 1) := by decide +kernel
theorem dX7_spring_102 : decode cX7_spring 102 = .ok (.getfield 75, 3) := by decide +kernel
theorem dX7_spring_105 : decode cX7_spring 105 = .ok (.iconst 1, 1) := by decide +kernel
theorem dX7_spring_106 : decode cX7_spring 106 = .ok (.isub, 1) := by decide +kernel
theorem dX7_spring_107 : decode cX7_spring 107 = .ok (.ireturn, 1) := by decide +kernel
theorem dX7_promise_0 : decode cX7_promise 0 = .ok (.aload_n 0, 1) := by decide +kernel
theorem dX7_promise_1 : decode cX7_promise 1 = .ok (.aload_n 0, 1) := by decide +kernel
theorem dX7_promise_2 : decode cX7_promise 2 = .ok (.iload_n 1, 1) := by decide +kernel
theorem dX7_promise_3 : decode cX7_promise 3 = .ok (.invokevirtual 107, 3) := by decide +kernel
theorem dX7_promise_6 : decode cX7_promise 6 = .ok (.ifCond .ne 7, 3) := by decide +kernel
theorem dX7_promise_9 : decode cX7_promise 9 = .ok (.iconst 1, 1) := by decide +kernel
theorem dX7_promise_10 : decode cX7_promise 10 = .ok (.goto 18, 3) := by decide +kernel
theorem dX7_promise_13 : decode cX7_promise 13 = .ok (.iload_n 2, 1) := by decide +kernel
theorem dX7_promise_14 : decode cX7_promise 14 = .ok (.iconst 0, 1) := by decide +kernel
theorem dX7_promise_15 : decode cX7_promise 15 = .ok (.ldc 95, 2) := by decide +kernel
theorem dX7_promise_17 : decode cX7_promise 17 = .ok (.invokestatic 68, 3) := by decide +kernel
theorem dX7_promise_20 : decode cX7_promise 20 = .ok (.ifCond .ne 7, 3) := by decide +kernel
theorem dX7_promise_23 : decode cX7_promise 23 = .ok (.iconst 2, 1) := by decide +kernel
theorem dX7_promise_24 : decode cX7_promise 24 = .ok (.goto 4, 3) := by decide +kernel
theorem dX7_promise_27 : decode cX7_promise 27 = .ok (.iconst 0, 1) := by decide +kernel
theorem dX7_promise_28 : decode cX7_promise 28 = .ok (.putfield 64, 3) := by decide +kernel
theorem dX7_promise_31 : decode cX7_promise 31 = .ok (.aload_n 0, 1) := by decide +kernel
theorem dX7_promise_32 : decode cX7_promise 32 = .ok (.getfield 64, 3) := by decide +kernel
theorem dX7_promise_35 : decode cX7_promise 35 = .ok (.ifCond .le 5, 3) := by decide +kernel
theorem dX7_promise_38 : decode cX7_promise 38 = .ok (.iconst 0, 1) := by decide +kernel
theorem dX7_promise_39 : decode cX7_promise 39 = .ok (.ireturn, 1) := by decide +kernel
theorem dX7_promise_40 : decode cX7_promise 40 = .ok (.aload_n 0, 1) := by decide +kernel
theorem dX7_promise_41 : decode cX7_promise 41 = .ok (.getfield 48, 3) := by decide +kernel
theorem dX7_promise_44 : decode cX7_promise 44 = .ok (.iload_n 1, 1) := by decide +kernel
theorem dX7_promise_45 : decode cX7_promise 45 = .ok (.iaload, 1) := by decide +kernel
theorem dX7_promise_46 : decode cX7_promise 46 = .ok (.istore_n 3, 1) := by decide +kernel
theorem dX7_promise_47 : decode cX7_promise 47 = .ok (.aload_n 0, 1) := by decide +kernel
theorem dX7_promise_48 : decode cX7_promise 48 = .ok (.getfield 48, 3) := by decide +kernel
theorem dX7_promise_51 : decode cX7_promise 51 = .ok (.iload_n 1, 1) := by decide +kernel
theorem dX7_promise_52 : decode cX7_promise 52 = .ok (.iload_n 2, 1) := by decide +kernel
theorem dX7_promise_53 : decode cX7_promise 53 = .ok (.iastore, 1) := by decide +kernel
theorem dX7_promise_54 : decode cX7_promise 54 = .ok (.iload_n 3, 1) := by decide +kernel
theorem dX7_promise_55 : decode cX7_promise 55 = .ok (.ireturn, 1) := by decide +kernel
theorem dX7_tracer_0 : decode cX7_tracer 0 = .ok (.aload_n 0, 1) := by decide +kernel
theorem dX7_tracer_1 : decode cX7_tracer 1 = .ok (.iload_n 1, 1) := by decide +kernel
theorem dX7_tracer_2 : decode cX7_tracer 2 = .ok (.invokestatic 91, 3) := by decide +kernel
theorem dX7_tracer_5 : decode cX7_tracer 5 = .ok (.ifCond .ne 7, 3) := by decide +kernel
theorem dX7_tracer_8 : decode cX7_tracer 8 = .ok (.iconst 1, 1) := by decide +kernel
theorem dX7_tracer_9 : decode cX7_tracer 9 = .ok (.goto 35, 3) := by decide +kernel
theorem dX7_tracer_12 : decode cX7_tracer 12 = .ok (.iload_n 2, 1) := by decide +kernel
theorem dX7_tracer_13 : decode cX7_tracer 13 = .ok (.iconst 1, 1) := by decide +kernel
theorem dX7_tracer_14 : decode cX7_tracer 14 = .ok (.ldc 110, 2) := by decide +kernel
theorem dX7_tracer_16 : decode cX7_tracer 16 = .ok (.invokestatic 68, 3) := by decide +kernel
theorem dX7_tracer_19 : decode cX7_tracer 19 = .ok (.ifCond .ne 7, 3) := by decide +kernel
theorem dX7_tracer_22 : decode cX7_tracer 22 = .ok (.iconst 2, 1) := by decide +kernel
theorem dX7_tracer_23 : decode cX7_tracer 23 = .ok (.goto 21, 3) := by decide +kernel
theorem dX7_tracer_26 : decode cX7_tracer 26 = .ok (.aload_n 0, 1) := by decide +kernel
theorem dX7_tracer_27 : decode cX7_tracer 27 = .ok (.getfield 7, 3) := by decide +kernel
theorem dX7_tracer_30 : decode cX7_tracer 30 = .ok (.iconst 0, 1) := by decide +kernel
theorem dX7_tracer_31 : decode cX7_tracer 31 = .ok (.iload_n 1, 1) := by decide +kernel
theorem dX7_tracer_32 : decode cX7_tracer 32 = .ok (.iadd, 1) := by decide +kernel
theorem dX7_tracer_33 : decode cX7_tracer 33 = .ok (.laload, 1) := by decide +kernel
theorem dX7_tracer_34 : decode cX7_tracer 34 = .ok (.lconst 0, 1) := by decide +kernel
theorem dX7_tracer_35 : decode cX7_tracer 35 = .ok (.lcmp, 1) := by decide +kernel
theorem dX7_tracer_36 : decode cX7_tracer 36 = .ok (.ifCond .ne 7, 3) := by decide +kernel
theorem dX7_tracer_39 : decode cX7_tracer 39 = .ok (.iconst 3, 1) := by decide +kernel
theorem dX7_tracer_40 : decode cX7_tracer 40 = .ok (.goto 4, 3) := by decide +kernel
theorem dX7_tracer_43 : decode cX7_tracer 43 = .ok (.iconst 0, 1) := by decide +kernel
theorem dX7_tracer_44 : decode cX7_tracer 44 = .ok (.putfield 64, 3) := by decide +kernel
theorem dX7_tracer_47 : decode cX7_tracer 47 = .ok (.aload_n 0, 1) := by decide +kernel
theorem dX7_tracer_48 : decode cX7_tracer 48 = .ok (.getfield 64, 3) := by decide +kernel
theorem dX7_tracer_51 : decode cX7_tracer 51 = .ok (.ifCond .le 5, 3) := by decide +kernel
theorem dX7_tracer_54 : decode cX7_tracer 54 = .ok (.lconst 0, 1) := by decide +kernel
theorem dX7_tracer_55 : decode cX7_tracer 55 = .ok (.lreturn, 1) := by decide +kernel
theorem dX7_tracer_56 : decode cX7_tracer 56 = .ok (.aload_n 0, 1) := by decide +kernel
theorem dX7_tracer_57 : decode cX7_tracer 57 = .ok (.getfield 7, 3) := by decide +kernel
theorem dX7_tracer_60 : decode cX7_tracer 60 = .ok (.bipush 24, 2) := by decide +kernel
theorem dX7_tracer_62 : decode cX7_tracer 62 = .ok (.iload_n 1, 1) := by decide +kernel
theorem dX7_tracer_63 : decode cX7_tracer 63 = .ok (.iadd, 1) := by decide +kernel
theorem dX7_tracer_64 : decode cX7_tracer 64 = .ok (.dup2, 1) := by decide +kernel
theorem dX7_tracer_65 : decode cX7_tracer 65 = .ok (.laload, 1) := by decide +kernel
theorem dX7_tracer_66 : decode cX7_tracer 66 = .ok (.iload_n 2, 1) := by decide +kernel
theorem dX7_tracer_67 : decode cX7_tracer 67 = .ok (.i2l, 1) := by decide +kernel
theorem dX7_tracer_68 : decode cX7_tracer 68 = .ok (.ladd, 1) := by decide +kernel
theorem dX7_tracer_69 : decode cX7_tracer 69 = .ok (.lastore, 1) := by decide +kernel
theorem dX7_tracer_70 : decode cX7_tracer 70 = .ok (.aload_n 0, 1) := by decide +kernel
theorem dX7_tracer_71 : decode cX7_tracer 71 = .ok (.getfield 7, 3) := by decide +kernel
theorem dX7_tracer_74 : decode cX7_tracer 74 = .ok (.bipush 24, 2) := by decide +kernel
theorem dX7_tracer_76 : decode cX7_tracer 76 = .ok (.iload_n 1, 1) := by decide +kernel
theorem dX7_tracer_77 : decode cX7_tracer 77 = .ok (.iadd, 1) := by decide +kernel
theorem dX7_tracer_78 : decode cX7_tracer 78 = .ok (.laload, 1) := by decide +kernel
theorem dX7_tracer_79 : decode cX7_tracer 79 = .ok (.lreturn, 1) := by decide +kernel
theorem dX7_gives_0 : decode cX7_gives 0 = .ok (.aload_n 0, 1) := by decide +kernel
theorem dX7_gives_1 : decode cX7_gives 1 = .ok (.getfield 7, 3) := by decide +kernel
theorem dX7_gives_4 : decode cX7_gives 4 = .ok (.iconst 0, 1) := by decide +kernel
theorem dX7_gives_5 : decode cX7_gives 5 = .ok (.iload_n 1, 1) := by decide +kernel
theorem dX7_gives_6 : decode cX7_gives 6 = .ok (.iadd, 1) := by decide +kernel
theorem dX7_gives_7 : decode cX7_gives 7 = .ok (.laload, 1) := by decide +kernel
theorem dX7_gives_8 : decode cX7_gives 8 = .ok (.lconst 0, 1) := by decide +kernel
theorem dX7_gives_9 : decode cX7_gives 9 = .ok (.lcmp, 1) := by decide +kernel
theorem dX7_gives_10 : decode cX7_gives 10 = .ok (.ifCond .ne 7, 3) := by decide +kernel
theorem dX7_gives_13 : decode cX7_gives 13 = .ok (.lconst 0, 1) := by decide +kernel
theorem dX7_gives_14 : decode cX7_gives 14 = .ok (.goto 23, 3) := by decide +kernel
theorem dX7_gives_17 : decode cX7_gives 17 = .ok (.aload_n 0, 1) := by decide +kernel
theorem dX7_gives_18 : decode cX7_gives 18 = .ok (.getfield 7, 3) := by decide +kernel
theorem dX7_gives_21 : decode cX7_gives 21 = .ok (.bipush 24, 2) := by decide +kernel
theorem dX7_gives_23 : decode cX7_gives 23 = .ok (.iload_n 1, 1) := by decide +kernel
theorem dX7_gives_24 : decode cX7_gives 24 = .ok (.iadd, 1) := by decide +kernel
theorem dX7_gives_25 : decode cX7_gives 25 = .ok (.laload, 1) := by decide +kernel
theorem dX7_gives_26 : decode cX7_gives 26 = .ok (.lload_n 2, 1) := by decide +kernel
theorem dX7_gives_27 : decode cX7_gives 27 = .ok (.lmul, 1) := by decide +kernel
theorem dX7_gives_28 : decode cX7_gives 28 = .ok (.aload_n 0, 1) := by decide +kernel
theorem dX7_gives_29 : decode cX7_gives 29 = .ok (.getfield 7, 3) := by decide +kernel
theorem dX7_gives_32 : decode cX7_gives 32 = .ok (.iconst 0, 1) := by decide +kernel
theorem dX7_gives_33 : decode cX7_gives 33 = .ok (.iload_n 1, 1) := by decide +kernel
theorem dX7_gives_34 : decode cX7_gives 34 = .ok (.iadd, 1) := by decide +kernel
theorem dX7_gives_35 : decode cX7_gives 35 = .ok (.laload, 1) := by decide +kernel
theorem dX7_gives_36 : decode cX7_gives 36 = .ok (.ldiv, 1) := by decide +kernel
theorem dX7_gives_37 : decode cX7_gives 37 = .ok (.lstore 4, 2) := by decide +kernel
theorem dX7_gives_39 : decode cX7_gives 39 = .ok (.aload_n 0, 1) := by decide +kernel
theorem dX7_gives_40 : decode cX7_gives 40 = .ok (.getfield 7, 3) := by decide +kernel
theorem dX7_gives_43 : decode cX7_gives 43 = .ok (.bipush 12, 2) := by decide +kernel
theorem dX7_gives_45 : decode cX7_gives 45 = .ok (.iload_n 1, 1) := by decide +kernel
theorem dX7_gives_46 : decode cX7_gives 46 = .ok (.iadd, 1) := by decide +kernel
theorem dX7_gives_47 : decode cX7_gives 47 = .ok (.dup2, 1) := by decide +kernel
theorem dX7_gives_48 : decode cX7_gives 48 = .ok (.laload, 1) := by decide +kernel
theorem dX7_gives_49 : decode cX7_gives 49 = .ok (.lload_n 2, 1) := by decide +kernel
theorem dX7_gives_50 : decode cX7_gives 50 = .ok (.aload_n 0, 1) := by decide +kernel
theorem dX7_gives_51 : decode cX7_gives 51 = .ok (.iload_n 1, 1) := by decide +kernel
theorem dX7_gives_52 : decode cX7_gives 52 = .ok (.invokevirtual 111, 3) := by decide +kernel
theorem dX7_gives_55 : decode cX7_gives 55 = .ok (.lmul, 1) := by decide +kernel
theorem dX7_gives_56 : decode cX7_gives 56 = .ok (.lsub, 1) := by decide +kernel
theorem dX7_gives_57 : decode cX7_gives 57 = .ok (.lastore, 1) := by decide +kernel
theorem dX7_gives_58 : decode cX7_gives 58 = .ok (.aload_n 0, 1) := by decide +kernel
theorem dX7_gives_59 : decode cX7_gives 59 = .ok (.getfield 7, 3) := by decide +kernel
theorem dX7_gives_62 : decode cX7_gives 62 = .ok (.bipush 24, 2) := by decide +kernel
theorem dX7_gives_64 : decode cX7_gives 64 = .ok (.iload_n 1, 1) := by decide +kernel
theorem dX7_gives_65 : decode cX7_gives 65 = .ok (.iadd, 1) := by decide +kernel
theorem dX7_gives_66 : decode cX7_gives 66 = .ok (.dup2, 1) := by decide +kernel
theorem dX7_gives_67 : decode cX7_gives 67 = .ok (.laload, 1) := by decide +kernel
theorem dX7_gives_68 : decode cX7_gives 68 = .ok (.lload 4, 2) := by decide +kernel
theorem dX7_gives_70 : decode cX7_gives 70 = .ok (.lsub, 1) := by decide +kernel
theorem dX7_gives_71 : decode cX7_gives 71 = .ok (.lastore, 1) := by decide +kernel
theorem dX7_gives_72 : decode cX7_gives 72 = .ok (.aload_n 0, 1) := by decide +kernel
theorem dX7_gives_73 : decode cX7_gives 73 = .ok (.getfield 7, 3) := by decide +kernel
theorem dX7_gives_76 : decode cX7_gives 76 = .ok (.iconst 0, 1) := by decide +kernel
theorem dX7_gives_77 : decode cX7_gives 77 = .ok (.iload_n 1, 1) := by decide +kernel
theorem dX7_gives_78 : decode cX7_gives 78 = .ok (.iadd, 1) := by decide +kernel
theorem dX7_gives_79 : decode cX7_gives 79 = .ok (.dup2, 1) := by decide +kernel
theorem dX7_gives_80 : decode cX7_gives 80 = .ok (.laload, 1) := by decide +kernel
theorem dX7_gives_81 : decode cX7_gives 81 = .ok (.lload_n 2, 1) := by decide +kernel
theorem dX7_gives_82 : decode cX7_gives 82 = .ok (.lsub, 1) := by decide +kernel
theorem dX7_gives_83 : decode cX7_gives 83 = .ok (.lastore, 1) := by decide +kernel
theorem dX7_gives_84 : decode cX7_gives 84 = .ok (.lload 4, 2) := by decide +kernel
theorem dX7_gives_86 : decode cX7_gives 86 = .ok (.lreturn, 1) := by decide +kernel
theorem dX7_isDryNear_0 : decode cX7_isDryNear 0 = .ok (.iconst 0, 1) := by decide +kernel
theorem dX7_isDryNear_1 : decode cX7_isDryNear 1 = .ok (.istore_n 2, 1) := by decide +kernel
theorem dX7_isDryNear_2 : decode cX7_isDryNear 2 = .ok (.iconst 0, 1) := by decide +kernel
theorem dX7_isDryNear_3 : decode cX7_isDryNear 3 = .ok (.istore_n 3, 1) := by decide +kernel
theorem dX7_isDryNear_4 : decode cX7_isDryNear 4 = .ok (.iload_n 3, 1) := by decide +kernel
theorem dX7_isDryNear_5 : decode cX7_isDryNear 5 = .ok (.aload_n 0, 1) := by decide +kernel
theorem dX7_isDryNear_6 : decode cX7_isDryNear 6 = .ok (.getfield 75, 3) := by decide +kernel
theorem dX7_isDryNear_9 : decode cX7_isDryNear 9 = .ok (.if_icmp .ge 56, 3) := by decide +kernel
theorem dX7_isDryNear_12 : decode cX7_isDryNear 12 = .ok (.iload_n 2, 1) := by decide +kernel
theorem dX7_isDryNear_13 : decode cX7_isDryNear 13 = .ok (.ifCond .ne 40, 3) := by decide +kernel
theorem dX7_isDryNear_16 : decode cX7_isDryNear 16 = .ok (.iload_n 1, 1) := by decide +kernel
theorem dX7_isDryNear_17 : decode cX7_isDryNear 17 = .ok (.aload_n 0, 1) := by decide +kernel
theorem dX7_isDryNear_18 : decode cX7_isDryNear 18 = .ok (.getfield 42, 3) := by decide +kernel
theorem dX7_isDryNear_21 : decode cX7_isDryNear 21 = .ok (.iload_n 3, 1) := by decide +kernel
theorem dX7_isDryNear_22 : decode cX7_isDryNear 22 = .ok (.iaload, 1) := by decide +kernel
theorem dX7_isDryNear_23 : decode cX7_isDryNear 23 = .ok (.invokestatic 115, 3) := by decide +kernel
theorem dX7_isDryNear_26 : decode cX7_isDryNear 26 = .ok (.ifCond .eq 31, 3) := by decide +kernel
theorem dX7_isDryNear_29 : decode cX7_isDryNear 29 = .ok (.aload_n 0, 1) := by decide +kernel
theorem dX7_isDryNear_30 : decode cX7_isDryNear 30 = .ok (.getfield 7, 3) := by decide +kernel
theorem dX7_isDryNear_33 : decode cX7_isDryNear 33 = .ok (.iconst 0, 1) := by decide +kernel
theorem dX7_isDryNear_34 : decode cX7_isDryNear 34 = .ok (.aload_n 0, 1) := by decide +kernel
theorem dX7_isDryNear_35 : decode cX7_isDryNear 35 = .ok (.getfield 42, 3) := by decide +kernel
theorem dX7_isDryNear_38 : decode cX7_isDryNear 38 = .ok (.iload_n 3, 1) := by decide +kernel
theorem dX7_isDryNear_39 : decode cX7_isDryNear 39 = .ok (.iaload, 1) := by decide +kernel
theorem dX7_isDryNear_40 : decode cX7_isDryNear 40 = .ok (.iadd, 1) := by decide +kernel
theorem dX7_isDryNear_41 : decode cX7_isDryNear 41 = .ok (.laload, 1) := by decide +kernel
theorem dX7_isDryNear_42 : decode cX7_isDryNear 42 = .ok (.aload_n 0, 1) := by decide +kernel
theorem dX7_isDryNear_43 : decode cX7_isDryNear 43 = .ok (.getfield 48, 3) := by decide +kernel
theorem dX7_isDryNear_46 : decode cX7_isDryNear 46 = .ok (.iload_n 3, 1) := by decide +kernel
theorem dX7_isDryNear_47 : decode cX7_isDryNear 47 = .ok (.iaload, 1) := by decide +kernel
theorem dX7_isDryNear_48 : decode cX7_isDryNear 48 = .ok (.i2l, 1) := by decide +kernel
theorem dX7_isDryNear_49 : decode cX7_isDryNear 49 = .ok (.lcmp, 1) := by decide +kernel
theorem dX7_isDryNear_50 : decode cX7_isDryNear 50 = .ok (.ifCond .ge 7, 3) := by decide +kernel
theorem dX7_isDryNear_53 : decode cX7_isDryNear 53 = .ok (.iconst 1, 1) := by decide +kernel
theorem dX7_isDryNear_54 : decode cX7_isDryNear 54 = .ok (.goto 4, 3) := by decide +kernel
theorem dX7_isDryNear_57 : decode cX7_isDryNear 57 = .ok (.iconst 0, 1) := by decide +kernel
theorem dX7_isDryNear_58 : decode cX7_isDryNear 58 = .ok (.istore_n 2, 1) := by decide +kernel
theorem dX7_isDryNear_59 : decode cX7_isDryNear 59 = .ok (.iinc 3 1, 3) := by decide +kernel
theorem dX7_isDryNear_62 : decode cX7_isDryNear 62 = .ok (.goto (-58), 3) := by decide +kernel
theorem dX7_isDryNear_65 : decode cX7_isDryNear 65 = .ok (.iload_n 2, 1) := by decide +kernel
theorem dX7_isDryNear_66 : decode cX7_isDryNear 66 = .ok (.ireturn, 1) := by decide +kernel
theorem dX7_shuts_0 : decode cX7_shuts 0 = .ok (.iconst 0, 1) := by decide +kernel
theorem dX7_shuts_1 : decode cX7_shuts 1 = .ok (.istore_n 1, 1) := by decide +kernel
theorem dX7_shuts_2 : decode cX7_shuts 2 = .ok (.iload_n 1, 1) := by decide +kernel
theorem dX7_shuts_3 : decode cX7_shuts 3 = .ok (.aload_n 0, 1) := by decide +kernel
theorem dX7_shuts_4 : decode cX7_shuts 4 = .ok (.getfield 72, 3) := by decide +kernel
theorem dX7_shuts_7 : decode cX7_shuts 7 = .ok (.if_icmp .ge 79, 3) := by decide +kernel
theorem dX7_shuts_10 : decode cX7_shuts 10 = .ok (.aload_n 0, 1) := by decide +kernel
theorem dX7_shuts_11 : decode cX7_shuts 11 = .ok (.getfield 26, 3) := by decide +kernel
theorem dX7_shuts_14 : decode cX7_shuts 14 = .ok (.iload_n 1, 1) := by decide +kernel
theorem dX7_shuts_15 : decode cX7_shuts 15 = .ok (.baload, 1) := by decide +kernel
theorem dX7_shuts_16 : decode cX7_shuts 16 = .ok (.ifCond .eq 25, 3) := by decide +kernel
theorem dX7_shuts_19 : decode cX7_shuts 19 = .ok (.aload_n 0, 1) := by decide +kernel
theorem dX7_shuts_20 : decode cX7_shuts 20 = .ok (.aload_n 0, 1) := by decide +kernel
theorem dX7_shuts_21 : decode cX7_shuts 21 = .ok (.getfield 23, 3) := by decide +kernel
theorem dX7_shuts_24 : decode cX7_shuts 24 = .ok (.iload_n 1, 1) := by decide +kernel
theorem dX7_shuts_25 : decode cX7_shuts 25 = .ok (.iaload, 1) := by decide +kernel
theorem dX7_shuts_26 : decode cX7_shuts 26 = .ok (.invokevirtual 118, 3) := by decide +kernel
theorem dX7_shuts_29 : decode cX7_shuts 29 = .ok (.iconst 2, 1) := by decide +kernel
theorem dX7_shuts_30 : decode cX7_shuts 30 = .ok (.if_icmp .ne 7, 3) := by decide +kernel
theorem dX7_shuts_33 : decode cX7_shuts 33 = .ok (.iconst 1, 1) := by decide +kernel
theorem dX7_shuts_34 : decode cX7_shuts 34 = .ok (.goto 17, 3) := by decide +kernel
theorem dX7_shuts_37 : decode cX7_shuts 37 = .ok (.iconst 0, 1) := by decide +kernel
theorem dX7_shuts_38 : decode cX7_shuts 38 = .ok (.goto 13, 3) := by decide +kernel
theorem dX7_shuts_41 : decode cX7_shuts 41 = .ok (.aload_n 0, 1) := by decide +kernel
theorem dX7_shuts_42 : decode cX7_shuts 42 = .ok (.aload_n 0, 1) := by decide +kernel
theorem dX7_shuts_43 : decode cX7_shuts 43 = .ok (.getfield 23, 3) := by decide +kernel
theorem dX7_shuts_46 : decode cX7_shuts 46 = .ok (.iload_n 1, 1) := by decide +kernel
theorem dX7_shuts_47 : decode cX7_shuts 47 = .ok (.iaload, 1) := by decide +kernel
theorem dX7_shuts_48 : decode cX7_shuts 48 = .ok (.invokevirtual 122, 3) := by decide +kernel
theorem dX7_shuts_51 : decode cX7_shuts 51 = .ok (.istore_n 2, 1) := by decide +kernel
theorem dX7_shuts_52 : decode cX7_shuts 52 = .ok (.aload_n 0, 1) := by decide +kernel
theorem dX7_shuts_53 : decode cX7_shuts 53 = .ok (.getfield 7, 3) := by decide +kernel
theorem dX7_shuts_56 : decode cX7_shuts 56 = .ok (.bipush 68, 2) := by decide +kernel
theorem dX7_shuts_58 : decode cX7_shuts 58 = .ok (.iload_n 1, 1) := by decide +kernel
theorem dX7_shuts_59 : decode cX7_shuts 59 = .ok (.iadd, 1) := by decide +kernel
theorem dX7_shuts_60 : decode cX7_shuts 60 = .ok (.iload_n 2, 1) := by decide +kernel
theorem dX7_shuts_61 : decode cX7_shuts 61 = .ok (.ifCond .eq 7, 3) := by decide +kernel
