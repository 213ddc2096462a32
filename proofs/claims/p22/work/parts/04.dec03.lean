theorem dJ9_min_7cf53_1 : decode cJ9_min_7cf53 1 = .ok (.iload_n 1, 1) := by decide +kernel
theorem dJ9_min_7cf53_2 : decode cJ9_min_7cf53 2 = .ok (.if_icmp .gt 7, 3) := by decide +kernel
theorem dJ9_min_7cf53_5 : decode cJ9_min_7cf53 5 = .ok (.iload_n 0, 1) := by decide +kernel
theorem dJ9_min_7cf53_6 : decode cJ9_min_7cf53 6 = .ok (.goto 4, 3) := by decide +kernel
theorem dJ9_min_7cf53_9 : decode cJ9_min_7cf53 9 = .ok (.iload_n 1, 1) := by decide +kernel
theorem dJ9_min_7cf53_10 : decode cJ9_min_7cf53 10 = .ok (.ireturn, 1) := by decide +kernel
theorem dJ9_min_f86c9_0 : decode cJ9_min_f86c9 0 = .ok (.lload_n 0, 1) := by decide +kernel
theorem dJ9_min_f86c9_1 : decode cJ9_min_f86c9 1 = .ok (.lload_n 2, 1) := by decide +kernel
theorem dJ9_min_f86c9_2 : decode cJ9_min_f86c9 2 = .ok (.lcmp, 1) := by decide +kernel
theorem dJ9_min_f86c9_3 : decode cJ9_min_f86c9 3 = .ok (.ifCond .gt 7, 3) := by decide +kernel
theorem dJ9_min_f86c9_6 : decode cJ9_min_f86c9 6 = .ok (.lload_n 0, 1) := by decide +kernel
theorem dJ9_min_f86c9_7 : decode cJ9_min_f86c9 7 = .ok (.goto 4, 3) := by decide +kernel
theorem dJ9_min_f86c9_10 : decode cJ9_min_f86c9 10 = .ok (.lload_n 2, 1) := by decide +kernel
theorem dJ9_min_f86c9_11 : decode cJ9_min_f86c9 11 = .ok (.lreturn, 1) := by decide +kernel
theorem dL_cell_0 : decode cL_cell 0 = .ok (.iload_n 1, 1) := by decide +kernel
theorem dL_cell_1 : decode cL_cell 1 = .ok (.aload_n 0, 1) := by decide +kernel
theorem dL_cell_2 : decode cL_cell 2 = .ok (.arraylength, 1) := by decide +kernel
theorem dL_cell_3 : decode cL_cell 3 = .ok (.if_icmp .ge 9, 3) := by decide +kernel
theorem dL_cell_6 : decode cL_cell 6 = .ok (.aload_n 0, 1) := by decide +kernel
theorem dL_cell_7 : decode cL_cell 7 = .ok (.iload_n 1, 1) := by decide +kernel
theorem dL_cell_8 : decode cL_cell 8 = .ok (.iaload, 1) := by decide +kernel
theorem dL_cell_9 : decode cL_cell 9 = .ok (.goto 14, 3) := by decide +kernel
theorem dL_cell_12 : decode cL_cell 12 = .ok (.ldc 7, 2) := by decide +kernel
theorem dL_cell_14 : decode cL_cell 14 = .ok (.iload_n 1, 1) := by decide +kernel
theorem dL_cell_15 : decode cL_cell 15 = .ok (.sipush 157, 3) := by decide +kernel
theorem dL_cell_18 : decode cL_cell 18 = .ok (.iadd, 1) := by decide +kernel
theorem dL_cell_19 : decode cL_cell 19 = .ok (.imul, 1) := by decide +kernel
theorem dL_cell_20 : decode cL_cell 20 = .ok (.ldc 8, 2) := by decide +kernel
theorem dL_cell_22 : decode cL_cell 22 = .ok (.iadd, 1) := by decide +kernel
theorem dL_cell_23 : decode cL_cell 23 = .ok (.ireturn, 1) := by decide +kernel
theorem dL_low_0 : decode cL_low 0 = .ok (.iload_n 0, 1) := by decide +kernel
theorem dL_low_1 : decode cL_low 1 = .ok (.ldc 9, 2) := by decide +kernel
theorem dL_low_3 : decode cL_low 3 = .ok (.iand, 1) := by decide +kernel
theorem dL_low_4 : decode cL_low 4 = .ok (.iload_n 1, 1) := by decide +kernel
theorem dL_low_5 : decode cL_low 5 = .ok (.irem, 1) := by decide +kernel
theorem dL_low_6 : decode cL_low 6 = .ok (.ireturn, 1) := by decide +kernel
theorem dL_beside_0 : decode cL_beside 0 = .ok (.iload_n 1, 1) := by decide +kernel
theorem dL_beside_1 : decode cL_beside 1 = .ok (.ifCond .ne 20, 3) := by decide +kernel
theorem dL_beside_4 : decode cL_beside 4 = .ok (.iload_n 0, 1) := by decide +kernel
theorem dL_beside_5 : decode cL_beside 5 = .ok (.iconst 4, 1) := by decide +kernel
theorem dL_beside_6 : decode cL_beside 6 = .ok (.irem, 1) := by decide +kernel
theorem dL_beside_7 : decode cL_beside 7 = .ok (.iconst 3, 1) := by decide +kernel
theorem dL_beside_8 : decode cL_beside 8 = .ok (.if_icmp .ge 9, 3) := by decide +kernel
theorem dL_beside_11 : decode cL_beside 11 = .ok (.iload_n 0, 1) := by decide +kernel
theorem dL_beside_12 : decode cL_beside 12 = .ok (.iconst 1, 1) := by decide +kernel
theorem dL_beside_13 : decode cL_beside 13 = .ok (.iadd, 1) := by decide +kernel
theorem dL_beside_14 : decode cL_beside 14 = .ok (.goto 61, 3) := by decide +kernel
theorem dL_beside_17 : decode cL_beside 17 = .ok (.iconst (-1), 1) := by decide +kernel
theorem dL_beside_18 : decode cL_beside 18 = .ok (.goto 57, 3) := by decide +kernel
theorem dL_beside_21 : decode cL_beside 21 = .ok (.iload_n 1, 1) := by decide +kernel
theorem dL_beside_22 : decode cL_beside 22 = .ok (.iconst 1, 1) := by decide +kernel
theorem dL_beside_23 : decode cL_beside 23 = .ok (.if_icmp .ne 19, 3) := by decide +kernel
theorem dL_beside_26 : decode cL_beside 26 = .ok (.iload_n 0, 1) := by decide +kernel
theorem dL_beside_27 : decode cL_beside 27 = .ok (.iconst 4, 1) := by decide +kernel
theorem dL_beside_28 : decode cL_beside 28 = .ok (.irem, 1) := by decide +kernel
theorem dL_beside_29 : decode cL_beside 29 = .ok (.ifCond .le 9, 3) := by decide +kernel
theorem dL_beside_32 : decode cL_beside 32 = .ok (.iload_n 0, 1) := by decide +kernel
theorem dL_beside_33 : decode cL_beside 33 = .ok (.iconst 1, 1) := by decide +kernel
theorem dL_beside_34 : decode cL_beside 34 = .ok (.isub, 1) := by decide +kernel
theorem dL_beside_35 : decode cL_beside 35 = .ok (.goto 40, 3) := by decide +kernel
theorem dL_beside_38 : decode cL_beside 38 = .ok (.iconst (-1), 1) := by decide +kernel
theorem dL_beside_39 : decode cL_beside 39 = .ok (.goto 36, 3) := by decide +kernel
theorem dL_beside_42 : decode cL_beside 42 = .ok (.iload_n 1, 1) := by decide +kernel
theorem dL_beside_43 : decode cL_beside 43 = .ok (.iconst 2, 1) := by decide +kernel
theorem dL_beside_44 : decode cL_beside 44 = .ok (.if_icmp .ne 19, 3) := by decide +kernel
theorem dL_beside_47 : decode cL_beside 47 = .ok (.iload_n 0, 1) := by decide +kernel
theorem dL_beside_48 : decode cL_beside 48 = .ok (.bipush 8, 2) := by decide +kernel
theorem dL_beside_50 : decode cL_beside 50 = .ok (.if_icmp .ge 9, 3) := by decide +kernel
theorem dL_beside_53 : decode cL_beside 53 = .ok (.iload_n 0, 1) := by decide +kernel
theorem dL_beside_54 : decode cL_beside 54 = .ok (.iconst 4, 1) := by decide +kernel
theorem dL_beside_55 : decode cL_beside 55 = .ok (.iadd, 1) := by decide +kernel
theorem dL_beside_56 : decode cL_beside 56 = .ok (.goto 19, 3) := by decide +kernel
theorem dL_beside_59 : decode cL_beside 59 = .ok (.iconst (-1), 1) := by decide +kernel
theorem dL_beside_60 : decode cL_beside 60 = .ok (.goto 15, 3) := by decide +kernel
theorem dL_beside_63 : decode cL_beside 63 = .ok (.iload_n 0, 1) := by decide +kernel
theorem dL_beside_64 : decode cL_beside 64 = .ok (.iconst 3, 1) := by decide +kernel
theorem dL_beside_65 : decode cL_beside 65 = .ok (.if_icmp .le 9, 3) := by decide +kernel
theorem dL_beside_68 : decode cL_beside 68 = .ok (.iload_n 0, 1) := by decide +kernel
theorem dL_beside_69 : decode cL_beside 69 = .ok (.iconst 4, 1) := by decide +kernel
theorem dL_beside_70 : decode cL_beside 70 = .ok (.isub, 1) := by decide +kernel
theorem dL_beside_71 : decode cL_beside 71 = .ok (.goto 4, 3) := by decide +kernel
theorem dL_beside_74 : decode cL_beside 74 = .ok (.iconst (-1), 1) := by decide +kernel
theorem dL_beside_75 : decode cL_beside 75 = .ok (.ireturn, 1) := by decide +kernel
theorem dL_width_0 : decode cL_width 0 = .ok (.iload_n 1, 1) := by decide +kernel
theorem dL_width_1 : decode cL_width 1 = .ok (.ifCond .ne 11, 3) := by decide +kernel
theorem dL_width_4 : decode cL_width 4 = .ok (.aload_n 2, 1) := by decide +kernel
theorem dL_width_5 : decode cL_width 5 = .ok (.iconst 2, 1) := by decide +kernel
theorem dL_width_6 : decode cL_width 6 = .ok (.iload_n 0, 1) := by decide +kernel
theorem dL_width_7 : decode cL_width 7 = .ok (.imul, 1) := by decide +kernel
theorem dL_width_8 : decode cL_width 8 = .ok (.iaload, 1) := by decide +kernel
theorem dL_width_9 : decode cL_width 9 = .ok (.goto 41, 3) := by decide +kernel
theorem dL_width_12 : decode cL_width 12 = .ok (.iload_n 1, 1) := by decide +kernel
theorem dL_width_13 : decode cL_width 13 = .ok (.iconst 1, 1) := by decide +kernel
theorem dL_width_14 : decode cL_width 14 = .ok (.if_icmp .ne 13, 3) := by decide +kernel
theorem dL_width_17 : decode cL_width 17 = .ok (.aload_n 2, 1) := by decide +kernel
theorem dL_width_18 : decode cL_width 18 = .ok (.iconst 2, 1) := by decide +kernel
theorem dL_width_19 : decode cL_width 19 = .ok (.iload_n 0, 1) := by decide +kernel
theorem dL_width_20 : decode cL_width 20 = .ok (.imul, 1) := by decide +kernel
theorem dL_width_21 : decode cL_width 21 = .ok (.iconst 2, 1) := by decide +kernel
theorem dL_width_22 : decode cL_width 22 = .ok (.isub, 1) := by decide +kernel
theorem dL_width_23 : decode cL_width 23 = .ok (.iaload, 1) := by decide +kernel
theorem dL_width_24 : decode cL_width 24 = .ok (.goto 26, 3) := by decide +kernel
theorem dL_width_27 : decode cL_width 27 = .ok (.iload_n 1, 1) := by decide +kernel
theorem dL_width_28 : decode cL_width 28 = .ok (.iconst 2, 1) := by decide +kernel
theorem dL_width_29 : decode cL_width 29 = .ok (.if_icmp .ne 13, 3) := by decide +kernel
theorem dL_width_32 : decode cL_width 32 = .ok (.aload_n 2, 1) := by decide +kernel
theorem dL_width_33 : decode cL_width 33 = .ok (.iconst 2, 1) := by decide +kernel
theorem dL_width_34 : decode cL_width 34 = .ok (.iload_n 0, 1) := by decide +kernel
theorem dL_width_35 : decode cL_width 35 = .ok (.imul, 1) := by decide +kernel
theorem dL_width_36 : decode cL_width 36 = .ok (.iconst 1, 1) := by decide +kernel
theorem dL_width_37 : decode cL_width 37 = .ok (.iadd, 1) := by decide +kernel
theorem dL_width_38 : decode cL_width 38 = .ok (.iaload, 1) := by decide +kernel
theorem dL_width_39 : decode cL_width 39 = .ok (.goto 11, 3) := by decide +kernel
theorem dL_width_42 : decode cL_width 42 = .ok (.aload_n 2, 1) := by decide +kernel
theorem dL_width_43 : decode cL_width 43 = .ok (.iconst 2, 1) := by decide +kernel
theorem dL_width_44 : decode cL_width 44 = .ok (.iload_n 0, 1) := by decide +kernel
theorem dL_width_45 : decode cL_width 45 = .ok (.imul, 1) := by decide +kernel
theorem dL_width_46 : decode cL_width 46 = .ok (.bipush 7, 2) := by decide +kernel
theorem dL_width_48 : decode cL_width 48 = .ok (.isub, 1) := by decide +kernel
theorem dL_width_49 : decode cL_width 49 = .ok (.iaload, 1) := by decide +kernel
theorem dL_width_50 : decode cL_width 50 = .ok (.ireturn, 1) := by decide +kernel
theorem dL_near_0 : decode cL_near 0 = .ok (.iload_n 0, 1) := by decide +kernel
theorem dL_near_1 : decode cL_near 1 = .ok (.iload_n 1, 1) := by decide +kernel
theorem dL_near_2 : decode cL_near 2 = .ok (.if_icmp .ne 7, 3) := by decide +kernel
theorem dL_near_5 : decode cL_near 5 = .ok (.iconst 1, 1) := by decide +kernel
theorem dL_near_6 : decode cL_near 6 = .ok (.goto 4, 3) := by decide +kernel
theorem dL_near_9 : decode cL_near 9 = .ok (.iconst 0, 1) := by decide +kernel
theorem dL_near_10 : decode cL_near 10 = .ok (.istore_n 2, 1) := by decide +kernel
theorem dL_near_11 : decode cL_near 11 = .ok (.iconst 0, 1) := by decide +kernel
theorem dL_near_12 : decode cL_near 12 = .ok (.istore_n 3, 1) := by decide +kernel
theorem dL_near_13 : decode cL_near 13 = .ok (.iload_n 3, 1) := by decide +kernel
theorem dL_near_14 : decode cL_near 14 = .ok (.iconst 4, 1) := by decide +kernel
theorem dL_near_15 : decode cL_near 15 = .ok (.if_icmp .ge 28, 3) := by decide +kernel
theorem dL_near_18 : decode cL_near 18 = .ok (.iload_n 2, 1) := by decide +kernel
theorem dL_near_19 : decode cL_near 19 = .ok (.ifCond .ne 12, 3) := by decide +kernel
theorem dL_near_22 : decode cL_near 22 = .ok (.iload_n 0, 1) := by decide +kernel
theorem dL_near_23 : decode cL_near 23 = .ok (.iload_n 3, 1) := by decide +kernel
theorem dL_near_24 : decode cL_near 24 = .ok (.invokestatic 10, 3) := by decide +kernel
theorem dL_near_27 : decode cL_near 27 = .ok (.iload_n 1, 1) := by decide +kernel
theorem dL_near_28 : decode cL_near 28 = .ok (.if_icmp .ne 7, 3) := by decide +kernel
theorem dL_near_31 : decode cL_near 31 = .ok (.iconst 1, 1) := by decide +kernel
theorem dL_near_32 : decode cL_near 32 = .ok (.goto 4, 3) := by decide +kernel
theorem dL_near_35 : decode cL_near 35 = .ok (.iconst 0, 1) := by decide +kernel
theorem dL_near_36 : decode cL_near 36 = .ok (.istore_n 2, 1) := by decide +kernel
theorem dL_near_37 : decode cL_near 37 = .ok (.iinc 3 1, 3) := by decide +kernel
theorem dL_near_40 : decode cL_near 40 = .ok (.goto (-27), 3) := by decide +kernel
theorem dL_near_43 : decode cL_near 43 = .ok (.iload_n 2, 1) := by decide +kernel
theorem dL_near_44 : decode cL_near 44 = .ok (.ireturn, 1) := by decide +kernel
theorem dL_hot_0 : decode cL_hot 0 = .ok (.aload_n 2, 1) := by decide +kernel
theorem dL_hot_1 : decode cL_hot 1 = .ok (.iload_n 0, 1) := by decide +kernel
theorem dL_hot_2 : decode cL_hot 2 = .ok (.laload, 1) := by decide +kernel
theorem dL_hot_3 : decode cL_hot 3 = .ok (.aload_n 1, 1) := by decide +kernel
theorem dL_hot_4 : decode cL_hot 4 = .ok (.iload_n 0, 1) := by decide +kernel
theorem dL_hot_5 : decode cL_hot 5 = .ok (.laload, 1) := by decide +kernel
theorem dL_hot_6 : decode cL_hot 6 = .ok (.ldc2_w 16, 3) := by decide +kernel
theorem dL_hot_9 : decode cL_hot 9 = .ok (.ladd, 1) := by decide +kernel
theorem dL_hot_10 : decode cL_hot 10 = .ok (.ldiv, 1) := by decide +kernel
theorem dL_hot_11 : decode cL_hot 11 = .ok (.lreturn, 1) := by decide +kernel
theorem dL_gives_0 : decode cL_gives 0 = .ok (.lload_n 1, 1) := by decide +kernel
theorem dL_gives_1 : decode cL_gives 1 = .ok (.lconst 0, 1) := by decide +kernel
theorem dL_gives_2 : decode cL_gives 2 = .ok (.lcmp, 1) := by decide +kernel
theorem dL_gives_3 : decode cL_gives 3 = .ok (.ifCond .ne 5, 3) := by decide +kernel
theorem dL_gives_6 : decode cL_gives 6 = .ok (.lconst 0, 1) := by decide +kernel
theorem dL_gives_7 : decode cL_gives 7 = .ok (.lreturn, 1) := by decide +kernel
theorem dL_gives_8 : decode cL_gives 8 = .ok (.aload 5, 2) := by decide +kernel
theorem dL_gives_10 : decode cL_gives 10 = .ok (.iload_n 0, 1) := by decide +kernel
theorem dL_gives_11 : decode cL_gives 11 = .ok (.laload, 1) := by decide +kernel
theorem dL_gives_12 : decode cL_gives 12 = .ok (.lload_n 1, 1) := by decide +kernel
theorem dL_gives_13 : decode cL_gives 13 = .ok (.lmul, 1) := by decide +kernel
theorem dL_gives_14 : decode cL_gives 14 = .ok (.aload_n 3, 1) := by decide +kernel
theorem dL_gives_15 : decode cL_gives 15 = .ok (.iload_n 0, 1) := by decide +kernel
theorem dL_gives_16 : decode cL_gives 16 = .ok (.laload, 1) := by decide +kernel
theorem dL_gives_17 : decode cL_gives 17 = .ok (.ldiv, 1) := by decide +kernel
theorem dL_gives_18 : decode cL_gives 18 = .ok (.lstore 6, 2) := by decide +kernel
theorem dL_gives_20 : decode cL_gives 20 = .ok (.aload 4, 2) := by decide +kernel
theorem dL_gives_22 : decode cL_gives 22 = .ok (.iload_n 0, 1) := by decide +kernel
theorem dL_gives_23 : decode cL_gives 23 = .ok (.laload, 1) := by decide +kernel
theorem dL_gives_24 : decode cL_gives 24 = .ok (.lload_n 1, 1) := by decide +kernel
theorem dL_gives_25 : decode cL_gives 25 = .ok (.iload_n 0, 1) := by decide +kernel
theorem dL_gives_26 : decode cL_gives 26 = .ok (.aload_n 3, 1) := by decide +kernel
theorem dL_gives_27 : decode cL_gives 27 = .ok (.aload 4, 2) := by decide +kernel
theorem dL_gives_29 : decode cL_gives 29 = .ok (.invokestatic 18, 3) := by decide +kernel
theorem dL_gives_32 : decode cL_gives 32 = .ok (.lmul, 1) := by decide +kernel
theorem dL_gives_33 : decode cL_gives 33 = .ok (.lsub, 1) := by decide +kernel
theorem dL_gives_34 : decode cL_gives 34 = .ok (.lstore 8, 2) := by decide +kernel
theorem dL_gives_36 : decode cL_gives 36 = .ok (.aload 4, 2) := by decide +kernel
theorem dL_gives_38 : decode cL_gives 38 = .ok (.iload_n 0, 1) := by decide +kernel
theorem dL_gives_39 : decode cL_gives 39 = .ok (.lload 8, 2) := by decide +kernel
theorem dL_gives_41 : decode cL_gives 41 = .ok (.lastore, 1) := by decide +kernel
theorem dL_gives_42 : decode cL_gives 42 = .ok (.aload 5, 2) := by decide +kernel
theorem dL_gives_44 : decode cL_gives 44 = .ok (.iload_n 0, 1) := by decide +kernel
theorem dL_gives_45 : decode cL_gives 45 = .ok (.dup2, 1) := by decide +kernel
theorem dL_gives_46 : decode cL_gives 46 = .ok (.laload, 1) := by decide +kernel
theorem dL_gives_47 : decode cL_gives 47 = .ok (.lload 6, 2) := by decide +kernel
theorem dL_gives_49 : decode cL_gives 49 = .ok (.lsub, 1) := by decide +kernel
theorem dL_gives_50 : decode cL_gives 50 = .ok (.lastore, 1) := by decide +kernel
theorem dL_gives_51 : decode cL_gives 51 = .ok (.aload_n 3, 1) := by decide +kernel
theorem dL_gives_52 : decode cL_gives 52 = .ok (.iload_n 0, 1) := by decide +kernel
theorem dL_gives_53 : decode cL_gives 53 = .ok (.dup2, 1) := by decide +kernel
theorem dL_gives_54 : decode cL_gives 54 = .ok (.laload, 1) := by decide +kernel
theorem dL_gives_55 : decode cL_gives 55 = .ok (.lload_n 1, 1) := by decide +kernel
theorem dL_gives_56 : decode cL_gives 56 = .ok (.lsub, 1) := by decide +kernel
theorem dL_gives_57 : decode cL_gives 57 = .ok (.lastore, 1) := by decide +kernel
theorem dL_gives_58 : decode cL_gives 58 = .ok (.lload 6, 2) := by decide +kernel
theorem dL_gives_60 : decode cL_gives 60 = .ok (.lreturn, 1) := by decide +kernel
theorem dL_wells_0 : decode cL_wells 0 = .ok (.iconst 0, 1) := by decide +kernel
theorem dL_wells_1 : decode cL_wells 1 = .ok (.istore 11, 2) := by decide +kernel
theorem dL_wells_3 : decode cL_wells 3 = .ok (.iload 11, 2) := by decide +kernel
theorem dL_wells_5 : decode cL_wells 5 = .ok (.aload 10, 2) := by decide +kernel
theorem dL_wells_7 : decode cL_wells 7 = .ok (.iconst 1, 1) := by decide +kernel
theorem dL_wells_8 : decode cL_wells 8 = .ok (.iaload, 1) := by decide +kernel
theorem dL_wells_9 : decode cL_wells 9 = .ok (.if_icmp .ge 165, 3) := by decide +kernel
theorem dL_wells_12 : decode cL_wells 12 = .ok (.aload 4, 2) := by decide +kernel
theorem dL_wells_14 : decode cL_wells 14 = .ok (.bipush 7, 2) := by decide +kernel
theorem dL_wells_16 : decode cL_wells 16 = .ok (.iload 11, 2) := by decide +kernel
theorem dL_wells_18 : decode cL_wells 18 = .ok (.imul, 1) := by decide +kernel
theorem dL_wells_19 : decode cL_wells 19 = .ok (.iconst 1, 1) := by decide +kernel
theorem dL_wells_20 : decode cL_wells 20 = .ok (.iadd, 1) := by decide +kernel
theorem dL_wells_21 : decode cL_wells 21 = .ok (.iaload, 1) := by decide +kernel
theorem dL_wells_22 : decode cL_wells 22 = .ok (.iconst 1, 1) := by decide +kernel
theorem dL_wells_23 : decode cL_wells 23 = .ok (.if_icmp .ne 24, 3) := by decide +kernel
theorem dL_wells_26 : decode cL_wells 26 = .ok (.aload_n 3, 1) := by decide +kernel
theorem dL_wells_27 : decode cL_wells 27 = .ok (.aload 4, 2) := by decide +kernel
theorem dL_wells_29 : decode cL_wells 29 = .ok (.bipush 7, 2) := by decide +kernel
theorem dL_wells_31 : decode cL_wells 31 = .ok (.iload 11, 2) := by decide +kernel
theorem dL_wells_33 : decode cL_wells 33 = .ok (.imul, 1) := by decide +kernel
theorem dL_wells_34 : decode cL_wells 34 = .ok (.iaload, 1) := by decide +kernel
theorem dL_wells_35 : decode cL_wells 35 = .ok (.laload, 1) := by decide +kernel
theorem dL_wells_36 : decode cL_wells 36 = .ok (.ldc2_w 22, 3) := by decide +kernel
theorem dL_wells_39 : decode cL_wells 39 = .ok (.lcmp, 1) := by decide +kernel
theorem dL_wells_40 : decode cL_wells 40 = .ok (.ifCond .le 7, 3) := by decide +kernel
theorem dL_wells_43 : decode cL_wells 43 = .ok (.iconst 1, 1) := by decide +kernel
theorem dL_wells_44 : decode cL_wells 44 = .ok (.goto 4, 3) := by decide +kernel
theorem dL_wells_47 : decode cL_wells 47 = .ok (.iconst 0, 1) := by decide +kernel
theorem dL_wells_48 : decode cL_wells 48 = .ok (.istore 12, 2) := by decide +kernel
theorem dL_wells_50 : decode cL_wells 50 = .ok (.iconst 0, 1) := by decide +kernel
theorem dL_wells_51 : decode cL_wells 51 = .ok (.istore 13, 2) := by decide +kernel
theorem dL_wells_53 : decode cL_wells 53 = .ok (.iload 13, 2) := by decide +kernel
theorem dL_wells_55 : decode cL_wells 55 = .ok (.aload 10, 2) := by decide +kernel
theorem dL_wells_57 : decode cL_wells 57 = .ok (.iconst 2, 1) := by decide +kernel
theorem dL_wells_58 : decode cL_wells 58 = .ok (.iaload, 1) := by decide +kernel
theorem dL_wells_59 : decode cL_wells 59 = .ok (.if_icmp .ge 78, 3) := by decide +kernel
theorem dL_wells_62 : decode cL_wells 62 = .ok (.iload 12, 2) := by decide +kernel
theorem dL_wells_64 : decode cL_wells 64 = .ok (.ifCond .ne 60, 3) := by decide +kernel
theorem dL_wells_67 : decode cL_wells 67 = .ok (.aload 4, 2) := by decide +kernel
theorem dL_wells_69 : decode cL_wells 69 = .ok (.bipush 7, 2) := by decide +kernel
theorem dL_wells_71 : decode cL_wells 71 = .ok (.iload 11, 2) := by decide +kernel
theorem dL_wells_73 : decode cL_wells 73 = .ok (.imul, 1) := by decide +kernel
theorem dL_wells_74 : decode cL_wells 74 = .ok (.iconst 1, 1) := by decide +kernel
theorem dL_wells_75 : decode cL_wells 75 = .ok (.iadd, 1) := by decide +kernel
theorem dL_wells_76 : decode cL_wells 76 = .ok (.iaload, 1) := by decide +kernel
theorem dL_wells_77 : decode cL_wells 77 = .ok (.ifCond .ne 51, 3) := by decide +kernel
theorem dL_wells_80 : decode cL_wells 80 = .ok (.aload 4, 2) := by decide +kernel
theorem dL_wells_82 : decode cL_wells 82 = .ok (.bipush 7, 2) := by decide +kernel
theorem dL_wells_84 : decode cL_wells 84 = .ok (.iload 11, 2) := by decide +kernel
theorem dL_wells_86 : decode cL_wells 86 = .ok (.imul, 1) := by decide +kernel
theorem dL_wells_87 : decode cL_wells 87 = .ok (.iaload, 1) := by decide +kernel
theorem dL_wells_88 : decode cL_wells 88 = .ok (.aload 6, 2) := by decide +kernel
theorem dL_wells_90 : decode cL_wells 90 = .ok (.iconst 5, 1) := by decide +kernel
theorem dL_wells_91 : decode cL_wells 91 = .ok (.iload 13, 2) := by decide +kernel
theorem dL_wells_93 : decode cL_wells 93 = .ok (.imul, 1) := by decide +kernel
theorem dL_wells_94 : decode cL_wells 94 = .ok (.iaload, 1) := by decide +kernel
theorem dL_wells_95 : decode cL_wells 95 = .ok (.invokestatic 24, 3) := by decide +kernel
theorem dL_wells_98 : decode cL_wells 98 = .ok (.ifCond .eq 30, 3) := by decide +kernel
theorem dL_wells_101 : decode cL_wells 101 = .ok (.aload_n 0, 1) := by decide +kernel
theorem dL_wells_102 : decode cL_wells 102 = .ok (.aload 6, 2) := by decide +kernel
theorem dL_wells_104 : decode cL_wells 104 = .ok (.iconst 5, 1) := by decide +kernel
theorem dL_wells_105 : decode cL_wells 105 = .ok (.iload 13, 2) := by decide +kernel
theorem dL_wells_107 : decode cL_wells 107 = .ok (.imul, 1) := by decide +kernel
theorem dL_wells_108 : decode cL_wells 108 = .ok (.iaload, 1) := by decide +kernel
theorem dL_wells_109 : decode cL_wells 109 = .ok (.laload, 1) := by decide +kernel
theorem dL_wells_110 : decode cL_wells 110 = .ok (.aload 6, 2) := by decide +kernel
theorem dL_wells_112 : decode cL_wells 112 = .ok (.iconst 5, 1) := by decide +kernel
theorem dL_wells_113 : decode cL_wells 113 = .ok (.iload 13, 2) := by decide +kernel
theorem dL_wells_115 : decode cL_wells 115 = .ok (.imul, 1) := by decide +kernel
theorem dL_wells_116 : decode cL_wells 116 = .ok (.iconst 2, 1) := by decide +kernel
theorem dL_wells_117 : decode cL_wells 117 = .ok (.iadd, 1) := by decide +kernel
theorem dL_wells_118 : decode cL_wells 118 = .ok (.iaload, 1) := by decide +kernel
theorem dL_wells_119 : decode cL_wells 119 = .ok (.i2l, 1) := by decide +kernel
theorem dL_wells_120 : decode cL_wells 120 = .ok (.lcmp, 1) := by decide +kernel
theorem dL_wells_121 : decode cL_wells 121 = .ok (.ifCond .ge 7, 3) := by decide +kernel
theorem dL_wells_124 : decode cL_wells 124 = .ok (.iconst 1, 1) := by decide +kernel
theorem dL_wells_125 : decode cL_wells 125 = .ok (.goto 4, 3) := by decide +kernel
theorem dL_wells_128 : decode cL_wells 128 = .ok (.iconst 0, 1) := by decide +kernel
theorem dL_wells_129 : decode cL_wells 129 = .ok (.istore 12, 2) := by decide +kernel
theorem dL_wells_131 : decode cL_wells 131 = .ok (.iinc 13 1, 3) := by decide +kernel
theorem dL_wells_134 : decode cL_wells 134 = .ok (.goto (-81), 3) := by decide +kernel
theorem dL_wells_137 : decode cL_wells 137 = .ok (.aload 4, 2) := by decide +kernel
theorem dL_wells_139 : decode cL_wells 139 = .ok (.bipush 7, 2) := by decide +kernel
theorem dL_wells_141 : decode cL_wells 141 = .ok (.iload 11, 2) := by decide +kernel
theorem dL_wells_143 : decode cL_wells 143 = .ok (.imul, 1) := by decide +kernel
theorem dL_wells_144 : decode cL_wells 144 = .ok (.iconst 5, 1) := by decide +kernel
theorem dL_wells_145 : decode cL_wells 145 = .ok (.iadd, 1) := by decide +kernel
theorem dL_wells_146 : decode cL_wells 146 = .ok (.iload 12, 2) := by decide +kernel
theorem dL_wells_148 : decode cL_wells 148 = .ok (.ifCond .eq 7, 3) := by decide +kernel
theorem dL_wells_151 : decode cL_wells 151 = .ok (.iconst 1, 1) := by decide +kernel
theorem dL_wells_152 : decode cL_wells 152 = .ok (.goto 4, 3) := by decide +kernel
theorem dL_wells_155 : decode cL_wells 155 = .ok (.iconst 0, 1) := by decide +kernel
theorem dL_wells_156 : decode cL_wells 156 = .ok (.iastore, 1) := by decide +kernel
theorem dL_wells_157 : decode cL_wells 157 = .ok (.aload 4, 2) := by decide +kernel
theorem dL_wells_159 : decode cL_wells 159 = .ok (.bipush 7, 2) := by decide +kernel
theorem dL_wells_161 : decode cL_wells 161 = .ok (.iload 11, 2) := by decide +kernel
theorem dL_wells_163 : decode cL_wells 163 = .ok (.imul, 1) := by decide +kernel
theorem dL_wells_164 : decode cL_wells 164 = .ok (.iconst 4, 1) := by decide +kernel
theorem dL_wells_165 : decode cL_wells 165 = .ok (.iadd, 1) := by decide +kernel
theorem dL_wells_166 : decode cL_wells 166 = .ok (.iconst 0, 1) := by decide +kernel
theorem dL_wells_167 : decode cL_wells 167 = .ok (.iastore, 1) := by decide +kernel
theorem dL_wells_168 : decode cL_wells 168 = .ok (.iinc 11 1, 3) := by decide +kernel
theorem dL_wells_171 : decode cL_wells 171 = .ok (.goto (-168), 3) := by decide +kernel
theorem dL_wells_174 : decode cL_wells 174 = .ok (.lconst 0, 1) := by decide +kernel
theorem dL_wells_175 : decode cL_wells 175 = .ok (.lstore 11, 2) := by decide +kernel
theorem dL_wells_177 : decode cL_wells 177 = .ok (.lconst 0, 1) := by decide +kernel
theorem dL_wells_178 : decode cL_wells 178 = .ok (.lstore 13, 2) := by decide +kernel
theorem dL_wells_180 : decode cL_wells 180 = .ok (.lconst 0, 1) := by decide +kernel
theorem dL_wells_181 : decode cL_wells 181 = .ok (.lstore 15, 2) := by decide +kernel
theorem dL_wells_183 : decode cL_wells 183 = .ok (.iconst 0, 1) := by decide +kernel
theorem dL_wells_184 : decode cL_wells 184 = .ok (.istore 17, 2) := by decide +kernel
theorem dL_wells_186 : decode cL_wells 186 = .ok (.iload 17, 2) := by decide +kernel
theorem dL_wells_188 : decode cL_wells 188 = .ok (.aload 10, 2) := by decide +kernel
theorem dL_wells_190 : decode cL_wells 190 = .ok (.iconst 1, 1) := by decide +kernel
theorem dL_wells_191 : decode cL_wells 191 = .ok (.iaload, 1) := by decide +kernel
theorem dL_wells_192 : decode cL_wells 192 = .ok (.if_icmp .ge 512, 3) := by decide +kernel
theorem dL_wells_195 : decode cL_wells 195 = .ok (.aload 4, 2) := by decide +kernel
theorem dL_wells_197 : decode cL_wells 197 = .ok (.bipush 7, 2) := by decide +kernel
theorem dL_wells_199 : decode cL_wells 199 = .ok (.iload 17, 2) := by decide +kernel
theorem dL_wells_201 : decode cL_wells 201 = .ok (.imul, 1) := by decide +kernel
theorem dL_wells_202 : decode cL_wells 202 = .ok (.iaload, 1) := by decide +kernel
theorem dL_wells_203 : decode cL_wells 203 = .ok (.istore 18, 2) := by decide +kernel
theorem dL_wells_205 : decode cL_wells 205 = .ok (.lload 15, 2) := by decide +kernel
theorem dL_wells_207 : decode cL_wells 207 = .ok (.aload 4, 2) := by decide +kernel
theorem dL_wells_209 : decode cL_wells 209 = .ok (.bipush 7, 2) := by decide +kernel
theorem dL_wells_211 : decode cL_wells 211 = .ok (.iload 17, 2) := by decide +kernel
theorem dL_wells_213 : decode cL_wells 213 = .ok (.imul, 1) := by decide +kernel
theorem dL_wells_214 : decode cL_wells 214 = .ok (.iconst 1, 1) := by decide +kernel
theorem dL_wells_215 : decode cL_wells 215 = .ok (.iadd, 1) := by decide +kernel
theorem dL_wells_216 : decode cL_wells 216 = .ok (.iaload, 1) := by decide +kernel
theorem dL_wells_217 : decode cL_wells 217 = .ok (.iconst 1, 1) := by decide +kernel
theorem dL_wells_218 : decode cL_wells 218 = .ok (.if_icmp .ne 30, 3) := by decide +kernel
theorem dL_wells_221 : decode cL_wells 221 = .ok (.aload 4, 2) := by decide +kernel
theorem dL_wells_223 : decode cL_wells 223 = .ok (.bipush 7, 2) := by decide +kernel
theorem dL_wells_225 : decode cL_wells 225 = .ok (.iload 17, 2) := by decide +kernel
theorem dL_wells_227 : decode cL_wells 227 = .ok (.imul, 1) := by decide +kernel
theorem dL_wells_228 : decode cL_wells 228 = .ok (.iconst 5, 1) := by decide +kernel
theorem dL_wells_229 : decode cL_wells 229 = .ok (.iadd, 1) := by decide +kernel
theorem dL_wells_230 : decode cL_wells 230 = .ok (.iaload, 1) := by decide +kernel
theorem dL_wells_231 : decode cL_wells 231 = .ok (.ifCond .ne 17, 3) := by decide +kernel
theorem dL_wells_234 : decode cL_wells 234 = .ok (.aload 4, 2) := by decide +kernel
theorem dL_wells_236 : decode cL_wells 236 = .ok (.bipush 7, 2) := by decide +kernel
theorem dL_wells_238 : decode cL_wells 238 = .ok (.iload 17, 2) := by decide +kernel
theorem dL_wells_240 : decode cL_wells 240 = .ok (.imul, 1) := by decide +kernel
theorem dL_wells_241 : decode cL_wells 241 = .ok (.iconst 2, 1) := by decide +kernel
theorem dL_wells_242 : decode cL_wells 242 = .ok (.iadd, 1) := by decide +kernel
theorem dL_wells_243 : decode cL_wells 243 = .ok (.iaload, 1) := by decide +kernel
theorem dL_wells_244 : decode cL_wells 244 = .ok (.i2l, 1) := by decide +kernel
theorem dL_wells_245 : decode cL_wells 245 = .ok (.goto 4, 3) := by decide +kernel
theorem dL_wells_248 : decode cL_wells 248 = .ok (.lconst 0, 1) := by decide +kernel
theorem dL_wells_249 : decode cL_wells 249 = .ok (.ladd, 1) := by decide +kernel
theorem dL_wells_250 : decode cL_wells 250 = .ok (.lstore 15, 2) := by decide +kernel
theorem dL_wells_252 : decode cL_wells 252 = .ok (.aload 4, 2) := by decide +kernel
theorem dL_wells_254 : decode cL_wells 254 = .ok (.bipush 7, 2) := by decide +kernel
theorem dL_wells_256 : decode cL_wells 256 = .ok (.iload 17, 2) := by decide +kernel
theorem dL_wells_258 : decode cL_wells 258 = .ok (.imul, 1) := by decide +kernel
theorem dL_wells_259 : decode cL_wells 259 = .ok (.iconst 1, 1) := by decide +kernel
theorem dL_wells_260 : decode cL_wells 260 = .ok (.iadd, 1) := by decide +kernel
theorem dL_wells_261 : decode cL_wells 261 = .ok (.iaload, 1) := by decide +kernel
theorem dL_wells_262 : decode cL_wells 262 = .ok (.ifCond .ne 436, 3) := by decide +kernel
theorem dL_wells_265 : decode cL_wells 265 = .ok (.aload 4, 2) := by decide +kernel
theorem dL_wells_267 : decode cL_wells 267 = .ok (.bipush 7, 2) := by decide +kernel
theorem dL_wells_269 : decode cL_wells 269 = .ok (.iload 17, 2) := by decide +kernel
theorem dL_wells_271 : decode cL_wells 271 = .ok (.imul, 1) := by decide +kernel
theorem dL_wells_272 : decode cL_wells 272 = .ok (.iconst 5, 1) := by decide +kernel
theorem dL_wells_273 : decode cL_wells 273 = .ok (.iadd, 1) := by decide +kernel
theorem dL_wells_274 : decode cL_wells 274 = .ok (.iaload, 1) := by decide +kernel
theorem dL_wells_275 : decode cL_wells 275 = .ok (.ifCond .ne 423, 3) := by decide +kernel
theorem dL_wells_278 : decode cL_wells 278 = .ok (.aload 4, 2) := by decide +kernel
theorem dL_wells_280 : decode cL_wells 280 = .ok (.bipush 7, 2) := by decide +kernel
theorem dL_wells_282 : decode cL_wells 282 = .ok (.iload 17, 2) := by decide +kernel
theorem dL_wells_284 : decode cL_wells 284 = .ok (.imul, 1) := by decide +kernel
theorem dL_wells_285 : decode cL_wells 285 = .ok (.iconst 2, 1) := by decide +kernel
theorem dL_wells_286 : decode cL_wells 286 = .ok (.iadd, 1) := by decide +kernel
theorem dL_wells_287 : decode cL_wells 287 = .ok (.iaload, 1) := by decide +kernel
theorem dL_wells_288 : decode cL_wells 288 = .ok (.bipush 100, 2) := by decide +kernel
theorem dL_wells_290 : decode cL_wells 290 = .ok (.aload 4, 2) := by decide +kernel
theorem dL_wells_292 : decode cL_wells 292 = .ok (.bipush 7, 2) := by decide +kernel
theorem dL_wells_294 : decode cL_wells 294 = .ok (.iload 17, 2) := by decide +kernel
theorem dL_wells_296 : decode cL_wells 296 = .ok (.imul, 1) := by decide +kernel
theorem dL_wells_297 : decode cL_wells 297 = .ok (.iconst 3, 1) := by decide +kernel
theorem dL_wells_298 : decode cL_wells 298 = .ok (.iadd, 1) := by decide +kernel
theorem dL_wells_299 : decode cL_wells 299 = .ok (.iaload, 1) := by decide +kernel
theorem dL_wells_300 : decode cL_wells 300 = .ok (.isub, 1) := by decide +kernel
theorem dL_wells_301 : decode cL_wells 301 = .ok (.imul, 1) := by decide +kernel
theorem dL_wells_302 : decode cL_wells 302 = .ok (.bipush 100, 2) := by decide +kernel
theorem dL_wells_304 : decode cL_wells 304 = .ok (.idiv, 1) := by decide +kernel
theorem dL_wells_305 : decode cL_wells 305 = .ok (.i2l, 1) := by decide +kernel
theorem dL_wells_306 : decode cL_wells 306 = .ok (.lstore 19, 2) := by decide +kernel
theorem dL_wells_308 : decode cL_wells 308 = .ok (.lload 19, 2) := by decide +kernel
theorem dL_wells_310 : decode cL_wells 310 = .ok (.aload_n 0, 1) := by decide +kernel
theorem dL_wells_311 : decode cL_wells 311 = .ok (.iload 18, 2) := by decide +kernel
theorem dL_wells_313 : decode cL_wells 313 = .ok (.laload, 1) := by decide +kernel
theorem dL_wells_314 : decode cL_wells 314 = .ok (.ldc2_w 28, 3) := by decide +kernel
theorem dL_wells_317 : decode cL_wells 317 = .ok (.ldiv, 1) := by decide +kernel
theorem dL_wells_318 : decode cL_wells 318 = .ok (.lcmp, 1) := by decide +kernel
theorem dL_wells_319 : decode cL_wells 319 = .ok (.ifCond .ge 8, 3) := by decide +kernel
theorem dL_wells_322 : decode cL_wells 322 = .ok (.lload 19, 2) := by decide +kernel
theorem dL_wells_324 : decode cL_wells 324 = .ok (.goto 11, 3) := by decide +kernel
theorem dL_wells_327 : decode cL_wells 327 = .ok (.aload_n 0, 1) := by decide +kernel
theorem dL_wells_328 : decode cL_wells 328 = .ok (.iload 18, 2) := by decide +kernel
theorem dL_wells_330 : decode cL_wells 330 = .ok (.laload, 1) := by decide +kernel
theorem dL_wells_331 : decode cL_wells 331 = .ok (.ldc2_w 28, 3) := by decide +kernel
theorem dL_wells_334 : decode cL_wells 334 = .ok (.ldiv, 1) := by decide +kernel
theorem dL_wells_335 : decode cL_wells 335 = .ok (.lstore 19, 2) := by decide +kernel
theorem dL_wells_337 : decode cL_wells 337 = .ok (.iload 18, 2) := by decide +kernel
theorem dL_wells_339 : decode cL_wells 339 = .ok (.aload_n 0, 1) := by decide +kernel
theorem dL_wells_340 : decode cL_wells 340 = .ok (.aload_n 1, 1) := by decide +kernel
theorem dL_wells_341 : decode cL_wells 341 = .ok (.invokestatic 18, 3) := by decide +kernel
theorem dL_wells_344 : decode cL_wells 344 = .ok (.lstore 21, 2) := by decide +kernel
theorem dL_wells_346 : decode cL_wells 346 = .ok (.iload 18, 2) := by decide +kernel
theorem dL_wells_348 : decode cL_wells 348 = .ok (.lload 19, 2) := by decide +kernel
theorem dL_wells_350 : decode cL_wells 350 = .ok (.aload_n 0, 1) := by decide +kernel
theorem dL_wells_351 : decode cL_wells 351 = .ok (.aload_n 1, 1) := by decide +kernel
theorem dL_wells_352 : decode cL_wells 352 = .ok (.aload_n 2, 1) := by decide +kernel
theorem dL_wells_353 : decode cL_wells 353 = .ok (.invokestatic 30, 3) := by decide +kernel
theorem dL_wells_356 : decode cL_wells 356 = .ok (.lstore 23, 2) := by decide +kernel
theorem dL_wells_358 : decode cL_wells 358 = .ok (.aload 5, 2) := by decide +kernel
theorem dL_wells_360 : decode cL_wells 360 = .ok (.iload 17, 2) := by decide +kernel
theorem dL_wells_362 : decode cL_wells 362 = .ok (.dup2, 1) := by decide +kernel
theorem dL_wells_363 : decode cL_wells 363 = .ok (.laload, 1) := by decide +kernel
theorem dL_wells_364 : decode cL_wells 364 = .ok (.lload 23, 2) := by decide +kernel
theorem dL_wells_366 : decode cL_wells 366 = .ok (.ladd, 1) := by decide +kernel
theorem dL_wells_367 : decode cL_wells 367 = .ok (.lastore, 1) := by decide +kernel
theorem dL_wells_368 : decode cL_wells 368 = .ok (.aload 4, 2) := by decide +kernel
theorem dL_wells_370 : decode cL_wells 370 = .ok (.bipush 7, 2) := by decide +kernel
theorem dL_wells_372 : decode cL_wells 372 = .ok (.iload 17, 2) := by decide +kernel
theorem dL_wells_374 : decode cL_wells 374 = .ok (.imul, 1) := by decide +kernel
theorem dL_wells_375 : decode cL_wells 375 = .ok (.bipush 6, 2) := by decide +kernel
theorem dL_wells_377 : decode cL_wells 377 = .ok (.iadd, 1) := by decide +kernel
theorem dL_wells_378 : decode cL_wells 378 = .ok (.lload 23, 2) := by decide +kernel
theorem dL_wells_380 : decode cL_wells 380 = .ok (.lconst 0, 1) := by decide +kernel
theorem dL_wells_381 : decode cL_wells 381 = .ok (.lcmp, 1) := by decide +kernel
theorem dL_wells_382 : decode cL_wells 382 = .ok (.ifCond .le 26, 3) := by decide +kernel
theorem dL_wells_385 : decode cL_wells 385 = .ok (.aload 4, 2) := by decide +kernel
theorem dL_wells_387 : decode cL_wells 387 = .ok (.bipush 7, 2) := by decide +kernel
theorem dL_wells_389 : decode cL_wells 389 = .ok (.iload 17, 2) := by decide +kernel
theorem dL_wells_391 : decode cL_wells 391 = .ok (.imul, 1) := by decide +kernel
theorem dL_wells_392 : decode cL_wells 392 = .ok (.bipush 6, 2) := by decide +kernel
theorem dL_wells_394 : decode cL_wells 394 = .ok (.iadd, 1) := by decide +kernel
theorem dL_wells_395 : decode cL_wells 395 = .ok (.iaload, 1) := by decide +kernel
theorem dL_wells_396 : decode cL_wells 396 = .ok (.ifCond .ne 12, 3) := by decide +kernel
theorem dL_wells_399 : decode cL_wells 399 = .ok (.aload 10, 2) := by decide +kernel
theorem dL_wells_401 : decode cL_wells 401 = .ok (.iconst 0, 1) := by decide +kernel
theorem dL_wells_402 : decode cL_wells 402 = .ok (.iaload, 1) := by decide +kernel
theorem dL_wells_403 : decode cL_wells 403 = .ok (.iconst 1, 1) := by decide +kernel
theorem dL_wells_404 : decode cL_wells 404 = .ok (.iadd, 1) := by decide +kernel
theorem dL_wells_405 : decode cL_wells 405 = .ok (.goto 14, 3) := by decide +kernel
theorem dL_wells_408 : decode cL_wells 408 = .ok (.aload 4, 2) := by decide +kernel
theorem dL_wells_410 : decode cL_wells 410 = .ok (.bipush 7, 2) := by decide +kernel
theorem dL_wells_412 : decode cL_wells 412 = .ok (.iload 17, 2) := by decide +kernel
theorem dL_wells_414 : decode cL_wells 414 = .ok (.imul, 1) := by decide +kernel
theorem dL_wells_415 : decode cL_wells 415 = .ok (.bipush 6, 2) := by decide +kernel
theorem dL_wells_417 : decode cL_wells 417 = .ok (.iadd, 1) := by decide +kernel
theorem dL_wells_418 : decode cL_wells 418 = .ok (.iaload, 1) := by decide +kernel
theorem dL_wells_419 : decode cL_wells 419 = .ok (.iastore, 1) := by decide +kernel
theorem dL_wells_420 : decode cL_wells 420 = .ok (.lload 21, 2) := by decide +kernel
theorem dL_wells_422 : decode cL_wells 422 = .ok (.ldc2_w 34, 3) := by decide +kernel
theorem dL_wells_425 : decode cL_wells 425 = .ok (.lcmp, 1) := by decide +kernel
theorem dL_wells_426 : decode cL_wells 426 = .ok (.ifCond .ge 7, 3) := by decide +kernel
theorem dL_wells_429 : decode cL_wells 429 = .ok (.lconst 0, 1) := by decide +kernel
theorem dL_wells_430 : decode cL_wells 430 = .ok (.goto 31, 3) := by decide +kernel
theorem dL_wells_433 : decode cL_wells 433 = .ok (.lload 19, 2) := by decide +kernel
theorem dL_wells_435 : decode cL_wells 435 = .ok (.lload 21, 2) := by decide +kernel
theorem dL_wells_437 : decode cL_wells 437 = .ok (.ldc2_w 36, 3) := by decide +kernel
theorem dL_wells_440 : decode cL_wells 440 = .ok (.lcmp, 1) := by decide +kernel
theorem dL_wells_441 : decode cL_wells 441 = .ok (.ifCond .le 9, 3) := by decide +kernel
theorem dL_wells_444 : decode cL_wells 444 = .ok (.ldc2_w 38, 3) := by decide +kernel
theorem dL_wells_447 : decode cL_wells 447 = .ok (.goto 9, 3) := by decide +kernel
theorem dL_wells_450 : decode cL_wells 450 = .ok (.lload 21, 2) := by decide +kernel
theorem dL_wells_452 : decode cL_wells 452 = .ok (.ldc2_w 40, 3) := by decide +kernel
theorem dL_wells_455 : decode cL_wells 455 = .ok (.lsub, 1) := by decide +kernel
theorem dL_wells_456 : decode cL_wells 456 = .ok (.lmul, 1) := by decide +kernel
theorem dL_wells_457 : decode cL_wells 457 = .ok (.ldc2_w 42, 3) := by decide +kernel
theorem dL_wells_460 : decode cL_wells 460 = .ok (.ldiv, 1) := by decide +kernel
theorem dL_wells_461 : decode cL_wells 461 = .ok (.lstore 25, 2) := by decide +kernel
theorem dL_wells_463 : decode cL_wells 463 = .ok (.lload 11, 2) := by decide +kernel
theorem dL_wells_465 : decode cL_wells 465 = .ok (.lload 19, 2) := by decide +kernel
theorem dL_wells_467 : decode cL_wells 467 = .ok (.lload 25, 2) := by decide +kernel
theorem dL_wells_469 : decode cL_wells 469 = .ok (.lsub, 1) := by decide +kernel
theorem dL_wells_470 : decode cL_wells 470 = .ok (.ladd, 1) := by decide +kernel
theorem dL_wells_471 : decode cL_wells 471 = .ok (.lstore 11, 2) := by decide +kernel
theorem dL_wells_473 : decode cL_wells 473 = .ok (.lload 13, 2) := by decide +kernel
theorem dL_wells_475 : decode cL_wells 475 = .ok (.lload 19, 2) := by decide +kernel
theorem dL_wells_477 : decode cL_wells 477 = .ok (.lload 25, 2) := by decide +kernel
theorem dL_wells_479 : decode cL_wells 479 = .ok (.lsub, 1) := by decide +kernel
theorem dL_wells_480 : decode cL_wells 480 = .ok (.lload 21, 2) := by decide +kernel
theorem dL_wells_482 : decode cL_wells 482 = .ok (.ldc2_w 40, 3) := by decide +kernel
theorem dL_wells_485 : decode cL_wells 485 = .ok (.lcmp, 1) := by decide +kernel
theorem dL_wells_486 : decode cL_wells 486 = .ok (.ifCond .le 9, 3) := by decide +kernel
theorem dL_wells_489 : decode cL_wells 489 = .ok (.ldc2_w 40, 3) := by decide +kernel
theorem dL_wells_492 : decode cL_wells 492 = .ok (.goto 5, 3) := by decide +kernel
theorem dL_wells_495 : decode cL_wells 495 = .ok (.lload 21, 2) := by decide +kernel
theorem dL_wells_497 : decode cL_wells 497 = .ok (.lmul, 1) := by decide +kernel
theorem dL_wells_498 : decode cL_wells 498 = .ok (.ladd, 1) := by decide +kernel
theorem dL_wells_499 : decode cL_wells 499 = .ok (.lstore 13, 2) := by decide +kernel
theorem dL_wells_501 : decode cL_wells 501 = .ok (.aload 9, 2) := by decide +kernel
theorem dL_wells_503 : decode cL_wells 503 = .ok (.iconst 1, 1) := by decide +kernel
theorem dL_wells_504 : decode cL_wells 504 = .ok (.dup2, 1) := by decide +kernel
theorem dL_wells_505 : decode cL_wells 505 = .ok (.laload, 1) := by decide +kernel
theorem dL_wells_506 : decode cL_wells 506 = .ok (.lload 25, 2) := by decide +kernel
theorem dL_wells_508 : decode cL_wells 508 = .ok (.ladd, 1) := by decide +kernel
theorem dL_wells_509 : decode cL_wells 509 = .ok (.lastore, 1) := by decide +kernel
theorem dL_wells_510 : decode cL_wells 510 = .ok (.aload 9, 2) := by decide +kernel
theorem dL_wells_512 : decode cL_wells 512 = .ok (.bipush 6, 2) := by decide +kernel
theorem dL_wells_514 : decode cL_wells 514 = .ok (.dup2, 1) := by decide +kernel
theorem dL_wells_515 : decode cL_wells 515 = .ok (.laload, 1) := by decide +kernel
theorem dL_wells_516 : decode cL_wells 516 = .ok (.lload 25, 2) := by decide +kernel
theorem dL_wells_518 : decode cL_wells 518 = .ok (.lload 21, 2) := by decide +kernel
theorem dL_wells_520 : decode cL_wells 520 = .ok (.ldc2_w 44, 3) := by decide +kernel
theorem dL_wells_523 : decode cL_wells 523 = .ok (.lcmp, 1) := by decide +kernel
theorem dL_wells_524 : decode cL_wells 524 = .ok (.ifCond .ge 7, 3) := by decide +kernel
theorem dL_wells_527 : decode cL_wells 527 = .ok (.lconst 0, 1) := by decide +kernel
theorem dL_wells_528 : decode cL_wells 528 = .ok (.goto 9, 3) := by decide +kernel
theorem dL_wells_531 : decode cL_wells 531 = .ok (.lload 21, 2) := by decide +kernel
theorem dL_wells_533 : decode cL_wells 533 = .ok (.ldc2_w 44, 3) := by decide +kernel
theorem dL_wells_536 : decode cL_wells 536 = .ok (.lsub, 1) := by decide +kernel
theorem dL_wells_537 : decode cL_wells 537 = .ok (.lmul, 1) := by decide +kernel
theorem dL_wells_538 : decode cL_wells 538 = .ok (.ldc2_w 28, 3) := by decide +kernel
theorem dL_wells_541 : decode cL_wells 541 = .ok (.ldiv, 1) := by decide +kernel
theorem dL_wells_542 : decode cL_wells 542 = .ok (.ladd, 1) := by decide +kernel
theorem dL_wells_543 : decode cL_wells 543 = .ok (.lastore, 1) := by decide +kernel
theorem dL_wells_544 : decode cL_wells 544 = .ok (.aload 9, 2) := by decide +kernel
theorem dL_wells_546 : decode cL_wells 546 = .ok (.bipush 7, 2) := by decide +kernel
theorem dL_wells_548 : decode cL_wells 548 = .ok (.dup2, 1) := by decide +kernel
theorem dL_wells_549 : decode cL_wells 549 = .ok (.laload, 1) := by decide +kernel
theorem dL_wells_550 : decode cL_wells 550 = .ok (.lload 19, 2) := by decide +kernel
theorem dL_wells_552 : decode cL_wells 552 = .ok (.lload 21, 2) := by decide +kernel
theorem dL_wells_554 : decode cL_wells 554 = .ok (.lmul, 1) := by decide +kernel
theorem dL_wells_555 : decode cL_wells 555 = .ok (.ladd, 1) := by decide +kernel
theorem dL_wells_556 : decode cL_wells 556 = .ok (.lastore, 1) := by decide +kernel
theorem dL_wells_557 : decode cL_wells 557 = .ok (.aload 4, 2) := by decide +kernel
theorem dL_wells_559 : decode cL_wells 559 = .ok (.bipush 7, 2) := by decide +kernel
theorem dL_wells_561 : decode cL_wells 561 = .ok (.iload 17, 2) := by decide +kernel
theorem dL_wells_563 : decode cL_wells 563 = .ok (.imul, 1) := by decide +kernel
theorem dL_wells_564 : decode cL_wells 564 = .ok (.iconst 4, 1) := by decide +kernel
theorem dL_wells_565 : decode cL_wells 565 = .ok (.iadd, 1) := by decide +kernel
theorem dL_wells_566 : decode cL_wells 566 = .ok (.lload 19, 2) := by decide +kernel
theorem dL_wells_568 : decode cL_wells 568 = .ok (.l2i, 1) := by decide +kernel
theorem dL_wells_569 : decode cL_wells 569 = .ok (.iastore, 1) := by decide +kernel
theorem dL_wells_570 : decode cL_wells 570 = .ok (.aload 4, 2) := by decide +kernel
theorem dL_wells_572 : decode cL_wells 572 = .ok (.bipush 7, 2) := by decide +kernel
theorem dL_wells_574 : decode cL_wells 574 = .ok (.iload 17, 2) := by decide +kernel
theorem dL_wells_576 : decode cL_wells 576 = .ok (.imul, 1) := by decide +kernel
theorem dL_wells_577 : decode cL_wells 577 = .ok (.iconst 3, 1) := by decide +kernel
theorem dL_wells_578 : decode cL_wells 578 = .ok (.iadd, 1) := by decide +kernel
theorem dL_wells_579 : decode cL_wells 579 = .ok (.iaload, 1) := by decide +kernel
theorem dL_wells_580 : decode cL_wells 580 = .ok (.iconst 1, 1) := by decide +kernel
theorem dL_wells_581 : decode cL_wells 581 = .ok (.iadd, 1) := by decide +kernel
theorem dL_wells_582 : decode cL_wells 582 = .ok (.lload 19, 2) := by decide +kernel
theorem dL_wells_584 : decode cL_wells 584 = .ok (.l2i, 1) := by decide +kernel
theorem dL_wells_585 : decode cL_wells 585 = .ok (.sipush 500, 3) := by decide +kernel
theorem dL_wells_588 : decode cL_wells 588 = .ok (.idiv, 1) := by decide +kernel
theorem dL_wells_589 : decode cL_wells 589 = .ok (.iadd, 1) := by decide +kernel
theorem dL_wells_590 : decode cL_wells 590 = .ok (.istore 27, 2) := by decide +kernel
theorem dL_wells_592 : decode cL_wells 592 = .ok (.aload 4, 2) := by decide +kernel
theorem dL_wells_594 : decode cL_wells 594 = .ok (.bipush 7, 2) := by decide +kernel
theorem dL_wells_596 : decode cL_wells 596 = .ok (.iload 17, 2) := by decide +kernel
theorem dL_wells_598 : decode cL_wells 598 = .ok (.imul, 1) := by decide +kernel
theorem dL_wells_599 : decode cL_wells 599 = .ok (.iconst 3, 1) := by decide +kernel
theorem dL_wells_600 : decode cL_wells 600 = .ok (.iadd, 1) := by decide +kernel
theorem dL_wells_601 : decode cL_wells 601 = .ok (.lload 21, 2) := by decide +kernel
theorem dL_wells_603 : decode cL_wells 603 = .ok (.ldc2_w 46, 3) := by decide +kernel
theorem dL_wells_606 : decode cL_wells 606 = .ok (.lcmp, 1) := by decide +kernel
theorem dL_wells_607 : decode cL_wells 607 = .ok (.ifCond .lt 10, 3) := by decide +kernel
theorem dL_wells_610 : decode cL_wells 610 = .ok (.lload 19, 2) := by decide +kernel
theorem dL_wells_612 : decode cL_wells 612 = .ok (.lconst 0, 1) := by decide +kernel
theorem dL_wells_613 : decode cL_wells 613 = .ok (.lcmp, 1) := by decide +kernel
theorem dL_wells_614 : decode cL_wells 614 = .ok (.ifCond .ne 16, 3) := by decide +kernel
theorem dL_wells_617 : decode cL_wells 617 = .ok (.aload 4, 2) := by decide +kernel
theorem dL_wells_619 : decode cL_wells 619 = .ok (.bipush 7, 2) := by decide +kernel
theorem dL_wells_621 : decode cL_wells 621 = .ok (.iload 17, 2) := by decide +kernel
theorem dL_wells_623 : decode cL_wells 623 = .ok (.imul, 1) := by decide +kernel
theorem dL_wells_624 : decode cL_wells 624 = .ok (.iconst 3, 1) := by decide +kernel
theorem dL_wells_625 : decode cL_wells 625 = .ok (.iadd, 1) := by decide +kernel
theorem dL_wells_626 : decode cL_wells 626 = .ok (.iaload, 1) := by decide +kernel
theorem dL_wells_627 : decode cL_wells 627 = .ok (.goto 17, 3) := by decide +kernel
theorem dL_wells_630 : decode cL_wells 630 = .ok (.iload 27, 2) := by decide +kernel
theorem dL_wells_632 : decode cL_wells 632 = .ok (.bipush 100, 2) := by decide +kernel
theorem dL_wells_634 : decode cL_wells 634 = .ok (.if_icmp .le 8, 3) := by decide +kernel
theorem dL_wells_637 : decode cL_wells 637 = .ok (.bipush 100, 2) := by decide +kernel
theorem dL_wells_639 : decode cL_wells 639 = .ok (.goto 5, 3) := by decide +kernel
theorem dL_wells_642 : decode cL_wells 642 = .ok (.iload 27, 2) := by decide +kernel
theorem dL_wells_644 : decode cL_wells 644 = .ok (.iastore, 1) := by decide +kernel
theorem dL_wells_645 : decode cL_wells 645 = .ok (.iconst 0, 1) := by decide +kernel
theorem dL_wells_646 : decode cL_wells 646 = .ok (.istore 28, 2) := by decide +kernel
theorem dL_wells_648 : decode cL_wells 648 = .ok (.iload 28, 2) := by decide +kernel
theorem dL_wells_650 : decode cL_wells 650 = .ok (.aload 10, 2) := by decide +kernel
theorem dL_wells_652 : decode cL_wells 652 = .ok (.iconst 2, 1) := by decide +kernel
theorem dL_wells_653 : decode cL_wells 653 = .ok (.iaload, 1) := by decide +kernel
theorem dL_wells_654 : decode cL_wells 654 = .ok (.if_icmp .ge 44, 3) := by decide +kernel
theorem dL_wells_657 : decode cL_wells 657 = .ok (.aload 7, 2) := by decide +kernel
theorem dL_wells_659 : decode cL_wells 659 = .ok (.bipush 8, 2) := by decide +kernel
theorem dL_wells_661 : decode cL_wells 661 = .ok (.iload 28, 2) := by decide +kernel
theorem dL_wells_663 : decode cL_wells 663 = .ok (.imul, 1) := by decide +kernel
theorem dL_wells_664 : decode cL_wells 664 = .ok (.iload 17, 2) := by decide +kernel
theorem dL_wells_666 : decode cL_wells 666 = .ok (.iadd, 1) := by decide +kernel
theorem dL_wells_667 : decode cL_wells 667 = .ok (.dup2, 1) := by decide +kernel
theorem dL_wells_668 : decode cL_wells 668 = .ok (.laload, 1) := by decide +kernel
theorem dL_wells_669 : decode cL_wells 669 = .ok (.iload 18, 2) := by decide +kernel
theorem dL_wells_671 : decode cL_wells 671 = .ok (.aload 6, 2) := by decide +kernel
theorem dL_wells_673 : decode cL_wells 673 = .ok (.iconst 5, 1) := by decide +kernel
theorem dL_wells_674 : decode cL_wells 674 = .ok (.iload 28, 2) := by decide +kernel
theorem dL_wells_676 : decode cL_wells 676 = .ok (.imul, 1) := by decide +kernel
theorem dL_wells_677 : decode cL_wells 677 = .ok (.iaload, 1) := by decide +kernel
theorem dL_wells_678 : decode cL_wells 678 = .ok (.invokestatic 24, 3) := by decide +kernel
theorem dL_wells_681 : decode cL_wells 681 = .ok (.ifCond .eq 8, 3) := by decide +kernel
theorem dL_wells_684 : decode cL_wells 684 = .ok (.lload 19, 2) := by decide +kernel
theorem dL_wells_686 : decode cL_wells 686 = .ok (.goto 4, 3) := by decide +kernel
theorem dL_wells_689 : decode cL_wells 689 = .ok (.lconst 0, 1) := by decide +kernel
theorem dL_wells_690 : decode cL_wells 690 = .ok (.ladd, 1) := by decide +kernel
theorem dL_wells_691 : decode cL_wells 691 = .ok (.lastore, 1) := by decide +kernel
theorem dL_wells_692 : decode cL_wells 692 = .ok (.iinc 28 1, 3) := by decide +kernel
theorem dL_wells_695 : decode cL_wells 695 = .ok (.goto (-47), 3) := by decide +kernel
theorem dL_wells_698 : decode cL_wells 698 = .ok (.iinc 17 1, 3) := by decide +kernel
theorem dL_wells_701 : decode cL_wells 701 = .ok (.goto (-515), 3) := by decide +kernel
theorem dL_wells_704 : decode cL_wells 704 = .ok (.lload 11, 2) := by decide +kernel
theorem dL_wells_706 : decode cL_wells 706 = .ok (.lconst 0, 1) := by decide +kernel
theorem dL_wells_707 : decode cL_wells 707 = .ok (.lcmp, 1) := by decide +kernel
theorem dL_wells_708 : decode cL_wells 708 = .ok (.ifCond .ne 7, 3) := by decide +kernel
theorem dL_wells_711 : decode cL_wells 711 = .ok (.lconst 0, 1) := by decide +kernel
theorem dL_wells_712 : decode cL_wells 712 = .ok (.goto 8, 3) := by decide +kernel
theorem dL_wells_715 : decode cL_wells 715 = .ok (.lload 13, 2) := by decide +kernel
theorem dL_wells_717 : decode cL_wells 717 = .ok (.lload 11, 2) := by decide +kernel
theorem dL_wells_719 : decode cL_wells 719 = .ok (.ldiv, 1) := by decide +kernel
theorem dL_wells_720 : decode cL_wells 720 = .ok (.lstore 17, 2) := by decide +kernel
theorem dL_wells_722 : decode cL_wells 722 = .ok (.iconst 0, 1) := by decide +kernel
theorem dL_wells_723 : decode cL_wells 723 = .ok (.istore 19, 2) := by decide +kernel
theorem dL_wells_725 : decode cL_wells 725 = .ok (.iload 19, 2) := by decide +kernel
theorem dL_wells_727 : decode cL_wells 727 = .ok (.aload 10, 2) := by decide +kernel
theorem dL_wells_729 : decode cL_wells 729 = .ok (.iconst 3, 1) := by decide +kernel
theorem dL_wells_730 : decode cL_wells 730 = .ok (.iaload, 1) := by decide +kernel
theorem dL_wells_731 : decode cL_wells 731 = .ok (.if_icmp .ge 86, 3) := by decide +kernel
theorem dL_wells_734 : decode cL_wells 734 = .ok (.lload 11, 2) := by decide +kernel
theorem dL_wells_736 : decode cL_wells 736 = .ok (.lconst 0, 1) := by decide +kernel
theorem dL_wells_737 : decode cL_wells 737 = .ok (.lcmp, 1) := by decide +kernel
theorem dL_wells_738 : decode cL_wells 738 = .ok (.ifCond .eq 17, 3) := by decide +kernel
theorem dL_wells_741 : decode cL_wells 741 = .ok (.lload 17, 2) := by decide +kernel
theorem dL_wells_743 : decode cL_wells 743 = .ok (.aload 8, 2) := by decide +kernel
theorem dL_wells_745 : decode cL_wells 745 = .ok (.iconst 2, 1) := by decide +kernel
theorem dL_wells_746 : decode cL_wells 746 = .ok (.iload 19, 2) := by decide +kernel
theorem dL_wells_748 : decode cL_wells 748 = .ok (.imul, 1) := by decide +kernel
theorem dL_wells_749 : decode cL_wells 749 = .ok (.iaload, 1) := by decide +kernel
theorem dL_wells_750 : decode cL_wells 750 = .ok (.i2l, 1) := by decide +kernel
theorem dL_wells_751 : decode cL_wells 751 = .ok (.lcmp, 1) := by decide +kernel
theorem dL_wells_752 : decode cL_wells 752 = .ok (.ifCond .ge 7, 3) := by decide +kernel
theorem dL_wells_755 : decode cL_wells 755 = .ok (.lconst 0, 1) := by decide +kernel
theorem dL_wells_756 : decode cL_wells 756 = .ok (.goto 34, 3) := by decide +kernel
theorem dL_wells_759 : decode cL_wells 759 = .ok (.lload 17, 2) := by decide +kernel
theorem dL_wells_761 : decode cL_wells 761 = .ok (.aload 8, 2) := by decide +kernel
theorem dL_wells_763 : decode cL_wells 763 = .ok (.iconst 2, 1) := by decide +kernel
theorem dL_wells_764 : decode cL_wells 764 = .ok (.iload 19, 2) := by decide +kernel
theorem dL_wells_766 : decode cL_wells 766 = .ok (.imul, 1) := by decide +kernel
theorem dL_wells_767 : decode cL_wells 767 = .ok (.iconst 1, 1) := by decide +kernel
theorem dL_wells_768 : decode cL_wells 768 = .ok (.iadd, 1) := by decide +kernel
theorem dL_wells_769 : decode cL_wells 769 = .ok (.iaload, 1) := by decide +kernel
theorem dL_wells_770 : decode cL_wells 770 = .ok (.i2l, 1) := by decide +kernel
theorem dL_wells_771 : decode cL_wells 771 = .ok (.lcmp, 1) := by decide +kernel
theorem dL_wells_772 : decode cL_wells 772 = .ok (.ifCond .ge 8, 3) := by decide +kernel
theorem dL_wells_775 : decode cL_wells 775 = .ok (.lload 17, 2) := by decide +kernel
theorem dL_wells_777 : decode cL_wells 777 = .ok (.goto 13, 3) := by decide +kernel
theorem dL_wells_780 : decode cL_wells 780 = .ok (.aload 8, 2) := by decide +kernel
theorem dL_wells_782 : decode cL_wells 782 = .ok (.iconst 2, 1) := by decide +kernel
theorem dL_wells_783 : decode cL_wells 783 = .ok (.iload 19, 2) := by decide +kernel
theorem dL_wells_785 : decode cL_wells 785 = .ok (.imul, 1) := by decide +kernel
theorem dL_wells_786 : decode cL_wells 786 = .ok (.iconst 1, 1) := by decide +kernel
theorem dL_wells_787 : decode cL_wells 787 = .ok (.iadd, 1) := by decide +kernel
theorem dL_wells_788 : decode cL_wells 788 = .ok (.iaload, 1) := by decide +kernel
theorem dL_wells_789 : decode cL_wells 789 = .ok (.i2l, 1) := by decide +kernel
theorem dL_wells_790 : decode cL_wells 790 = .ok (.lstore 20, 2) := by decide +kernel
theorem dL_wells_792 : decode cL_wells 792 = .ok (.aload 9, 2) := by decide +kernel
theorem dL_wells_794 : decode cL_wells 794 = .ok (.iconst 5, 1) := by decide +kernel
theorem dL_wells_795 : decode cL_wells 795 = .ok (.dup2, 1) := by decide +kernel
theorem dL_wells_796 : decode cL_wells 796 = .ok (.laload, 1) := by decide +kernel
theorem dL_wells_797 : decode cL_wells 797 = .ok (.lload 20, 2) := by decide +kernel
theorem dL_wells_799 : decode cL_wells 799 = .ok (.lload 11, 2) := by decide +kernel
theorem dL_wells_801 : decode cL_wells 801 = .ok (.lmul, 1) := by decide +kernel
theorem dL_wells_802 : decode cL_wells 802 = .ok (.ladd, 1) := by decide +kernel
theorem dL_wells_803 : decode cL_wells 803 = .ok (.lastore, 1) := by decide +kernel
theorem dL_wells_804 : decode cL_wells 804 = .ok (.lload 17, 2) := by decide +kernel
theorem dL_wells_806 : decode cL_wells 806 = .ok (.lload 20, 2) := by decide +kernel
theorem dL_wells_808 : decode cL_wells 808 = .ok (.lsub, 1) := by decide +kernel
theorem dL_wells_809 : decode cL_wells 809 = .ok (.lstore 17, 2) := by decide +kernel
theorem dL_wells_811 : decode cL_wells 811 = .ok (.iinc 19 1, 3) := by decide +kernel
theorem dL_wells_814 : decode cL_wells 814 = .ok (.goto (-89), 3) := by decide +kernel
theorem dL_wells_817 : decode cL_wells 817 = .ok (.aload 9, 2) := by decide +kernel
theorem dL_wells_819 : decode cL_wells 819 = .ok (.iconst 2, 1) := by decide +kernel
theorem dL_wells_820 : decode cL_wells 820 = .ok (.dup2, 1) := by decide +kernel
theorem dL_wells_821 : decode cL_wells 821 = .ok (.laload, 1) := by decide +kernel
theorem dL_wells_822 : decode cL_wells 822 = .ok (.lload 11, 2) := by decide +kernel
theorem dL_wells_824 : decode cL_wells 824 = .ok (.ladd, 1) := by decide +kernel
theorem dL_wells_825 : decode cL_wells 825 = .ok (.lastore, 1) := by decide +kernel
theorem dL_wells_826 : decode cL_wells 826 = .ok (.aload 10, 2) := by decide +kernel
theorem dL_wells_828 : decode cL_wells 828 = .ok (.iconst 1, 1) := by decide +kernel
theorem dL_wells_829 : decode cL_wells 829 = .ok (.iaload, 1) := by decide +kernel
theorem dL_wells_830 : decode cL_wells 830 = .ok (.iconst 1, 1) := by decide +kernel
theorem dL_wells_831 : decode cL_wells 831 = .ok (.isub, 1) := by decide +kernel
theorem dL_wells_832 : decode cL_wells 832 = .ok (.istore 19, 2) := by decide +kernel
theorem dL_wells_834 : decode cL_wells 834 = .ok (.iload 19, 2) := by decide +kernel
theorem dL_wells_836 : decode cL_wells 836 = .ok (.ifCond .lt 119, 3) := by decide +kernel
theorem dL_wells_839 : decode cL_wells 839 = .ok (.aload 4, 2) := by decide +kernel
theorem dL_wells_841 : decode cL_wells 841 = .ok (.bipush 7, 2) := by decide +kernel
theorem dL_wells_843 : decode cL_wells 843 = .ok (.iload 19, 2) := by decide +kernel
theorem dL_wells_845 : decode cL_wells 845 = .ok (.imul, 1) := by decide +kernel
theorem dL_wells_846 : decode cL_wells 846 = .ok (.iconst 1, 1) := by decide +kernel
theorem dL_wells_847 : decode cL_wells 847 = .ok (.iadd, 1) := by decide +kernel
theorem dL_wells_848 : decode cL_wells 848 = .ok (.iaload, 1) := by decide +kernel
theorem dL_wells_849 : decode cL_wells 849 = .ok (.iconst 1, 1) := by decide +kernel
theorem dL_wells_850 : decode cL_wells 850 = .ok (.if_icmp .ne 99, 3) := by decide +kernel
theorem dL_wells_853 : decode cL_wells 853 = .ok (.aload 4, 2) := by decide +kernel
theorem dL_wells_855 : decode cL_wells 855 = .ok (.bipush 7, 2) := by decide +kernel
theorem dL_wells_857 : decode cL_wells 857 = .ok (.iload 19, 2) := by decide +kernel
theorem dL_wells_859 : decode cL_wells 859 = .ok (.imul, 1) := by decide +kernel
theorem dL_wells_860 : decode cL_wells 860 = .ok (.iconst 5, 1) := by decide +kernel
theorem dL_wells_861 : decode cL_wells 861 = .ok (.iadd, 1) := by decide +kernel
theorem dL_wells_862 : decode cL_wells 862 = .ok (.iaload, 1) := by decide +kernel
theorem dL_wells_863 : decode cL_wells 863 = .ok (.ifCond .ne 86, 3) := by decide +kernel
theorem dL_wells_866 : decode cL_wells 866 = .ok (.lload 15, 2) := by decide +kernel
theorem dL_wells_868 : decode cL_wells 868 = .ok (.lconst 0, 1) := by decide +kernel
theorem dL_wells_869 : decode cL_wells 869 = .ok (.lcmp, 1) := by decide +kernel
theorem dL_wells_870 : decode cL_wells 870 = .ok (.ifCond .le 79, 3) := by decide +kernel
theorem dL_wells_873 : decode cL_wells 873 = .ok (.lload 11, 2) := by decide +kernel
theorem dL_wells_875 : decode cL_wells 875 = .ok (.aload 4, 2) := by decide +kernel
theorem dL_wells_877 : decode cL_wells 877 = .ok (.bipush 7, 2) := by decide +kernel
theorem dL_wells_879 : decode cL_wells 879 = .ok (.iload 19, 2) := by decide +kernel
theorem dL_wells_881 : decode cL_wells 881 = .ok (.imul, 1) := by decide +kernel
theorem dL_wells_882 : decode cL_wells 882 = .ok (.iconst 2, 1) := by decide +kernel
theorem dL_wells_883 : decode cL_wells 883 = .ok (.iadd, 1) := by decide +kernel
theorem dL_wells_884 : decode cL_wells 884 = .ok (.iaload, 1) := by decide +kernel
theorem dL_wells_885 : decode cL_wells 885 = .ok (.i2l, 1) := by decide +kernel
theorem dL_wells_886 : decode cL_wells 886 = .ok (.lmul, 1) := by decide +kernel
theorem dL_wells_887 : decode cL_wells 887 = .ok (.lload 15, 2) := by decide +kernel
theorem dL_wells_889 : decode cL_wells 889 = .ok (.ldiv, 1) := by decide +kernel
theorem dL_wells_890 : decode cL_wells 890 = .ok (.lstore 20, 2) := by decide +kernel
theorem dL_wells_892 : decode cL_wells 892 = .ok (.aload 4, 2) := by decide +kernel
theorem dL_wells_894 : decode cL_wells 894 = .ok (.bipush 7, 2) := by decide +kernel
theorem dL_wells_896 : decode cL_wells 896 = .ok (.iload 19, 2) := by decide +kernel
theorem dL_wells_898 : decode cL_wells 898 = .ok (.imul, 1) := by decide +kernel
theorem dL_wells_899 : decode cL_wells 899 = .ok (.iconst 4, 1) := by decide +kernel
theorem dL_wells_900 : decode cL_wells 900 = .ok (.iadd, 1) := by decide +kernel
theorem dL_wells_901 : decode cL_wells 901 = .ok (.aload_n 3, 1) := by decide +kernel
theorem dL_wells_902 : decode cL_wells 902 = .ok (.aload 4, 2) := by decide +kernel
theorem dL_wells_904 : decode cL_wells 904 = .ok (.bipush 7, 2) := by decide +kernel
theorem dL_wells_906 : decode cL_wells 906 = .ok (.iload 19, 2) := by decide +kernel
theorem dL_wells_908 : decode cL_wells 908 = .ok (.imul, 1) := by decide +kernel
theorem dL_wells_909 : decode cL_wells 909 = .ok (.iaload, 1) := by decide +kernel
theorem dL_wells_910 : decode cL_wells 910 = .ok (.laload, 1) := by decide +kernel
theorem dL_wells_911 : decode cL_wells 911 = .ok (.ldc2_w 48, 3) := by decide +kernel
theorem dL_wells_914 : decode cL_wells 914 = .ok (.lcmp, 1) := by decide +kernel
theorem dL_wells_915 : decode cL_wells 915 = .ok (.ifCond .le 12, 3) := by decide +kernel
theorem dL_wells_918 : decode cL_wells 918 = .ok (.lload 20, 2) := by decide +kernel
theorem dL_wells_920 : decode cL_wells 920 = .ok (.ldc2_w 50, 3) := by decide +kernel
theorem dL_wells_923 : decode cL_wells 923 = .ok (.ldiv, 1) := by decide +kernel
theorem dL_wells_924 : decode cL_wells 924 = .ok (.goto 5, 3) := by decide +kernel
theorem dL_wells_927 : decode cL_wells 927 = .ok (.lload 20, 2) := by decide +kernel
theorem dL_wells_929 : decode cL_wells 929 = .ok (.l2i, 1) := by decide +kernel
theorem dL_wells_930 : decode cL_wells 930 = .ok (.iastore, 1) := by decide +kernel
theorem dL_wells_931 : decode cL_wells 931 = .ok (.aload 9, 2) := by decide +kernel
theorem dL_wells_933 : decode cL_wells 933 = .ok (.iconst 2, 1) := by decide +kernel
theorem dL_wells_934 : decode cL_wells 934 = .ok (.dup2, 1) := by decide +kernel
theorem dL_wells_935 : decode cL_wells 935 = .ok (.laload, 1) := by decide +kernel
theorem dL_wells_936 : decode cL_wells 936 = .ok (.aload 4, 2) := by decide +kernel
theorem dL_wells_938 : decode cL_wells 938 = .ok (.bipush 7, 2) := by decide +kernel
theorem dL_wells_940 : decode cL_wells 940 = .ok (.iload 19, 2) := by decide +kernel
theorem dL_wells_942 : decode cL_wells 942 = .ok (.imul, 1) := by decide +kernel
theorem dL_wells_943 : decode cL_wells 943 = .ok (.iconst 4, 1) := by decide +kernel
theorem dL_wells_944 : decode cL_wells 944 = .ok (.iadd, 1) := by decide +kernel
theorem dL_wells_945 : decode cL_wells 945 = .ok (.iaload, 1) := by decide +kernel
theorem dL_wells_946 : decode cL_wells 946 = .ok (.i2l, 1) := by decide +kernel
theorem dL_wells_947 : decode cL_wells 947 = .ok (.lsub, 1) := by decide +kernel
theorem dL_wells_948 : decode cL_wells 948 = .ok (.lastore, 1) := by decide +kernel
theorem dL_wells_949 : decode cL_wells 949 = .ok (.iinc 19 (-1), 3) := by decide +kernel
theorem dL_wells_952 : decode cL_wells 952 = .ok (.goto (-118), 3) := by decide +kernel
theorem dL_wells_955 : decode cL_wells 955 = .ok (.iconst 0, 1) := by decide +kernel
theorem dL_wells_956 : decode cL_wells 956 = .ok (.istore 19, 2) := by decide +kernel
theorem dL_wells_958 : decode cL_wells 958 = .ok (.iload 19, 2) := by decide +kernel
theorem dL_wells_960 : decode cL_wells 960 = .ok (.aload 10, 2) := by decide +kernel
theorem dL_wells_962 : decode cL_wells 962 = .ok (.iconst 1, 1) := by decide +kernel
theorem dL_wells_963 : decode cL_wells 963 = .ok (.iaload, 1) := by decide +kernel
theorem dL_wells_964 : decode cL_wells 964 = .ok (.if_icmp .ge 98, 3) := by decide +kernel
theorem dL_wells_967 : decode cL_wells 967 = .ok (.aload 4, 2) := by decide +kernel
theorem dL_wells_969 : decode cL_wells 969 = .ok (.bipush 7, 2) := by decide +kernel
theorem dL_wells_971 : decode cL_wells 971 = .ok (.iload 19, 2) := by decide +kernel
theorem dL_wells_973 : decode cL_wells 973 = .ok (.imul, 1) := by decide +kernel
theorem dL_wells_974 : decode cL_wells 974 = .ok (.iconst 1, 1) := by decide +kernel
theorem dL_wells_975 : decode cL_wells 975 = .ok (.iadd, 1) := by decide +kernel
theorem dL_wells_976 : decode cL_wells 976 = .ok (.iaload, 1) := by decide +kernel
theorem dL_wells_977 : decode cL_wells 977 = .ok (.iconst 1, 1) := by decide +kernel
theorem dL_wells_978 : decode cL_wells 978 = .ok (.if_icmp .ne 78, 3) := by decide +kernel
theorem dL_wells_981 : decode cL_wells 981 = .ok (.aload_n 0, 1) := by decide +kernel
theorem dL_wells_982 : decode cL_wells 982 = .ok (.aload 4, 2) := by decide +kernel
theorem dL_wells_984 : decode cL_wells 984 = .ok (.bipush 7, 2) := by decide +kernel
theorem dL_wells_986 : decode cL_wells 986 = .ok (.iload 19, 2) := by decide +kernel
theorem dL_wells_988 : decode cL_wells 988 = .ok (.imul, 1) := by decide +kernel
theorem dL_wells_989 : decode cL_wells 989 = .ok (.iaload, 1) := by decide +kernel
theorem dL_wells_990 : decode cL_wells 990 = .ok (.dup2, 1) := by decide +kernel
theorem dL_wells_991 : decode cL_wells 991 = .ok (.laload, 1) := by decide +kernel
theorem dL_wells_992 : decode cL_wells 992 = .ok (.aload 4, 2) := by decide +kernel
theorem dL_wells_994 : decode cL_wells 994 = .ok (.bipush 7, 2) := by decide +kernel
theorem dL_wells_996 : decode cL_wells 996 = .ok (.iload 19, 2) := by decide +kernel
theorem dL_wells_998 : decode cL_wells 998 = .ok (.imul, 1) := by decide +kernel
theorem dL_wells_999 : decode cL_wells 999 = .ok (.iconst 4, 1) := by decide +kernel
theorem dL_wells_1000 : decode cL_wells 1000 = .ok (.iadd, 1) := by decide +kernel
theorem dL_wells_1001 : decode cL_wells 1001 = .ok (.iaload, 1) := by decide +kernel
theorem dL_wells_1002 : decode cL_wells 1002 = .ok (.i2l, 1) := by decide +kernel
theorem dL_wells_1003 : decode cL_wells 1003 = .ok (.ladd, 1) := by decide +kernel
theorem dL_wells_1004 : decode cL_wells 1004 = .ok (.lastore, 1) := by decide +kernel
theorem dL_wells_1005 : decode cL_wells 1005 = .ok (.aload_n 1, 1) := by decide +kernel
theorem dL_wells_1006 : decode cL_wells 1006 = .ok (.aload 4, 2) := by decide +kernel
theorem dL_wells_1008 : decode cL_wells 1008 = .ok (.bipush 7, 2) := by decide +kernel
theorem dL_wells_1010 : decode cL_wells 1010 = .ok (.iload 19, 2) := by decide +kernel
theorem dL_wells_1012 : decode cL_wells 1012 = .ok (.imul, 1) := by decide +kernel
theorem dL_wells_1013 : decode cL_wells 1013 = .ok (.iaload, 1) := by decide +kernel
theorem dL_wells_1014 : decode cL_wells 1014 = .ok (.dup2, 1) := by decide +kernel
theorem dL_wells_1015 : decode cL_wells 1015 = .ok (.laload, 1) := by decide +kernel
theorem dL_wells_1016 : decode cL_wells 1016 = .ok (.aload 4, 2) := by decide +kernel
theorem dL_wells_1018 : decode cL_wells 1018 = .ok (.bipush 7, 2) := by decide +kernel
theorem dL_wells_1020 : decode cL_wells 1020 = .ok (.iload 19, 2) := by decide +kernel
theorem dL_wells_1022 : decode cL_wells 1022 = .ok (.imul, 1) := by decide +kernel
theorem dL_wells_1023 : decode cL_wells 1023 = .ok (.iconst 4, 1) := by decide +kernel
theorem dL_wells_1024 : decode cL_wells 1024 = .ok (.iadd, 1) := by decide +kernel
theorem dL_wells_1025 : decode cL_wells 1025 = .ok (.iaload, 1) := by decide +kernel
theorem dL_wells_1026 : decode cL_wells 1026 = .ok (.i2l, 1) := by decide +kernel
theorem dL_wells_1027 : decode cL_wells 1027 = .ok (.lload 17, 2) := by decide +kernel
theorem dL_wells_1029 : decode cL_wells 1029 = .ok (.lmul, 1) := by decide +kernel
theorem dL_wells_1030 : decode cL_wells 1030 = .ok (.ladd, 1) := by decide +kernel
theorem dL_wells_1031 : decode cL_wells 1031 = .ok (.lastore, 1) := by decide +kernel
theorem dL_wells_1032 : decode cL_wells 1032 = .ok (.aload_n 3, 1) := by decide +kernel
theorem dL_wells_1033 : decode cL_wells 1033 = .ok (.aload 4, 2) := by decide +kernel
theorem dL_wells_1035 : decode cL_wells 1035 = .ok (.bipush 7, 2) := by decide +kernel
theorem dL_wells_1037 : decode cL_wells 1037 = .ok (.iload 19, 2) := by decide +kernel
theorem dL_wells_1039 : decode cL_wells 1039 = .ok (.imul, 1) := by decide +kernel
theorem dL_wells_1040 : decode cL_wells 1040 = .ok (.iaload, 1) := by decide +kernel
theorem dL_wells_1041 : decode cL_wells 1041 = .ok (.dup2, 1) := by decide +kernel
theorem dL_wells_1042 : decode cL_wells 1042 = .ok (.laload, 1) := by decide +kernel
theorem dL_wells_1043 : decode cL_wells 1043 = .ok (.aload 4, 2) := by decide +kernel
theorem dL_wells_1045 : decode cL_wells 1045 = .ok (.bipush 7, 2) := by decide +kernel
theorem dL_wells_1047 : decode cL_wells 1047 = .ok (.iload 19, 2) := by decide +kernel
theorem dL_wells_1049 : decode cL_wells 1049 = .ok (.imul, 1) := by decide +kernel
theorem dL_wells_1050 : decode cL_wells 1050 = .ok (.iconst 4, 1) := by decide +kernel
theorem dL_wells_1051 : decode cL_wells 1051 = .ok (.iadd, 1) := by decide +kernel
theorem dL_wells_1052 : decode cL_wells 1052 = .ok (.iaload, 1) := by decide +kernel
theorem dL_wells_1053 : decode cL_wells 1053 = .ok (.i2l, 1) := by decide +kernel
theorem dL_wells_1054 : decode cL_wells 1054 = .ok (.ladd, 1) := by decide +kernel
