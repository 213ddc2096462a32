theorem dX5_drill_9 : decode cX5_drill 9 = .ok (.iload_n 3, 1) := by decide +kernel
theorem dX5_drill_10 : decode cX5_drill 10 = .ok (.iload_n 1, 1) := by decide +kernel
theorem dX5_drill_11 : decode cX5_drill 11 = .ok (.iastore, 1) := by decide +kernel
theorem dX5_drill_12 : decode cX5_drill 12 = .ok (.aload_n 0, 1) := by decide +kernel
theorem dX5_drill_13 : decode cX5_drill 13 = .ok (.getfield 19, 3) := by decide +kernel
theorem dX5_drill_16 : decode cX5_drill 16 = .ok (.iload_n 3, 1) := by decide +kernel
theorem dX5_drill_17 : decode cX5_drill 17 = .ok (.iload_n 2, 1) := by decide +kernel
theorem dX5_drill_18 : decode cX5_drill 18 = .ok (.bastore, 1) := by decide +kernel
theorem dX5_drill_19 : decode cX5_drill 19 = .ok (.aload_n 0, 1) := by decide +kernel
theorem dX5_drill_20 : decode cX5_drill 20 = .ok (.getfield 39, 3) := by decide +kernel
theorem dX5_drill_23 : decode cX5_drill 23 = .ok (.iload_n 3, 1) := by decide +kernel
theorem dX5_drill_24 : decode cX5_drill 24 = .ok (.iconst (-1), 1) := by decide +kernel
theorem dX5_drill_25 : decode cX5_drill 25 = .ok (.iastore, 1) := by decide +kernel
theorem dX5_drill_26 : decode cX5_drill 26 = .ok (.aload_n 0, 1) := by decide +kernel
theorem dX5_drill_27 : decode cX5_drill 27 = .ok (.dup, 1) := by decide +kernel
theorem dX5_drill_28 : decode cX5_drill 28 = .ok (.getfield 9, 3) := by decide +kernel
theorem dX5_drill_31 : decode cX5_drill 31 = .ok (.iconst 1, 1) := by decide +kernel
theorem dX5_drill_32 : decode cX5_drill 32 = .ok (.iadd, 1) := by decide +kernel
theorem dX5_drill_33 : decode cX5_drill 33 = .ok (.putfield 9, 3) := by decide +kernel
theorem dX5_drill_36 : decode cX5_drill 36 = .ok (.iload_n 3, 1) := by decide +kernel
theorem dX5_drill_37 : decode cX5_drill 37 = .ok (.ireturn, 1) := by decide +kernel
theorem dX5_copy_0 : decode cX5_copy 0 = .ok (.aload_n 0, 1) := by decide +kernel
theorem dX5_copy_1 : decode cX5_copy 1 = .ok (.aload_n 1, 1) := by decide +kernel
theorem dX5_copy_2 : decode cX5_copy 2 = .ok (.getfield 9, 3) := by decide +kernel
theorem dX5_copy_5 : decode cX5_copy 5 = .ok (.putfield 9, 3) := by decide +kernel
theorem dX5_copy_8 : decode cX5_copy 8 = .ok (.iconst 0, 1) := by decide +kernel
theorem dX5_copy_9 : decode cX5_copy 9 = .ok (.istore_n 2, 1) := by decide +kernel
theorem dX5_copy_10 : decode cX5_copy 10 = .ok (.iload_n 2, 1) := by decide +kernel
theorem dX5_copy_11 : decode cX5_copy 11 = .ok (.aload_n 0, 1) := by decide +kernel
theorem dX5_copy_12 : decode cX5_copy 12 = .ok (.getfield 9, 3) := by decide +kernel
theorem dX5_copy_15 : decode cX5_copy 15 = .ok (.if_icmp .ge 105, 3) := by decide +kernel
theorem dX5_copy_18 : decode cX5_copy 18 = .ok (.aload_n 0, 1) := by decide +kernel
theorem dX5_copy_19 : decode cX5_copy 19 = .ok (.getfield 15, 3) := by decide +kernel
theorem dX5_copy_22 : decode cX5_copy 22 = .ok (.iload_n 2, 1) := by decide +kernel
theorem dX5_copy_23 : decode cX5_copy 23 = .ok (.aload_n 1, 1) := by decide +kernel
theorem dX5_copy_24 : decode cX5_copy 24 = .ok (.getfield 15, 3) := by decide +kernel
theorem dX5_copy_27 : decode cX5_copy 27 = .ok (.iload_n 2, 1) := by decide +kernel
theorem dX5_copy_28 : decode cX5_copy 28 = .ok (.iaload, 1) := by decide +kernel
theorem dX5_copy_29 : decode cX5_copy 29 = .ok (.iastore, 1) := by decide +kernel
theorem dX5_copy_30 : decode cX5_copy 30 = .ok (.aload_n 0, 1) := by decide +kernel
theorem dX5_copy_31 : decode cX5_copy 31 = .ok (.getfield 19, 3) := by decide +kernel
theorem dX5_copy_34 : decode cX5_copy 34 = .ok (.iload_n 2, 1) := by decide +kernel
theorem dX5_copy_35 : decode cX5_copy 35 = .ok (.aload_n 1, 1) := by decide +kernel
theorem dX5_copy_36 : decode cX5_copy 36 = .ok (.getfield 19, 3) := by decide +kernel
theorem dX5_copy_39 : decode cX5_copy 39 = .ok (.iload_n 2, 1) := by decide +kernel
theorem dX5_copy_40 : decode cX5_copy 40 = .ok (.baload, 1) := by decide +kernel
theorem dX5_copy_41 : decode cX5_copy 41 = .ok (.bastore, 1) := by decide +kernel
theorem dX5_copy_42 : decode cX5_copy 42 = .ok (.aload_n 0, 1) := by decide +kernel
theorem dX5_copy_43 : decode cX5_copy 43 = .ok (.getfield 23, 3) := by decide +kernel
theorem dX5_copy_46 : decode cX5_copy 46 = .ok (.iload_n 2, 1) := by decide +kernel
theorem dX5_copy_47 : decode cX5_copy 47 = .ok (.aload_n 1, 1) := by decide +kernel
theorem dX5_copy_48 : decode cX5_copy 48 = .ok (.getfield 23, 3) := by decide +kernel
theorem dX5_copy_51 : decode cX5_copy 51 = .ok (.iload_n 2, 1) := by decide +kernel
theorem dX5_copy_52 : decode cX5_copy 52 = .ok (.iaload, 1) := by decide +kernel
theorem dX5_copy_53 : decode cX5_copy 53 = .ok (.iastore, 1) := by decide +kernel
theorem dX5_copy_54 : decode cX5_copy 54 = .ok (.aload_n 0, 1) := by decide +kernel
theorem dX5_copy_55 : decode cX5_copy 55 = .ok (.getfield 26, 3) := by decide +kernel
theorem dX5_copy_58 : decode cX5_copy 58 = .ok (.iload_n 2, 1) := by decide +kernel
theorem dX5_copy_59 : decode cX5_copy 59 = .ok (.aload_n 1, 1) := by decide +kernel
theorem dX5_copy_60 : decode cX5_copy 60 = .ok (.getfield 26, 3) := by decide +kernel
theorem dX5_copy_63 : decode cX5_copy 63 = .ok (.iload_n 2, 1) := by decide +kernel
theorem dX5_copy_64 : decode cX5_copy 64 = .ok (.iaload, 1) := by decide +kernel
theorem dX5_copy_65 : decode cX5_copy 65 = .ok (.iastore, 1) := by decide +kernel
theorem dX5_copy_66 : decode cX5_copy 66 = .ok (.aload_n 0, 1) := by decide +kernel
theorem dX5_copy_67 : decode cX5_copy 67 = .ok (.getfield 29, 3) := by decide +kernel
theorem dX5_copy_70 : decode cX5_copy 70 = .ok (.iload_n 2, 1) := by decide +kernel
theorem dX5_copy_71 : decode cX5_copy 71 = .ok (.aload_n 1, 1) := by decide +kernel
theorem dX5_copy_72 : decode cX5_copy 72 = .ok (.getfield 29, 3) := by decide +kernel
theorem dX5_copy_75 : decode cX5_copy 75 = .ok (.iload_n 2, 1) := by decide +kernel
theorem dX5_copy_76 : decode cX5_copy 76 = .ok (.laload, 1) := by decide +kernel
theorem dX5_copy_77 : decode cX5_copy 77 = .ok (.lastore, 1) := by decide +kernel
theorem dX5_copy_78 : decode cX5_copy 78 = .ok (.aload_n 0, 1) := by decide +kernel
theorem dX5_copy_79 : decode cX5_copy 79 = .ok (.getfield 33, 3) := by decide +kernel
theorem dX5_copy_82 : decode cX5_copy 82 = .ok (.iload_n 2, 1) := by decide +kernel
theorem dX5_copy_83 : decode cX5_copy 83 = .ok (.aload_n 1, 1) := by decide +kernel
theorem dX5_copy_84 : decode cX5_copy 84 = .ok (.getfield 33, 3) := by decide +kernel
theorem dX5_copy_87 : decode cX5_copy 87 = .ok (.iload_n 2, 1) := by decide +kernel
theorem dX5_copy_88 : decode cX5_copy 88 = .ok (.baload, 1) := by decide +kernel
theorem dX5_copy_89 : decode cX5_copy 89 = .ok (.bastore, 1) := by decide +kernel
theorem dX5_copy_90 : decode cX5_copy 90 = .ok (.aload_n 0, 1) := by decide +kernel
theorem dX5_copy_91 : decode cX5_copy 91 = .ok (.getfield 36, 3) := by decide +kernel
theorem dX5_copy_94 : decode cX5_copy 94 = .ok (.iload_n 2, 1) := by decide +kernel
theorem dX5_copy_95 : decode cX5_copy 95 = .ok (.aload_n 1, 1) := by decide +kernel
theorem dX5_copy_96 : decode cX5_copy 96 = .ok (.getfield 36, 3) := by decide +kernel
theorem dX5_copy_99 : decode cX5_copy 99 = .ok (.iload_n 2, 1) := by decide +kernel
theorem dX5_copy_100 : decode cX5_copy 100 = .ok (.laload, 1) := by decide +kernel
theorem dX5_copy_101 : decode cX5_copy 101 = .ok (.lastore, 1) := by decide +kernel
theorem dX5_copy_102 : decode cX5_copy 102 = .ok (.aload_n 0, 1) := by decide +kernel
theorem dX5_copy_103 : decode cX5_copy 103 = .ok (.getfield 39, 3) := by decide +kernel
theorem dX5_copy_106 : decode cX5_copy 106 = .ok (.iload_n 2, 1) := by decide +kernel
theorem dX5_copy_107 : decode cX5_copy 107 = .ok (.aload_n 1, 1) := by decide +kernel
theorem dX5_copy_108 : decode cX5_copy 108 = .ok (.getfield 39, 3) := by decide +kernel
theorem dX5_copy_111 : decode cX5_copy 111 = .ok (.iload_n 2, 1) := by decide +kernel
theorem dX5_copy_112 : decode cX5_copy 112 = .ok (.iaload, 1) := by decide +kernel
theorem dX5_copy_113 : decode cX5_copy 113 = .ok (.iastore, 1) := by decide +kernel
theorem dX5_copy_114 : decode cX5_copy 114 = .ok (.iinc 2 1, 3) := by decide +kernel
theorem dX5_copy_117 : decode cX5_copy 117 = .ok (.goto (-107), 3) := by decide +kernel
theorem dX5_copy_120 : decode cX5_copy 120 = .ok (.return_, 1) := by decide +kernel
theorem dX5_tell_0 : decode cX5_tell 0 = .ok (.iload_n 2, 1) := by decide +kernel
theorem dX5_tell_1 : decode cX5_tell 1 = .ok (.tableswitch 92 0 5 #[39, 47, 55, 63, 70, 85], 39) := by decide +kernel
theorem dX5_tell_40 : decode cX5_tell 40 = .ok (.aload_n 0, 1) := by decide +kernel
theorem dX5_tell_41 : decode cX5_tell 41 = .ok (.getfield 15, 3) := by decide +kernel
theorem dX5_tell_44 : decode cX5_tell 44 = .ok (.iload_n 1, 1) := by decide +kernel
theorem dX5_tell_45 : decode cX5_tell 45 = .ok (.iaload, 1) := by decide +kernel
theorem dX5_tell_46 : decode cX5_tell 46 = .ok (.i2l, 1) := by decide +kernel
theorem dX5_tell_47 : decode cX5_tell 47 = .ok (.lreturn, 1) := by decide +kernel
theorem dX5_tell_48 : decode cX5_tell 48 = .ok (.aload_n 0, 1) := by decide +kernel
theorem dX5_tell_49 : decode cX5_tell 49 = .ok (.getfield 23, 3) := by decide +kernel
theorem dX5_tell_52 : decode cX5_tell 52 = .ok (.iload_n 1, 1) := by decide +kernel
theorem dX5_tell_53 : decode cX5_tell 53 = .ok (.iaload, 1) := by decide +kernel
theorem dX5_tell_54 : decode cX5_tell 54 = .ok (.i2l, 1) := by decide +kernel
theorem dX5_tell_55 : decode cX5_tell 55 = .ok (.lreturn, 1) := by decide +kernel
theorem dX5_tell_56 : decode cX5_tell 56 = .ok (.aload_n 0, 1) := by decide +kernel
theorem dX5_tell_57 : decode cX5_tell 57 = .ok (.getfield 26, 3) := by decide +kernel
theorem dX5_tell_60 : decode cX5_tell 60 = .ok (.iload_n 1, 1) := by decide +kernel
theorem dX5_tell_61 : decode cX5_tell 61 = .ok (.iaload, 1) := by decide +kernel
theorem dX5_tell_62 : decode cX5_tell 62 = .ok (.i2l, 1) := by decide +kernel
theorem dX5_tell_63 : decode cX5_tell 63 = .ok (.lreturn, 1) := by decide +kernel
theorem dX5_tell_64 : decode cX5_tell 64 = .ok (.aload_n 0, 1) := by decide +kernel
theorem dX5_tell_65 : decode cX5_tell 65 = .ok (.getfield 29, 3) := by decide +kernel
theorem dX5_tell_68 : decode cX5_tell 68 = .ok (.iload_n 1, 1) := by decide +kernel
theorem dX5_tell_69 : decode cX5_tell 69 = .ok (.laload, 1) := by decide +kernel
theorem dX5_tell_70 : decode cX5_tell 70 = .ok (.lreturn, 1) := by decide +kernel
theorem dX5_tell_71 : decode cX5_tell 71 = .ok (.aload_n 0, 1) := by decide +kernel
theorem dX5_tell_72 : decode cX5_tell 72 = .ok (.getfield 33, 3) := by decide +kernel
theorem dX5_tell_75 : decode cX5_tell 75 = .ok (.iload_n 1, 1) := by decide +kernel
theorem dX5_tell_76 : decode cX5_tell 76 = .ok (.baload, 1) := by decide +kernel
theorem dX5_tell_77 : decode cX5_tell 77 = .ok (.ifCond .eq 7, 3) := by decide +kernel
theorem dX5_tell_80 : decode cX5_tell 80 = .ok (.lconst 1, 1) := by decide +kernel
theorem dX5_tell_81 : decode cX5_tell 81 = .ok (.goto 4, 3) := by decide +kernel
theorem dX5_tell_84 : decode cX5_tell 84 = .ok (.lconst 0, 1) := by decide +kernel
theorem dX5_tell_85 : decode cX5_tell 85 = .ok (.lreturn, 1) := by decide +kernel
theorem dX5_tell_86 : decode cX5_tell 86 = .ok (.aload_n 0, 1) := by decide +kernel
theorem dX5_tell_87 : decode cX5_tell 87 = .ok (.getfield 36, 3) := by decide +kernel
theorem dX5_tell_90 : decode cX5_tell 90 = .ok (.iload_n 1, 1) := by decide +kernel
theorem dX5_tell_91 : decode cX5_tell 91 = .ok (.laload, 1) := by decide +kernel
theorem dX5_tell_92 : decode cX5_tell 92 = .ok (.lreturn, 1) := by decide +kernel
theorem dX5_tell_93 : decode cX5_tell 93 = .ok (.aload_n 0, 1) := by decide +kernel
theorem dX5_tell_94 : decode cX5_tell 94 = .ok (.getfield 39, 3) := by decide +kernel
theorem dX5_tell_97 : decode cX5_tell 97 = .ok (.iload_n 1, 1) := by decide +kernel
theorem dX5_tell_98 : decode cX5_tell 98 = .ok (.iaload, 1) := by decide +kernel
theorem dX5_tell_99 : decode cX5_tell 99 = .ok (.i2l, 1) := by decide +kernel
theorem dX5_tell_100 : decode cX5_tell 100 = .ok (.lreturn, 1) := by decide +kernel
theorem dX5_isDrawing_0 : decode cX5_isDrawing 0 = .ok (.aload_n 0, 1) := by decide +kernel
theorem dX5_isDrawing_1 : decode cX5_isDrawing 1 = .ok (.getfield 19, 3) := by decide +kernel
theorem dX5_isDrawing_4 : decode cX5_isDrawing 4 = .ok (.iload_n 1, 1) := by decide +kernel
theorem dX5_isDrawing_5 : decode cX5_isDrawing 5 = .ok (.baload, 1) := by decide +kernel
theorem dX5_isDrawing_6 : decode cX5_isDrawing 6 = .ok (.ifCond .ne 16, 3) := by decide +kernel
theorem dX5_isDrawing_9 : decode cX5_isDrawing 9 = .ok (.aload_n 0, 1) := by decide +kernel
theorem dX5_isDrawing_10 : decode cX5_isDrawing 10 = .ok (.getfield 33, 3) := by decide +kernel
theorem dX5_isDrawing_13 : decode cX5_isDrawing 13 = .ok (.iload_n 1, 1) := by decide +kernel
theorem dX5_isDrawing_14 : decode cX5_isDrawing 14 = .ok (.baload, 1) := by decide +kernel
theorem dX5_isDrawing_15 : decode cX5_isDrawing 15 = .ok (.ifCond .ne 7, 3) := by decide +kernel
theorem dX5_isDrawing_18 : decode cX5_isDrawing 18 = .ok (.iconst 1, 1) := by decide +kernel
theorem dX5_isDrawing_19 : decode cX5_isDrawing 19 = .ok (.goto 4, 3) := by decide +kernel
theorem dX5_isDrawing_22 : decode cX5_isDrawing 22 = .ok (.iconst 0, 1) := by decide +kernel
theorem dX5_isDrawing_23 : decode cX5_isDrawing 23 = .ok (.ireturn, 1) := by decide +kernel
theorem dX5_isReturning_0 : decode cX5_isReturning 0 = .ok (.aload_n 0, 1) := by decide +kernel
theorem dX5_isReturning_1 : decode cX5_isReturning 1 = .ok (.getfield 19, 3) := by decide +kernel
theorem dX5_isReturning_4 : decode cX5_isReturning 4 = .ok (.iload_n 1, 1) := by decide +kernel
theorem dX5_isReturning_5 : decode cX5_isReturning 5 = .ok (.baload, 1) := by decide +kernel
theorem dX5_isReturning_6 : decode cX5_isReturning 6 = .ok (.ifCond .eq 16, 3) := by decide +kernel
theorem dX5_isReturning_9 : decode cX5_isReturning 9 = .ok (.aload_n 0, 1) := by decide +kernel
theorem dX5_isReturning_10 : decode cX5_isReturning 10 = .ok (.getfield 33, 3) := by decide +kernel
theorem dX5_isReturning_13 : decode cX5_isReturning 13 = .ok (.iload_n 1, 1) := by decide +kernel
theorem dX5_isReturning_14 : decode cX5_isReturning 14 = .ok (.baload, 1) := by decide +kernel
theorem dX5_isReturning_15 : decode cX5_isReturning 15 = .ok (.ifCond .ne 7, 3) := by decide +kernel
theorem dX5_isReturning_18 : decode cX5_isReturning 18 = .ok (.iconst 1, 1) := by decide +kernel
theorem dX5_isReturning_19 : decode cX5_isReturning 19 = .ok (.goto 4, 3) := by decide +kernel
theorem dX5_isReturning_22 : decode cX5_isReturning 22 = .ok (.iconst 0, 1) := by decide +kernel
theorem dX5_isReturning_23 : decode cX5_isReturning 23 = .ok (.ireturn, 1) := by decide +kernel
theorem dX5_wouldDraw_0 : decode cX5_wouldDraw 0 = .ok (.aload_n 0, 1) := by decide +kernel
theorem dX5_wouldDraw_1 : decode cX5_wouldDraw 1 = .ok (.getfield 23, 3) := by decide +kernel
theorem dX5_wouldDraw_4 : decode cX5_wouldDraw 4 = .ok (.iload_n 1, 1) := by decide +kernel
theorem dX5_wouldDraw_5 : decode cX5_wouldDraw 5 = .ok (.iaload, 1) := by decide +kernel
theorem dX5_wouldDraw_6 : decode cX5_wouldDraw 6 = .ok (.bipush 100, 2) := by decide +kernel
theorem dX5_wouldDraw_8 : decode cX5_wouldDraw 8 = .ok (.aload_n 0, 1) := by decide +kernel
theorem dX5_wouldDraw_9 : decode cX5_wouldDraw 9 = .ok (.getfield 26, 3) := by decide +kernel
theorem dX5_wouldDraw_12 : decode cX5_wouldDraw 12 = .ok (.iload_n 1, 1) := by decide +kernel
theorem dX5_wouldDraw_13 : decode cX5_wouldDraw 13 = .ok (.iaload, 1) := by decide +kernel
theorem dX5_wouldDraw_14 : decode cX5_wouldDraw 14 = .ok (.isub, 1) := by decide +kernel
theorem dX5_wouldDraw_15 : decode cX5_wouldDraw 15 = .ok (.imul, 1) := by decide +kernel
theorem dX5_wouldDraw_16 : decode cX5_wouldDraw 16 = .ok (.bipush 100, 2) := by decide +kernel
theorem dX5_wouldDraw_18 : decode cX5_wouldDraw 18 = .ok (.idiv, 1) := by decide +kernel
theorem dX5_wouldDraw_19 : decode cX5_wouldDraw 19 = .ok (.i2l, 1) := by decide +kernel
theorem dX5_wouldDraw_20 : decode cX5_wouldDraw 20 = .ok (.lreturn, 1) := by decide +kernel
theorem dX5_growScale_0 : decode cX5_growScale 0 = .ok (.aload_n 0, 1) := by decide +kernel
theorem dX5_growScale_1 : decode cX5_growScale 1 = .ok (.getfield 26, 3) := by decide +kernel
theorem dX5_growScale_4 : decode cX5_growScale 4 = .ok (.iload_n 1, 1) := by decide +kernel
theorem dX5_growScale_5 : decode cX5_growScale 5 = .ok (.aload_n 0, 1) := by decide +kernel
theorem dX5_growScale_6 : decode cX5_growScale 6 = .ok (.getfield 26, 3) := by decide +kernel
theorem dX5_growScale_9 : decode cX5_growScale 9 = .ok (.iload_n 1, 1) := by decide +kernel
theorem dX5_growScale_10 : decode cX5_growScale 10 = .ok (.iaload, 1) := by decide +kernel
theorem dX5_growScale_11 : decode cX5_growScale 11 = .ok (.iconst 1, 1) := by decide +kernel
theorem dX5_growScale_12 : decode cX5_growScale 12 = .ok (.iadd, 1) := by decide +kernel
theorem dX5_growScale_13 : decode cX5_growScale 13 = .ok (.i2l, 1) := by decide +kernel
theorem dX5_growScale_14 : decode cX5_growScale 14 = .ok (.lload_n 2, 1) := by decide +kernel
theorem dX5_growScale_15 : decode cX5_growScale 15 = .ok (.ldc2_w 42, 3) := by decide +kernel
theorem dX5_growScale_18 : decode cX5_growScale 18 = .ok (.ldiv, 1) := by decide +kernel
theorem dX5_growScale_19 : decode cX5_growScale 19 = .ok (.ladd, 1) := by decide +kernel
theorem dX5_growScale_20 : decode cX5_growScale 20 = .ok (.ldc2_w 44, 3) := by decide +kernel
theorem dX5_growScale_23 : decode cX5_growScale 23 = .ok (.invokestatic 46, 3) := by decide +kernel
theorem dX5_growScale_26 : decode cX5_growScale 26 = .ok (.l2i, 1) := by decide +kernel
theorem dX5_growScale_27 : decode cX5_growScale 27 = .ok (.iastore, 1) := by decide +kernel
theorem dX5_growScale_28 : decode cX5_growScale 28 = .ok (.return_, 1) := by decide +kernel
theorem dX5_find_0 : decode cX5_find 0 = .ok (.aload_n 0, 1) := by decide +kernel
theorem dX5_find_1 : decode cX5_find 1 = .ok (.getfield 36, 3) := by decide +kernel
theorem dX5_find_4 : decode cX5_find 4 = .ok (.iload_n 1, 1) := by decide +kernel
theorem dX5_find_5 : decode cX5_find 5 = .ok (.dup2, 1) := by decide +kernel
theorem dX5_find_6 : decode cX5_find 6 = .ok (.laload, 1) := by decide +kernel
theorem dX5_find_7 : decode cX5_find 7 = .ok (.lload_n 2, 1) := by decide +kernel
theorem dX5_find_8 : decode cX5_find 8 = .ok (.ladd, 1) := by decide +kernel
theorem dX5_find_9 : decode cX5_find 9 = .ok (.lastore, 1) := by decide +kernel
theorem dX5_find_10 : decode cX5_find 10 = .ok (.lload_n 2, 1) := by decide +kernel
theorem dX5_find_11 : decode cX5_find 11 = .ok (.lconst 0, 1) := by decide +kernel
theorem dX5_find_12 : decode cX5_find 12 = .ok (.lcmp, 1) := by decide +kernel
theorem dX5_find_13 : decode cX5_find 13 = .ok (.ifCond .le 21, 3) := by decide +kernel
theorem dX5_find_16 : decode cX5_find 16 = .ok (.aload_n 0, 1) := by decide +kernel
theorem dX5_find_17 : decode cX5_find 17 = .ok (.getfield 39, 3) := by decide +kernel
theorem dX5_find_20 : decode cX5_find 20 = .ok (.iload_n 1, 1) := by decide +kernel
theorem dX5_find_21 : decode cX5_find 21 = .ok (.iaload, 1) := by decide +kernel
theorem dX5_find_22 : decode cX5_find 22 = .ok (.iconst (-1), 1) := by decide +kernel
theorem dX5_find_23 : decode cX5_find 23 = .ok (.if_icmp .ne 11, 3) := by decide +kernel
theorem dX5_find_26 : decode cX5_find 26 = .ok (.aload_n 0, 1) := by decide +kernel
theorem dX5_find_27 : decode cX5_find 27 = .ok (.getfield 39, 3) := by decide +kernel
theorem dX5_find_30 : decode cX5_find 30 = .ok (.iload_n 1, 1) := by decide +kernel
theorem dX5_find_31 : decode cX5_find 31 = .ok (.iload 4, 2) := by decide +kernel
theorem dX5_find_33 : decode cX5_find 33 = .ok (.iastore, 1) := by decide +kernel
theorem dX5_find_34 : decode cX5_find 34 = .ok (.return_, 1) := by decide +kernel
theorem dX5_allWeight_0 : decode cX5_allWeight 0 = .ok (.lconst 0, 1) := by decide +kernel
theorem dX5_allWeight_1 : decode cX5_allWeight 1 = .ok (.lstore_n 1, 1) := by decide +kernel
theorem dX5_allWeight_2 : decode cX5_allWeight 2 = .ok (.iconst 0, 1) := by decide +kernel
theorem dX5_allWeight_3 : decode cX5_allWeight 3 = .ok (.istore_n 3, 1) := by decide +kernel
theorem dX5_allWeight_4 : decode cX5_allWeight 4 = .ok (.iload_n 3, 1) := by decide +kernel
theorem dX5_allWeight_5 : decode cX5_allWeight 5 = .ok (.aload_n 0, 1) := by decide +kernel
theorem dX5_allWeight_6 : decode cX5_allWeight 6 = .ok (.getfield 9, 3) := by decide +kernel
theorem dX5_allWeight_9 : decode cX5_allWeight 9 = .ok (.if_icmp .ge 27, 3) := by decide +kernel
theorem dX5_allWeight_12 : decode cX5_allWeight 12 = .ok (.aload_n 0, 1) := by decide +kernel
theorem dX5_allWeight_13 : decode cX5_allWeight 13 = .ok (.iload_n 3, 1) := by decide +kernel
theorem dX5_allWeight_14 : decode cX5_allWeight 14 = .ok (.invokevirtual 52, 3) := by decide +kernel
theorem dX5_allWeight_17 : decode cX5_allWeight 17 = .ok (.ifCond .eq 13, 3) := by decide +kernel
theorem dX5_allWeight_20 : decode cX5_allWeight 20 = .ok (.lload_n 1, 1) := by decide +kernel
theorem dX5_allWeight_21 : decode cX5_allWeight 21 = .ok (.aload_n 0, 1) := by decide +kernel
theorem dX5_allWeight_22 : decode cX5_allWeight 22 = .ok (.getfield 23, 3) := by decide +kernel
theorem dX5_allWeight_25 : decode cX5_allWeight 25 = .ok (.iload_n 3, 1) := by decide +kernel
theorem dX5_allWeight_26 : decode cX5_allWeight 26 = .ok (.iaload, 1) := by decide +kernel
theorem dX5_allWeight_27 : decode cX5_allWeight 27 = .ok (.i2l, 1) := by decide +kernel
theorem dX5_allWeight_28 : decode cX5_allWeight 28 = .ok (.ladd, 1) := by decide +kernel
theorem dX5_allWeight_29 : decode cX5_allWeight 29 = .ok (.lstore_n 1, 1) := by decide +kernel
theorem dX5_allWeight_30 : decode cX5_allWeight 30 = .ok (.iinc 3 1, 3) := by decide +kernel
theorem dX5_allWeight_33 : decode cX5_allWeight 33 = .ok (.goto (-29), 3) := by decide +kernel
theorem dX5_allWeight_36 : decode cX5_allWeight 36 = .ok (.lload_n 1, 1) := by decide +kernel
theorem dX5_allWeight_37 : decode cX5_allWeight 37 = .ok (.lreturn, 1) := by decide +kernel
theorem dX6_init_0 : decode cX6_init 0 = .ok (.aload_n 0, 1) := by decide +kernel
theorem dX6_init_1 : decode cX6_init 1 = .ok (.invokespecial 1, 3) := by decide +kernel
theorem dX6_init_4 : decode cX6_init 4 = .ok (.aload_n 0, 1) := by decide +kernel
theorem dX6_init_5 : decode cX6_init 5 = .ok (.new 7, 3) := by decide +kernel
theorem dX6_init_8 : decode cX6_init 8 = .ok (.dup, 1) := by decide +kernel
theorem dX6_init_9 : decode cX6_init 9 = .ok (.invokespecial 9, 3) := by decide +kernel
theorem dX6_init_12 : decode cX6_init 12 = .ok (.putfield 10, 3) := by decide +kernel
theorem dX6_init_15 : decode cX6_init 15 = .ok (.aload_n 0, 1) := by decide +kernel
theorem dX6_init_16 : decode cX6_init 16 = .ok (.new 7, 3) := by decide +kernel
theorem dX6_init_19 : decode cX6_init 19 = .ok (.dup, 1) := by decide +kernel
theorem dX6_init_20 : decode cX6_init 20 = .ok (.invokespecial 9, 3) := by decide +kernel
theorem dX6_init_23 : decode cX6_init 23 = .ok (.putfield 16, 3) := by decide +kernel
theorem dX6_init_26 : decode cX6_init 26 = .ok (.return_, 1) := by decide +kernel
theorem dX6_block_0 : decode cX6_block 0 = .ok (.iload_n 1, 1) := by decide +kernel
theorem dX6_block_1 : decode cX6_block 1 = .ok (.bipush 12, 2) := by decide +kernel
theorem dX6_block_3 : decode cX6_block 3 = .ok (.invokestatic 19, 3) := by decide +kernel
theorem dX6_block_6 : decode cX6_block 6 = .ok (.iload_n 2, 1) := by decide +kernel
theorem dX6_block_7 : decode cX6_block 7 = .ok (.iconst 0, 1) := by decide +kernel
theorem dX6_block_8 : decode cX6_block 8 = .ok (.ldc 23, 2) := by decide +kernel
theorem dX6_block_10 : decode cX6_block 10 = .ok (.invokestatic 24, 3) := by decide +kernel
theorem dX6_block_13 : decode cX6_block 13 = .ok (.iload_n 3, 1) := by decide +kernel
theorem dX6_block_14 : decode cX6_block 14 = .ok (.iconst 0, 1) := by decide +kernel
theorem dX6_block_15 : decode cX6_block 15 = .ok (.sipush 350, 3) := by decide +kernel
theorem dX6_block_18 : decode cX6_block 18 = .ok (.invokestatic 24, 3) := by decide +kernel
theorem dX6_block_21 : decode cX6_block 21 = .ok (.aload_n 0, 1) := by decide +kernel
theorem dX6_block_22 : decode cX6_block 22 = .ok (.getfield 10, 3) := by decide +kernel
theorem dX6_block_25 : decode cX6_block 25 = .ok (.getfield 28, 3) := by decide +kernel
theorem dX6_block_28 : decode cX6_block 28 = .ok (.ifCond .ne 7, 3) := by decide +kernel
theorem dX6_block_31 : decode cX6_block 31 = .ok (.iconst 1, 1) := by decide +kernel
theorem dX6_block_32 : decode cX6_block 32 = .ok (.goto 4, 3) := by decide +kernel
theorem dX6_block_35 : decode cX6_block 35 = .ok (.iconst 0, 1) := by decide +kernel
theorem dX6_block_36 : decode cX6_block 36 = .ok (.invokestatic 32, 3) := by decide +kernel
theorem dX6_block_39 : decode cX6_block 39 = .ok (.aload_n 0, 1) := by decide +kernel
theorem dX6_block_40 : decode cX6_block 40 = .ok (.getfield 10, 3) := by decide +kernel
theorem dX6_block_43 : decode cX6_block 43 = .ok (.getfield 36, 3) := by decide +kernel
theorem dX6_block_46 : decode cX6_block 46 = .ok (.getfield 40, 3) := by decide +kernel
theorem dX6_block_49 : decode cX6_block 49 = .ok (.iload_n 1, 1) := by decide +kernel
theorem dX6_block_50 : decode cX6_block 50 = .ok (.laload, 1) := by decide +kernel
theorem dX6_block_51 : decode cX6_block 51 = .ok (.l2i, 1) := by decide +kernel
theorem dX6_block_52 : decode cX6_block 52 = .ok (.istore 4, 2) := by decide +kernel
theorem dX6_block_54 : decode cX6_block 54 = .ok (.aload_n 0, 1) := by decide +kernel
theorem dX6_block_55 : decode cX6_block 55 = .ok (.getfield 10, 3) := by decide +kernel
theorem dX6_block_58 : decode cX6_block 58 = .ok (.getfield 36, 3) := by decide +kernel
theorem dX6_block_61 : decode cX6_block 61 = .ok (.iload_n 1, 1) := by decide +kernel
theorem dX6_block_62 : decode cX6_block 62 = .ok (.iload_n 2, 1) := by decide +kernel
theorem dX6_block_63 : decode cX6_block 63 = .ok (.iload_n 3, 1) := by decide +kernel
theorem dX6_block_64 : decode cX6_block 64 = .ok (.invokevirtual 46, 3) := by decide +kernel
theorem dX6_block_67 : decode cX6_block 67 = .ok (.iload 4, 2) := by decide +kernel
theorem dX6_block_69 : decode cX6_block 69 = .ok (.ireturn, 1) := by decide +kernel
theorem dX6_crack_0 : decode cX6_crack 0 = .ok (.iload_n 1, 1) := by decide +kernel
theorem dX6_crack_1 : decode cX6_crack 1 = .ok (.bipush 12, 2) := by decide +kernel
theorem dX6_crack_3 : decode cX6_crack 3 = .ok (.invokestatic 19, 3) := by decide +kernel
theorem dX6_crack_6 : decode cX6_crack 6 = .ok (.iload_n 2, 1) := by decide +kernel
theorem dX6_crack_7 : decode cX6_crack 7 = .ok (.bipush 12, 2) := by decide +kernel
theorem dX6_crack_9 : decode cX6_crack 9 = .ok (.invokestatic 19, 3) := by decide +kernel
theorem dX6_crack_12 : decode cX6_crack 12 = .ok (.iload_n 1, 1) := by decide +kernel
theorem dX6_crack_13 : decode cX6_crack 13 = .ok (.iload_n 2, 1) := by decide +kernel
theorem dX6_crack_14 : decode cX6_crack 14 = .ok (.invokestatic 49, 3) := by decide +kernel
theorem dX6_crack_17 : decode cX6_crack 17 = .ok (.invokestatic 53, 3) := by decide +kernel
theorem dX6_crack_20 : decode cX6_crack 20 = .ok (.iload_n 3, 1) := by decide +kernel
theorem dX6_crack_21 : decode cX6_crack 21 = .ok (.iconst 0, 1) := by decide +kernel
theorem dX6_crack_22 : decode cX6_crack 22 = .ok (.bipush 100, 2) := by decide +kernel
theorem dX6_crack_24 : decode cX6_crack 24 = .ok (.invokestatic 24, 3) := by decide +kernel
theorem dX6_crack_27 : decode cX6_crack 27 = .ok (.aload_n 0, 1) := by decide +kernel
theorem dX6_crack_28 : decode cX6_crack 28 = .ok (.getfield 10, 3) := by decide +kernel
theorem dX6_crack_31 : decode cX6_crack 31 = .ok (.getfield 36, 3) := by decide +kernel
theorem dX6_crack_34 : decode cX6_crack 34 = .ok (.iload_n 1, 1) := by decide +kernel
theorem dX6_crack_35 : decode cX6_crack 35 = .ok (.iload_n 2, 1) := by decide +kernel
theorem dX6_crack_36 : decode cX6_crack 36 = .ok (.iload_n 3, 1) := by decide +kernel
theorem dX6_crack_37 : decode cX6_crack 37 = .ok (.invokevirtual 56, 3) := by decide +kernel
theorem dX6_crack_40 : decode cX6_crack 40 = .ok (.ireturn, 1) := by decide +kernel
theorem dX6_rain_0 : decode cX6_rain 0 = .ok (.iload_n 1, 1) := by decide +kernel
theorem dX6_rain_1 : decode cX6_rain 1 = .ok (.iconst 0, 1) := by decide +kernel
theorem dX6_rain_2 : decode cX6_rain 2 = .ok (.sipush 500, 3) := by decide +kernel
theorem dX6_rain_5 : decode cX6_rain 5 = .ok (.invokestatic 24, 3) := by decide +kernel
theorem dX6_rain_8 : decode cX6_rain 8 = .ok (.aload_n 0, 1) := by decide +kernel
theorem dX6_rain_9 : decode cX6_rain 9 = .ok (.getfield 10, 3) := by decide +kernel
theorem dX6_rain_12 : decode cX6_rain 12 = .ok (.getfield 60, 3) := by decide +kernel
theorem dX6_rain_15 : decode cX6_rain 15 = .ok (.istore_n 2, 1) := by decide +kernel
theorem dX6_rain_16 : decode cX6_rain 16 = .ok (.aload_n 0, 1) := by decide +kernel
theorem dX6_rain_17 : decode cX6_rain 17 = .ok (.getfield 10, 3) := by decide +kernel
theorem dX6_rain_20 : decode cX6_rain 20 = .ok (.iload_n 1, 1) := by decide +kernel
theorem dX6_rain_21 : decode cX6_rain 21 = .ok (.putfield 60, 3) := by decide +kernel
theorem dX6_rain_24 : decode cX6_rain 24 = .ok (.iload_n 2, 1) := by decide +kernel
theorem dX6_rain_25 : decode cX6_rain 25 = .ok (.ireturn, 1) := by decide +kernel
theorem dX6_well_0 : decode cX6_well 0 = .ok (.iload_n 1, 1) := by decide +kernel
theorem dX6_well_1 : decode cX6_well 1 = .ok (.bipush 12, 2) := by decide +kernel
theorem dX6_well_3 : decode cX6_well 3 = .ok (.invokestatic 19, 3) := by decide +kernel
theorem dX6_well_6 : decode cX6_well 6 = .ok (.aload_n 0, 1) := by decide +kernel
theorem dX6_well_7 : decode cX6_well 7 = .ok (.getfield 10, 3) := by decide +kernel
theorem dX6_well_10 : decode cX6_well 10 = .ok (.getfield 63, 3) := by decide +kernel
theorem dX6_well_13 : decode cX6_well 13 = .ok (.getfield 67, 3) := by decide +kernel
theorem dX6_well_16 : decode cX6_well 16 = .ok (.bipush 10, 2) := by decide +kernel
theorem dX6_well_18 : decode cX6_well 18 = .ok (.if_icmp .ge 7, 3) := by decide +kernel
theorem dX6_well_21 : decode cX6_well 21 = .ok (.iconst 1, 1) := by decide +kernel
theorem dX6_well_22 : decode cX6_well 22 = .ok (.goto 4, 3) := by decide +kernel
theorem dX6_well_25 : decode cX6_well 25 = .ok (.iconst 0, 1) := by decide +kernel
theorem dX6_well_26 : decode cX6_well 26 = .ok (.invokestatic 32, 3) := by decide +kernel
theorem dX6_well_29 : decode cX6_well 29 = .ok (.aload_n 0, 1) := by decide +kernel
theorem dX6_well_30 : decode cX6_well 30 = .ok (.getfield 10, 3) := by decide +kernel
theorem dX6_well_33 : decode cX6_well 33 = .ok (.getfield 63, 3) := by decide +kernel
theorem dX6_well_36 : decode cX6_well 36 = .ok (.iload_n 1, 1) := by decide +kernel
theorem dX6_well_37 : decode cX6_well 37 = .ok (.iload_n 2, 1) := by decide +kernel
theorem dX6_well_38 : decode cX6_well 38 = .ok (.invokevirtual 72, 3) := by decide +kernel
theorem dX6_well_41 : decode cX6_well 41 = .ok (.ireturn, 1) := by decide +kernel
theorem dX6_open_0 : decode cX6_open 0 = .ok (.iload_n 1, 1) := by decide +kernel
theorem dX6_open_1 : decode cX6_open 1 = .ok (.aload_n 0, 1) := by decide +kernel
theorem dX6_open_2 : decode cX6_open 2 = .ok (.getfield 10, 3) := by decide +kernel
theorem dX6_open_5 : decode cX6_open 5 = .ok (.getfield 63, 3) := by decide +kernel
theorem dX6_open_8 : decode cX6_open 8 = .ok (.getfield 67, 3) := by decide +kernel
theorem dX6_open_11 : decode cX6_open 11 = .ok (.invokestatic 19, 3) := by decide +kernel
theorem dX6_open_14 : decode cX6_open 14 = .ok (.iload_n 2, 1) := by decide +kernel
theorem dX6_open_15 : decode cX6_open 15 = .ok (.iconst 0, 1) := by decide +kernel
theorem dX6_open_16 : decode cX6_open 16 = .ok (.aload_n 0, 1) := by decide +kernel
theorem dX6_open_17 : decode cX6_open 17 = .ok (.getfield 10, 3) := by decide +kernel
theorem dX6_open_20 : decode cX6_open 20 = .ok (.getfield 63, 3) := by decide +kernel
theorem dX6_open_23 : decode cX6_open 23 = .ok (.getfield 76, 3) := by decide +kernel
theorem dX6_open_26 : decode cX6_open 26 = .ok (.iload_n 1, 1) := by decide +kernel
theorem dX6_open_27 : decode cX6_open 27 = .ok (.baload, 1) := by decide +kernel
theorem dX6_open_28 : decode cX6_open 28 = .ok (.ifCond .eq 8, 3) := by decide +kernel
theorem dX6_open_31 : decode cX6_open 31 = .ok (.bipush 10, 2) := by decide +kernel
theorem dX6_open_33 : decode cX6_open 33 = .ok (.goto 6, 3) := by decide +kernel
theorem dX6_open_36 : decode cX6_open 36 = .ok (.sipush 1000, 3) := by decide +kernel
theorem dX6_open_39 : decode cX6_open 39 = .ok (.invokestatic 24, 3) := by decide +kernel
theorem dX6_open_42 : decode cX6_open 42 = .ok (.aload_n 0, 1) := by decide +kernel
theorem dX6_open_43 : decode cX6_open 43 = .ok (.getfield 10, 3) := by decide +kernel
theorem dX6_open_46 : decode cX6_open 46 = .ok (.getfield 63, 3) := by decide +kernel
theorem dX6_open_49 : decode cX6_open 49 = .ok (.getfield 80, 3) := by decide +kernel
theorem dX6_open_52 : decode cX6_open 52 = .ok (.iload_n 1, 1) := by decide +kernel
theorem dX6_open_53 : decode cX6_open 53 = .ok (.iaload, 1) := by decide +kernel
theorem dX6_open_54 : decode cX6_open 54 = .ok (.istore_n 3, 1) := by decide +kernel
theorem dX6_open_55 : decode cX6_open 55 = .ok (.aload_n 0, 1) := by decide +kernel
theorem dX6_open_56 : decode cX6_open 56 = .ok (.getfield 10, 3) := by decide +kernel
theorem dX6_open_59 : decode cX6_open 59 = .ok (.getfield 63, 3) := by decide +kernel
theorem dX6_open_62 : decode cX6_open 62 = .ok (.getfield 80, 3) := by decide +kernel
theorem dX6_open_65 : decode cX6_open 65 = .ok (.iload_n 1, 1) := by decide +kernel
theorem dX6_open_66 : decode cX6_open 66 = .ok (.iload_n 2, 1) := by decide +kernel
theorem dX6_open_67 : decode cX6_open 67 = .ok (.iastore, 1) := by decide +kernel
theorem dX6_open_68 : decode cX6_open 68 = .ok (.iload_n 3, 1) := by decide +kernel
theorem dX6_open_69 : decode cX6_open 69 = .ok (.ireturn, 1) := by decide +kernel
theorem dX6_clean_0 : decode cX6_clean 0 = .ok (.iload_n 1, 1) := by decide +kernel
theorem dX6_clean_1 : decode cX6_clean 1 = .ok (.aload_n 0, 1) := by decide +kernel
theorem dX6_clean_2 : decode cX6_clean 2 = .ok (.getfield 10, 3) := by decide +kernel
theorem dX6_clean_5 : decode cX6_clean 5 = .ok (.getfield 63, 3) := by decide +kernel
theorem dX6_clean_8 : decode cX6_clean 8 = .ok (.getfield 67, 3) := by decide +kernel
theorem dX6_clean_11 : decode cX6_clean 11 = .ok (.invokestatic 19, 3) := by decide +kernel
theorem dX6_clean_14 : decode cX6_clean 14 = .ok (.aload_n 0, 1) := by decide +kernel
theorem dX6_clean_15 : decode cX6_clean 15 = .ok (.getfield 10, 3) := by decide +kernel
theorem dX6_clean_18 : decode cX6_clean 18 = .ok (.getfield 63, 3) := by decide +kernel
theorem dX6_clean_21 : decode cX6_clean 21 = .ok (.getfield 76, 3) := by decide +kernel
theorem dX6_clean_24 : decode cX6_clean 24 = .ok (.iload_n 1, 1) := by decide +kernel
theorem dX6_clean_25 : decode cX6_clean 25 = .ok (.baload, 1) := by decide +kernel
theorem dX6_clean_26 : decode cX6_clean 26 = .ok (.ifCond .ne 7, 3) := by decide +kernel
theorem dX6_clean_29 : decode cX6_clean 29 = .ok (.iconst 1, 1) := by decide +kernel
theorem dX6_clean_30 : decode cX6_clean 30 = .ok (.goto 4, 3) := by decide +kernel
theorem dX6_clean_33 : decode cX6_clean 33 = .ok (.iconst 0, 1) := by decide +kernel
theorem dX6_clean_34 : decode cX6_clean 34 = .ok (.invokestatic 32, 3) := by decide +kernel
theorem dX6_clean_37 : decode cX6_clean 37 = .ok (.aload_n 0, 1) := by decide +kernel
theorem dX6_clean_38 : decode cX6_clean 38 = .ok (.getfield 10, 3) := by decide +kernel
theorem dX6_clean_41 : decode cX6_clean 41 = .ok (.getfield 63, 3) := by decide +kernel
theorem dX6_clean_44 : decode cX6_clean 44 = .ok (.getfield 84, 3) := by decide +kernel
theorem dX6_clean_47 : decode cX6_clean 47 = .ok (.iload_n 1, 1) := by decide +kernel
theorem dX6_clean_48 : decode cX6_clean 48 = .ok (.iaload, 1) := by decide +kernel
theorem dX6_clean_49 : decode cX6_clean 49 = .ok (.istore_n 2, 1) := by decide +kernel
theorem dX6_clean_50 : decode cX6_clean 50 = .ok (.aload_n 0, 1) := by decide +kernel
theorem dX6_clean_51 : decode cX6_clean 51 = .ok (.getfield 10, 3) := by decide +kernel
theorem dX6_clean_54 : decode cX6_clean 54 = .ok (.getfield 63, 3) := by decide +kernel
theorem dX6_clean_57 : decode cX6_clean 57 = .ok (.getfield 84, 3) := by decide +kernel
theorem dX6_clean_60 : decode cX6_clean 60 = .ok (.iload_n 1, 1) := by decide +kernel
theorem dX6_clean_61 : decode cX6_clean 61 = .ok (.iconst 0, 1) := by decide +kernel
theorem dX6_clean_62 : decode cX6_clean 62 = .ok (.iastore, 1) := by decide +kernel
theorem dX6_clean_63 : decode cX6_clean 63 = .ok (.iload_n 2, 1) := by decide +kernel
theorem dX6_clean_64 : decode cX6_clean 64 = .ok (.ireturn, 1) := by decide +kernel
theorem dX6_use_0 : decode cX6_use 0 = .ok (.iload_n 1, 1) := by decide +kernel
theorem dX6_use_1 : decode cX6_use 1 = .ok (.iconst 0, 1) := by decide +kernel
theorem dX6_use_2 : decode cX6_use 2 = .ok (.bipush 100, 2) := by decide +kernel
theorem dX6_use_4 : decode cX6_use 4 = .ok (.invokestatic 24, 3) := by decide +kernel
theorem dX6_use_7 : decode cX6_use 7 = .ok (.iload_n 2, 1) := by decide +kernel
theorem dX6_use_8 : decode cX6_use 8 = .ok (.iconst 1, 1) := by decide +kernel
theorem dX6_use_9 : decode cX6_use 9 = .ok (.bipush 50, 2) := by decide +kernel
theorem dX6_use_11 : decode cX6_use 11 = .ok (.invokestatic 24, 3) := by decide +kernel
theorem dX6_use_14 : decode cX6_use 14 = .ok (.aload_n 0, 1) := by decide +kernel
theorem dX6_use_15 : decode cX6_use 15 = .ok (.getfield 10, 3) := by decide +kernel
theorem dX6_use_18 : decode cX6_use 18 = .ok (.getfield 87, 3) := by decide +kernel
theorem dX6_use_21 : decode cX6_use 21 = .ok (.getfield 91, 3) := by decide +kernel
theorem dX6_use_24 : decode cX6_use 24 = .ok (.bipush 6, 2) := by decide +kernel
theorem dX6_use_26 : decode cX6_use 26 = .ok (.if_icmp .ge 7, 3) := by decide +kernel
theorem dX6_use_29 : decode cX6_use 29 = .ok (.iconst 1, 1) := by decide +kernel
theorem dX6_use_30 : decode cX6_use 30 = .ok (.goto 4, 3) := by decide +kernel
theorem dX6_use_33 : decode cX6_use 33 = .ok (.iconst 0, 1) := by decide +kernel
theorem dX6_use_34 : decode cX6_use 34 = .ok (.invokestatic 32, 3) := by decide +kernel
theorem dX6_use_37 : decode cX6_use 37 = .ok (.aload_n 0, 1) := by decide +kernel
theorem dX6_use_38 : decode cX6_use 38 = .ok (.getfield 10, 3) := by decide +kernel
theorem dX6_use_41 : decode cX6_use 41 = .ok (.getfield 87, 3) := by decide +kernel
theorem dX6_use_44 : decode cX6_use 44 = .ok (.iload_n 1, 1) := by decide +kernel
theorem dX6_use_45 : decode cX6_use 45 = .ok (.iload_n 2, 1) := by decide +kernel
theorem dX6_use_46 : decode cX6_use 46 = .ok (.invokevirtual 94, 3) := by decide +kernel
theorem dX6_use_49 : decode cX6_use 49 = .ok (.ireturn, 1) := by decide +kernel
theorem dX6_spring_0 : decode cX6_spring 0 = .ok (.iload_n 1, 1) := by decide +kernel
theorem dX6_spring_1 : decode cX6_spring 1 = .ok (.bipush 12, 2) := by decide +kernel
theorem dX6_spring_3 : decode cX6_spring 3 = .ok (.invokestatic 19, 3) := by decide +kernel
theorem dX6_spring_6 : decode cX6_spring 6 = .ok (.iload_n 2, 1) := by decide +kernel
theorem dX6_spring_7 : decode cX6_spring 7 = .ok (.iconst 0, 1) := by decide +kernel
theorem dX6_spring_8 : decode cX6_spring 8 = .ok (.ldc 23, 2) := by decide +kernel
theorem dX6_spring_10 : decode cX6_spring 10 = .ok (.invokestatic 24, 3) := by decide +kernel
theorem dX6_spring_13 : decode cX6_spring 13 = .ok (.iload_n 3, 1) := by decide +kernel
theorem dX6_spring_14 : decode cX6_spring 14 = .ok (.iconst 0, 1) := by decide +kernel
theorem dX6_spring_15 : decode cX6_spring 15 = .ok (.ldc 23, 2) := by decide +kernel
theorem dX6_spring_17 : decode cX6_spring 17 = .ok (.invokestatic 24, 3) := by decide +kernel
theorem dX6_spring_20 : decode cX6_spring 20 = .ok (.aload_n 0, 1) := by decide +kernel
theorem dX6_spring_21 : decode cX6_spring 21 = .ok (.getfield 10, 3) := by decide +kernel
theorem dX6_spring_24 : decode cX6_spring 24 = .ok (.getfield 98, 3) := by decide +kernel
theorem dX6_spring_27 : decode cX6_spring 27 = .ok (.getfield 102, 3) := by decide +kernel
theorem dX6_spring_30 : decode cX6_spring 30 = .ok (.iconst 4, 1) := by decide +kernel
theorem dX6_spring_31 : decode cX6_spring 31 = .ok (.if_icmp .ge 7, 3) := by decide +kernel
theorem dX6_spring_34 : decode cX6_spring 34 = .ok (.iconst 1, 1) := by decide +kernel
theorem dX6_spring_35 : decode cX6_spring 35 = .ok (.goto 4, 3) := by decide +kernel
theorem dX6_spring_38 : decode cX6_spring 38 = .ok (.iconst 0, 1) := by decide +kernel
theorem dX6_spring_39 : decode cX6_spring 39 = .ok (.invokestatic 32, 3) := by decide +kernel
theorem dX6_spring_42 : decode cX6_spring 42 = .ok (.aload_n 0, 1) := by decide +kernel
theorem dX6_spring_43 : decode cX6_spring 43 = .ok (.getfield 10, 3) := by decide +kernel
theorem dX6_spring_46 : decode cX6_spring 46 = .ok (.getfield 98, 3) := by decide +kernel
theorem dX6_spring_49 : decode cX6_spring 49 = .ok (.iload_n 1, 1) := by decide +kernel
theorem dX6_spring_50 : decode cX6_spring 50 = .ok (.iload_n 2, 1) := by decide +kernel
theorem dX6_spring_51 : decode cX6_spring 51 = .ok (.iload_n 3, 1) := by decide +kernel
theorem dX6_spring_52 : decode cX6_spring 52 = .ok (.invokevirtual 105, 3) := by decide +kernel
theorem dX6_spring_55 : decode cX6_spring 55 = .ok (.ireturn, 1) := by decide +kernel
theorem dX6_promise_0 : decode cX6_promise 0 = .ok (.iload_n 1, 1) := by decide +kernel
theorem dX6_promise_1 : decode cX6_promise 1 = .ok (.aload_n 0, 1) := by decide +kernel
theorem dX6_promise_2 : decode cX6_promise 2 = .ok (.getfield 10, 3) := by decide +kernel
theorem dX6_promise_5 : decode cX6_promise 5 = .ok (.getfield 98, 3) := by decide +kernel
theorem dX6_promise_8 : decode cX6_promise 8 = .ok (.getfield 102, 3) := by decide +kernel
theorem dX6_promise_11 : decode cX6_promise 11 = .ok (.invokestatic 19, 3) := by decide +kernel
theorem dX6_promise_14 : decode cX6_promise 14 = .ok (.iload_n 2, 1) := by decide +kernel
theorem dX6_promise_15 : decode cX6_promise 15 = .ok (.iconst 0, 1) := by decide +kernel
theorem dX6_promise_16 : decode cX6_promise 16 = .ok (.ldc 23, 2) := by decide +kernel
theorem dX6_promise_18 : decode cX6_promise 18 = .ok (.invokestatic 24, 3) := by decide +kernel
theorem dX6_promise_21 : decode cX6_promise 21 = .ok (.aload_n 0, 1) := by decide +kernel
theorem dX6_promise_22 : decode cX6_promise 22 = .ok (.getfield 10, 3) := by decide +kernel
theorem dX6_promise_25 : decode cX6_promise 25 = .ok (.getfield 98, 3) := by decide +kernel
theorem dX6_promise_28 : decode cX6_promise 28 = .ok (.getfield 107, 3) := by decide +kernel
theorem dX6_promise_31 : decode cX6_promise 31 = .ok (.iload_n 1, 1) := by decide +kernel
theorem dX6_promise_32 : decode cX6_promise 32 = .ok (.iaload, 1) := by decide +kernel
theorem dX6_promise_33 : decode cX6_promise 33 = .ok (.istore_n 3, 1) := by decide +kernel
theorem dX6_promise_34 : decode cX6_promise 34 = .ok (.aload_n 0, 1) := by decide +kernel
theorem dX6_promise_35 : decode cX6_promise 35 = .ok (.getfield 10, 3) := by decide +kernel
theorem dX6_promise_38 : decode cX6_promise 38 = .ok (.getfield 98, 3) := by decide +kernel
theorem dX6_promise_41 : decode cX6_promise 41 = .ok (.getfield 107, 3) := by decide +kernel
theorem dX6_promise_44 : decode cX6_promise 44 = .ok (.iload_n 1, 1) := by decide +kernel
theorem dX6_promise_45 : decode cX6_promise 45 = .ok (.iload_n 2, 1) := by decide +kernel
theorem dX6_promise_46 : decode cX6_promise 46 = .ok (.iastore, 1) := by decide +kernel
theorem dX6_promise_47 : decode cX6_promise 47 = .ok (.iload_n 3, 1) := by decide +kernel
theorem dX6_promise_48 : decode cX6_promise 48 = .ok (.ireturn, 1) := by decide +kernel
theorem dX6_tracer_0 : decode cX6_tracer 0 = .ok (.iload_n 1, 1) := by decide +kernel
theorem dX6_tracer_1 : decode cX6_tracer 1 = .ok (.bipush 12, 2) := by decide +kernel
theorem dX6_tracer_3 : decode cX6_tracer 3 = .ok (.invokestatic 19, 3) := by decide +kernel
theorem dX6_tracer_6 : decode cX6_tracer 6 = .ok (.iload_n 2, 1) := by decide +kernel
theorem dX6_tracer_7 : decode cX6_tracer 7 = .ok (.iconst 1, 1) := by decide +kernel
theorem dX6_tracer_8 : decode cX6_tracer 8 = .ok (.ldc 110, 2) := by decide +kernel
theorem dX6_tracer_10 : decode cX6_tracer 10 = .ok (.invokestatic 24, 3) := by decide +kernel
theorem dX6_tracer_13 : decode cX6_tracer 13 = .ok (.aload_n 0, 1) := by decide +kernel
theorem dX6_tracer_14 : decode cX6_tracer 14 = .ok (.getfield 10, 3) := by decide +kernel
theorem dX6_tracer_17 : decode cX6_tracer 17 = .ok (.getfield 36, 3) := by decide +kernel
theorem dX6_tracer_20 : decode cX6_tracer 20 = .ok (.getfield 40, 3) := by decide +kernel
theorem dX6_tracer_23 : decode cX6_tracer 23 = .ok (.iload_n 1, 1) := by decide +kernel
theorem dX6_tracer_24 : decode cX6_tracer 24 = .ok (.laload, 1) := by decide +kernel
theorem dX6_tracer_25 : decode cX6_tracer 25 = .ok (.lconst 0, 1) := by decide +kernel
theorem dX6_tracer_26 : decode cX6_tracer 26 = .ok (.lcmp, 1) := by decide +kernel
theorem dX6_tracer_27 : decode cX6_tracer 27 = .ok (.ifCond .le 7, 3) := by decide +kernel
theorem dX6_tracer_30 : decode cX6_tracer 30 = .ok (.iconst 1, 1) := by decide +kernel
theorem dX6_tracer_31 : decode cX6_tracer 31 = .ok (.goto 4, 3) := by decide +kernel
theorem dX6_tracer_34 : decode cX6_tracer 34 = .ok (.iconst 0, 1) := by decide +kernel
theorem dX6_tracer_35 : decode cX6_tracer 35 = .ok (.invokestatic 32, 3) := by decide +kernel
theorem dX6_tracer_38 : decode cX6_tracer 38 = .ok (.aload_n 0, 1) := by decide +kernel
theorem dX6_tracer_39 : decode cX6_tracer 39 = .ok (.getfield 10, 3) := by decide +kernel
theorem dX6_tracer_42 : decode cX6_tracer 42 = .ok (.getfield 36, 3) := by decide +kernel
theorem dX6_tracer_45 : decode cX6_tracer 45 = .ok (.getfield 111, 3) := by decide +kernel
theorem dX6_tracer_48 : decode cX6_tracer 48 = .ok (.iload_n 1, 1) := by decide +kernel
theorem dX6_tracer_49 : decode cX6_tracer 49 = .ok (.dup2, 1) := by decide +kernel
theorem dX6_tracer_50 : decode cX6_tracer 50 = .ok (.laload, 1) := by decide +kernel
theorem dX6_tracer_51 : decode cX6_tracer 51 = .ok (.iload_n 2, 1) := by decide +kernel
theorem dX6_tracer_52 : decode cX6_tracer 52 = .ok (.i2l, 1) := by decide +kernel
theorem dX6_tracer_53 : decode cX6_tracer 53 = .ok (.ladd, 1) := by decide +kernel
theorem dX6_tracer_54 : decode cX6_tracer 54 = .ok (.lastore, 1) := by decide +kernel
theorem dX6_tracer_55 : decode cX6_tracer 55 = .ok (.aload_n 0, 1) := by decide +kernel
theorem dX6_tracer_56 : decode cX6_tracer 56 = .ok (.getfield 10, 3) := by decide +kernel
theorem dX6_tracer_59 : decode cX6_tracer 59 = .ok (.getfield 36, 3) := by decide +kernel
theorem dX6_tracer_62 : decode cX6_tracer 62 = .ok (.getfield 111, 3) := by decide +kernel
theorem dX6_tracer_65 : decode cX6_tracer 65 = .ok (.iload_n 1, 1) := by decide +kernel
theorem dX6_tracer_66 : decode cX6_tracer 66 = .ok (.laload, 1) := by decide +kernel
theorem dX6_tracer_67 : decode cX6_tracer 67 = .ok (.lreturn, 1) := by decide +kernel
theorem dX6_pass_0 : decode cX6_pass 0 = .ok (.iload_n 1, 1) := by decide +kernel
theorem dX6_pass_1 : decode cX6_pass 1 = .ok (.iconst 1, 1) := by decide +kernel
theorem dX6_pass_2 : decode cX6_pass 2 = .ok (.bipush 24, 2) := by decide +kernel
theorem dX6_pass_4 : decode cX6_pass 4 = .ok (.invokestatic 24, 3) := by decide +kernel
theorem dX6_pass_7 : decode cX6_pass 7 = .ok (.aload_n 0, 1) := by decide +kernel
theorem dX6_pass_8 : decode cX6_pass 8 = .ok (.getfield 10, 3) := by decide +kernel
theorem dX6_pass_11 : decode cX6_pass 11 = .ok (.getfield 28, 3) := by decide +kernel
theorem dX6_pass_14 : decode cX6_pass 14 = .ok (.iload_n 1, 1) := by decide +kernel
theorem dX6_pass_15 : decode cX6_pass 15 = .ok (.iadd, 1) := by decide +kernel
theorem dX6_pass_16 : decode cX6_pass 16 = .ok (.sipush 600, 3) := by decide +kernel
theorem dX6_pass_19 : decode cX6_pass 19 = .ok (.if_icmp .gt 7, 3) := by decide +kernel
theorem dX6_pass_22 : decode cX6_pass 22 = .ok (.iconst 1, 1) := by decide +kernel
theorem dX6_pass_23 : decode cX6_pass 23 = .ok (.goto 4, 3) := by decide +kernel
theorem dX6_pass_26 : decode cX6_pass 26 = .ok (.iconst 0, 1) := by decide +kernel
theorem dX6_pass_27 : decode cX6_pass 27 = .ok (.invokestatic 32, 3) := by decide +kernel
theorem dX6_pass_30 : decode cX6_pass 30 = .ok (.iconst 0, 1) := by decide +kernel
theorem dX6_pass_31 : decode cX6_pass 31 = .ok (.istore_n 2, 1) := by decide +kernel
theorem dX6_pass_32 : decode cX6_pass 32 = .ok (.iload_n 2, 1) := by decide +kernel
theorem dX6_pass_33 : decode cX6_pass 33 = .ok (.iload_n 1, 1) := by decide +kernel
theorem dX6_pass_34 : decode cX6_pass 34 = .ok (.if_icmp .ge 16, 3) := by decide +kernel
theorem dX6_pass_37 : decode cX6_pass 37 = .ok (.aload_n 0, 1) := by decide +kernel
theorem dX6_pass_38 : decode cX6_pass 38 = .ok (.getfield 10, 3) := by decide +kernel
theorem dX6_pass_41 : decode cX6_pass 41 = .ok (.invokevirtual 114, 3) := by decide +kernel
theorem dX6_pass_44 : decode cX6_pass 44 = .ok (.iinc 2 1, 3) := by decide +kernel
theorem dX6_pass_47 : decode cX6_pass 47 = .ok (.goto (-15), 3) := by decide +kernel
theorem dX6_pass_50 : decode cX6_pass 50 = .ok (.aload_n 0, 1) := by decide +kernel
theorem dX6_pass_51 : decode cX6_pass 51 = .ok (.getfield 10, 3) := by decide +kernel
theorem dX6_pass_54 : decode cX6_pass 54 = .ok (.getfield 28, 3) := by decide +kernel
theorem dX6_pass_57 : decode cX6_pass 57 = .ok (.ireturn, 1) := by decide +kernel
theorem dX6_ofBlock_0 : decode cX6_ofBlock 0 = .ok (.iload_n 1, 1) := by decide +kernel
theorem dX6_ofBlock_1 : decode cX6_ofBlock 1 = .ok (.bipush 12, 2) := by decide +kernel
theorem dX6_ofBlock_3 : decode cX6_ofBlock 3 = .ok (.invokestatic 19, 3) := by decide +kernel
theorem dX6_ofBlock_6 : decode cX6_ofBlock 6 = .ok (.iload_n 2, 1) := by decide +kernel
theorem dX6_ofBlock_7 : decode cX6_ofBlock 7 = .ok (.iconst 0, 1) := by decide +kernel
theorem dX6_ofBlock_8 : decode cX6_ofBlock 8 = .ok (.iconst 5, 1) := by decide +kernel
theorem dX6_ofBlock_9 : decode cX6_ofBlock 9 = .ok (.invokestatic 24, 3) := by decide +kernel
theorem dX6_ofBlock_12 : decode cX6_ofBlock 12 = .ok (.aload_n 0, 1) := by decide +kernel
theorem dX6_ofBlock_13 : decode cX6_ofBlock 13 = .ok (.getfield 10, 3) := by decide +kernel
theorem dX6_ofBlock_16 : decode cX6_ofBlock 16 = .ok (.getfield 36, 3) := by decide +kernel
theorem dX6_ofBlock_19 : decode cX6_ofBlock 19 = .ok (.iload_n 1, 1) := by decide +kernel
theorem dX6_ofBlock_20 : decode cX6_ofBlock 20 = .ok (.iload_n 2, 1) := by decide +kernel
theorem dX6_ofBlock_21 : decode cX6_ofBlock 21 = .ok (.invokevirtual 117, 3) := by decide +kernel
theorem dX6_ofBlock_24 : decode cX6_ofBlock 24 = .ok (.lreturn, 1) := by decide +kernel
theorem dX6_would_0 : decode cX6_would 0 = .ok (.iload_n 2, 1) := by decide +kernel
theorem dX6_would_1 : decode cX6_would 1 = .ok (.bipush 12, 2) := by decide +kernel
theorem dX6_would_3 : decode cX6_would 3 = .ok (.invokestatic 19, 3) := by decide +kernel
theorem dX6_would_6 : decode cX6_would 6 = .ok (.iload_n 1, 1) := by decide +kernel
theorem dX6_would_7 : decode cX6_would 7 = .ok (.iconst 0, 1) := by decide +kernel
theorem dX6_would_8 : decode cX6_would 8 = .ok (.bipush 24, 2) := by decide +kernel
theorem dX6_would_10 : decode cX6_would 10 = .ok (.invokestatic 24, 3) := by decide +kernel
theorem dX6_would_13 : decode cX6_would 13 = .ok (.iload_n 3, 1) := by decide +kernel
theorem dX6_would_14 : decode cX6_would 14 = .ok (.iconst 0, 1) := by decide +kernel
theorem dX6_would_15 : decode cX6_would 15 = .ok (.iconst 5, 1) := by decide +kernel
theorem dX6_would_16 : decode cX6_would 16 = .ok (.invokestatic 24, 3) := by decide +kernel
theorem dX6_would_19 : decode cX6_would 19 = .ok (.aload_n 0, 1) := by decide +kernel
theorem dX6_would_20 : decode cX6_would 20 = .ok (.getfield 16, 3) := by decide +kernel
theorem dX6_would_23 : decode cX6_would 23 = .ok (.aload_n 0, 1) := by decide +kernel
theorem dX6_would_24 : decode cX6_would 24 = .ok (.getfield 10, 3) := by decide +kernel
theorem dX6_would_27 : decode cX6_would 27 = .ok (.invokevirtual 121, 3) := by decide +kernel
theorem dX6_would_30 : decode cX6_would 30 = .ok (.iconst 0, 1) := by decide +kernel
theorem dX6_would_31 : decode cX6_would 31 = .ok (.istore 4, 2) := by decide +kernel
theorem dX6_would_33 : decode cX6_would 33 = .ok (.iload 4, 2) := by decide +kernel
theorem dX6_would_35 : decode cX6_would 35 = .ok (.iload_n 1, 1) := by decide +kernel
theorem dX6_would_36 : decode cX6_would 36 = .ok (.if_icmp .ge 16, 3) := by decide +kernel
theorem dX6_would_39 : decode cX6_would 39 = .ok (.aload_n 0, 1) := by decide +kernel
theorem dX6_would_40 : decode cX6_would 40 = .ok (.getfield 16, 3) := by decide +kernel
theorem dX6_would_43 : decode cX6_would 43 = .ok (.invokevirtual 114, 3) := by decide +kernel
theorem dX6_would_46 : decode cX6_would 46 = .ok (.iinc 4 1, 3) := by decide +kernel
theorem dX6_would_49 : decode cX6_would 49 = .ok (.goto (-16), 3) := by decide +kernel
theorem dX6_would_52 : decode cX6_would 52 = .ok (.aload_n 0, 1) := by decide +kernel
theorem dX6_would_53 : decode cX6_would 53 = .ok (.getfield 16, 3) := by decide +kernel
theorem dX6_would_56 : decode cX6_would 56 = .ok (.getfield 36, 3) := by decide +kernel
theorem dX6_would_59 : decode cX6_would 59 = .ok (.iload_n 2, 1) := by decide +kernel
theorem dX6_would_60 : decode cX6_would 60 = .ok (.iload_n 3, 1) := by decide +kernel
theorem dX6_would_61 : decode cX6_would 61 = .ok (.invokevirtual 117, 3) := by decide +kernel
theorem dX6_would_64 : decode cX6_would 64 = .ok (.lreturn, 1) := by decide +kernel
theorem dX6_ofWell_0 : decode cX6_ofWell 0 = .ok (.iload_n 1, 1) := by decide +kernel
theorem dX6_ofWell_1 : decode cX6_ofWell 1 = .ok (.aload_n 0, 1) := by decide +kernel
theorem dX6_ofWell_2 : decode cX6_ofWell 2 = .ok (.getfield 10, 3) := by decide +kernel
theorem dX6_ofWell_5 : decode cX6_ofWell 5 = .ok (.getfield 63, 3) := by decide +kernel
theorem dX6_ofWell_8 : decode cX6_ofWell 8 = .ok (.getfield 67, 3) := by decide +kernel
theorem dX6_ofWell_11 : decode cX6_ofWell 11 = .ok (.invokestatic 19, 3) := by decide +kernel
theorem dX6_ofWell_14 : decode cX6_ofWell 14 = .ok (.iload_n 2, 1) := by decide +kernel
theorem dX6_ofWell_15 : decode cX6_ofWell 15 = .ok (.iconst 0, 1) := by decide +kernel
theorem dX6_ofWell_16 : decode cX6_ofWell 16 = .ok (.bipush 6, 2) := by decide +kernel
theorem dX6_ofWell_18 : decode cX6_ofWell 18 = .ok (.invokestatic 24, 3) := by decide +kernel
theorem dX6_ofWell_21 : decode cX6_ofWell 21 = .ok (.aload_n 0, 1) := by decide +kernel
theorem dX6_ofWell_22 : decode cX6_ofWell 22 = .ok (.getfield 10, 3) := by decide +kernel
theorem dX6_ofWell_25 : decode cX6_ofWell 25 = .ok (.getfield 63, 3) := by decide +kernel
theorem dX6_ofWell_28 : decode cX6_ofWell 28 = .ok (.iload_n 1, 1) := by decide +kernel
theorem dX6_ofWell_29 : decode cX6_ofWell 29 = .ok (.iload_n 2, 1) := by decide +kernel
theorem dX6_ofWell_30 : decode cX6_ofWell 30 = .ok (.invokevirtual 125, 3) := by decide +kernel
theorem dX6_ofWell_33 : decode cX6_ofWell 33 = .ok (.lreturn, 1) := by decide +kernel
theorem dX6_ofSpring_0 : decode cX6_ofSpring 0 = .ok (.iload_n 1, 1) := by decide +kernel
theorem dX6_ofSpring_1 : decode cX6_ofSpring 1 = .ok (.aload_n 0, 1) := by decide +kernel
theorem dX6_ofSpring_2 : decode cX6_ofSpring 2 = .ok (.getfield 10, 3) := by decide +kernel
theorem dX6_ofSpring_5 : decode cX6_ofSpring 5 = .ok (.getfield 98, 3) := by decide +kernel
theorem dX6_ofSpring_8 : decode cX6_ofSpring 8 = .ok (.getfield 102, 3) := by decide +kernel
theorem dX6_ofSpring_11 : decode cX6_ofSpring 11 = .ok (.invokestatic 19, 3) := by decide +kernel
theorem dX6_ofSpring_14 : decode cX6_ofSpring 14 = .ok (.iload_n 2, 1) := by decide +kernel
theorem dX6_ofSpring_15 : decode cX6_ofSpring 15 = .ok (.iconst 0, 1) := by decide +kernel
theorem dX6_ofSpring_16 : decode cX6_ofSpring 16 = .ok (.iconst 4, 1) := by decide +kernel
theorem dX6_ofSpring_17 : decode cX6_ofSpring 17 = .ok (.invokestatic 24, 3) := by decide +kernel
theorem dX6_ofSpring_20 : decode cX6_ofSpring 20 = .ok (.aload_n 0, 1) := by decide +kernel
theorem dX6_ofSpring_21 : decode cX6_ofSpring 21 = .ok (.getfield 10, 3) := by decide +kernel
theorem dX6_ofSpring_24 : decode cX6_ofSpring 24 = .ok (.getfield 98, 3) := by decide +kernel
theorem dX6_ofSpring_27 : decode cX6_ofSpring 27 = .ok (.iload_n 1, 1) := by decide +kernel
theorem dX6_ofSpring_28 : decode cX6_ofSpring 28 = .ok (.iload_n 2, 1) := by decide +kernel
theorem dX6_ofSpring_29 : decode cX6_ofSpring 29 = .ok (.invokevirtual 126, 3) := by decide +kernel
theorem dX6_ofSpring_32 : decode cX6_ofSpring 32 = .ok (.lreturn, 1) := by decide +kernel
theorem dX6_quake_0 : decode cX6_quake 0 = .ok (.iload_n 1, 1) := by decide +kernel
theorem dX6_quake_1 : decode cX6_quake 1 = .ok (.aload_n 0, 1) := by decide +kernel
theorem dX6_quake_2 : decode cX6_quake 2 = .ok (.getfield 10, 3) := by decide +kernel
theorem dX6_quake_5 : decode cX6_quake 5 = .ok (.getfield 127, 3) := by decide +kernel
theorem dX6_quake_8 : decode cX6_quake 8 = .ok (.invokevirtual 131, 3) := by decide +kernel
theorem dX6_quake_11 : decode cX6_quake 11 = .ok (.invokestatic 19, 3) := by decide +kernel
theorem dX6_quake_14 : decode cX6_quake 14 = .ok (.iload_n 2, 1) := by decide +kernel
theorem dX6_quake_15 : decode cX6_quake 15 = .ok (.iconst 0, 1) := by decide +kernel
theorem dX6_quake_16 : decode cX6_quake 16 = .ok (.iconst 2, 1) := by decide +kernel
theorem dX6_quake_17 : decode cX6_quake 17 = .ok (.invokestatic 24, 3) := by decide +kernel
theorem dX6_quake_20 : decode cX6_quake 20 = .ok (.aload_n 0, 1) := by decide +kernel
theorem dX6_quake_21 : decode cX6_quake 21 = .ok (.getfield 10, 3) := by decide +kernel
theorem dX6_quake_24 : decode cX6_quake 24 = .ok (.getfield 127, 3) := by decide +kernel
theorem dX6_quake_27 : decode cX6_quake 27 = .ok (.iload_n 1, 1) := by decide +kernel
theorem dX6_quake_28 : decode cX6_quake 28 = .ok (.iload_n 2, 1) := by decide +kernel
theorem dX6_quake_29 : decode cX6_quake 29 = .ok (.invokevirtual 137, 3) := by decide +kernel
theorem dX6_quake_32 : decode cX6_quake 32 = .ok (.ireturn, 1) := by decide +kernel
theorem dX6_count_0 : decode cX6_count 0 = .ok (.iload_n 1, 1) := by decide +kernel
theorem dX6_count_1 : decode cX6_count 1 = .ok (.iconst 0, 1) := by decide +kernel
theorem dX6_count_2 : decode cX6_count 2 = .ok (.iconst 4, 1) := by decide +kernel
theorem dX6_count_3 : decode cX6_count 3 = .ok (.invokestatic 24, 3) := by decide +kernel
theorem dX6_count_6 : decode cX6_count 6 = .ok (.iload_n 1, 1) := by decide +kernel
theorem dX6_count_7 : decode cX6_count 7 = .ok (.tableswitch 70 0 3 #[29, 37, 48, 59], 29) := by decide +kernel
theorem dX6_count_36 : decode cX6_count 36 = .ok (.aload_n 0, 1) := by decide +kernel
theorem dX6_count_37 : decode cX6_count 37 = .ok (.getfield 10, 3) := by decide +kernel
theorem dX6_count_40 : decode cX6_count 40 = .ok (.getfield 28, 3) := by decide +kernel
theorem dX6_count_43 : decode cX6_count 43 = .ok (.ireturn, 1) := by decide +kernel
theorem dX6_count_44 : decode cX6_count 44 = .ok (.aload_n 0, 1) := by decide +kernel
theorem dX6_count_45 : decode cX6_count 45 = .ok (.getfield 10, 3) := by decide +kernel
theorem dX6_count_48 : decode cX6_count 48 = .ok (.getfield 63, 3) := by decide +kernel
theorem dX6_count_51 : decode cX6_count 51 = .ok (.getfield 67, 3) := by decide +kernel
theorem dX6_count_54 : decode cX6_count 54 = .ok (.ireturn, 1) := by decide +kernel
theorem dX6_count_55 : decode cX6_count 55 = .ok (.aload_n 0, 1) := by decide +kernel
theorem dX6_count_56 : decode cX6_count 56 = .ok (.getfield 10, 3) := by decide +kernel
theorem dX6_count_59 : decode cX6_count 59 = .ok (.getfield 98, 3) := by decide +kernel
theorem dX6_count_62 : decode cX6_count 62 = .ok (.getfield 102, 3) := by decide +kernel
theorem dX6_count_65 : decode cX6_count 65 = .ok (.ireturn, 1) := by decide +kernel
theorem dX6_count_66 : decode cX6_count 66 = .ok (.aload_n 0, 1) := by decide +kernel
theorem dX6_count_67 : decode cX6_count 67 = .ok (.getfield 10, 3) := by decide +kernel
theorem dX6_count_70 : decode cX6_count 70 = .ok (.getfield 87, 3) := by decide +kernel
theorem dX6_count_73 : decode cX6_count 73 = .ok (.getfield 91, 3) := by decide +kernel
theorem dX6_count_76 : decode cX6_count 76 = .ok (.ireturn, 1) := by decide +kernel
theorem dX6_count_77 : decode cX6_count 77 = .ok (.aload_n 0, 1) := by decide +kernel
theorem dX6_count_78 : decode cX6_count 78 = .ok (.getfield 10, 3) := by decide +kernel
theorem dX6_count_81 : decode cX6_count 81 = .ok (.getfield 127, 3) := by decide +kernel
theorem dX6_count_84 : decode cX6_count 84 = .ok (.getfield 139, 3) := by decide +kernel
theorem dX6_count_87 : decode cX6_count 87 = .ok (.ireturn, 1) := by decide +kernel
theorem dX6_sum_0 : decode cX6_sum 0 = .ok (.iload_n 1, 1) := by decide +kernel
theorem dX6_sum_1 : decode cX6_sum 1 = .ok (.iconst 0, 1) := by decide +kernel
theorem dX6_sum_2 : decode cX6_sum 2 = .ok (.bipush 7, 2) := by decide +kernel
theorem dX6_sum_4 : decode cX6_sum 4 = .ok (.invokestatic 24, 3) := by decide +kernel
theorem dX6_sum_7 : decode cX6_sum 7 = .ok (.iload_n 1, 1) := by decide +kernel
theorem dX6_sum_8 : decode cX6_sum 8 = .ok (.ifCond .ne 16, 3) := by decide +kernel
theorem dX6_sum_11 : decode cX6_sum 11 = .ok (.aload_n 0, 1) := by decide +kernel
theorem dX6_sum_12 : decode cX6_sum 12 = .ok (.getfield 10, 3) := by decide +kernel
theorem dX6_sum_15 : decode cX6_sum 15 = .ok (.getfield 36, 3) := by decide +kernel
theorem dX6_sum_18 : decode cX6_sum 18 = .ok (.invokevirtual 142, 3) := by decide +kernel
theorem dX6_sum_21 : decode cX6_sum 21 = .ok (.goto 12, 3) := by decide +kernel
theorem dX6_sum_24 : decode cX6_sum 24 = .ok (.aload_n 0, 1) := by decide +kernel
theorem dX6_sum_25 : decode cX6_sum 25 = .ok (.getfield 10, 3) := by decide +kernel
theorem dX6_sum_28 : decode cX6_sum 28 = .ok (.getfield 146, 3) := by decide +kernel
theorem dX6_sum_31 : decode cX6_sum 31 = .ok (.iload_n 1, 1) := by decide +kernel
theorem dX6_sum_32 : decode cX6_sum 32 = .ok (.laload, 1) := by decide +kernel
theorem dX6_sum_33 : decode cX6_sum 33 = .ok (.lreturn, 1) := by decide +kernel
theorem dX6_share_0 : decode cX6_share 0 = .ok (.aload_n 0, 1) := by decide +kernel
theorem dX6_share_1 : decode cX6_share 1 = .ok (.getfield 10, 3) := by decide +kernel
theorem dX6_share_4 : decode cX6_share 4 = .ok (.getfield 146, 3) := by decide +kernel
theorem dX6_share_7 : decode cX6_share 7 = .ok (.bipush 6, 2) := by decide +kernel
theorem dX6_share_9 : decode cX6_share 9 = .ok (.laload, 1) := by decide +kernel
theorem dX6_share_10 : decode cX6_share 10 = .ok (.lstore_n 1, 1) := by decide +kernel
theorem dX6_share_11 : decode cX6_share 11 = .ok (.aload_n 0, 1) := by decide +kernel
theorem dX6_share_12 : decode cX6_share 12 = .ok (.getfield 10, 3) := by decide +kernel
theorem dX6_share_15 : decode cX6_share 15 = .ok (.getfield 146, 3) := by decide +kernel
theorem dX6_share_18 : decode cX6_share 18 = .ok (.bipush 7, 2) := by decide +kernel
theorem dX6_share_20 : decode cX6_share 20 = .ok (.laload, 1) := by decide +kernel
theorem dX6_share_21 : decode cX6_share 21 = .ok (.lstore_n 3, 1) := by decide +kernel
theorem dX6_share_22 : decode cX6_share 22 = .ok (.lload_n 1, 1) := by decide +kernel
theorem dX6_share_23 : decode cX6_share 23 = .ok (.lconst 0, 1) := by decide +kernel
theorem dX6_share_24 : decode cX6_share 24 = .ok (.lcmp, 1) := by decide +kernel
theorem dX6_share_25 : decode cX6_share 25 = .ok (.ifCond .le 20, 3) := by decide +kernel
theorem dX6_share_28 : decode cX6_share 28 = .ok (.lload_n 3, 1) := by decide +kernel
theorem dX6_share_29 : decode cX6_share 29 = .ok (.lconst 0, 1) := by decide +kernel
theorem dX6_share_30 : decode cX6_share 30 = .ok (.lcmp, 1) := by decide +kernel
theorem dX6_share_31 : decode cX6_share 31 = .ok (.ifCond .le 14, 3) := by decide +kernel
theorem dX6_share_34 : decode cX6_share 34 = .ok (.lload_n 1, 1) := by decide +kernel
theorem dX6_share_35 : decode cX6_share 35 = .ok (.l2f, 1) := by decide +kernel
theorem dX6_share_36 : decode cX6_share 36 = .ok (.lload_n 3, 1) := by decide +kernel
theorem dX6_share_37 : decode cX6_share 37 = .ok (.l2f, 1) := by decide +kernel
theorem dX6_share_38 : decode cX6_share 38 = .ok (.fdiv, 1) := by decide +kernel
theorem dX6_share_39 : decode cX6_share 39 = .ok (.invokestatic 149, 3) := by decide +kernel
theorem dX6_share_42 : decode cX6_share 42 = .ok (.goto 4, 3) := by decide +kernel
theorem dX6_share_45 : decode cX6_share 45 = .ok (.iconst 0, 1) := by decide +kernel
theorem dX6_share_46 : decode cX6_share 46 = .ok (.ireturn, 1) := by decide +kernel
theorem dX6_requireIndex_0 : decode cX6_requireIndex 0 = .ok (.iload_n 0, 1) := by decide +kernel
theorem dX6_requireIndex_1 : decode cX6_requireIndex 1 = .ok (.ifCond .lt 8, 3) := by decide +kernel
theorem dX6_requireIndex_4 : decode cX6_requireIndex 4 = .ok (.iload_n 0, 1) := by decide +kernel
theorem dX6_requireIndex_5 : decode cX6_requireIndex 5 = .ok (.iload_n 1, 1) := by decide +kernel
theorem dX6_requireIndex_6 : decode cX6_requireIndex 6 = .ok (.if_icmp .lt 13, 3) := by decide +kernel
theorem dX6_requireIndex_9 : decode cX6_requireIndex 9 = .ok (.new 153, 3) := by decide +kernel
theorem dX6_requireIndex_12 : decode cX6_requireIndex 12 = .ok (.dup, 1) := by decide +kernel
theorem dX6_requireIndex_13 : decode cX6_requireIndex 13 = .ok (.ldc 155, 2) := by decide +kernel
theorem dX6_requireIndex_15 : decode cX6_requireIndex 15 = .ok (.invokespecial 157, 3) := by decide +kernel
theorem dX6_requireIndex_18 : decode cX6_requireIndex 18 = .ok (.athrow, 1) := by decide +kernel
theorem dX6_requireIndex_19 : decode cX6_requireIndex 19 = .ok (.return_, 1) := by decide +kernel
theorem dX6_requireRange_0 : decode cX6_requireRange 0 = .ok (.iload_n 0, 1) := by decide +kernel
theorem dX6_requireRange_1 : decode cX6_requireRange 1 = .ok (.iload_n 1, 1) := by decide +kernel
theorem dX6_requireRange_2 : decode cX6_requireRange 2 = .ok (.if_icmp .lt 12, 3) := by decide +kernel
theorem dX6_requireRange_5 : decode cX6_requireRange 5 = .ok (.iload_n 0, 1) := by decide +kernel
theorem dX6_requireRange_6 : decode cX6_requireRange 6 = .ok (.iload_n 2, 1) := by decide +kernel
theorem dX6_requireRange_7 : decode cX6_requireRange 7 = .ok (.if_icmp .gt 7, 3) := by decide +kernel
theorem dX6_requireRange_10 : decode cX6_requireRange 10 = .ok (.iconst 1, 1) := by decide +kernel
theorem dX6_requireRange_11 : decode cX6_requireRange 11 = .ok (.goto 4, 3) := by decide +kernel
theorem dX6_requireRange_14 : decode cX6_requireRange 14 = .ok (.iconst 0, 1) := by decide +kernel
theorem dX6_requireRange_15 : decode cX6_requireRange 15 = .ok (.invokestatic 53, 3) := by decide +kernel
theorem dX6_requireRange_18 : decode cX6_requireRange 18 = .ok (.return_, 1) := by decide +kernel
theorem dX6_requireArgument_0 : decode cX6_requireArgument 0 = .ok (.iload_n 0, 1) := by decide +kernel
theorem dX6_requireArgument_1 : decode cX6_requireArgument 1 = .ok (.ifCond .ne 13, 3) := by decide +kernel
theorem dX6_requireArgument_4 : decode cX6_requireArgument 4 = .ok (.new 160, 3) := by decide +kernel
theorem dX6_requireArgument_7 : decode cX6_requireArgument 7 = .ok (.dup, 1) := by decide +kernel
theorem dX6_requireArgument_8 : decode cX6_requireArgument 8 = .ok (.ldc 162, 2) := by decide +kernel
theorem dX6_requireArgument_10 : decode cX6_requireArgument 10 = .ok (.invokespecial 164, 3) := by decide +kernel
theorem dX6_requireArgument_13 : decode cX6_requireArgument 13 = .ok (.athrow, 1) := by decide +kernel
theorem dX6_requireArgument_14 : decode cX6_requireArgument 14 = .ok (.return_, 1) := by decide +kernel
theorem dX6_requireState_0 : decode cX6_requireState 0 = .ok (.iload_n 0, 1) := by decide +kernel
theorem dX6_requireState_1 : decode cX6_requireState 1 = .ok (.ifCond .ne 13, 3) := by decide +kernel
theorem dX6_requireState_4 : decode cX6_requireState 4 = .ok (.new 165, 3) := by decide +kernel
theorem dX6_requireState_7 : decode cX6_requireState 7 = .ok (.dup, 1) := by decide +kernel
theorem dX6_requireState_8 : decode cX6_requireState 8 = .ok (.ldc 167, 2) := by decide +kernel
theorem dX6_requireState_10 : decode cX6_requireState 10 = .ok (.invokespecial 169, 3) := by decide +kernel
theorem dX6_requireState_13 : decode cX6_requireState 13 = .ok (.athrow, 1) := by decide +kernel
theorem dX6_requireState_14 : decode cX6_requireState 14 = .ok (.return_, 1) := by decide +kernel
theorem dX6_areNeighbours_0 : decode cX6_areNeighbours 0 = .ok (.iload_n 0, 1) := by decide +kernel
theorem dX6_areNeighbours_1 : decode cX6_areNeighbours 1 = .ok (.iload_n 1, 1) := by decide +kernel
theorem dX6_areNeighbours_2 : decode cX6_areNeighbours 2 = .ok (.if_icmp .ge 9, 3) := by decide +kernel
theorem dX6_areNeighbours_5 : decode cX6_areNeighbours 5 = .ok (.iload_n 1, 1) := by decide +kernel
theorem dX6_areNeighbours_6 : decode cX6_areNeighbours 6 = .ok (.iload_n 0, 1) := by decide +kernel
theorem dX6_areNeighbours_7 : decode cX6_areNeighbours 7 = .ok (.isub, 1) := by decide +kernel
theorem dX6_areNeighbours_8 : decode cX6_areNeighbours 8 = .ok (.goto 6, 3) := by decide +kernel
theorem dX6_areNeighbours_11 : decode cX6_areNeighbours 11 = .ok (.iload_n 0, 1) := by decide +kernel
theorem dX6_areNeighbours_12 : decode cX6_areNeighbours 12 = .ok (.iload_n 1, 1) := by decide +kernel
theorem dX6_areNeighbours_13 : decode cX6_areNeighbours 13 = .ok (.isub, 1) := by decide +kernel
theorem dX6_areNeighbours_14 : decode cX6_areNeighbours 14 = .ok (.istore_n 2, 1) := by decide +kernel
theorem dX6_areNeighbours_15 : decode cX6_areNeighbours 15 = .ok (.iload_n 2, 1) := by decide +kernel
theorem dX6_areNeighbours_16 : decode cX6_areNeighbours 16 = .ok (.iconst 4, 1) := by decide +kernel
theorem dX6_areNeighbours_17 : decode cX6_areNeighbours 17 = .ok (.if_icmp .eq 17, 3) := by decide +kernel
theorem dX6_areNeighbours_20 : decode cX6_areNeighbours 20 = .ok (.iload_n 2, 1) := by decide +kernel
theorem dX6_areNeighbours_21 : decode cX6_areNeighbours 21 = .ok (.iconst 1, 1) := by decide +kernel
theorem dX6_areNeighbours_22 : decode cX6_areNeighbours 22 = .ok (.if_icmp .ne 16, 3) := by decide +kernel
theorem dX6_areNeighbours_25 : decode cX6_areNeighbours 25 = .ok (.iload_n 0, 1) := by decide +kernel
theorem dX6_areNeighbours_26 : decode cX6_areNeighbours 26 = .ok (.iconst 4, 1) := by decide +kernel
theorem dX6_areNeighbours_27 : decode cX6_areNeighbours 27 = .ok (.idiv, 1) := by decide +kernel
theorem dX6_areNeighbours_28 : decode cX6_areNeighbours 28 = .ok (.iload_n 1, 1) := by decide +kernel
theorem dX6_areNeighbours_29 : decode cX6_areNeighbours 29 = .ok (.iconst 4, 1) := by decide +kernel
theorem dX6_areNeighbours_30 : decode cX6_areNeighbours 30 = .ok (.idiv, 1) := by decide +kernel
theorem dX6_areNeighbours_31 : decode cX6_areNeighbours 31 = .ok (.if_icmp .ne 7, 3) := by decide +kernel
theorem dX6_areNeighbours_34 : decode cX6_areNeighbours 34 = .ok (.iconst 1, 1) := by decide +kernel
theorem dX6_areNeighbours_35 : decode cX6_areNeighbours 35 = .ok (.goto 4, 3) := by decide +kernel
theorem dX6_areNeighbours_38 : decode cX6_areNeighbours 38 = .ok (.iconst 0, 1) := by decide +kernel
theorem dX6_areNeighbours_39 : decode cX6_areNeighbours 39 = .ok (.ireturn, 1) := by decide +kernel
theorem dX6_bitsOf_0 : decode cX6_bitsOf 0 = .ok (.bipush 127, 2) := by decide +kernel
theorem dX6_bitsOf_2 : decode cX6_bitsOf 2 = .ok (.istore_n 1, 1) := by decide +kernel
theorem dX6_bitsOf_3 : decode cX6_bitsOf 3 = .ok (.fload_n 0, 1) := by decide +kernel
theorem dX6_bitsOf_4 : decode cX6_bitsOf 4 = .ok (.fstore_n 2, 1) := by decide +kernel
theorem dX6_bitsOf_5 : decode cX6_bitsOf 5 = .ok (.fload_n 2, 1) := by decide +kernel
theorem dX6_bitsOf_6 : decode cX6_bitsOf 6 = .ok (.fconst 1, 1) := by decide +kernel
theorem dX6_bitsOf_7 : decode cX6_bitsOf 7 = .ok (.fcmp .g, 1) := by decide +kernel
theorem dX6_bitsOf_8 : decode cX6_bitsOf 8 = .ok (.ifCond .ge 18, 3) := by decide +kernel
theorem dX6_bitsOf_11 : decode cX6_bitsOf 11 = .ok (.iload_n 1, 1) := by decide +kernel
theorem dX6_bitsOf_12 : decode cX6_bitsOf 12 = .ok (.iconst 1, 1) := by decide +kernel
theorem dX6_bitsOf_13 : decode cX6_bitsOf 13 = .ok (.if_icmp .le 13, 3) := by decide +kernel
theorem dX6_bitsOf_16 : decode cX6_bitsOf 16 = .ok (.fload_n 2, 1) := by decide +kernel
theorem dX6_bitsOf_17 : decode cX6_bitsOf 17 = .ok (.fconst 2, 1) := by decide +kernel
theorem dX6_bitsOf_18 : decode cX6_bitsOf 18 = .ok (.fmul, 1) := by decide +kernel
theorem dX6_bitsOf_19 : decode cX6_bitsOf 19 = .ok (.fstore_n 2, 1) := by decide +kernel
theorem dX6_bitsOf_20 : decode cX6_bitsOf 20 = .ok (.iinc 1 (-1), 3) := by decide +kernel
theorem dX6_bitsOf_23 : decode cX6_bitsOf 23 = .ok (.goto (-18), 3) := by decide +kernel
theorem dX6_bitsOf_26 : decode cX6_bitsOf 26 = .ok (.iload_n 1, 1) := by decide +kernel
theorem dX6_bitsOf_27 : decode cX6_bitsOf 27 = .ok (.bipush 23, 2) := by decide +kernel
theorem dX6_bitsOf_29 : decode cX6_bitsOf 29 = .ok (.ishl, 1) := by decide +kernel
theorem dX6_bitsOf_30 : decode cX6_bitsOf 30 = .ok (.fload_n 2, 1) := by decide +kernel
theorem dX6_bitsOf_31 : decode cX6_bitsOf 31 = .ok (.fconst 1, 1) := by decide +kernel
theorem dX6_bitsOf_32 : decode cX6_bitsOf 32 = .ok (.fsub, 1) := by decide +kernel
theorem dX6_bitsOf_33 : decode cX6_bitsOf 33 = .ok (.ldc 170, 2) := by decide +kernel
theorem dX6_bitsOf_35 : decode cX6_bitsOf 35 = .ok (.fmul, 1) := by decide +kernel
theorem dX6_bitsOf_36 : decode cX6_bitsOf 36 = .ok (.f2i, 1) := by decide +kernel
theorem dX6_bitsOf_37 : decode cX6_bitsOf 37 = .ok (.iadd, 1) := by decide +kernel
theorem dX6_bitsOf_38 : decode cX6_bitsOf 38 = .ok (.ireturn, 1) := by decide +kernel
theorem dJ9_max_f86c9_0 : decode cJ9_max_f86c9 0 = .ok (.lload_n 0, 1) := by decide +kernel
theorem dJ9_max_f86c9_1 : decode cJ9_max_f86c9 1 = .ok (.lload_n 2, 1) := by decide +kernel
theorem dJ9_max_f86c9_2 : decode cJ9_max_f86c9 2 = .ok (.lcmp, 1) := by decide +kernel
theorem dJ9_max_f86c9_3 : decode cJ9_max_f86c9 3 = .ok (.ifCond .lt 7, 3) := by decide +kernel
theorem dJ9_max_f86c9_6 : decode cJ9_max_f86c9 6 = .ok (.lload_n 0, 1) := by decide +kernel
theorem dJ9_max_f86c9_7 : decode cJ9_max_f86c9 7 = .ok (.goto 4, 3) := by decide +kernel
theorem dJ9_max_f86c9_10 : decode cJ9_max_f86c9 10 = .ok (.lload_n 2, 1) := by decide +kernel
theorem dJ9_max_f86c9_11 : decode cJ9_max_f86c9 11 = .ok (.lreturn, 1) := by decide +kernel
theorem dJ9_min_7cf53_0 : decode cJ9_min_7cf53 0 = .ok (.iload_n 0, 1) := by decide +kernel
