theorem dX1_tell_41 : decode cX1_tell 41 = .ok (.laload, 1) := by decide +kernel
theorem dX1_tell_42 : decode cX1_tell 42 = .ok (.lreturn, 1) := by decide +kernel
theorem dX1_tell_43 : decode cX1_tell 43 = .ok (.aload_n 0, 1) := by decide +kernel
theorem dX1_tell_44 : decode cX1_tell 44 = .ok (.iload_n 1, 1) := by decide +kernel
theorem dX1_tell_45 : decode cX1_tell 45 = .ok (.invokevirtual 50, 3) := by decide +kernel
theorem dX1_tell_48 : decode cX1_tell 48 = .ok (.lreturn, 1) := by decide +kernel
theorem dX1_tell_49 : decode cX1_tell 49 = .ok (.aload_n 0, 1) := by decide +kernel
theorem dX1_tell_50 : decode cX1_tell 50 = .ok (.getfield 15, 3) := by decide +kernel
theorem dX1_tell_53 : decode cX1_tell 53 = .ok (.iload_n 1, 1) := by decide +kernel
theorem dX1_tell_54 : decode cX1_tell 54 = .ok (.laload, 1) := by decide +kernel
theorem dX1_tell_55 : decode cX1_tell 55 = .ok (.lreturn, 1) := by decide +kernel
theorem dX1_tell_56 : decode cX1_tell 56 = .ok (.aload_n 0, 1) := by decide +kernel
theorem dX1_tell_57 : decode cX1_tell 57 = .ok (.getfield 18, 3) := by decide +kernel
theorem dX1_tell_60 : decode cX1_tell 60 = .ok (.iload_n 1, 1) := by decide +kernel
theorem dX1_tell_61 : decode cX1_tell 61 = .ok (.laload, 1) := by decide +kernel
theorem dX1_tell_62 : decode cX1_tell 62 = .ok (.lreturn, 1) := by decide +kernel
theorem dX1_tell_63 : decode cX1_tell 63 = .ok (.aload_n 0, 1) := by decide +kernel
theorem dX1_tell_64 : decode cX1_tell 64 = .ok (.getfield 21, 3) := by decide +kernel
theorem dX1_tell_67 : decode cX1_tell 67 = .ok (.iload_n 1, 1) := by decide +kernel
theorem dX1_tell_68 : decode cX1_tell 68 = .ok (.laload, 1) := by decide +kernel
theorem dX1_tell_69 : decode cX1_tell 69 = .ok (.lreturn, 1) := by decide +kernel
theorem dX1_tell_70 : decode cX1_tell 70 = .ok (.aload_n 0, 1) := by decide +kernel
theorem dX1_tell_71 : decode cX1_tell 71 = .ok (.iload_n 1, 1) := by decide +kernel
theorem dX1_tell_72 : decode cX1_tell 72 = .ok (.invokevirtual 54, 3) := by decide +kernel
theorem dX1_tell_75 : decode cX1_tell 75 = .ok (.i2l, 1) := by decide +kernel
theorem dX1_tell_76 : decode cX1_tell 76 = .ok (.lreturn, 1) := by decide +kernel
theorem dX1_allWater_0 : decode cX1_allWater 0 = .ok (.lconst 0, 1) := by decide +kernel
theorem dX1_allWater_1 : decode cX1_allWater 1 = .ok (.lstore_n 1, 1) := by decide +kernel
theorem dX1_allWater_2 : decode cX1_allWater 2 = .ok (.iconst 0, 1) := by decide +kernel
theorem dX1_allWater_3 : decode cX1_allWater 3 = .ok (.istore_n 3, 1) := by decide +kernel
theorem dX1_allWater_4 : decode cX1_allWater 4 = .ok (.iload_n 3, 1) := by decide +kernel
theorem dX1_allWater_5 : decode cX1_allWater 5 = .ok (.bipush 12, 2) := by decide +kernel
theorem dX1_allWater_7 : decode cX1_allWater 7 = .ok (.if_icmp .ge 18, 3) := by decide +kernel
theorem dX1_allWater_10 : decode cX1_allWater 10 = .ok (.lload_n 1, 1) := by decide +kernel
theorem dX1_allWater_11 : decode cX1_allWater 11 = .ok (.aload_n 0, 1) := by decide +kernel
theorem dX1_allWater_12 : decode cX1_allWater 12 = .ok (.getfield 9, 3) := by decide +kernel
theorem dX1_allWater_15 : decode cX1_allWater 15 = .ok (.iload_n 3, 1) := by decide +kernel
theorem dX1_allWater_16 : decode cX1_allWater 16 = .ok (.laload, 1) := by decide +kernel
theorem dX1_allWater_17 : decode cX1_allWater 17 = .ok (.ladd, 1) := by decide +kernel
theorem dX1_allWater_18 : decode cX1_allWater 18 = .ok (.lstore_n 1, 1) := by decide +kernel
theorem dX1_allWater_19 : decode cX1_allWater 19 = .ok (.iinc 3 1, 3) := by decide +kernel
theorem dX1_allWater_22 : decode cX1_allWater 22 = .ok (.goto (-18), 3) := by decide +kernel
theorem dX1_allWater_25 : decode cX1_allWater 25 = .ok (.lload_n 1, 1) := by decide +kernel
theorem dX1_allWater_26 : decode cX1_allWater 26 = .ok (.lreturn, 1) := by decide +kernel
theorem dX1_degrees_0 : decode cX1_degrees 0 = .ok (.aload_n 0, 1) := by decide +kernel
theorem dX1_degrees_1 : decode cX1_degrees 1 = .ok (.getfield 9, 3) := by decide +kernel
theorem dX1_degrees_4 : decode cX1_degrees 4 = .ok (.iload_n 1, 1) := by decide +kernel
theorem dX1_degrees_5 : decode cX1_degrees 5 = .ok (.laload, 1) := by decide +kernel
theorem dX1_degrees_6 : decode cX1_degrees 6 = .ok (.ldc2_w 58, 3) := by decide +kernel
theorem dX1_degrees_9 : decode cX1_degrees 9 = .ok (.ladd, 1) := by decide +kernel
theorem dX1_degrees_10 : decode cX1_degrees 10 = .ok (.lstore_n 2, 1) := by decide +kernel
theorem dX1_degrees_11 : decode cX1_degrees 11 = .ok (.lload_n 2, 1) := by decide +kernel
theorem dX1_degrees_12 : decode cX1_degrees 12 = .ok (.lconst 0, 1) := by decide +kernel
theorem dX1_degrees_13 : decode cX1_degrees 13 = .ok (.lcmp, 1) := by decide +kernel
theorem dX1_degrees_14 : decode cX1_degrees 14 = .ok (.ifCond .le 14, 3) := by decide +kernel
theorem dX1_degrees_17 : decode cX1_degrees 17 = .ok (.aload_n 0, 1) := by decide +kernel
theorem dX1_degrees_18 : decode cX1_degrees 18 = .ok (.getfield 15, 3) := by decide +kernel
theorem dX1_degrees_21 : decode cX1_degrees 21 = .ok (.iload_n 1, 1) := by decide +kernel
theorem dX1_degrees_22 : decode cX1_degrees 22 = .ok (.laload, 1) := by decide +kernel
theorem dX1_degrees_23 : decode cX1_degrees 23 = .ok (.lload_n 2, 1) := by decide +kernel
theorem dX1_degrees_24 : decode cX1_degrees 24 = .ok (.ldiv, 1) := by decide +kernel
theorem dX1_degrees_25 : decode cX1_degrees 25 = .ok (.goto 4, 3) := by decide +kernel
theorem dX1_degrees_28 : decode cX1_degrees 28 = .ok (.lconst 0, 1) := by decide +kernel
theorem dX1_degrees_29 : decode cX1_degrees 29 = .ok (.lreturn, 1) := by decide +kernel
theorem dX1_light_0 : decode cX1_light 0 = .ok (.aload_n 0, 1) := by decide +kernel
theorem dX1_light_1 : decode cX1_light 1 = .ok (.getfield 21, 3) := by decide +kernel
theorem dX1_light_4 : decode cX1_light 4 = .ok (.iload_n 1, 1) := by decide +kernel
theorem dX1_light_5 : decode cX1_light 5 = .ok (.laload, 1) := by decide +kernel
theorem dX1_light_6 : decode cX1_light 6 = .ok (.ldc2_w 60, 3) := by decide +kernel
theorem dX1_light_9 : decode cX1_light 9 = .ok (.lcmp, 1) := by decide +kernel
theorem dX1_light_10 : decode cX1_light 10 = .ok (.ifCond .ge 5, 3) := by decide +kernel
theorem dX1_light_13 : decode cX1_light 13 = .ok (.iconst 0, 1) := by decide +kernel
theorem dX1_light_14 : decode cX1_light 14 = .ok (.ireturn, 1) := by decide +kernel
theorem dX1_light_15 : decode cX1_light 15 = .ok (.aload_n 0, 1) := by decide +kernel
theorem dX1_light_16 : decode cX1_light 16 = .ok (.getfield 21, 3) := by decide +kernel
theorem dX1_light_19 : decode cX1_light 19 = .ok (.iload_n 1, 1) := by decide +kernel
theorem dX1_light_20 : decode cX1_light 20 = .ok (.laload, 1) := by decide +kernel
theorem dX1_light_21 : decode cX1_light 21 = .ok (.ldc2_w 62, 3) := by decide +kernel
theorem dX1_light_24 : decode cX1_light 24 = .ok (.lcmp, 1) := by decide +kernel
theorem dX1_light_25 : decode cX1_light 25 = .ok (.ifCond .ge 7, 3) := by decide +kernel
theorem dX1_light_28 : decode cX1_light 28 = .ok (.iconst 1, 1) := by decide +kernel
theorem dX1_light_29 : decode cX1_light 29 = .ok (.goto 4, 3) := by decide +kernel
theorem dX1_light_32 : decode cX1_light 32 = .ok (.iconst 2, 1) := by decide +kernel
theorem dX1_light_33 : decode cX1_light 33 = .ok (.ireturn, 1) := by decide +kernel
theorem dX1_give_0 : decode cX1_give 0 = .ok (.aload_n 0, 1) := by decide +kernel
theorem dX1_give_1 : decode cX1_give 1 = .ok (.getfield 9, 3) := by decide +kernel
theorem dX1_give_4 : decode cX1_give 4 = .ok (.iload_n 1, 1) := by decide +kernel
theorem dX1_give_5 : decode cX1_give 5 = .ok (.laload, 1) := by decide +kernel
theorem dX1_give_6 : decode cX1_give 6 = .ok (.lconst 0, 1) := by decide +kernel
theorem dX1_give_7 : decode cX1_give 7 = .ok (.lcmp, 1) := by decide +kernel
theorem dX1_give_8 : decode cX1_give 8 = .ok (.ifCond .le 21, 3) := by decide +kernel
theorem dX1_give_11 : decode cX1_give 11 = .ok (.aload_n 0, 1) := by decide +kernel
theorem dX1_give_12 : decode cX1_give 12 = .ok (.getfield 18, 3) := by decide +kernel
theorem dX1_give_15 : decode cX1_give 15 = .ok (.iload_n 1, 1) := by decide +kernel
theorem dX1_give_16 : decode cX1_give 16 = .ok (.laload, 1) := by decide +kernel
theorem dX1_give_17 : decode cX1_give 17 = .ok (.lload_n 2, 1) := by decide +kernel
theorem dX1_give_18 : decode cX1_give 18 = .ok (.lmul, 1) := by decide +kernel
theorem dX1_give_19 : decode cX1_give 19 = .ok (.aload_n 0, 1) := by decide +kernel
theorem dX1_give_20 : decode cX1_give 20 = .ok (.getfield 9, 3) := by decide +kernel
theorem dX1_give_23 : decode cX1_give 23 = .ok (.iload_n 1, 1) := by decide +kernel
theorem dX1_give_24 : decode cX1_give 24 = .ok (.laload, 1) := by decide +kernel
theorem dX1_give_25 : decode cX1_give 25 = .ok (.ldiv, 1) := by decide +kernel
theorem dX1_give_26 : decode cX1_give 26 = .ok (.goto 4, 3) := by decide +kernel
theorem dX1_give_29 : decode cX1_give 29 = .ok (.lconst 0, 1) := by decide +kernel
theorem dX1_give_30 : decode cX1_give 30 = .ok (.lstore 4, 2) := by decide +kernel
theorem dX1_give_32 : decode cX1_give 32 = .ok (.aload_n 0, 1) := by decide +kernel
theorem dX1_give_33 : decode cX1_give 33 = .ok (.getfield 15, 3) := by decide +kernel
theorem dX1_give_36 : decode cX1_give 36 = .ok (.iload_n 1, 1) := by decide +kernel
theorem dX1_give_37 : decode cX1_give 37 = .ok (.dup2, 1) := by decide +kernel
theorem dX1_give_38 : decode cX1_give 38 = .ok (.laload, 1) := by decide +kernel
theorem dX1_give_39 : decode cX1_give 39 = .ok (.lload_n 2, 1) := by decide +kernel
theorem dX1_give_40 : decode cX1_give 40 = .ok (.aload_n 0, 1) := by decide +kernel
theorem dX1_give_41 : decode cX1_give 41 = .ok (.iload_n 1, 1) := by decide +kernel
theorem dX1_give_42 : decode cX1_give 42 = .ok (.invokevirtual 50, 3) := by decide +kernel
theorem dX1_give_45 : decode cX1_give 45 = .ok (.lmul, 1) := by decide +kernel
theorem dX1_give_46 : decode cX1_give 46 = .ok (.lsub, 1) := by decide +kernel
theorem dX1_give_47 : decode cX1_give 47 = .ok (.lastore, 1) := by decide +kernel
theorem dX1_give_48 : decode cX1_give 48 = .ok (.aload_n 0, 1) := by decide +kernel
theorem dX1_give_49 : decode cX1_give 49 = .ok (.getfield 18, 3) := by decide +kernel
theorem dX1_give_52 : decode cX1_give 52 = .ok (.iload_n 1, 1) := by decide +kernel
theorem dX1_give_53 : decode cX1_give 53 = .ok (.dup2, 1) := by decide +kernel
theorem dX1_give_54 : decode cX1_give 54 = .ok (.laload, 1) := by decide +kernel
theorem dX1_give_55 : decode cX1_give 55 = .ok (.lload 4, 2) := by decide +kernel
theorem dX1_give_57 : decode cX1_give 57 = .ok (.lsub, 1) := by decide +kernel
theorem dX1_give_58 : decode cX1_give 58 = .ok (.lastore, 1) := by decide +kernel
theorem dX1_give_59 : decode cX1_give 59 = .ok (.aload_n 0, 1) := by decide +kernel
theorem dX1_give_60 : decode cX1_give 60 = .ok (.getfield 9, 3) := by decide +kernel
theorem dX1_give_63 : decode cX1_give 63 = .ok (.iload_n 1, 1) := by decide +kernel
theorem dX1_give_64 : decode cX1_give 64 = .ok (.dup2, 1) := by decide +kernel
theorem dX1_give_65 : decode cX1_give 65 = .ok (.laload, 1) := by decide +kernel
theorem dX1_give_66 : decode cX1_give 66 = .ok (.lload_n 2, 1) := by decide +kernel
theorem dX1_give_67 : decode cX1_give 67 = .ok (.lsub, 1) := by decide +kernel
theorem dX1_give_68 : decode cX1_give 68 = .ok (.lastore, 1) := by decide +kernel
theorem dX1_give_69 : decode cX1_give 69 = .ok (.lload 4, 2) := by decide +kernel
theorem dX1_give_71 : decode cX1_give 71 = .ok (.lreturn, 1) := by decide +kernel
theorem dX1_take_0 : decode cX1_take 0 = .ok (.aload_n 0, 1) := by decide +kernel
theorem dX1_take_1 : decode cX1_take 1 = .ok (.getfield 9, 3) := by decide +kernel
theorem dX1_take_4 : decode cX1_take 4 = .ok (.iload_n 1, 1) := by decide +kernel
theorem dX1_take_5 : decode cX1_take 5 = .ok (.dup2, 1) := by decide +kernel
theorem dX1_take_6 : decode cX1_take 6 = .ok (.laload, 1) := by decide +kernel
theorem dX1_take_7 : decode cX1_take 7 = .ok (.lload_n 2, 1) := by decide +kernel
theorem dX1_take_8 : decode cX1_take 8 = .ok (.ladd, 1) := by decide +kernel
theorem dX1_take_9 : decode cX1_take 9 = .ok (.lastore, 1) := by decide +kernel
theorem dX1_take_10 : decode cX1_take 10 = .ok (.aload_n 0, 1) := by decide +kernel
theorem dX1_take_11 : decode cX1_take 11 = .ok (.getfield 15, 3) := by decide +kernel
theorem dX1_take_14 : decode cX1_take 14 = .ok (.iload_n 1, 1) := by decide +kernel
theorem dX1_take_15 : decode cX1_take 15 = .ok (.dup2, 1) := by decide +kernel
theorem dX1_take_16 : decode cX1_take 16 = .ok (.laload, 1) := by decide +kernel
theorem dX1_take_17 : decode cX1_take 17 = .ok (.lload_n 2, 1) := by decide +kernel
theorem dX1_take_18 : decode cX1_take 18 = .ok (.lload 4, 2) := by decide +kernel
theorem dX1_take_20 : decode cX1_take 20 = .ok (.lmul, 1) := by decide +kernel
theorem dX1_take_21 : decode cX1_take 21 = .ok (.ladd, 1) := by decide +kernel
theorem dX1_take_22 : decode cX1_take 22 = .ok (.lastore, 1) := by decide +kernel
theorem dX1_take_23 : decode cX1_take 23 = .ok (.return_, 1) := by decide +kernel
theorem dX1_flowThroughCracks_0 : decode cX1_flowThroughCracks 0 = .ok (.iconst 0, 1) := by decide +kernel
theorem dX1_flowThroughCracks_1 : decode cX1_flowThroughCracks 1 = .ok (.istore_n 1, 1) := by decide +kernel
theorem dX1_flowThroughCracks_2 : decode cX1_flowThroughCracks 2 = .ok (.iload_n 1, 1) := by decide +kernel
theorem dX1_flowThroughCracks_3 : decode cX1_flowThroughCracks 3 = .ok (.bipush 12, 2) := by decide +kernel
theorem dX1_flowThroughCracks_5 : decode cX1_flowThroughCracks 5 = .ok (.if_icmp .ge 44, 3) := by decide +kernel
theorem dX1_flowThroughCracks_8 : decode cX1_flowThroughCracks 8 = .ok (.aload_n 0, 1) := by decide +kernel
theorem dX1_flowThroughCracks_9 : decode cX1_flowThroughCracks 9 = .ok (.getfield 31, 3) := by decide +kernel
theorem dX1_flowThroughCracks_12 : decode cX1_flowThroughCracks 12 = .ok (.iload_n 1, 1) := by decide +kernel
theorem dX1_flowThroughCracks_13 : decode cX1_flowThroughCracks 13 = .ok (.aload_n 0, 1) := by decide +kernel
theorem dX1_flowThroughCracks_14 : decode cX1_flowThroughCracks 14 = .ok (.getfield 9, 3) := by decide +kernel
theorem dX1_flowThroughCracks_17 : decode cX1_flowThroughCracks 17 = .ok (.iload_n 1, 1) := by decide +kernel
theorem dX1_flowThroughCracks_18 : decode cX1_flowThroughCracks 18 = .ok (.laload, 1) := by decide +kernel
theorem dX1_flowThroughCracks_19 : decode cX1_flowThroughCracks 19 = .ok (.lastore, 1) := by decide +kernel
theorem dX1_flowThroughCracks_20 : decode cX1_flowThroughCracks 20 = .ok (.aload_n 0, 1) := by decide +kernel
theorem dX1_flowThroughCracks_21 : decode cX1_flowThroughCracks 21 = .ok (.getfield 34, 3) := by decide +kernel
theorem dX1_flowThroughCracks_24 : decode cX1_flowThroughCracks 24 = .ok (.iload_n 1, 1) := by decide +kernel
theorem dX1_flowThroughCracks_25 : decode cX1_flowThroughCracks 25 = .ok (.aload_n 0, 1) := by decide +kernel
theorem dX1_flowThroughCracks_26 : decode cX1_flowThroughCracks 26 = .ok (.iload_n 1, 1) := by decide +kernel
theorem dX1_flowThroughCracks_27 : decode cX1_flowThroughCracks 27 = .ok (.invokevirtual 50, 3) := by decide +kernel
theorem dX1_flowThroughCracks_30 : decode cX1_flowThroughCracks 30 = .ok (.lastore, 1) := by decide +kernel
theorem dX1_flowThroughCracks_31 : decode cX1_flowThroughCracks 31 = .ok (.aload_n 0, 1) := by decide +kernel
theorem dX1_flowThroughCracks_32 : decode cX1_flowThroughCracks 32 = .ok (.getfield 37, 3) := by decide +kernel
theorem dX1_flowThroughCracks_35 : decode cX1_flowThroughCracks 35 = .ok (.iload_n 1, 1) := by decide +kernel
theorem dX1_flowThroughCracks_36 : decode cX1_flowThroughCracks 36 = .ok (.aload_n 0, 1) := by decide +kernel
theorem dX1_flowThroughCracks_37 : decode cX1_flowThroughCracks 37 = .ok (.getfield 18, 3) := by decide +kernel
theorem dX1_flowThroughCracks_40 : decode cX1_flowThroughCracks 40 = .ok (.iload_n 1, 1) := by decide +kernel
theorem dX1_flowThroughCracks_41 : decode cX1_flowThroughCracks 41 = .ok (.laload, 1) := by decide +kernel
theorem dX1_flowThroughCracks_42 : decode cX1_flowThroughCracks 42 = .ok (.lastore, 1) := by decide +kernel
theorem dX1_flowThroughCracks_43 : decode cX1_flowThroughCracks 43 = .ok (.iinc 1 1, 3) := by decide +kernel
theorem dX1_flowThroughCracks_46 : decode cX1_flowThroughCracks 46 = .ok (.goto (-44), 3) := by decide +kernel
theorem dX1_flowThroughCracks_49 : decode cX1_flowThroughCracks 49 = .ok (.iconst 0, 1) := by decide +kernel
theorem dX1_flowThroughCracks_50 : decode cX1_flowThroughCracks 50 = .ok (.istore_n 1, 1) := by decide +kernel
theorem dX1_flowThroughCracks_51 : decode cX1_flowThroughCracks 51 = .ok (.iload_n 1, 1) := by decide +kernel
theorem dX1_flowThroughCracks_52 : decode cX1_flowThroughCracks 52 = .ok (.bipush 12, 2) := by decide +kernel
theorem dX1_flowThroughCracks_54 : decode cX1_flowThroughCracks 54 = .ok (.if_icmp .ge 63, 3) := by decide +kernel
theorem dX1_flowThroughCracks_57 : decode cX1_flowThroughCracks 57 = .ok (.iload_n 1, 1) := by decide +kernel
theorem dX1_flowThroughCracks_58 : decode cX1_flowThroughCracks 58 = .ok (.iconst 1, 1) := by decide +kernel
theorem dX1_flowThroughCracks_59 : decode cX1_flowThroughCracks 59 = .ok (.iadd, 1) := by decide +kernel
theorem dX1_flowThroughCracks_60 : decode cX1_flowThroughCracks 60 = .ok (.bipush 12, 2) := by decide +kernel
theorem dX1_flowThroughCracks_62 : decode cX1_flowThroughCracks 62 = .ok (.if_icmp .ge 27, 3) := by decide +kernel
theorem dX1_flowThroughCracks_65 : decode cX1_flowThroughCracks 65 = .ok (.iload_n 1, 1) := by decide +kernel
theorem dX1_flowThroughCracks_66 : decode cX1_flowThroughCracks 66 = .ok (.iload_n 1, 1) := by decide +kernel
theorem dX1_flowThroughCracks_67 : decode cX1_flowThroughCracks 67 = .ok (.iconst 1, 1) := by decide +kernel
theorem dX1_flowThroughCracks_68 : decode cX1_flowThroughCracks 68 = .ok (.iadd, 1) := by decide +kernel
theorem dX1_flowThroughCracks_69 : decode cX1_flowThroughCracks 69 = .ok (.invokestatic 64, 3) := by decide +kernel
theorem dX1_flowThroughCracks_72 : decode cX1_flowThroughCracks 72 = .ok (.ifCond .eq 17, 3) := by decide +kernel
theorem dX1_flowThroughCracks_75 : decode cX1_flowThroughCracks 75 = .ok (.aload_n 0, 1) := by decide +kernel
theorem dX1_flowThroughCracks_76 : decode cX1_flowThroughCracks 76 = .ok (.iload_n 1, 1) := by decide +kernel
theorem dX1_flowThroughCracks_77 : decode cX1_flowThroughCracks 77 = .ok (.iload_n 1, 1) := by decide +kernel
theorem dX1_flowThroughCracks_78 : decode cX1_flowThroughCracks 78 = .ok (.iconst 1, 1) := by decide +kernel
theorem dX1_flowThroughCracks_79 : decode cX1_flowThroughCracks 79 = .ok (.iadd, 1) := by decide +kernel
theorem dX1_flowThroughCracks_80 : decode cX1_flowThroughCracks 80 = .ok (.aload_n 0, 1) := by decide +kernel
theorem dX1_flowThroughCracks_81 : decode cX1_flowThroughCracks 81 = .ok (.getfield 24, 3) := by decide +kernel
theorem dX1_flowThroughCracks_84 : decode cX1_flowThroughCracks 84 = .ok (.iload_n 1, 1) := by decide +kernel
theorem dX1_flowThroughCracks_85 : decode cX1_flowThroughCracks 85 = .ok (.iaload, 1) := by decide +kernel
theorem dX1_flowThroughCracks_86 : decode cX1_flowThroughCracks 86 = .ok (.invokevirtual 68, 3) := by decide +kernel
theorem dX1_flowThroughCracks_89 : decode cX1_flowThroughCracks 89 = .ok (.iload_n 1, 1) := by decide +kernel
theorem dX1_flowThroughCracks_90 : decode cX1_flowThroughCracks 90 = .ok (.iconst 4, 1) := by decide +kernel
theorem dX1_flowThroughCracks_91 : decode cX1_flowThroughCracks 91 = .ok (.iadd, 1) := by decide +kernel
theorem dX1_flowThroughCracks_92 : decode cX1_flowThroughCracks 92 = .ok (.bipush 12, 2) := by decide +kernel
theorem dX1_flowThroughCracks_94 : decode cX1_flowThroughCracks 94 = .ok (.if_icmp .ge 17, 3) := by decide +kernel
theorem dX1_flowThroughCracks_97 : decode cX1_flowThroughCracks 97 = .ok (.aload_n 0, 1) := by decide +kernel
theorem dX1_flowThroughCracks_98 : decode cX1_flowThroughCracks 98 = .ok (.iload_n 1, 1) := by decide +kernel
theorem dX1_flowThroughCracks_99 : decode cX1_flowThroughCracks 99 = .ok (.iload_n 1, 1) := by decide +kernel
theorem dX1_flowThroughCracks_100 : decode cX1_flowThroughCracks 100 = .ok (.iconst 4, 1) := by decide +kernel
theorem dX1_flowThroughCracks_101 : decode cX1_flowThroughCracks 101 = .ok (.iadd, 1) := by decide +kernel
theorem dX1_flowThroughCracks_102 : decode cX1_flowThroughCracks 102 = .ok (.aload_n 0, 1) := by decide +kernel
theorem dX1_flowThroughCracks_103 : decode cX1_flowThroughCracks 103 = .ok (.getfield 28, 3) := by decide +kernel
theorem dX1_flowThroughCracks_106 : decode cX1_flowThroughCracks 106 = .ok (.iload_n 1, 1) := by decide +kernel
theorem dX1_flowThroughCracks_107 : decode cX1_flowThroughCracks 107 = .ok (.iaload, 1) := by decide +kernel
theorem dX1_flowThroughCracks_108 : decode cX1_flowThroughCracks 108 = .ok (.invokevirtual 68, 3) := by decide +kernel
theorem dX1_flowThroughCracks_111 : decode cX1_flowThroughCracks 111 = .ok (.iinc 1 1, 3) := by decide +kernel
theorem dX1_flowThroughCracks_114 : decode cX1_flowThroughCracks 114 = .ok (.goto (-63), 3) := by decide +kernel
theorem dX1_flowThroughCracks_117 : decode cX1_flowThroughCracks 117 = .ok (.return_, 1) := by decide +kernel
theorem dX1_flowBetween_0 : decode cX1_flowBetween 0 = .ok (.aload_n 0, 1) := by decide +kernel
theorem dX1_flowBetween_1 : decode cX1_flowBetween 1 = .ok (.getfield 31, 3) := by decide +kernel
theorem dX1_flowBetween_4 : decode cX1_flowBetween 4 = .ok (.iload_n 1, 1) := by decide +kernel
theorem dX1_flowBetween_5 : decode cX1_flowBetween 5 = .ok (.laload, 1) := by decide +kernel
theorem dX1_flowBetween_6 : decode cX1_flowBetween 6 = .ok (.aload_n 0, 1) := by decide +kernel
theorem dX1_flowBetween_7 : decode cX1_flowBetween 7 = .ok (.getfield 31, 3) := by decide +kernel
theorem dX1_flowBetween_10 : decode cX1_flowBetween 10 = .ok (.iload_n 2, 1) := by decide +kernel
theorem dX1_flowBetween_11 : decode cX1_flowBetween 11 = .ok (.laload, 1) := by decide +kernel
theorem dX1_flowBetween_12 : decode cX1_flowBetween 12 = .ok (.lcmp, 1) := by decide +kernel
theorem dX1_flowBetween_13 : decode cX1_flowBetween 13 = .ok (.ifCond .le 13, 3) := by decide +kernel
theorem dX1_flowBetween_16 : decode cX1_flowBetween 16 = .ok (.aload_n 0, 1) := by decide +kernel
theorem dX1_flowBetween_17 : decode cX1_flowBetween 17 = .ok (.iload_n 1, 1) := by decide +kernel
theorem dX1_flowBetween_18 : decode cX1_flowBetween 18 = .ok (.iload_n 2, 1) := by decide +kernel
theorem dX1_flowBetween_19 : decode cX1_flowBetween 19 = .ok (.iload_n 3, 1) := by decide +kernel
theorem dX1_flowBetween_20 : decode cX1_flowBetween 20 = .ok (.invokevirtual 71, 3) := by decide +kernel
theorem dX1_flowBetween_23 : decode cX1_flowBetween 23 = .ok (.goto 26, 3) := by decide +kernel
theorem dX1_flowBetween_26 : decode cX1_flowBetween 26 = .ok (.aload_n 0, 1) := by decide +kernel
theorem dX1_flowBetween_27 : decode cX1_flowBetween 27 = .ok (.getfield 31, 3) := by decide +kernel
theorem dX1_flowBetween_30 : decode cX1_flowBetween 30 = .ok (.iload_n 2, 1) := by decide +kernel
theorem dX1_flowBetween_31 : decode cX1_flowBetween 31 = .ok (.laload, 1) := by decide +kernel
theorem dX1_flowBetween_32 : decode cX1_flowBetween 32 = .ok (.aload_n 0, 1) := by decide +kernel
theorem dX1_flowBetween_33 : decode cX1_flowBetween 33 = .ok (.getfield 31, 3) := by decide +kernel
theorem dX1_flowBetween_36 : decode cX1_flowBetween 36 = .ok (.iload_n 1, 1) := by decide +kernel
theorem dX1_flowBetween_37 : decode cX1_flowBetween 37 = .ok (.laload, 1) := by decide +kernel
theorem dX1_flowBetween_38 : decode cX1_flowBetween 38 = .ok (.lcmp, 1) := by decide +kernel
theorem dX1_flowBetween_39 : decode cX1_flowBetween 39 = .ok (.ifCond .le 10, 3) := by decide +kernel
theorem dX1_flowBetween_42 : decode cX1_flowBetween 42 = .ok (.aload_n 0, 1) := by decide +kernel
theorem dX1_flowBetween_43 : decode cX1_flowBetween 43 = .ok (.iload_n 2, 1) := by decide +kernel
theorem dX1_flowBetween_44 : decode cX1_flowBetween 44 = .ok (.iload_n 1, 1) := by decide +kernel
theorem dX1_flowBetween_45 : decode cX1_flowBetween 45 = .ok (.iload_n 3, 1) := by decide +kernel
theorem dX1_flowBetween_46 : decode cX1_flowBetween 46 = .ok (.invokevirtual 71, 3) := by decide +kernel
theorem dX1_flowBetween_49 : decode cX1_flowBetween 49 = .ok (.return_, 1) := by decide +kernel
theorem dX1_flow_0 : decode cX1_flow 0 = .ok (.aload_n 0, 1) := by decide +kernel
theorem dX1_flow_1 : decode cX1_flow 1 = .ok (.getfield 31, 3) := by decide +kernel
theorem dX1_flow_4 : decode cX1_flow 4 = .ok (.iload_n 1, 1) := by decide +kernel
theorem dX1_flow_5 : decode cX1_flow 5 = .ok (.laload, 1) := by decide +kernel
theorem dX1_flow_6 : decode cX1_flow 6 = .ok (.aload_n 0, 1) := by decide +kernel
theorem dX1_flow_7 : decode cX1_flow 7 = .ok (.getfield 31, 3) := by decide +kernel
theorem dX1_flow_10 : decode cX1_flow 10 = .ok (.iload_n 2, 1) := by decide +kernel
theorem dX1_flow_11 : decode cX1_flow 11 = .ok (.laload, 1) := by decide +kernel
theorem dX1_flow_12 : decode cX1_flow 12 = .ok (.lsub, 1) := by decide +kernel
theorem dX1_flow_13 : decode cX1_flow 13 = .ok (.iload_n 3, 1) := by decide +kernel
theorem dX1_flow_14 : decode cX1_flow 14 = .ok (.i2l, 1) := by decide +kernel
theorem dX1_flow_15 : decode cX1_flow 15 = .ok (.lmul, 1) := by decide +kernel
theorem dX1_flow_16 : decode cX1_flow 16 = .ok (.ldc2_w 60, 3) := by decide +kernel
theorem dX1_flow_19 : decode cX1_flow 19 = .ok (.ldiv, 1) := by decide +kernel
theorem dX1_flow_20 : decode cX1_flow 20 = .ok (.lstore 4, 2) := by decide +kernel
theorem dX1_flow_22 : decode cX1_flow 22 = .ok (.aload_n 0, 1) := by decide +kernel
theorem dX1_flow_23 : decode cX1_flow 23 = .ok (.getfield 31, 3) := by decide +kernel
theorem dX1_flow_26 : decode cX1_flow 26 = .ok (.iload_n 1, 1) := by decide +kernel
theorem dX1_flow_27 : decode cX1_flow 27 = .ok (.laload, 1) := by decide +kernel
theorem dX1_flow_28 : decode cX1_flow 28 = .ok (.lconst 0, 1) := by decide +kernel
theorem dX1_flow_29 : decode cX1_flow 29 = .ok (.lcmp, 1) := by decide +kernel
theorem dX1_flow_30 : decode cX1_flow 30 = .ok (.ifCond .le 22, 3) := by decide +kernel
theorem dX1_flow_33 : decode cX1_flow 33 = .ok (.aload_n 0, 1) := by decide +kernel
theorem dX1_flow_34 : decode cX1_flow 34 = .ok (.getfield 37, 3) := by decide +kernel
theorem dX1_flow_37 : decode cX1_flow 37 = .ok (.iload_n 1, 1) := by decide +kernel
theorem dX1_flow_38 : decode cX1_flow 38 = .ok (.laload, 1) := by decide +kernel
theorem dX1_flow_39 : decode cX1_flow 39 = .ok (.lload 4, 2) := by decide +kernel
theorem dX1_flow_41 : decode cX1_flow 41 = .ok (.lmul, 1) := by decide +kernel
theorem dX1_flow_42 : decode cX1_flow 42 = .ok (.aload_n 0, 1) := by decide +kernel
theorem dX1_flow_43 : decode cX1_flow 43 = .ok (.getfield 31, 3) := by decide +kernel
theorem dX1_flow_46 : decode cX1_flow 46 = .ok (.iload_n 1, 1) := by decide +kernel
theorem dX1_flow_47 : decode cX1_flow 47 = .ok (.laload, 1) := by decide +kernel
theorem dX1_flow_48 : decode cX1_flow 48 = .ok (.ldiv, 1) := by decide +kernel
theorem dX1_flow_49 : decode cX1_flow 49 = .ok (.goto 4, 3) := by decide +kernel
theorem dX1_flow_52 : decode cX1_flow 52 = .ok (.lconst 0, 1) := by decide +kernel
theorem dX1_flow_53 : decode cX1_flow 53 = .ok (.lstore 6, 2) := by decide +kernel
theorem dX1_flow_55 : decode cX1_flow 55 = .ok (.aload_n 0, 1) := by decide +kernel
theorem dX1_flow_56 : decode cX1_flow 56 = .ok (.getfield 9, 3) := by decide +kernel
theorem dX1_flow_59 : decode cX1_flow 59 = .ok (.iload_n 1, 1) := by decide +kernel
theorem dX1_flow_60 : decode cX1_flow 60 = .ok (.dup2, 1) := by decide +kernel
theorem dX1_flow_61 : decode cX1_flow 61 = .ok (.laload, 1) := by decide +kernel
theorem dX1_flow_62 : decode cX1_flow 62 = .ok (.lload 4, 2) := by decide +kernel
theorem dX1_flow_64 : decode cX1_flow 64 = .ok (.lsub, 1) := by decide +kernel
theorem dX1_flow_65 : decode cX1_flow 65 = .ok (.lastore, 1) := by decide +kernel
theorem dX1_flow_66 : decode cX1_flow 66 = .ok (.aload_n 0, 1) := by decide +kernel
theorem dX1_flow_67 : decode cX1_flow 67 = .ok (.getfield 15, 3) := by decide +kernel
theorem dX1_flow_70 : decode cX1_flow 70 = .ok (.iload_n 1, 1) := by decide +kernel
theorem dX1_flow_71 : decode cX1_flow 71 = .ok (.dup2, 1) := by decide +kernel
theorem dX1_flow_72 : decode cX1_flow 72 = .ok (.laload, 1) := by decide +kernel
theorem dX1_flow_73 : decode cX1_flow 73 = .ok (.lload 4, 2) := by decide +kernel
theorem dX1_flow_75 : decode cX1_flow 75 = .ok (.aload_n 0, 1) := by decide +kernel
theorem dX1_flow_76 : decode cX1_flow 76 = .ok (.getfield 34, 3) := by decide +kernel
theorem dX1_flow_79 : decode cX1_flow 79 = .ok (.iload_n 1, 1) := by decide +kernel
theorem dX1_flow_80 : decode cX1_flow 80 = .ok (.laload, 1) := by decide +kernel
theorem dX1_flow_81 : decode cX1_flow 81 = .ok (.lmul, 1) := by decide +kernel
theorem dX1_flow_82 : decode cX1_flow 82 = .ok (.lsub, 1) := by decide +kernel
theorem dX1_flow_83 : decode cX1_flow 83 = .ok (.lastore, 1) := by decide +kernel
theorem dX1_flow_84 : decode cX1_flow 84 = .ok (.aload_n 0, 1) := by decide +kernel
theorem dX1_flow_85 : decode cX1_flow 85 = .ok (.getfield 18, 3) := by decide +kernel
theorem dX1_flow_88 : decode cX1_flow 88 = .ok (.iload_n 1, 1) := by decide +kernel
theorem dX1_flow_89 : decode cX1_flow 89 = .ok (.dup2, 1) := by decide +kernel
theorem dX1_flow_90 : decode cX1_flow 90 = .ok (.laload, 1) := by decide +kernel
theorem dX1_flow_91 : decode cX1_flow 91 = .ok (.lload 6, 2) := by decide +kernel
theorem dX1_flow_93 : decode cX1_flow 93 = .ok (.lsub, 1) := by decide +kernel
theorem dX1_flow_94 : decode cX1_flow 94 = .ok (.lastore, 1) := by decide +kernel
theorem dX1_flow_95 : decode cX1_flow 95 = .ok (.aload_n 0, 1) := by decide +kernel
theorem dX1_flow_96 : decode cX1_flow 96 = .ok (.iload_n 2, 1) := by decide +kernel
theorem dX1_flow_97 : decode cX1_flow 97 = .ok (.lload 4, 2) := by decide +kernel
theorem dX1_flow_99 : decode cX1_flow 99 = .ok (.aload_n 0, 1) := by decide +kernel
theorem dX1_flow_100 : decode cX1_flow 100 = .ok (.getfield 34, 3) := by decide +kernel
theorem dX1_flow_103 : decode cX1_flow 103 = .ok (.iload_n 1, 1) := by decide +kernel
theorem dX1_flow_104 : decode cX1_flow 104 = .ok (.laload, 1) := by decide +kernel
theorem dX1_flow_105 : decode cX1_flow 105 = .ok (.invokevirtual 74, 3) := by decide +kernel
theorem dX1_flow_108 : decode cX1_flow 108 = .ok (.aload_n 0, 1) := by decide +kernel
theorem dX1_flow_109 : decode cX1_flow 109 = .ok (.getfield 18, 3) := by decide +kernel
theorem dX1_flow_112 : decode cX1_flow 112 = .ok (.iload_n 2, 1) := by decide +kernel
theorem dX1_flow_113 : decode cX1_flow 113 = .ok (.dup2, 1) := by decide +kernel
theorem dX1_flow_114 : decode cX1_flow 114 = .ok (.laload, 1) := by decide +kernel
theorem dX1_flow_115 : decode cX1_flow 115 = .ok (.lload 6, 2) := by decide +kernel
theorem dX1_flow_117 : decode cX1_flow 117 = .ok (.ladd, 1) := by decide +kernel
theorem dX1_flow_118 : decode cX1_flow 118 = .ok (.lastore, 1) := by decide +kernel
theorem dX1_flow_119 : decode cX1_flow 119 = .ok (.return_, 1) := by decide +kernel
theorem dX1_warm_0 : decode cX1_warm 0 = .ok (.aload_n 0, 1) := by decide +kernel
theorem dX1_warm_1 : decode cX1_warm 1 = .ok (.iload_n 1, 1) := by decide +kernel
theorem dX1_warm_2 : decode cX1_warm 2 = .ok (.invokevirtual 50, 3) := by decide +kernel
theorem dX1_warm_5 : decode cX1_warm 5 = .ok (.lstore_n 2, 1) := by decide +kernel
theorem dX1_warm_6 : decode cX1_warm 6 = .ok (.lload_n 2, 1) := by decide +kernel
theorem dX1_warm_7 : decode cX1_warm 7 = .ok (.ldc2_w 78, 3) := by decide +kernel
theorem dX1_warm_10 : decode cX1_warm 10 = .ok (.lcmp, 1) := by decide +kernel
theorem dX1_warm_11 : decode cX1_warm 11 = .ok (.ifCond .ge 21, 3) := by decide +kernel
theorem dX1_warm_14 : decode cX1_warm 14 = .ok (.aload_n 0, 1) := by decide +kernel
theorem dX1_warm_15 : decode cX1_warm 15 = .ok (.getfield 15, 3) := by decide +kernel
theorem dX1_warm_18 : decode cX1_warm 18 = .ok (.iload_n 1, 1) := by decide +kernel
theorem dX1_warm_19 : decode cX1_warm 19 = .ok (.dup2, 1) := by decide +kernel
theorem dX1_warm_20 : decode cX1_warm 20 = .ok (.laload, 1) := by decide +kernel
theorem dX1_warm_21 : decode cX1_warm 21 = .ok (.ldc2_w 80, 3) := by decide +kernel
theorem dX1_warm_24 : decode cX1_warm 24 = .ok (.ldc2_w 78, 3) := by decide +kernel
theorem dX1_warm_27 : decode cX1_warm 27 = .ok (.lload_n 2, 1) := by decide +kernel
theorem dX1_warm_28 : decode cX1_warm 28 = .ok (.lsub, 1) := by decide +kernel
theorem dX1_warm_29 : decode cX1_warm 29 = .ok (.lmul, 1) := by decide +kernel
theorem dX1_warm_30 : decode cX1_warm 30 = .ok (.ladd, 1) := by decide +kernel
theorem dX1_warm_31 : decode cX1_warm 31 = .ok (.lastore, 1) := by decide +kernel
theorem dX1_warm_32 : decode cX1_warm 32 = .ok (.return_, 1) := by decide +kernel
theorem dX2_init_0 : decode cX2_init 0 = .ok (.aload_n 0, 1) := by decide +kernel
theorem dX2_init_1 : decode cX2_init 1 = .ok (.invokespecial 3, 3) := by decide +kernel
theorem dX2_init_4 : decode cX2_init 4 = .ok (.aload_n 0, 1) := by decide +kernel
theorem dX2_init_5 : decode cX2_init 5 = .ok (.iconst 0, 1) := by decide +kernel
theorem dX2_init_6 : decode cX2_init 6 = .ok (.putfield 9, 3) := by decide +kernel
theorem dX2_init_9 : decode cX2_init 9 = .ok (.aload_n 0, 1) := by decide +kernel
theorem dX2_init_10 : decode cX2_init 10 = .ok (.bipush 60, 2) := by decide +kernel
theorem dX2_init_12 : decode cX2_init 12 = .ok (.newarray .int, 2) := by decide +kernel
theorem dX2_init_14 : decode cX2_init 14 = .ok (.putfield 15, 3) := by decide +kernel
theorem dX2_init_17 : decode cX2_init 17 = .ok (.aload_n 0, 1) := by decide +kernel
theorem dX2_init_18 : decode cX2_init 18 = .ok (.bipush 60, 2) := by decide +kernel
theorem dX2_init_20 : decode cX2_init 20 = .ok (.newarray .int, 2) := by decide +kernel
theorem dX2_init_22 : decode cX2_init 22 = .ok (.putfield 19, 3) := by decide +kernel
theorem dX2_init_25 : decode cX2_init 25 = .ok (.aload_n 0, 1) := by decide +kernel
theorem dX2_init_26 : decode cX2_init 26 = .ok (.bipush 60, 2) := by decide +kernel
theorem dX2_init_28 : decode cX2_init 28 = .ok (.newarray .int, 2) := by decide +kernel
theorem dX2_init_30 : decode cX2_init 30 = .ok (.putfield 22, 3) := by decide +kernel
theorem dX2_init_33 : decode cX2_init 33 = .ok (.return_, 1) := by decide +kernel
theorem dX2_kept_0 : decode cX2_kept 0 = .ok (.aload_n 0, 1) := by decide +kernel
theorem dX2_kept_1 : decode cX2_kept 1 = .ok (.getfield 9, 3) := by decide +kernel
theorem dX2_kept_4 : decode cX2_kept 4 = .ok (.bipush 60, 2) := by decide +kernel
theorem dX2_kept_6 : decode cX2_kept 6 = .ok (.invokestatic 25, 3) := by decide +kernel
theorem dX2_kept_9 : decode cX2_kept 9 = .ok (.ireturn, 1) := by decide +kernel
theorem dX2_add_0 : decode cX2_add 0 = .ok (.aload_n 0, 1) := by decide +kernel
theorem dX2_add_1 : decode cX2_add 1 = .ok (.getfield 9, 3) := by decide +kernel
theorem dX2_add_4 : decode cX2_add 4 = .ok (.bipush 60, 2) := by decide +kernel
theorem dX2_add_6 : decode cX2_add 6 = .ok (.if_icmp .ge 33, 3) := by decide +kernel
theorem dX2_add_9 : decode cX2_add 9 = .ok (.aload_n 0, 1) := by decide +kernel
theorem dX2_add_10 : decode cX2_add 10 = .ok (.getfield 15, 3) := by decide +kernel
theorem dX2_add_13 : decode cX2_add 13 = .ok (.aload_n 0, 1) := by decide +kernel
theorem dX2_add_14 : decode cX2_add 14 = .ok (.getfield 9, 3) := by decide +kernel
theorem dX2_add_17 : decode cX2_add 17 = .ok (.iload_n 1, 1) := by decide +kernel
theorem dX2_add_18 : decode cX2_add 18 = .ok (.iastore, 1) := by decide +kernel
theorem dX2_add_19 : decode cX2_add 19 = .ok (.aload_n 0, 1) := by decide +kernel
theorem dX2_add_20 : decode cX2_add 20 = .ok (.getfield 19, 3) := by decide +kernel
theorem dX2_add_23 : decode cX2_add 23 = .ok (.aload_n 0, 1) := by decide +kernel
theorem dX2_add_24 : decode cX2_add 24 = .ok (.getfield 9, 3) := by decide +kernel
theorem dX2_add_27 : decode cX2_add 27 = .ok (.iload_n 2, 1) := by decide +kernel
theorem dX2_add_28 : decode cX2_add 28 = .ok (.iastore, 1) := by decide +kernel
theorem dX2_add_29 : decode cX2_add 29 = .ok (.aload_n 0, 1) := by decide +kernel
theorem dX2_add_30 : decode cX2_add 30 = .ok (.getfield 22, 3) := by decide +kernel
theorem dX2_add_33 : decode cX2_add 33 = .ok (.aload_n 0, 1) := by decide +kernel
theorem dX2_add_34 : decode cX2_add 34 = .ok (.getfield 9, 3) := by decide +kernel
theorem dX2_add_37 : decode cX2_add 37 = .ok (.iload_n 3, 1) := by decide +kernel
theorem dX2_add_38 : decode cX2_add 38 = .ok (.iastore, 1) := by decide +kernel
theorem dX2_add_39 : decode cX2_add 39 = .ok (.aload_n 0, 1) := by decide +kernel
theorem dX2_add_40 : decode cX2_add 40 = .ok (.dup, 1) := by decide +kernel
theorem dX2_add_41 : decode cX2_add 41 = .ok (.getfield 9, 3) := by decide +kernel
theorem dX2_add_44 : decode cX2_add 44 = .ok (.iconst 1, 1) := by decide +kernel
theorem dX2_add_45 : decode cX2_add 45 = .ok (.iadd, 1) := by decide +kernel
theorem dX2_add_46 : decode cX2_add 46 = .ok (.putfield 9, 3) := by decide +kernel
theorem dX2_add_49 : decode cX2_add 49 = .ok (.return_, 1) := by decide +kernel
theorem dX2_copy_0 : decode cX2_copy 0 = .ok (.aload_n 0, 1) := by decide +kernel
theorem dX2_copy_1 : decode cX2_copy 1 = .ok (.aload_n 1, 1) := by decide +kernel
theorem dX2_copy_2 : decode cX2_copy 2 = .ok (.getfield 9, 3) := by decide +kernel
theorem dX2_copy_5 : decode cX2_copy 5 = .ok (.putfield 9, 3) := by decide +kernel
theorem dX2_copy_8 : decode cX2_copy 8 = .ok (.iconst 0, 1) := by decide +kernel
theorem dX2_copy_9 : decode cX2_copy 9 = .ok (.istore_n 2, 1) := by decide +kernel
theorem dX2_copy_10 : decode cX2_copy 10 = .ok (.iload_n 2, 1) := by decide +kernel
theorem dX2_copy_11 : decode cX2_copy 11 = .ok (.aload_n 0, 1) := by decide +kernel
theorem dX2_copy_12 : decode cX2_copy 12 = .ok (.invokevirtual 31, 3) := by decide +kernel
theorem dX2_copy_15 : decode cX2_copy 15 = .ok (.if_icmp .ge 45, 3) := by decide +kernel
theorem dX2_copy_18 : decode cX2_copy 18 = .ok (.aload_n 0, 1) := by decide +kernel
theorem dX2_copy_19 : decode cX2_copy 19 = .ok (.getfield 15, 3) := by decide +kernel
theorem dX2_copy_22 : decode cX2_copy 22 = .ok (.iload_n 2, 1) := by decide +kernel
theorem dX2_copy_23 : decode cX2_copy 23 = .ok (.aload_n 1, 1) := by decide +kernel
theorem dX2_copy_24 : decode cX2_copy 24 = .ok (.getfield 15, 3) := by decide +kernel
theorem dX2_copy_27 : decode cX2_copy 27 = .ok (.iload_n 2, 1) := by decide +kernel
theorem dX2_copy_28 : decode cX2_copy 28 = .ok (.iaload, 1) := by decide +kernel
theorem dX2_copy_29 : decode cX2_copy 29 = .ok (.iastore, 1) := by decide +kernel
theorem dX2_copy_30 : decode cX2_copy 30 = .ok (.aload_n 0, 1) := by decide +kernel
theorem dX2_copy_31 : decode cX2_copy 31 = .ok (.getfield 19, 3) := by decide +kernel
theorem dX2_copy_34 : decode cX2_copy 34 = .ok (.iload_n 2, 1) := by decide +kernel
theorem dX2_copy_35 : decode cX2_copy 35 = .ok (.aload_n 1, 1) := by decide +kernel
theorem dX2_copy_36 : decode cX2_copy 36 = .ok (.getfield 19, 3) := by decide +kernel
theorem dX2_copy_39 : decode cX2_copy 39 = .ok (.iload_n 2, 1) := by decide +kernel
theorem dX2_copy_40 : decode cX2_copy 40 = .ok (.iaload, 1) := by decide +kernel
theorem dX2_copy_41 : decode cX2_copy 41 = .ok (.iastore, 1) := by decide +kernel
theorem dX2_copy_42 : decode cX2_copy 42 = .ok (.aload_n 0, 1) := by decide +kernel
theorem dX2_copy_43 : decode cX2_copy 43 = .ok (.getfield 22, 3) := by decide +kernel
theorem dX2_copy_46 : decode cX2_copy 46 = .ok (.iload_n 2, 1) := by decide +kernel
theorem dX2_copy_47 : decode cX2_copy 47 = .ok (.aload_n 1, 1) := by decide +kernel
theorem dX2_copy_48 : decode cX2_copy 48 = .ok (.getfield 22, 3) := by decide +kernel
theorem dX2_copy_51 : decode cX2_copy 51 = .ok (.iload_n 2, 1) := by decide +kernel
theorem dX2_copy_52 : decode cX2_copy 52 = .ok (.iaload, 1) := by decide +kernel
theorem dX2_copy_53 : decode cX2_copy 53 = .ok (.iastore, 1) := by decide +kernel
theorem dX2_copy_54 : decode cX2_copy 54 = .ok (.iinc 2 1, 3) := by decide +kernel
theorem dX2_copy_57 : decode cX2_copy 57 = .ok (.goto (-47), 3) := by decide +kernel
theorem dX2_copy_60 : decode cX2_copy 60 = .ok (.return_, 1) := by decide +kernel
theorem dX2_tell_0 : decode cX2_tell 0 = .ok (.iload_n 2, 1) := by decide +kernel
theorem dX2_tell_1 : decode cX2_tell 1 = .ok (.lookupswitch 41 #[(0, 27), (1, 34)], 27) := by decide +kernel
theorem dX2_tell_28 : decode cX2_tell 28 = .ok (.aload_n 0, 1) := by decide +kernel
theorem dX2_tell_29 : decode cX2_tell 29 = .ok (.getfield 15, 3) := by decide +kernel
theorem dX2_tell_32 : decode cX2_tell 32 = .ok (.iload_n 1, 1) := by decide +kernel
theorem dX2_tell_33 : decode cX2_tell 33 = .ok (.iaload, 1) := by decide +kernel
theorem dX2_tell_34 : decode cX2_tell 34 = .ok (.ireturn, 1) := by decide +kernel
theorem dX2_tell_35 : decode cX2_tell 35 = .ok (.aload_n 0, 1) := by decide +kernel
theorem dX2_tell_36 : decode cX2_tell 36 = .ok (.getfield 19, 3) := by decide +kernel
theorem dX2_tell_39 : decode cX2_tell 39 = .ok (.iload_n 1, 1) := by decide +kernel
theorem dX2_tell_40 : decode cX2_tell 40 = .ok (.iaload, 1) := by decide +kernel
theorem dX2_tell_41 : decode cX2_tell 41 = .ok (.ireturn, 1) := by decide +kernel
theorem dX2_tell_42 : decode cX2_tell 42 = .ok (.aload_n 0, 1) := by decide +kernel
theorem dX2_tell_43 : decode cX2_tell 43 = .ok (.getfield 22, 3) := by decide +kernel
theorem dX2_tell_46 : decode cX2_tell 46 = .ok (.iload_n 1, 1) := by decide +kernel
theorem dX2_tell_47 : decode cX2_tell 47 = .ok (.iaload, 1) := by decide +kernel
theorem dX2_tell_48 : decode cX2_tell 48 = .ok (.ireturn, 1) := by decide +kernel
theorem dX3_init_0 : decode cX3_init 0 = .ok (.aload_n 0, 1) := by decide +kernel
theorem dX3_init_1 : decode cX3_init 1 = .ok (.invokespecial 3, 3) := by decide +kernel
theorem dX3_init_4 : decode cX3_init 4 = .ok (.aload_n 0, 1) := by decide +kernel
theorem dX3_init_5 : decode cX3_init 5 = .ok (.iconst 0, 1) := by decide +kernel
theorem dX3_init_6 : decode cX3_init 6 = .ok (.putfield 9, 3) := by decide +kernel
theorem dX3_init_9 : decode cX3_init 9 = .ok (.aload_n 0, 1) := by decide +kernel
theorem dX3_init_10 : decode cX3_init 10 = .ok (.iconst 4, 1) := by decide +kernel
theorem dX3_init_11 : decode cX3_init 11 = .ok (.newarray .int, 2) := by decide +kernel
theorem dX3_init_13 : decode cX3_init 13 = .ok (.putfield 15, 3) := by decide +kernel
theorem dX3_init_16 : decode cX3_init 16 = .ok (.aload_n 0, 1) := by decide +kernel
theorem dX3_init_17 : decode cX3_init 17 = .ok (.iconst 4, 1) := by decide +kernel
theorem dX3_init_18 : decode cX3_init 18 = .ok (.newarray .int, 2) := by decide +kernel
theorem dX3_init_20 : decode cX3_init 20 = .ok (.putfield 19, 3) := by decide +kernel
theorem dX3_init_23 : decode cX3_init 23 = .ok (.aload_n 0, 1) := by decide +kernel
theorem dX3_init_24 : decode cX3_init 24 = .ok (.iconst 4, 1) := by decide +kernel
theorem dX3_init_25 : decode cX3_init 25 = .ok (.newarray .int, 2) := by decide +kernel
theorem dX3_init_27 : decode cX3_init 27 = .ok (.putfield 22, 3) := by decide +kernel
theorem dX3_init_30 : decode cX3_init 30 = .ok (.aload_n 0, 1) := by decide +kernel
theorem dX3_init_31 : decode cX3_init 31 = .ok (.iconst 4, 1) := by decide +kernel
theorem dX3_init_32 : decode cX3_init 32 = .ok (.newarray .long, 2) := by decide +kernel
theorem dX3_init_34 : decode cX3_init 34 = .ok (.putfield 25, 3) := by decide +kernel
theorem dX3_init_37 : decode cX3_init 37 = .ok (.aload_n 0, 1) := by decide +kernel
theorem dX3_init_38 : decode cX3_init 38 = .ok (.iconst 4, 1) := by decide +kernel
theorem dX3_init_39 : decode cX3_init 39 = .ok (.newarray .int, 2) := by decide +kernel
theorem dX3_init_41 : decode cX3_init 41 = .ok (.putfield 29, 3) := by decide +kernel
theorem dX3_init_44 : decode cX3_init 44 = .ok (.aload_n 0, 1) := by decide +kernel
theorem dX3_init_45 : decode cX3_init 45 = .ok (.bipush 40, 2) := by decide +kernel
theorem dX3_init_47 : decode cX3_init 47 = .ok (.newarray .long, 2) := by decide +kernel
theorem dX3_init_49 : decode cX3_init 49 = .ok (.putfield 32, 3) := by decide +kernel
theorem dX3_init_52 : decode cX3_init 52 = .ok (.return_, 1) := by decide +kernel
theorem dX3_add_0 : decode cX3_add 0 = .ok (.aload_n 0, 1) := by decide +kernel
theorem dX3_add_1 : decode cX3_add 1 = .ok (.getfield 9, 3) := by decide +kernel
theorem dX3_add_4 : decode cX3_add 4 = .ok (.istore 4, 2) := by decide +kernel
theorem dX3_add_6 : decode cX3_add 6 = .ok (.aload_n 0, 1) := by decide +kernel
theorem dX3_add_7 : decode cX3_add 7 = .ok (.getfield 15, 3) := by decide +kernel
theorem dX3_add_10 : decode cX3_add 10 = .ok (.iload 4, 2) := by decide +kernel
theorem dX3_add_12 : decode cX3_add 12 = .ok (.iload_n 1, 1) := by decide +kernel
theorem dX3_add_13 : decode cX3_add 13 = .ok (.iastore, 1) := by decide +kernel
theorem dX3_add_14 : decode cX3_add 14 = .ok (.aload_n 0, 1) := by decide +kernel
theorem dX3_add_15 : decode cX3_add 15 = .ok (.getfield 19, 3) := by decide +kernel
theorem dX3_add_18 : decode cX3_add 18 = .ok (.iload 4, 2) := by decide +kernel
theorem dX3_add_20 : decode cX3_add 20 = .ok (.iload_n 2, 1) := by decide +kernel
theorem dX3_add_21 : decode cX3_add 21 = .ok (.iastore, 1) := by decide +kernel
theorem dX3_add_22 : decode cX3_add 22 = .ok (.aload_n 0, 1) := by decide +kernel
theorem dX3_add_23 : decode cX3_add 23 = .ok (.getfield 22, 3) := by decide +kernel
theorem dX3_add_26 : decode cX3_add 26 = .ok (.iload 4, 2) := by decide +kernel
theorem dX3_add_28 : decode cX3_add 28 = .ok (.iload_n 3, 1) := by decide +kernel
theorem dX3_add_29 : decode cX3_add 29 = .ok (.iastore, 1) := by decide +kernel
theorem dX3_add_30 : decode cX3_add 30 = .ok (.aload_n 0, 1) := by decide +kernel
theorem dX3_add_31 : decode cX3_add 31 = .ok (.dup, 1) := by decide +kernel
theorem dX3_add_32 : decode cX3_add 32 = .ok (.getfield 9, 3) := by decide +kernel
theorem dX3_add_35 : decode cX3_add 35 = .ok (.iconst 1, 1) := by decide +kernel
theorem dX3_add_36 : decode cX3_add 36 = .ok (.iadd, 1) := by decide +kernel
theorem dX3_add_37 : decode cX3_add 37 = .ok (.putfield 9, 3) := by decide +kernel
theorem dX3_add_40 : decode cX3_add 40 = .ok (.iload 4, 2) := by decide +kernel
theorem dX3_add_42 : decode cX3_add 42 = .ok (.ireturn, 1) := by decide +kernel
theorem dX3_copy_0 : decode cX3_copy 0 = .ok (.aload_n 0, 1) := by decide +kernel
theorem dX3_copy_1 : decode cX3_copy 1 = .ok (.aload_n 1, 1) := by decide +kernel
theorem dX3_copy_2 : decode cX3_copy 2 = .ok (.getfield 9, 3) := by decide +kernel
theorem dX3_copy_5 : decode cX3_copy 5 = .ok (.putfield 9, 3) := by decide +kernel
theorem dX3_copy_8 : decode cX3_copy 8 = .ok (.iconst 0, 1) := by decide +kernel
theorem dX3_copy_9 : decode cX3_copy 9 = .ok (.istore_n 2, 1) := by decide +kernel
theorem dX3_copy_10 : decode cX3_copy 10 = .ok (.iload_n 2, 1) := by decide +kernel
theorem dX3_copy_11 : decode cX3_copy 11 = .ok (.aload_n 0, 1) := by decide +kernel
theorem dX3_copy_12 : decode cX3_copy 12 = .ok (.getfield 9, 3) := by decide +kernel
theorem dX3_copy_15 : decode cX3_copy 15 = .ok (.if_icmp .ge 69, 3) := by decide +kernel
theorem dX3_copy_18 : decode cX3_copy 18 = .ok (.aload_n 0, 1) := by decide +kernel
theorem dX3_copy_19 : decode cX3_copy 19 = .ok (.getfield 15, 3) := by decide +kernel
theorem dX3_copy_22 : decode cX3_copy 22 = .ok (.iload_n 2, 1) := by decide +kernel
theorem dX3_copy_23 : decode cX3_copy 23 = .ok (.aload_n 1, 1) := by decide +kernel
theorem dX3_copy_24 : decode cX3_copy 24 = .ok (.getfield 15, 3) := by decide +kernel
theorem dX3_copy_27 : decode cX3_copy 27 = .ok (.iload_n 2, 1) := by decide +kernel
theorem dX3_copy_28 : decode cX3_copy 28 = .ok (.iaload, 1) := by decide +kernel
theorem dX3_copy_29 : decode cX3_copy 29 = .ok (.iastore, 1) := by decide +kernel
theorem dX3_copy_30 : decode cX3_copy 30 = .ok (.aload_n 0, 1) := by decide +kernel
theorem dX3_copy_31 : decode cX3_copy 31 = .ok (.getfield 19, 3) := by decide +kernel
theorem dX3_copy_34 : decode cX3_copy 34 = .ok (.iload_n 2, 1) := by decide +kernel
theorem dX3_copy_35 : decode cX3_copy 35 = .ok (.aload_n 1, 1) := by decide +kernel
theorem dX3_copy_36 : decode cX3_copy 36 = .ok (.getfield 19, 3) := by decide +kernel
theorem dX3_copy_39 : decode cX3_copy 39 = .ok (.iload_n 2, 1) := by decide +kernel
theorem dX3_copy_40 : decode cX3_copy 40 = .ok (.iaload, 1) := by decide +kernel
theorem dX3_copy_41 : decode cX3_copy 41 = .ok (.iastore, 1) := by decide +kernel
theorem dX3_copy_42 : decode cX3_copy 42 = .ok (.aload_n 0, 1) := by decide +kernel
theorem dX3_copy_43 : decode cX3_copy 43 = .ok (.getfield 22, 3) := by decide +kernel
theorem dX3_copy_46 : decode cX3_copy 46 = .ok (.iload_n 2, 1) := by decide +kernel
theorem dX3_copy_47 : decode cX3_copy 47 = .ok (.aload_n 1, 1) := by decide +kernel
theorem dX3_copy_48 : decode cX3_copy 48 = .ok (.getfield 22, 3) := by decide +kernel
theorem dX3_copy_51 : decode cX3_copy 51 = .ok (.iload_n 2, 1) := by decide +kernel
theorem dX3_copy_52 : decode cX3_copy 52 = .ok (.iaload, 1) := by decide +kernel
theorem dX3_copy_53 : decode cX3_copy 53 = .ok (.iastore, 1) := by decide +kernel
theorem dX3_copy_54 : decode cX3_copy 54 = .ok (.aload_n 0, 1) := by decide +kernel
theorem dX3_copy_55 : decode cX3_copy 55 = .ok (.getfield 25, 3) := by decide +kernel
theorem dX3_copy_58 : decode cX3_copy 58 = .ok (.iload_n 2, 1) := by decide +kernel
theorem dX3_copy_59 : decode cX3_copy 59 = .ok (.aload_n 1, 1) := by decide +kernel
theorem dX3_copy_60 : decode cX3_copy 60 = .ok (.getfield 25, 3) := by decide +kernel
theorem dX3_copy_63 : decode cX3_copy 63 = .ok (.iload_n 2, 1) := by decide +kernel
theorem dX3_copy_64 : decode cX3_copy 64 = .ok (.laload, 1) := by decide +kernel
theorem dX3_copy_65 : decode cX3_copy 65 = .ok (.lastore, 1) := by decide +kernel
theorem dX3_copy_66 : decode cX3_copy 66 = .ok (.aload_n 0, 1) := by decide +kernel
theorem dX3_copy_67 : decode cX3_copy 67 = .ok (.getfield 29, 3) := by decide +kernel
theorem dX3_copy_70 : decode cX3_copy 70 = .ok (.iload_n 2, 1) := by decide +kernel
theorem dX3_copy_71 : decode cX3_copy 71 = .ok (.aload_n 1, 1) := by decide +kernel
theorem dX3_copy_72 : decode cX3_copy 72 = .ok (.getfield 29, 3) := by decide +kernel
theorem dX3_copy_75 : decode cX3_copy 75 = .ok (.iload_n 2, 1) := by decide +kernel
theorem dX3_copy_76 : decode cX3_copy 76 = .ok (.iaload, 1) := by decide +kernel
theorem dX3_copy_77 : decode cX3_copy 77 = .ok (.iastore, 1) := by decide +kernel
theorem dX3_copy_78 : decode cX3_copy 78 = .ok (.iinc 2 1, 3) := by decide +kernel
theorem dX3_copy_81 : decode cX3_copy 81 = .ok (.goto (-71), 3) := by decide +kernel
theorem dX3_copy_84 : decode cX3_copy 84 = .ok (.iconst 0, 1) := by decide +kernel
theorem dX3_copy_85 : decode cX3_copy 85 = .ok (.istore_n 2, 1) := by decide +kernel
theorem dX3_copy_86 : decode cX3_copy 86 = .ok (.iload_n 2, 1) := by decide +kernel
theorem dX3_copy_87 : decode cX3_copy 87 = .ok (.aload_n 0, 1) := by decide +kernel
theorem dX3_copy_88 : decode cX3_copy 88 = .ok (.getfield 9, 3) := by decide +kernel
theorem dX3_copy_91 : decode cX3_copy 91 = .ok (.bipush 10, 2) := by decide +kernel
theorem dX3_copy_93 : decode cX3_copy 93 = .ok (.imul, 1) := by decide +kernel
theorem dX3_copy_94 : decode cX3_copy 94 = .ok (.if_icmp .ge 21, 3) := by decide +kernel
theorem dX3_copy_97 : decode cX3_copy 97 = .ok (.aload_n 0, 1) := by decide +kernel
theorem dX3_copy_98 : decode cX3_copy 98 = .ok (.getfield 32, 3) := by decide +kernel
theorem dX3_copy_101 : decode cX3_copy 101 = .ok (.iload_n 2, 1) := by decide +kernel
theorem dX3_copy_102 : decode cX3_copy 102 = .ok (.aload_n 1, 1) := by decide +kernel
theorem dX3_copy_103 : decode cX3_copy 103 = .ok (.getfield 32, 3) := by decide +kernel
theorem dX3_copy_106 : decode cX3_copy 106 = .ok (.iload_n 2, 1) := by decide +kernel
theorem dX3_copy_107 : decode cX3_copy 107 = .ok (.laload, 1) := by decide +kernel
theorem dX3_copy_108 : decode cX3_copy 108 = .ok (.lastore, 1) := by decide +kernel
theorem dX3_copy_109 : decode cX3_copy 109 = .ok (.iinc 2 1, 3) := by decide +kernel
theorem dX3_copy_112 : decode cX3_copy 112 = .ok (.goto (-26), 3) := by decide +kernel
theorem dX3_copy_115 : decode cX3_copy 115 = .ok (.return_, 1) := by decide +kernel
theorem dX3_tell_0 : decode cX3_tell 0 = .ok (.iload_n 2, 1) := by decide +kernel
theorem dX3_tell_1 : decode cX3_tell 1 = .ok (.tableswitch 62 0 3 #[31, 39, 46, 54], 31) := by decide +kernel
theorem dX3_tell_32 : decode cX3_tell 32 = .ok (.aload_n 0, 1) := by decide +kernel
theorem dX3_tell_33 : decode cX3_tell 33 = .ok (.getfield 15, 3) := by decide +kernel
theorem dX3_tell_36 : decode cX3_tell 36 = .ok (.iload_n 1, 1) := by decide +kernel
theorem dX3_tell_37 : decode cX3_tell 37 = .ok (.iaload, 1) := by decide +kernel
theorem dX3_tell_38 : decode cX3_tell 38 = .ok (.i2l, 1) := by decide +kernel
theorem dX3_tell_39 : decode cX3_tell 39 = .ok (.lreturn, 1) := by decide +kernel
theorem dX3_tell_40 : decode cX3_tell 40 = .ok (.aload_n 0, 1) := by decide +kernel
theorem dX3_tell_41 : decode cX3_tell 41 = .ok (.getfield 25, 3) := by decide +kernel
theorem dX3_tell_44 : decode cX3_tell 44 = .ok (.iload_n 1, 1) := by decide +kernel
theorem dX3_tell_45 : decode cX3_tell 45 = .ok (.laload, 1) := by decide +kernel
theorem dX3_tell_46 : decode cX3_tell 46 = .ok (.lreturn, 1) := by decide +kernel
theorem dX3_tell_47 : decode cX3_tell 47 = .ok (.aload_n 0, 1) := by decide +kernel
theorem dX3_tell_48 : decode cX3_tell 48 = .ok (.getfield 22, 3) := by decide +kernel
theorem dX3_tell_51 : decode cX3_tell 51 = .ok (.iload_n 1, 1) := by decide +kernel
theorem dX3_tell_52 : decode cX3_tell 52 = .ok (.iaload, 1) := by decide +kernel
theorem dX3_tell_53 : decode cX3_tell 53 = .ok (.i2l, 1) := by decide +kernel
theorem dX3_tell_54 : decode cX3_tell 54 = .ok (.lreturn, 1) := by decide +kernel
theorem dX3_tell_55 : decode cX3_tell 55 = .ok (.aload_n 0, 1) := by decide +kernel
theorem dX3_tell_56 : decode cX3_tell 56 = .ok (.getfield 29, 3) := by decide +kernel
theorem dX3_tell_59 : decode cX3_tell 59 = .ok (.iload_n 1, 1) := by decide +kernel
theorem dX3_tell_60 : decode cX3_tell 60 = .ok (.iaload, 1) := by decide +kernel
theorem dX3_tell_61 : decode cX3_tell 61 = .ok (.i2l, 1) := by decide +kernel
theorem dX3_tell_62 : decode cX3_tell 62 = .ok (.lreturn, 1) := by decide +kernel
theorem dX3_tell_63 : decode cX3_tell 63 = .ok (.aload_n 0, 1) := by decide +kernel
theorem dX3_tell_64 : decode cX3_tell 64 = .ok (.iload_n 1, 1) := by decide +kernel
theorem dX3_tell_65 : decode cX3_tell 65 = .ok (.invokevirtual 35, 3) := by decide +kernel
theorem dX3_tell_68 : decode cX3_tell 68 = .ok (.i2l, 1) := by decide +kernel
theorem dX3_tell_69 : decode cX3_tell 69 = .ok (.lreturn, 1) := by decide +kernel
theorem dX3_toBlame_0 : decode cX3_toBlame 0 = .ok (.iconst (-1), 1) := by decide +kernel
theorem dX3_toBlame_1 : decode cX3_toBlame 1 = .ok (.istore_n 2, 1) := by decide +kernel
theorem dX3_toBlame_2 : decode cX3_toBlame 2 = .ok (.lconst 0, 1) := by decide +kernel
theorem dX3_toBlame_3 : decode cX3_toBlame 3 = .ok (.lstore_n 3, 1) := by decide +kernel
theorem dX3_toBlame_4 : decode cX3_toBlame 4 = .ok (.iconst 0, 1) := by decide +kernel
theorem dX3_toBlame_5 : decode cX3_toBlame 5 = .ok (.istore 5, 2) := by decide +kernel
theorem dX3_toBlame_7 : decode cX3_toBlame 7 = .ok (.iload 5, 2) := by decide +kernel
theorem dX3_toBlame_9 : decode cX3_toBlame 9 = .ok (.bipush 10, 2) := by decide +kernel
theorem dX3_toBlame_11 : decode cX3_toBlame 11 = .ok (.if_icmp .ge 36, 3) := by decide +kernel
theorem dX3_toBlame_14 : decode cX3_toBlame 14 = .ok (.aload_n 0, 1) := by decide +kernel
theorem dX3_toBlame_15 : decode cX3_toBlame 15 = .ok (.getfield 32, 3) := by decide +kernel
theorem dX3_toBlame_18 : decode cX3_toBlame 18 = .ok (.iload_n 1, 1) := by decide +kernel
theorem dX3_toBlame_19 : decode cX3_toBlame 19 = .ok (.bipush 10, 2) := by decide +kernel
theorem dX3_toBlame_21 : decode cX3_toBlame 21 = .ok (.imul, 1) := by decide +kernel
theorem dX3_toBlame_22 : decode cX3_toBlame 22 = .ok (.iload 5, 2) := by decide +kernel
theorem dX3_toBlame_24 : decode cX3_toBlame 24 = .ok (.iadd, 1) := by decide +kernel
theorem dX3_toBlame_25 : decode cX3_toBlame 25 = .ok (.laload, 1) := by decide +kernel
theorem dX3_toBlame_26 : decode cX3_toBlame 26 = .ok (.lstore 6, 2) := by decide +kernel
theorem dX3_toBlame_28 : decode cX3_toBlame 28 = .ok (.lload 6, 2) := by decide +kernel
theorem dX3_toBlame_30 : decode cX3_toBlame 30 = .ok (.lload_n 3, 1) := by decide +kernel
theorem dX3_toBlame_31 : decode cX3_toBlame 31 = .ok (.lcmp, 1) := by decide +kernel
theorem dX3_toBlame_32 : decode cX3_toBlame 32 = .ok (.ifCond .le 9, 3) := by decide +kernel
theorem dX3_toBlame_35 : decode cX3_toBlame 35 = .ok (.lload 6, 2) := by decide +kernel
theorem dX3_toBlame_37 : decode cX3_toBlame 37 = .ok (.lstore_n 3, 1) := by decide +kernel
theorem dX3_toBlame_38 : decode cX3_toBlame 38 = .ok (.iload 5, 2) := by decide +kernel
theorem dX3_toBlame_40 : decode cX3_toBlame 40 = .ok (.istore_n 2, 1) := by decide +kernel
theorem dX3_toBlame_41 : decode cX3_toBlame 41 = .ok (.iinc 5 1, 3) := by decide +kernel
theorem dX3_toBlame_44 : decode cX3_toBlame 44 = .ok (.goto (-37), 3) := by decide +kernel
theorem dX3_toBlame_47 : decode cX3_toBlame 47 = .ok (.iload_n 2, 1) := by decide +kernel
theorem dX3_toBlame_48 : decode cX3_toBlame 48 = .ok (.ireturn, 1) := by decide +kernel
theorem dX3_isNear_0 : decode cX3_isNear 0 = .ok (.aload_n 0, 1) := by decide +kernel
theorem dX3_isNear_1 : decode cX3_isNear 1 = .ok (.getfield 15, 3) := by decide +kernel
theorem dX3_isNear_4 : decode cX3_isNear 4 = .ok (.iload_n 1, 1) := by decide +kernel
theorem dX3_isNear_5 : decode cX3_isNear 5 = .ok (.iaload, 1) := by decide +kernel
theorem dX3_isNear_6 : decode cX3_isNear 6 = .ok (.iload_n 2, 1) := by decide +kernel
theorem dX3_isNear_7 : decode cX3_isNear 7 = .ok (.if_icmp .eq 16, 3) := by decide +kernel
theorem dX3_isNear_10 : decode cX3_isNear 10 = .ok (.aload_n 0, 1) := by decide +kernel
theorem dX3_isNear_11 : decode cX3_isNear 11 = .ok (.getfield 15, 3) := by decide +kernel
theorem dX3_isNear_14 : decode cX3_isNear 14 = .ok (.iload_n 1, 1) := by decide +kernel
theorem dX3_isNear_15 : decode cX3_isNear 15 = .ok (.iaload, 1) := by decide +kernel
theorem dX3_isNear_16 : decode cX3_isNear 16 = .ok (.iload_n 2, 1) := by decide +kernel
theorem dX3_isNear_17 : decode cX3_isNear 17 = .ok (.invokestatic 39, 3) := by decide +kernel
theorem dX3_isNear_20 : decode cX3_isNear 20 = .ok (.ifCond .eq 7, 3) := by decide +kernel
theorem dX3_isNear_23 : decode cX3_isNear 23 = .ok (.iconst 1, 1) := by decide +kernel
theorem dX3_isNear_24 : decode cX3_isNear 24 = .ok (.goto 4, 3) := by decide +kernel
theorem dX3_isNear_27 : decode cX3_isNear 27 = .ok (.iconst 0, 1) := by decide +kernel
theorem dX3_isNear_28 : decode cX3_isNear 28 = .ok (.ireturn, 1) := by decide +kernel
theorem dX3_charge_0 : decode cX3_charge 0 = .ok (.iconst 0, 1) := by decide +kernel
theorem dX3_charge_1 : decode cX3_charge 1 = .ok (.istore 5, 2) := by decide +kernel
theorem dX3_charge_3 : decode cX3_charge 3 = .ok (.iload 5, 2) := by decide +kernel
theorem dX3_charge_5 : decode cX3_charge 5 = .ok (.aload_n 0, 1) := by decide +kernel
theorem dX3_charge_6 : decode cX3_charge 6 = .ok (.getfield 9, 3) := by decide +kernel
theorem dX3_charge_9 : decode cX3_charge 9 = .ok (.if_icmp .ge 35, 3) := by decide +kernel
theorem dX3_charge_12 : decode cX3_charge 12 = .ok (.aload_n 0, 1) := by decide +kernel
theorem dX3_charge_13 : decode cX3_charge 13 = .ok (.iload 5, 2) := by decide +kernel
theorem dX3_charge_15 : decode cX3_charge 15 = .ok (.iload_n 2, 1) := by decide +kernel
theorem dX3_charge_16 : decode cX3_charge 16 = .ok (.invokevirtual 43, 3) := by decide +kernel
theorem dX3_charge_19 : decode cX3_charge 19 = .ok (.ifCond .eq 19, 3) := by decide +kernel
theorem dX3_charge_22 : decode cX3_charge 22 = .ok (.aload_n 0, 1) := by decide +kernel
theorem dX3_charge_23 : decode cX3_charge 23 = .ok (.getfield 32, 3) := by decide +kernel
theorem dX3_charge_26 : decode cX3_charge 26 = .ok (.iload 5, 2) := by decide +kernel
theorem dX3_charge_28 : decode cX3_charge 28 = .ok (.bipush 10, 2) := by decide +kernel
theorem dX3_charge_30 : decode cX3_charge 30 = .ok (.imul, 1) := by decide +kernel
theorem dX3_charge_31 : decode cX3_charge 31 = .ok (.iload_n 1, 1) := by decide +kernel
theorem dX3_charge_32 : decode cX3_charge 32 = .ok (.iadd, 1) := by decide +kernel
theorem dX3_charge_33 : decode cX3_charge 33 = .ok (.dup2, 1) := by decide +kernel
theorem dX3_charge_34 : decode cX3_charge 34 = .ok (.laload, 1) := by decide +kernel
theorem dX3_charge_35 : decode cX3_charge 35 = .ok (.lload_n 3, 1) := by decide +kernel
theorem dX3_charge_36 : decode cX3_charge 36 = .ok (.ladd, 1) := by decide +kernel
theorem dX3_charge_37 : decode cX3_charge 37 = .ok (.lastore, 1) := by decide +kernel
theorem dX3_charge_38 : decode cX3_charge 38 = .ok (.iinc 5 1, 3) := by decide +kernel
theorem dX3_charge_41 : decode cX3_charge 41 = .ok (.goto (-38), 3) := by decide +kernel
theorem dX3_charge_44 : decode cX3_charge 44 = .ok (.return_, 1) := by decide +kernel
theorem dX3_note_0 : decode cX3_note 0 = .ok (.aload_n 0, 1) := by decide +kernel
theorem dX3_note_1 : decode cX3_note 1 = .ok (.getfield 25, 3) := by decide +kernel
theorem dX3_note_4 : decode cX3_note 4 = .ok (.iload_n 1, 1) := by decide +kernel
theorem dX3_note_5 : decode cX3_note 5 = .ok (.lload_n 2, 1) := by decide +kernel
theorem dX3_note_6 : decode cX3_note 6 = .ok (.lastore, 1) := by decide +kernel
theorem dX3_note_7 : decode cX3_note 7 = .ok (.lload_n 2, 1) := by decide +kernel
theorem dX3_note_8 : decode cX3_note 8 = .ok (.lconst 0, 1) := by decide +kernel
theorem dX3_note_9 : decode cX3_note 9 = .ok (.lcmp, 1) := by decide +kernel
theorem dX3_note_10 : decode cX3_note 10 = .ok (.ifCond .le 18, 3) := by decide +kernel
theorem dX3_note_13 : decode cX3_note 13 = .ok (.aload_n 0, 1) := by decide +kernel
theorem dX3_note_14 : decode cX3_note 14 = .ok (.getfield 29, 3) := by decide +kernel
theorem dX3_note_17 : decode cX3_note 17 = .ok (.iload_n 1, 1) := by decide +kernel
theorem dX3_note_18 : decode cX3_note 18 = .ok (.iconst 0, 1) := by decide +kernel
theorem dX3_note_19 : decode cX3_note 19 = .ok (.iastore, 1) := by decide +kernel
theorem dX3_note_20 : decode cX3_note 20 = .ok (.aload_n 0, 1) := by decide +kernel
theorem dX3_note_21 : decode cX3_note 21 = .ok (.iload_n 1, 1) := by decide +kernel
theorem dX3_note_22 : decode cX3_note 22 = .ok (.invokevirtual 46, 3) := by decide +kernel
theorem dX3_note_25 : decode cX3_note 25 = .ok (.goto 13, 3) := by decide +kernel
theorem dX3_note_28 : decode cX3_note 28 = .ok (.aload_n 0, 1) := by decide +kernel
theorem dX3_note_29 : decode cX3_note 29 = .ok (.getfield 29, 3) := by decide +kernel
theorem dX3_note_32 : decode cX3_note 32 = .ok (.iload_n 1, 1) := by decide +kernel
theorem dX3_note_33 : decode cX3_note 33 = .ok (.dup2, 1) := by decide +kernel
theorem dX3_note_34 : decode cX3_note 34 = .ok (.iaload, 1) := by decide +kernel
theorem dX3_note_35 : decode cX3_note 35 = .ok (.iconst 1, 1) := by decide +kernel
theorem dX3_note_36 : decode cX3_note 36 = .ok (.iadd, 1) := by decide +kernel
theorem dX3_note_37 : decode cX3_note 37 = .ok (.iastore, 1) := by decide +kernel
theorem dX3_note_38 : decode cX3_note 38 = .ok (.return_, 1) := by decide +kernel
theorem dX3_clearAccounts_0 : decode cX3_clearAccounts 0 = .ok (.iconst 0, 1) := by decide +kernel
theorem dX3_clearAccounts_1 : decode cX3_clearAccounts 1 = .ok (.istore_n 2, 1) := by decide +kernel
theorem dX3_clearAccounts_2 : decode cX3_clearAccounts 2 = .ok (.iload_n 2, 1) := by decide +kernel
theorem dX3_clearAccounts_3 : decode cX3_clearAccounts 3 = .ok (.bipush 10, 2) := by decide +kernel
theorem dX3_clearAccounts_5 : decode cX3_clearAccounts 5 = .ok (.if_icmp .ge 21, 3) := by decide +kernel
theorem dX3_clearAccounts_8 : decode cX3_clearAccounts 8 = .ok (.aload_n 0, 1) := by decide +kernel
theorem dX3_clearAccounts_9 : decode cX3_clearAccounts 9 = .ok (.getfield 32, 3) := by decide +kernel
theorem dX3_clearAccounts_12 : decode cX3_clearAccounts 12 = .ok (.iload_n 1, 1) := by decide +kernel
theorem dX3_clearAccounts_13 : decode cX3_clearAccounts 13 = .ok (.bipush 10, 2) := by decide +kernel
theorem dX3_clearAccounts_15 : decode cX3_clearAccounts 15 = .ok (.imul, 1) := by decide +kernel
theorem dX3_clearAccounts_16 : decode cX3_clearAccounts 16 = .ok (.iload_n 2, 1) := by decide +kernel
theorem dX3_clearAccounts_17 : decode cX3_clearAccounts 17 = .ok (.iadd, 1) := by decide +kernel
theorem dX3_clearAccounts_18 : decode cX3_clearAccounts 18 = .ok (.lconst 0, 1) := by decide +kernel
theorem dX3_clearAccounts_19 : decode cX3_clearAccounts 19 = .ok (.lastore, 1) := by decide +kernel
theorem dX3_clearAccounts_20 : decode cX3_clearAccounts 20 = .ok (.iinc 2 1, 3) := by decide +kernel
theorem dX3_clearAccounts_23 : decode cX3_clearAccounts 23 = .ok (.goto (-21), 3) := by decide +kernel
theorem dX3_clearAccounts_26 : decode cX3_clearAccounts 26 = .ok (.return_, 1) := by decide +kernel
theorem dX4_init_0 : decode cX4_init 0 = .ok (.aload_n 0, 1) := by decide +kernel
theorem dX4_init_1 : decode cX4_init 1 = .ok (.invokespecial 3, 3) := by decide +kernel
theorem dX4_init_4 : decode cX4_init 4 = .ok (.aload_n 0, 1) := by decide +kernel
theorem dX4_init_5 : decode cX4_init 5 = .ok (.iconst 0, 1) := by decide +kernel
theorem dX4_init_6 : decode cX4_init 6 = .ok (.putfield 9, 3) := by decide +kernel
theorem dX4_init_9 : decode cX4_init 9 = .ok (.aload_n 0, 1) := by decide +kernel
theorem dX4_init_10 : decode cX4_init 10 = .ok (.bipush 6, 2) := by decide +kernel
theorem dX4_init_12 : decode cX4_init 12 = .ok (.newarray .int, 2) := by decide +kernel
theorem dX4_init_14 : decode cX4_init 14 = .ok (.putfield 15, 3) := by decide +kernel
theorem dX4_init_17 : decode cX4_init 17 = .ok (.aload_n 0, 1) := by decide +kernel
theorem dX4_init_18 : decode cX4_init 18 = .ok (.bipush 6, 2) := by decide +kernel
theorem dX4_init_20 : decode cX4_init 20 = .ok (.newarray .int, 2) := by decide +kernel
theorem dX4_init_22 : decode cX4_init 22 = .ok (.putfield 19, 3) := by decide +kernel
theorem dX4_init_25 : decode cX4_init 25 = .ok (.return_, 1) := by decide +kernel
theorem dX4_add_0 : decode cX4_add 0 = .ok (.aload_n 0, 1) := by decide +kernel
theorem dX4_add_1 : decode cX4_add 1 = .ok (.getfield 9, 3) := by decide +kernel
theorem dX4_add_4 : decode cX4_add 4 = .ok (.istore_n 3, 1) := by decide +kernel
theorem dX4_add_5 : decode cX4_add 5 = .ok (.aload_n 0, 1) := by decide +kernel
theorem dX4_add_6 : decode cX4_add 6 = .ok (.getfield 15, 3) := by decide +kernel
theorem dX4_add_9 : decode cX4_add 9 = .ok (.iload_n 3, 1) := by decide +kernel
theorem dX4_add_10 : decode cX4_add 10 = .ok (.iload_n 1, 1) := by decide +kernel
theorem dX4_add_11 : decode cX4_add 11 = .ok (.iastore, 1) := by decide +kernel
theorem dX4_add_12 : decode cX4_add 12 = .ok (.aload_n 0, 1) := by decide +kernel
theorem dX4_add_13 : decode cX4_add 13 = .ok (.getfield 19, 3) := by decide +kernel
theorem dX4_add_16 : decode cX4_add 16 = .ok (.iload_n 3, 1) := by decide +kernel
theorem dX4_add_17 : decode cX4_add 17 = .ok (.iload_n 2, 1) := by decide +kernel
theorem dX4_add_18 : decode cX4_add 18 = .ok (.iastore, 1) := by decide +kernel
theorem dX4_add_19 : decode cX4_add 19 = .ok (.aload_n 0, 1) := by decide +kernel
theorem dX4_add_20 : decode cX4_add 20 = .ok (.dup, 1) := by decide +kernel
theorem dX4_add_21 : decode cX4_add 21 = .ok (.getfield 9, 3) := by decide +kernel
theorem dX4_add_24 : decode cX4_add 24 = .ok (.iconst 1, 1) := by decide +kernel
theorem dX4_add_25 : decode cX4_add 25 = .ok (.iadd, 1) := by decide +kernel
theorem dX4_add_26 : decode cX4_add 26 = .ok (.putfield 9, 3) := by decide +kernel
theorem dX4_add_29 : decode cX4_add 29 = .ok (.iload_n 3, 1) := by decide +kernel
theorem dX4_add_30 : decode cX4_add 30 = .ok (.ireturn, 1) := by decide +kernel
theorem dX4_copy_0 : decode cX4_copy 0 = .ok (.aload_n 0, 1) := by decide +kernel
theorem dX4_copy_1 : decode cX4_copy 1 = .ok (.aload_n 1, 1) := by decide +kernel
theorem dX4_copy_2 : decode cX4_copy 2 = .ok (.getfield 9, 3) := by decide +kernel
theorem dX4_copy_5 : decode cX4_copy 5 = .ok (.putfield 9, 3) := by decide +kernel
theorem dX4_copy_8 : decode cX4_copy 8 = .ok (.iconst 0, 1) := by decide +kernel
theorem dX4_copy_9 : decode cX4_copy 9 = .ok (.istore_n 2, 1) := by decide +kernel
theorem dX4_copy_10 : decode cX4_copy 10 = .ok (.iload_n 2, 1) := by decide +kernel
theorem dX4_copy_11 : decode cX4_copy 11 = .ok (.aload_n 0, 1) := by decide +kernel
theorem dX4_copy_12 : decode cX4_copy 12 = .ok (.getfield 9, 3) := by decide +kernel
theorem dX4_copy_15 : decode cX4_copy 15 = .ok (.if_icmp .ge 33, 3) := by decide +kernel
theorem dX4_copy_18 : decode cX4_copy 18 = .ok (.aload_n 0, 1) := by decide +kernel
theorem dX4_copy_19 : decode cX4_copy 19 = .ok (.getfield 15, 3) := by decide +kernel
theorem dX4_copy_22 : decode cX4_copy 22 = .ok (.iload_n 2, 1) := by decide +kernel
theorem dX4_copy_23 : decode cX4_copy 23 = .ok (.aload_n 1, 1) := by decide +kernel
theorem dX4_copy_24 : decode cX4_copy 24 = .ok (.getfield 15, 3) := by decide +kernel
theorem dX4_copy_27 : decode cX4_copy 27 = .ok (.iload_n 2, 1) := by decide +kernel
theorem dX4_copy_28 : decode cX4_copy 28 = .ok (.iaload, 1) := by decide +kernel
theorem dX4_copy_29 : decode cX4_copy 29 = .ok (.iastore, 1) := by decide +kernel
theorem dX4_copy_30 : decode cX4_copy 30 = .ok (.aload_n 0, 1) := by decide +kernel
theorem dX4_copy_31 : decode cX4_copy 31 = .ok (.getfield 19, 3) := by decide +kernel
theorem dX4_copy_34 : decode cX4_copy 34 = .ok (.iload_n 2, 1) := by decide +kernel
theorem dX4_copy_35 : decode cX4_copy 35 = .ok (.aload_n 1, 1) := by decide +kernel
theorem dX4_copy_36 : decode cX4_copy 36 = .ok (.getfield 19, 3) := by decide +kernel
theorem dX4_copy_39 : decode cX4_copy 39 = .ok (.iload_n 2, 1) := by decide +kernel
theorem dX4_copy_40 : decode cX4_copy 40 = .ok (.iaload, 1) := by decide +kernel
theorem dX4_copy_41 : decode cX4_copy 41 = .ok (.iastore, 1) := by decide +kernel
theorem dX4_copy_42 : decode cX4_copy 42 = .ok (.iinc 2 1, 3) := by decide +kernel
theorem dX4_copy_45 : decode cX4_copy 45 = .ok (.goto (-35), 3) := by decide +kernel
theorem dX4_copy_48 : decode cX4_copy 48 = .ok (.return_, 1) := by decide +kernel
theorem dX5_init_0 : decode cX5_init 0 = .ok (.aload_n 0, 1) := by decide +kernel
theorem dX5_init_1 : decode cX5_init 1 = .ok (.invokespecial 3, 3) := by decide +kernel
theorem dX5_init_4 : decode cX5_init 4 = .ok (.aload_n 0, 1) := by decide +kernel
theorem dX5_init_5 : decode cX5_init 5 = .ok (.iconst 0, 1) := by decide +kernel
theorem dX5_init_6 : decode cX5_init 6 = .ok (.putfield 9, 3) := by decide +kernel
theorem dX5_init_9 : decode cX5_init 9 = .ok (.aload_n 0, 1) := by decide +kernel
theorem dX5_init_10 : decode cX5_init 10 = .ok (.bipush 10, 2) := by decide +kernel
theorem dX5_init_12 : decode cX5_init 12 = .ok (.newarray .int, 2) := by decide +kernel
theorem dX5_init_14 : decode cX5_init 14 = .ok (.putfield 15, 3) := by decide +kernel
theorem dX5_init_17 : decode cX5_init 17 = .ok (.aload_n 0, 1) := by decide +kernel
theorem dX5_init_18 : decode cX5_init 18 = .ok (.bipush 10, 2) := by decide +kernel
theorem dX5_init_20 : decode cX5_init 20 = .ok (.newarray .boolean, 2) := by decide +kernel
theorem dX5_init_22 : decode cX5_init 22 = .ok (.putfield 19, 3) := by decide +kernel
theorem dX5_init_25 : decode cX5_init 25 = .ok (.aload_n 0, 1) := by decide +kernel
theorem dX5_init_26 : decode cX5_init 26 = .ok (.bipush 10, 2) := by decide +kernel
theorem dX5_init_28 : decode cX5_init 28 = .ok (.newarray .int, 2) := by decide +kernel
theorem dX5_init_30 : decode cX5_init 30 = .ok (.putfield 23, 3) := by decide +kernel
theorem dX5_init_33 : decode cX5_init 33 = .ok (.aload_n 0, 1) := by decide +kernel
theorem dX5_init_34 : decode cX5_init 34 = .ok (.bipush 10, 2) := by decide +kernel
theorem dX5_init_36 : decode cX5_init 36 = .ok (.newarray .int, 2) := by decide +kernel
theorem dX5_init_38 : decode cX5_init 38 = .ok (.putfield 26, 3) := by decide +kernel
theorem dX5_init_41 : decode cX5_init 41 = .ok (.aload_n 0, 1) := by decide +kernel
theorem dX5_init_42 : decode cX5_init 42 = .ok (.bipush 10, 2) := by decide +kernel
theorem dX5_init_44 : decode cX5_init 44 = .ok (.newarray .long, 2) := by decide +kernel
theorem dX5_init_46 : decode cX5_init 46 = .ok (.putfield 29, 3) := by decide +kernel
theorem dX5_init_49 : decode cX5_init 49 = .ok (.aload_n 0, 1) := by decide +kernel
theorem dX5_init_50 : decode cX5_init 50 = .ok (.bipush 10, 2) := by decide +kernel
theorem dX5_init_52 : decode cX5_init 52 = .ok (.newarray .boolean, 2) := by decide +kernel
theorem dX5_init_54 : decode cX5_init 54 = .ok (.putfield 33, 3) := by decide +kernel
theorem dX5_init_57 : decode cX5_init 57 = .ok (.aload_n 0, 1) := by decide +kernel
theorem dX5_init_58 : decode cX5_init 58 = .ok (.bipush 10, 2) := by decide +kernel
theorem dX5_init_60 : decode cX5_init 60 = .ok (.newarray .long, 2) := by decide +kernel
theorem dX5_init_62 : decode cX5_init 62 = .ok (.putfield 36, 3) := by decide +kernel
theorem dX5_init_65 : decode cX5_init 65 = .ok (.aload_n 0, 1) := by decide +kernel
theorem dX5_init_66 : decode cX5_init 66 = .ok (.bipush 10, 2) := by decide +kernel
theorem dX5_init_68 : decode cX5_init 68 = .ok (.newarray .int, 2) := by decide +kernel
theorem dX5_init_70 : decode cX5_init 70 = .ok (.putfield 39, 3) := by decide +kernel
theorem dX5_init_73 : decode cX5_init 73 = .ok (.return_, 1) := by decide +kernel
theorem dX5_drill_0 : decode cX5_drill 0 = .ok (.aload_n 0, 1) := by decide +kernel
theorem dX5_drill_1 : decode cX5_drill 1 = .ok (.getfield 9, 3) := by decide +kernel
theorem dX5_drill_4 : decode cX5_drill 4 = .ok (.istore_n 3, 1) := by decide +kernel
theorem dX5_drill_5 : decode cX5_drill 5 = .ok (.aload_n 0, 1) := by decide +kernel
theorem dX5_drill_6 : decode cX5_drill 6 = .ok (.getfield 15, 3) := by decide +kernel
