theorem dX0_init_0 : decode cX0_init 0 = .ok (.aload_n 0, 1) := by decide +kernel
theorem dX0_init_1 : decode cX0_init 1 = .ok (.invokespecial 3, 3) := by decide +kernel
theorem dX0_init_4 : decode cX0_init 4 = .ok (.aload_n 0, 1) := by decide +kernel
theorem dX0_init_5 : decode cX0_init 5 = .ok (.iconst 0, 1) := by decide +kernel
theorem dX0_init_6 : decode cX0_init 6 = .ok (.putfield 9, 3) := by decide +kernel
theorem dX0_init_9 : decode cX0_init 9 = .ok (.aload_n 0, 1) := by decide +kernel
theorem dX0_init_10 : decode cX0_init 10 = .ok (.iconst 0, 1) := by decide +kernel
theorem dX0_init_11 : decode cX0_init 11 = .ok (.putfield 15, 3) := by decide +kernel
theorem dX0_init_14 : decode cX0_init 14 = .ok (.aload_n 0, 1) := by decide +kernel
theorem dX0_init_15 : decode cX0_init 15 = .ok (.new 18, 3) := by decide +kernel
theorem dX0_init_18 : decode cX0_init 18 = .ok (.dup, 1) := by decide +kernel
theorem dX0_init_19 : decode cX0_init 19 = .ok (.invokespecial 20, 3) := by decide +kernel
theorem dX0_init_22 : decode cX0_init 22 = .ok (.putfield 21, 3) := by decide +kernel
theorem dX0_init_25 : decode cX0_init 25 = .ok (.aload_n 0, 1) := by decide +kernel
theorem dX0_init_26 : decode cX0_init 26 = .ok (.new 25, 3) := by decide +kernel
theorem dX0_init_29 : decode cX0_init 29 = .ok (.dup, 1) := by decide +kernel
theorem dX0_init_30 : decode cX0_init 30 = .ok (.invokespecial 27, 3) := by decide +kernel
theorem dX0_init_33 : decode cX0_init 33 = .ok (.putfield 28, 3) := by decide +kernel
theorem dX0_init_36 : decode cX0_init 36 = .ok (.aload_n 0, 1) := by decide +kernel
theorem dX0_init_37 : decode cX0_init 37 = .ok (.new 32, 3) := by decide +kernel
theorem dX0_init_40 : decode cX0_init 40 = .ok (.dup, 1) := by decide +kernel
theorem dX0_init_41 : decode cX0_init 41 = .ok (.invokespecial 34, 3) := by decide +kernel
theorem dX0_init_44 : decode cX0_init 44 = .ok (.putfield 35, 3) := by decide +kernel
theorem dX0_init_47 : decode cX0_init 47 = .ok (.aload_n 0, 1) := by decide +kernel
theorem dX0_init_48 : decode cX0_init 48 = .ok (.new 39, 3) := by decide +kernel
theorem dX0_init_51 : decode cX0_init 51 = .ok (.dup, 1) := by decide +kernel
theorem dX0_init_52 : decode cX0_init 52 = .ok (.invokespecial 41, 3) := by decide +kernel
theorem dX0_init_55 : decode cX0_init 55 = .ok (.putfield 42, 3) := by decide +kernel
theorem dX0_init_58 : decode cX0_init 58 = .ok (.aload_n 0, 1) := by decide +kernel
theorem dX0_init_59 : decode cX0_init 59 = .ok (.new 46, 3) := by decide +kernel
theorem dX0_init_62 : decode cX0_init 62 = .ok (.dup, 1) := by decide +kernel
theorem dX0_init_63 : decode cX0_init 63 = .ok (.invokespecial 48, 3) := by decide +kernel
theorem dX0_init_66 : decode cX0_init 66 = .ok (.putfield 49, 3) := by decide +kernel
theorem dX0_init_69 : decode cX0_init 69 = .ok (.aload_n 0, 1) := by decide +kernel
theorem dX0_init_70 : decode cX0_init 70 = .ok (.bipush 8, 2) := by decide +kernel
theorem dX0_init_72 : decode cX0_init 72 = .ok (.newarray .long, 2) := by decide +kernel
theorem dX0_init_74 : decode cX0_init 74 = .ok (.putfield 53, 3) := by decide +kernel
theorem dX0_init_77 : decode cX0_init 77 = .ok (.aload_n 0, 1) := by decide +kernel
theorem dX0_init_78 : decode cX0_init 78 = .ok (.lconst 0, 1) := by decide +kernel
theorem dX0_init_79 : decode cX0_init 79 = .ok (.putfield 57, 3) := by decide +kernel
theorem dX0_init_82 : decode cX0_init 82 = .ok (.aload_n 0, 1) := by decide +kernel
theorem dX0_init_83 : decode cX0_init 83 = .ok (.lconst 0, 1) := by decide +kernel
theorem dX0_init_84 : decode cX0_init 84 = .ok (.putfield 61, 3) := by decide +kernel
theorem dX0_init_87 : decode cX0_init 87 = .ok (.aload_n 0, 1) := by decide +kernel
theorem dX0_init_88 : decode cX0_init 88 = .ok (.lconst 0, 1) := by decide +kernel
theorem dX0_init_89 : decode cX0_init 89 = .ok (.putfield 64, 3) := by decide +kernel
theorem dX0_init_92 : decode cX0_init 92 = .ok (.return_, 1) := by decide +kernel
theorem dX0_copy_0 : decode cX0_copy 0 = .ok (.aload_n 0, 1) := by decide +kernel
theorem dX0_copy_1 : decode cX0_copy 1 = .ok (.aload_n 1, 1) := by decide +kernel
theorem dX0_copy_2 : decode cX0_copy 2 = .ok (.getfield 9, 3) := by decide +kernel
theorem dX0_copy_5 : decode cX0_copy 5 = .ok (.putfield 9, 3) := by decide +kernel
theorem dX0_copy_8 : decode cX0_copy 8 = .ok (.aload_n 0, 1) := by decide +kernel
theorem dX0_copy_9 : decode cX0_copy 9 = .ok (.aload_n 1, 1) := by decide +kernel
theorem dX0_copy_10 : decode cX0_copy 10 = .ok (.getfield 15, 3) := by decide +kernel
theorem dX0_copy_13 : decode cX0_copy 13 = .ok (.putfield 15, 3) := by decide +kernel
theorem dX0_copy_16 : decode cX0_copy 16 = .ok (.aload_n 0, 1) := by decide +kernel
theorem dX0_copy_17 : decode cX0_copy 17 = .ok (.getfield 21, 3) := by decide +kernel
theorem dX0_copy_20 : decode cX0_copy 20 = .ok (.aload_n 1, 1) := by decide +kernel
theorem dX0_copy_21 : decode cX0_copy 21 = .ok (.getfield 21, 3) := by decide +kernel
theorem dX0_copy_24 : decode cX0_copy 24 = .ok (.invokevirtual 67, 3) := by decide +kernel
theorem dX0_copy_27 : decode cX0_copy 27 = .ok (.aload_n 0, 1) := by decide +kernel
theorem dX0_copy_28 : decode cX0_copy 28 = .ok (.getfield 28, 3) := by decide +kernel
theorem dX0_copy_31 : decode cX0_copy 31 = .ok (.aload_n 1, 1) := by decide +kernel
theorem dX0_copy_32 : decode cX0_copy 32 = .ok (.getfield 28, 3) := by decide +kernel
theorem dX0_copy_35 : decode cX0_copy 35 = .ok (.invokevirtual 71, 3) := by decide +kernel
theorem dX0_copy_38 : decode cX0_copy 38 = .ok (.aload_n 0, 1) := by decide +kernel
theorem dX0_copy_39 : decode cX0_copy 39 = .ok (.getfield 35, 3) := by decide +kernel
theorem dX0_copy_42 : decode cX0_copy 42 = .ok (.aload_n 1, 1) := by decide +kernel
theorem dX0_copy_43 : decode cX0_copy 43 = .ok (.getfield 35, 3) := by decide +kernel
theorem dX0_copy_46 : decode cX0_copy 46 = .ok (.invokevirtual 74, 3) := by decide +kernel
theorem dX0_copy_49 : decode cX0_copy 49 = .ok (.aload_n 0, 1) := by decide +kernel
theorem dX0_copy_50 : decode cX0_copy 50 = .ok (.getfield 42, 3) := by decide +kernel
theorem dX0_copy_53 : decode cX0_copy 53 = .ok (.aload_n 1, 1) := by decide +kernel
theorem dX0_copy_54 : decode cX0_copy 54 = .ok (.getfield 42, 3) := by decide +kernel
theorem dX0_copy_57 : decode cX0_copy 57 = .ok (.invokevirtual 77, 3) := by decide +kernel
theorem dX0_copy_60 : decode cX0_copy 60 = .ok (.aload_n 0, 1) := by decide +kernel
theorem dX0_copy_61 : decode cX0_copy 61 = .ok (.getfield 49, 3) := by decide +kernel
theorem dX0_copy_64 : decode cX0_copy 64 = .ok (.aload_n 1, 1) := by decide +kernel
theorem dX0_copy_65 : decode cX0_copy 65 = .ok (.getfield 49, 3) := by decide +kernel
theorem dX0_copy_68 : decode cX0_copy 68 = .ok (.invokevirtual 80, 3) := by decide +kernel
theorem dX0_copy_71 : decode cX0_copy 71 = .ok (.iconst 0, 1) := by decide +kernel
theorem dX0_copy_72 : decode cX0_copy 72 = .ok (.istore_n 2, 1) := by decide +kernel
theorem dX0_copy_73 : decode cX0_copy 73 = .ok (.iload_n 2, 1) := by decide +kernel
theorem dX0_copy_74 : decode cX0_copy 74 = .ok (.bipush 8, 2) := by decide +kernel
theorem dX0_copy_76 : decode cX0_copy 76 = .ok (.if_icmp .ge 21, 3) := by decide +kernel
theorem dX0_copy_79 : decode cX0_copy 79 = .ok (.aload_n 0, 1) := by decide +kernel
theorem dX0_copy_80 : decode cX0_copy 80 = .ok (.getfield 53, 3) := by decide +kernel
theorem dX0_copy_83 : decode cX0_copy 83 = .ok (.iload_n 2, 1) := by decide +kernel
theorem dX0_copy_84 : decode cX0_copy 84 = .ok (.aload_n 1, 1) := by decide +kernel
theorem dX0_copy_85 : decode cX0_copy 85 = .ok (.getfield 53, 3) := by decide +kernel
theorem dX0_copy_88 : decode cX0_copy 88 = .ok (.iload_n 2, 1) := by decide +kernel
theorem dX0_copy_89 : decode cX0_copy 89 = .ok (.laload, 1) := by decide +kernel
theorem dX0_copy_90 : decode cX0_copy 90 = .ok (.lastore, 1) := by decide +kernel
theorem dX0_copy_91 : decode cX0_copy 91 = .ok (.iinc 2 1, 3) := by decide +kernel
theorem dX0_copy_94 : decode cX0_copy 94 = .ok (.goto (-21), 3) := by decide +kernel
theorem dX0_copy_97 : decode cX0_copy 97 = .ok (.return_, 1) := by decide +kernel
theorem dX0_passMonth_0 : decode cX0_passMonth 0 = .ok (.aload_n 0, 1) := by decide +kernel
theorem dX0_passMonth_1 : decode cX0_passMonth 1 = .ok (.dup, 1) := by decide +kernel
theorem dX0_passMonth_2 : decode cX0_passMonth 2 = .ok (.getfield 9, 3) := by decide +kernel
theorem dX0_passMonth_5 : decode cX0_passMonth 5 = .ok (.iconst 1, 1) := by decide +kernel
theorem dX0_passMonth_6 : decode cX0_passMonth 6 = .ok (.iadd, 1) := by decide +kernel
theorem dX0_passMonth_7 : decode cX0_passMonth 7 = .ok (.putfield 9, 3) := by decide +kernel
theorem dX0_passMonth_10 : decode cX0_passMonth 10 = .ok (.aload_n 0, 1) := by decide +kernel
theorem dX0_passMonth_11 : decode cX0_passMonth 11 = .ok (.invokevirtual 83, 3) := by decide +kernel
theorem dX0_passMonth_14 : decode cX0_passMonth 14 = .ok (.aload_n 0, 1) := by decide +kernel
theorem dX0_passMonth_15 : decode cX0_passMonth 15 = .ok (.invokevirtual 86, 3) := by decide +kernel
theorem dX0_passMonth_18 : decode cX0_passMonth 18 = .ok (.aload_n 0, 1) := by decide +kernel
theorem dX0_passMonth_19 : decode cX0_passMonth 19 = .ok (.invokevirtual 89, 3) := by decide +kernel
theorem dX0_passMonth_22 : decode cX0_passMonth 22 = .ok (.aload_n 0, 1) := by decide +kernel
theorem dX0_passMonth_23 : decode cX0_passMonth 23 = .ok (.invokevirtual 92, 3) := by decide +kernel
theorem dX0_passMonth_26 : decode cX0_passMonth 26 = .ok (.aload_n 0, 1) := by decide +kernel
theorem dX0_passMonth_27 : decode cX0_passMonth 27 = .ok (.invokevirtual 95, 3) := by decide +kernel
theorem dX0_passMonth_30 : decode cX0_passMonth 30 = .ok (.aload_n 0, 1) := by decide +kernel
theorem dX0_passMonth_31 : decode cX0_passMonth 31 = .ok (.getfield 21, 3) := by decide +kernel
theorem dX0_passMonth_34 : decode cX0_passMonth 34 = .ok (.invokevirtual 98, 3) := by decide +kernel
theorem dX0_passMonth_37 : decode cX0_passMonth 37 = .ok (.aload_n 0, 1) := by decide +kernel
theorem dX0_passMonth_38 : decode cX0_passMonth 38 = .ok (.invokevirtual 101, 3) := by decide +kernel
theorem dX0_passMonth_41 : decode cX0_passMonth 41 = .ok (.aload_n 0, 1) := by decide +kernel
theorem dX0_passMonth_42 : decode cX0_passMonth 42 = .ok (.invokevirtual 104, 3) := by decide +kernel
theorem dX0_passMonth_45 : decode cX0_passMonth 45 = .ok (.return_, 1) := by decide +kernel
theorem dX0_shutWells_0 : decode cX0_shutWells 0 = .ok (.iconst 0, 1) := by decide +kernel
theorem dX0_shutWells_1 : decode cX0_shutWells 1 = .ok (.istore_n 1, 1) := by decide +kernel
theorem dX0_shutWells_2 : decode cX0_shutWells 2 = .ok (.iload_n 1, 1) := by decide +kernel
theorem dX0_shutWells_3 : decode cX0_shutWells 3 = .ok (.aload_n 0, 1) := by decide +kernel
theorem dX0_shutWells_4 : decode cX0_shutWells 4 = .ok (.getfield 28, 3) := by decide +kernel
theorem dX0_shutWells_7 : decode cX0_shutWells 7 = .ok (.getfield 107, 3) := by decide +kernel
theorem dX0_shutWells_10 : decode cX0_shutWells 10 = .ok (.if_icmp .ge 33, 3) := by decide +kernel
theorem dX0_shutWells_13 : decode cX0_shutWells 13 = .ok (.aload_n 0, 1) := by decide +kernel
theorem dX0_shutWells_14 : decode cX0_shutWells 14 = .ok (.getfield 28, 3) := by decide +kernel
theorem dX0_shutWells_17 : decode cX0_shutWells 17 = .ok (.getfield 110, 3) := by decide +kernel
theorem dX0_shutWells_20 : decode cX0_shutWells 20 = .ok (.iload_n 1, 1) := by decide +kernel
theorem dX0_shutWells_21 : decode cX0_shutWells 21 = .ok (.lconst 0, 1) := by decide +kernel
theorem dX0_shutWells_22 : decode cX0_shutWells 22 = .ok (.lastore, 1) := by decide +kernel
theorem dX0_shutWells_23 : decode cX0_shutWells 23 = .ok (.aload_n 0, 1) := by decide +kernel
theorem dX0_shutWells_24 : decode cX0_shutWells 24 = .ok (.getfield 28, 3) := by decide +kernel
theorem dX0_shutWells_27 : decode cX0_shutWells 27 = .ok (.getfield 113, 3) := by decide +kernel
theorem dX0_shutWells_30 : decode cX0_shutWells 30 = .ok (.iload_n 1, 1) := by decide +kernel
theorem dX0_shutWells_31 : decode cX0_shutWells 31 = .ok (.aload_n 0, 1) := by decide +kernel
theorem dX0_shutWells_32 : decode cX0_shutWells 32 = .ok (.iload_n 1, 1) := by decide +kernel
theorem dX0_shutWells_33 : decode cX0_shutWells 33 = .ok (.invokevirtual 117, 3) := by decide +kernel
theorem dX0_shutWells_36 : decode cX0_shutWells 36 = .ok (.bastore, 1) := by decide +kernel
theorem dX0_shutWells_37 : decode cX0_shutWells 37 = .ok (.iinc 1 1, 3) := by decide +kernel
theorem dX0_shutWells_40 : decode cX0_shutWells 40 = .ok (.goto (-38), 3) := by decide +kernel
theorem dX0_shutWells_43 : decode cX0_shutWells 43 = .ok (.return_, 1) := by decide +kernel
theorem dX0_mustShut_0 : decode cX0_mustShut 0 = .ok (.aload_n 0, 1) := by decide +kernel
theorem dX0_mustShut_1 : decode cX0_mustShut 1 = .ok (.getfield 28, 3) := by decide +kernel
theorem dX0_mustShut_4 : decode cX0_mustShut 4 = .ok (.getfield 121, 3) := by decide +kernel
theorem dX0_mustShut_7 : decode cX0_mustShut 7 = .ok (.iload_n 1, 1) := by decide +kernel
theorem dX0_mustShut_8 : decode cX0_mustShut 8 = .ok (.iaload, 1) := by decide +kernel
theorem dX0_mustShut_9 : decode cX0_mustShut 9 = .ok (.istore_n 2, 1) := by decide +kernel
theorem dX0_mustShut_10 : decode cX0_mustShut 10 = .ok (.aload_n 0, 1) := by decide +kernel
theorem dX0_mustShut_11 : decode cX0_mustShut 11 = .ok (.getfield 28, 3) := by decide +kernel
theorem dX0_mustShut_14 : decode cX0_mustShut 14 = .ok (.getfield 125, 3) := by decide +kernel
theorem dX0_mustShut_17 : decode cX0_mustShut 17 = .ok (.iload_n 1, 1) := by decide +kernel
theorem dX0_mustShut_18 : decode cX0_mustShut 18 = .ok (.baload, 1) := by decide +kernel
theorem dX0_mustShut_19 : decode cX0_mustShut 19 = .ok (.ifCond .eq 21, 3) := by decide +kernel
theorem dX0_mustShut_22 : decode cX0_mustShut 22 = .ok (.aload_n 0, 1) := by decide +kernel
theorem dX0_mustShut_23 : decode cX0_mustShut 23 = .ok (.getfield 21, 3) := by decide +kernel
theorem dX0_mustShut_26 : decode cX0_mustShut 26 = .ok (.iload_n 2, 1) := by decide +kernel
theorem dX0_mustShut_27 : decode cX0_mustShut 27 = .ok (.invokevirtual 128, 3) := by decide +kernel
theorem dX0_mustShut_30 : decode cX0_mustShut 30 = .ok (.iconst 2, 1) := by decide +kernel
theorem dX0_mustShut_31 : decode cX0_mustShut 31 = .ok (.if_icmp .ne 7, 3) := by decide +kernel
theorem dX0_mustShut_34 : decode cX0_mustShut 34 = .ok (.iconst 1, 1) := by decide +kernel
theorem dX0_mustShut_35 : decode cX0_mustShut 35 = .ok (.goto 4, 3) := by decide +kernel
theorem dX0_mustShut_38 : decode cX0_mustShut 38 = .ok (.iconst 0, 1) := by decide +kernel
theorem dX0_mustShut_39 : decode cX0_mustShut 39 = .ok (.ireturn, 1) := by decide +kernel
theorem dX0_mustShut_40 : decode cX0_mustShut 40 = .ok (.iconst 0, 1) := by decide +kernel
theorem dX0_mustShut_41 : decode cX0_mustShut 41 = .ok (.istore_n 3, 1) := by decide +kernel
theorem dX0_mustShut_42 : decode cX0_mustShut 42 = .ok (.iload_n 3, 1) := by decide +kernel
theorem dX0_mustShut_43 : decode cX0_mustShut 43 = .ok (.aload_n 0, 1) := by decide +kernel
theorem dX0_mustShut_44 : decode cX0_mustShut 44 = .ok (.getfield 42, 3) := by decide +kernel
theorem dX0_mustShut_47 : decode cX0_mustShut 47 = .ok (.getfield 132, 3) := by decide +kernel
theorem dX0_mustShut_50 : decode cX0_mustShut 50 = .ok (.if_icmp .ge 54, 3) := by decide +kernel
theorem dX0_mustShut_53 : decode cX0_mustShut 53 = .ok (.aload_n 0, 1) := by decide +kernel
theorem dX0_mustShut_54 : decode cX0_mustShut 54 = .ok (.getfield 42, 3) := by decide +kernel
theorem dX0_mustShut_57 : decode cX0_mustShut 57 = .ok (.iload_n 3, 1) := by decide +kernel
theorem dX0_mustShut_58 : decode cX0_mustShut 58 = .ok (.iload_n 2, 1) := by decide +kernel
theorem dX0_mustShut_59 : decode cX0_mustShut 59 = .ok (.invokevirtual 133, 3) := by decide +kernel
theorem dX0_mustShut_62 : decode cX0_mustShut 62 = .ok (.ifCond .eq 36, 3) := by decide +kernel
theorem dX0_mustShut_65 : decode cX0_mustShut 65 = .ok (.aload_n 0, 1) := by decide +kernel
theorem dX0_mustShut_66 : decode cX0_mustShut 66 = .ok (.getfield 21, 3) := by decide +kernel
theorem dX0_mustShut_69 : decode cX0_mustShut 69 = .ok (.getfield 137, 3) := by decide +kernel
theorem dX0_mustShut_72 : decode cX0_mustShut 72 = .ok (.aload_n 0, 1) := by decide +kernel
theorem dX0_mustShut_73 : decode cX0_mustShut 73 = .ok (.getfield 42, 3) := by decide +kernel
theorem dX0_mustShut_76 : decode cX0_mustShut 76 = .ok (.getfield 140, 3) := by decide +kernel
theorem dX0_mustShut_79 : decode cX0_mustShut 79 = .ok (.iload_n 3, 1) := by decide +kernel
theorem dX0_mustShut_80 : decode cX0_mustShut 80 = .ok (.iaload, 1) := by decide +kernel
theorem dX0_mustShut_81 : decode cX0_mustShut 81 = .ok (.laload, 1) := by decide +kernel
theorem dX0_mustShut_82 : decode cX0_mustShut 82 = .ok (.aload_n 0, 1) := by decide +kernel
theorem dX0_mustShut_83 : decode cX0_mustShut 83 = .ok (.getfield 42, 3) := by decide +kernel
theorem dX0_mustShut_86 : decode cX0_mustShut 86 = .ok (.getfield 141, 3) := by decide +kernel
theorem dX0_mustShut_89 : decode cX0_mustShut 89 = .ok (.iload_n 3, 1) := by decide +kernel
theorem dX0_mustShut_90 : decode cX0_mustShut 90 = .ok (.iaload, 1) := by decide +kernel
theorem dX0_mustShut_91 : decode cX0_mustShut 91 = .ok (.i2l, 1) := by decide +kernel
theorem dX0_mustShut_92 : decode cX0_mustShut 92 = .ok (.lcmp, 1) := by decide +kernel
theorem dX0_mustShut_93 : decode cX0_mustShut 93 = .ok (.ifCond .ge 5, 3) := by decide +kernel
theorem dX0_mustShut_96 : decode cX0_mustShut 96 = .ok (.iconst 1, 1) := by decide +kernel
theorem dX0_mustShut_97 : decode cX0_mustShut 97 = .ok (.ireturn, 1) := by decide +kernel
theorem dX0_mustShut_98 : decode cX0_mustShut 98 = .ok (.iinc 3 1, 3) := by decide +kernel
theorem dX0_mustShut_101 : decode cX0_mustShut 101 = .ok (.goto (-59), 3) := by decide +kernel
theorem dX0_mustShut_104 : decode cX0_mustShut 104 = .ok (.iconst 0, 1) := by decide +kernel
theorem dX0_mustShut_105 : decode cX0_mustShut 105 = .ok (.ireturn, 1) := by decide +kernel
theorem dX0_drawFromWells_0 : decode cX0_drawFromWells 0 = .ok (.aload_n 0, 1) := by decide +kernel
theorem dX0_drawFromWells_1 : decode cX0_drawFromWells 1 = .ok (.lconst 0, 1) := by decide +kernel
theorem dX0_drawFromWells_2 : decode cX0_drawFromWells 2 = .ok (.putfield 57, 3) := by decide +kernel
theorem dX0_drawFromWells_5 : decode cX0_drawFromWells 5 = .ok (.aload_n 0, 1) := by decide +kernel
theorem dX0_drawFromWells_6 : decode cX0_drawFromWells 6 = .ok (.lconst 0, 1) := by decide +kernel
theorem dX0_drawFromWells_7 : decode cX0_drawFromWells 7 = .ok (.putfield 61, 3) := by decide +kernel
theorem dX0_drawFromWells_10 : decode cX0_drawFromWells 10 = .ok (.iconst 0, 1) := by decide +kernel
theorem dX0_drawFromWells_11 : decode cX0_drawFromWells 11 = .ok (.istore_n 1, 1) := by decide +kernel
theorem dX0_drawFromWells_12 : decode cX0_drawFromWells 12 = .ok (.iload_n 1, 1) := by decide +kernel
theorem dX0_drawFromWells_13 : decode cX0_drawFromWells 13 = .ok (.aload_n 0, 1) := by decide +kernel
theorem dX0_drawFromWells_14 : decode cX0_drawFromWells 14 = .ok (.getfield 28, 3) := by decide +kernel
theorem dX0_drawFromWells_17 : decode cX0_drawFromWells 17 = .ok (.getfield 107, 3) := by decide +kernel
theorem dX0_drawFromWells_20 : decode cX0_drawFromWells 20 = .ok (.if_icmp .ge 25, 3) := by decide +kernel
theorem dX0_drawFromWells_23 : decode cX0_drawFromWells 23 = .ok (.aload_n 0, 1) := by decide +kernel
theorem dX0_drawFromWells_24 : decode cX0_drawFromWells 24 = .ok (.getfield 28, 3) := by decide +kernel
theorem dX0_drawFromWells_27 : decode cX0_drawFromWells 27 = .ok (.iload_n 1, 1) := by decide +kernel
theorem dX0_drawFromWells_28 : decode cX0_drawFromWells 28 = .ok (.invokevirtual 144, 3) := by decide +kernel
theorem dX0_drawFromWells_31 : decode cX0_drawFromWells 31 = .ok (.ifCond .eq 8, 3) := by decide +kernel
theorem dX0_drawFromWells_34 : decode cX0_drawFromWells 34 = .ok (.aload_n 0, 1) := by decide +kernel
theorem dX0_drawFromWells_35 : decode cX0_drawFromWells 35 = .ok (.iload_n 1, 1) := by decide +kernel
theorem dX0_drawFromWells_36 : decode cX0_drawFromWells 36 = .ok (.invokevirtual 147, 3) := by decide +kernel
theorem dX0_drawFromWells_39 : decode cX0_drawFromWells 39 = .ok (.iinc 1 1, 3) := by decide +kernel
theorem dX0_drawFromWells_42 : decode cX0_drawFromWells 42 = .ok (.goto (-30), 3) := by decide +kernel
theorem dX0_drawFromWells_45 : decode cX0_drawFromWells 45 = .ok (.return_, 1) := by decide +kernel
theorem dX0_draw_0 : decode cX0_draw 0 = .ok (.aload_n 0, 1) := by decide +kernel
theorem dX0_draw_1 : decode cX0_draw 1 = .ok (.getfield 28, 3) := by decide +kernel
theorem dX0_draw_4 : decode cX0_draw 4 = .ok (.getfield 121, 3) := by decide +kernel
theorem dX0_draw_7 : decode cX0_draw 7 = .ok (.iload_n 1, 1) := by decide +kernel
theorem dX0_draw_8 : decode cX0_draw 8 = .ok (.iaload, 1) := by decide +kernel
theorem dX0_draw_9 : decode cX0_draw 9 = .ok (.istore_n 2, 1) := by decide +kernel
theorem dX0_draw_10 : decode cX0_draw 10 = .ok (.aload_n 0, 1) := by decide +kernel
theorem dX0_draw_11 : decode cX0_draw 11 = .ok (.getfield 21, 3) := by decide +kernel
theorem dX0_draw_14 : decode cX0_draw 14 = .ok (.iload_n 2, 1) := by decide +kernel
theorem dX0_draw_15 : decode cX0_draw 15 = .ok (.invokevirtual 151, 3) := by decide +kernel
theorem dX0_draw_18 : decode cX0_draw 18 = .ok (.lstore_n 3, 1) := by decide +kernel
theorem dX0_draw_19 : decode cX0_draw 19 = .ok (.aload_n 0, 1) := by decide +kernel
theorem dX0_draw_20 : decode cX0_draw 20 = .ok (.getfield 28, 3) := by decide +kernel
theorem dX0_draw_23 : decode cX0_draw 23 = .ok (.iload_n 1, 1) := by decide +kernel
theorem dX0_draw_24 : decode cX0_draw 24 = .ok (.invokevirtual 155, 3) := by decide +kernel
theorem dX0_draw_27 : decode cX0_draw 27 = .ok (.aload_n 0, 1) := by decide +kernel
theorem dX0_draw_28 : decode cX0_draw 28 = .ok (.getfield 21, 3) := by decide +kernel
theorem dX0_draw_31 : decode cX0_draw 31 = .ok (.getfield 137, 3) := by decide +kernel
theorem dX0_draw_34 : decode cX0_draw 34 = .ok (.iload_n 2, 1) := by decide +kernel
theorem dX0_draw_35 : decode cX0_draw 35 = .ok (.laload, 1) := by decide +kernel
theorem dX0_draw_36 : decode cX0_draw 36 = .ok (.ldc2_w 158, 3) := by decide +kernel
theorem dX0_draw_39 : decode cX0_draw 39 = .ok (.ldiv, 1) := by decide +kernel
theorem dX0_draw_40 : decode cX0_draw 40 = .ok (.invokestatic 160, 3) := by decide +kernel
theorem dX0_draw_43 : decode cX0_draw 43 = .ok (.lstore 5, 2) := by decide +kernel
theorem dX0_draw_45 : decode cX0_draw 45 = .ok (.lload_n 3, 1) := by decide +kernel
theorem dX0_draw_46 : decode cX0_draw 46 = .ok (.ldc2_w 166, 3) := by decide +kernel
theorem dX0_draw_49 : decode cX0_draw 49 = .ok (.lcmp, 1) := by decide +kernel
theorem dX0_draw_50 : decode cX0_draw 50 = .ok (.ifCond .le 24, 3) := by decide +kernel
theorem dX0_draw_53 : decode cX0_draw 53 = .ok (.lload 5, 2) := by decide +kernel
theorem dX0_draw_55 : decode cX0_draw 55 = .ok (.lload_n 3, 1) := by decide +kernel
theorem dX0_draw_56 : decode cX0_draw 56 = .ok (.ldc2_w 166, 3) := by decide +kernel
theorem dX0_draw_59 : decode cX0_draw 59 = .ok (.lsub, 1) := by decide +kernel
theorem dX0_draw_60 : decode cX0_draw 60 = .ok (.ldc2_w 168, 3) := by decide +kernel
theorem dX0_draw_63 : decode cX0_draw 63 = .ok (.invokestatic 160, 3) := by decide +kernel
theorem dX0_draw_66 : decode cX0_draw 66 = .ok (.lmul, 1) := by decide +kernel
theorem dX0_draw_67 : decode cX0_draw 67 = .ok (.ldc2_w 170, 3) := by decide +kernel
theorem dX0_draw_70 : decode cX0_draw 70 = .ok (.ldiv, 1) := by decide +kernel
theorem dX0_draw_71 : decode cX0_draw 71 = .ok (.goto 4, 3) := by decide +kernel
theorem dX0_draw_74 : decode cX0_draw 74 = .ok (.lconst 0, 1) := by decide +kernel
theorem dX0_draw_75 : decode cX0_draw 75 = .ok (.lstore 7, 2) := by decide +kernel
theorem dX0_draw_77 : decode cX0_draw 77 = .ok (.aload_n 0, 1) := by decide +kernel
theorem dX0_draw_78 : decode cX0_draw 78 = .ok (.getfield 28, 3) := by decide +kernel
theorem dX0_draw_81 : decode cX0_draw 81 = .ok (.getfield 110, 3) := by decide +kernel
theorem dX0_draw_84 : decode cX0_draw 84 = .ok (.iload_n 1, 1) := by decide +kernel
theorem dX0_draw_85 : decode cX0_draw 85 = .ok (.lload 5, 2) := by decide +kernel
theorem dX0_draw_87 : decode cX0_draw 87 = .ok (.lastore, 1) := by decide +kernel
theorem dX0_draw_88 : decode cX0_draw 88 = .ok (.aload_n 0, 1) := by decide +kernel
theorem dX0_draw_89 : decode cX0_draw 89 = .ok (.getfield 28, 3) := by decide +kernel
theorem dX0_draw_92 : decode cX0_draw 92 = .ok (.iload_n 1, 1) := by decide +kernel
theorem dX0_draw_93 : decode cX0_draw 93 = .ok (.aload_n 0, 1) := by decide +kernel
theorem dX0_draw_94 : decode cX0_draw 94 = .ok (.getfield 21, 3) := by decide +kernel
theorem dX0_draw_97 : decode cX0_draw 97 = .ok (.iload_n 2, 1) := by decide +kernel
theorem dX0_draw_98 : decode cX0_draw 98 = .ok (.lload 5, 2) := by decide +kernel
theorem dX0_draw_100 : decode cX0_draw 100 = .ok (.invokevirtual 172, 3) := by decide +kernel
theorem dX0_draw_103 : decode cX0_draw 103 = .ok (.aload_n 0, 1) := by decide +kernel
theorem dX0_draw_104 : decode cX0_draw 104 = .ok (.getfield 9, 3) := by decide +kernel
theorem dX0_draw_107 : decode cX0_draw 107 = .ok (.invokevirtual 176, 3) := by decide +kernel
theorem dX0_draw_110 : decode cX0_draw 110 = .ok (.aload_n 0, 1) := by decide +kernel
theorem dX0_draw_111 : decode cX0_draw 111 = .ok (.dup, 1) := by decide +kernel
theorem dX0_draw_112 : decode cX0_draw 112 = .ok (.getfield 57, 3) := by decide +kernel
theorem dX0_draw_115 : decode cX0_draw 115 = .ok (.lload 5, 2) := by decide +kernel
theorem dX0_draw_117 : decode cX0_draw 117 = .ok (.lload 7, 2) := by decide +kernel
theorem dX0_draw_119 : decode cX0_draw 119 = .ok (.lsub, 1) := by decide +kernel
theorem dX0_draw_120 : decode cX0_draw 120 = .ok (.ladd, 1) := by decide +kernel
theorem dX0_draw_121 : decode cX0_draw 121 = .ok (.putfield 57, 3) := by decide +kernel
theorem dX0_draw_124 : decode cX0_draw 124 = .ok (.aload_n 0, 1) := by decide +kernel
theorem dX0_draw_125 : decode cX0_draw 125 = .ok (.dup, 1) := by decide +kernel
theorem dX0_draw_126 : decode cX0_draw 126 = .ok (.getfield 61, 3) := by decide +kernel
theorem dX0_draw_129 : decode cX0_draw 129 = .ok (.lload 5, 2) := by decide +kernel
theorem dX0_draw_131 : decode cX0_draw 131 = .ok (.lload 7, 2) := by decide +kernel
theorem dX0_draw_133 : decode cX0_draw 133 = .ok (.lsub, 1) := by decide +kernel
theorem dX0_draw_134 : decode cX0_draw 134 = .ok (.lload_n 3, 1) := by decide +kernel
theorem dX0_draw_135 : decode cX0_draw 135 = .ok (.ldc2_w 166, 3) := by decide +kernel
theorem dX0_draw_138 : decode cX0_draw 138 = .ok (.invokestatic 160, 3) := by decide +kernel
theorem dX0_draw_141 : decode cX0_draw 141 = .ok (.lmul, 1) := by decide +kernel
theorem dX0_draw_142 : decode cX0_draw 142 = .ok (.ladd, 1) := by decide +kernel
theorem dX0_draw_143 : decode cX0_draw 143 = .ok (.putfield 61, 3) := by decide +kernel
theorem dX0_draw_146 : decode cX0_draw 146 = .ok (.aload_n 0, 1) := by decide +kernel
theorem dX0_draw_147 : decode cX0_draw 147 = .ok (.getfield 53, 3) := by decide +kernel
theorem dX0_draw_150 : decode cX0_draw 150 = .ok (.iconst 1, 1) := by decide +kernel
theorem dX0_draw_151 : decode cX0_draw 151 = .ok (.dup2, 1) := by decide +kernel
theorem dX0_draw_152 : decode cX0_draw 152 = .ok (.laload, 1) := by decide +kernel
theorem dX0_draw_153 : decode cX0_draw 153 = .ok (.lload 7, 2) := by decide +kernel
theorem dX0_draw_155 : decode cX0_draw 155 = .ok (.ladd, 1) := by decide +kernel
theorem dX0_draw_156 : decode cX0_draw 156 = .ok (.lastore, 1) := by decide +kernel
theorem dX0_draw_157 : decode cX0_draw 157 = .ok (.aload_n 0, 1) := by decide +kernel
theorem dX0_draw_158 : decode cX0_draw 158 = .ok (.getfield 53, 3) := by decide +kernel
theorem dX0_draw_161 : decode cX0_draw 161 = .ok (.bipush 6, 2) := by decide +kernel
theorem dX0_draw_163 : decode cX0_draw 163 = .ok (.dup2, 1) := by decide +kernel
theorem dX0_draw_164 : decode cX0_draw 164 = .ok (.laload, 1) := by decide +kernel
theorem dX0_draw_165 : decode cX0_draw 165 = .ok (.lload 7, 2) := by decide +kernel
theorem dX0_draw_167 : decode cX0_draw 167 = .ok (.lload_n 3, 1) := by decide +kernel
theorem dX0_draw_168 : decode cX0_draw 168 = .ok (.ldc2_w 180, 3) := by decide +kernel
theorem dX0_draw_171 : decode cX0_draw 171 = .ok (.lsub, 1) := by decide +kernel
theorem dX0_draw_172 : decode cX0_draw 172 = .ok (.lconst 0, 1) := by decide +kernel
theorem dX0_draw_173 : decode cX0_draw 173 = .ok (.invokestatic 182, 3) := by decide +kernel
theorem dX0_draw_176 : decode cX0_draw 176 = .ok (.lmul, 1) := by decide +kernel
theorem dX0_draw_177 : decode cX0_draw 177 = .ok (.ldc2_w 158, 3) := by decide +kernel
theorem dX0_draw_180 : decode cX0_draw 180 = .ok (.ldiv, 1) := by decide +kernel
theorem dX0_draw_181 : decode cX0_draw 181 = .ok (.ladd, 1) := by decide +kernel
theorem dX0_draw_182 : decode cX0_draw 182 = .ok (.lastore, 1) := by decide +kernel
theorem dX0_draw_183 : decode cX0_draw 183 = .ok (.aload_n 0, 1) := by decide +kernel
theorem dX0_draw_184 : decode cX0_draw 184 = .ok (.getfield 53, 3) := by decide +kernel
theorem dX0_draw_187 : decode cX0_draw 187 = .ok (.bipush 7, 2) := by decide +kernel
theorem dX0_draw_189 : decode cX0_draw 189 = .ok (.dup2, 1) := by decide +kernel
theorem dX0_draw_190 : decode cX0_draw 190 = .ok (.laload, 1) := by decide +kernel
theorem dX0_draw_191 : decode cX0_draw 191 = .ok (.lload 5, 2) := by decide +kernel
theorem dX0_draw_193 : decode cX0_draw 193 = .ok (.lload_n 3, 1) := by decide +kernel
theorem dX0_draw_194 : decode cX0_draw 194 = .ok (.lmul, 1) := by decide +kernel
theorem dX0_draw_195 : decode cX0_draw 195 = .ok (.ladd, 1) := by decide +kernel
theorem dX0_draw_196 : decode cX0_draw 196 = .ok (.lastore, 1) := by decide +kernel
theorem dX0_draw_197 : decode cX0_draw 197 = .ok (.lload_n 3, 1) := by decide +kernel
theorem dX0_draw_198 : decode cX0_draw 198 = .ok (.ldc2_w 185, 3) := by decide +kernel
theorem dX0_draw_201 : decode cX0_draw 201 = .ok (.lcmp, 1) := by decide +kernel
theorem dX0_draw_202 : decode cX0_draw 202 = .ok (.ifCond .le 20, 3) := by decide +kernel
theorem dX0_draw_205 : decode cX0_draw 205 = .ok (.lload 5, 2) := by decide +kernel
theorem dX0_draw_207 : decode cX0_draw 207 = .ok (.lconst 0, 1) := by decide +kernel
theorem dX0_draw_208 : decode cX0_draw 208 = .ok (.lcmp, 1) := by decide +kernel
theorem dX0_draw_209 : decode cX0_draw 209 = .ok (.ifCond .le 13, 3) := by decide +kernel
theorem dX0_draw_212 : decode cX0_draw 212 = .ok (.aload_n 0, 1) := by decide +kernel
theorem dX0_draw_213 : decode cX0_draw 213 = .ok (.getfield 28, 3) := by decide +kernel
theorem dX0_draw_216 : decode cX0_draw 216 = .ok (.iload_n 1, 1) := by decide +kernel
theorem dX0_draw_217 : decode cX0_draw 217 = .ok (.lload 5, 2) := by decide +kernel
theorem dX0_draw_219 : decode cX0_draw 219 = .ok (.invokevirtual 187, 3) := by decide +kernel
theorem dX0_draw_222 : decode cX0_draw 222 = .ok (.aload_n 0, 1) := by decide +kernel
theorem dX0_draw_223 : decode cX0_draw 223 = .ok (.getfield 42, 3) := by decide +kernel
theorem dX0_draw_226 : decode cX0_draw 226 = .ok (.iload_n 1, 1) := by decide +kernel
theorem dX0_draw_227 : decode cX0_draw 227 = .ok (.iload_n 2, 1) := by decide +kernel
theorem dX0_draw_228 : decode cX0_draw 228 = .ok (.lload 5, 2) := by decide +kernel
theorem dX0_draw_230 : decode cX0_draw 230 = .ok (.invokevirtual 191, 3) := by decide +kernel
theorem dX0_draw_233 : decode cX0_draw 233 = .ok (.return_, 1) := by decide +kernel
theorem dX0_sellHeat_0 : decode cX0_sellHeat 0 = .ok (.aload_n 0, 1) := by decide +kernel
theorem dX0_sellHeat_1 : decode cX0_sellHeat 1 = .ok (.aload_n 0, 1) := by decide +kernel
theorem dX0_sellHeat_2 : decode cX0_sellHeat 2 = .ok (.getfield 57, 3) := by decide +kernel
theorem dX0_sellHeat_5 : decode cX0_sellHeat 5 = .ok (.lconst 0, 1) := by decide +kernel
theorem dX0_sellHeat_6 : decode cX0_sellHeat 6 = .ok (.lcmp, 1) := by decide +kernel
theorem dX0_sellHeat_7 : decode cX0_sellHeat 7 = .ok (.ifCond .le 15, 3) := by decide +kernel
theorem dX0_sellHeat_10 : decode cX0_sellHeat 10 = .ok (.aload_n 0, 1) := by decide +kernel
theorem dX0_sellHeat_11 : decode cX0_sellHeat 11 = .ok (.getfield 61, 3) := by decide +kernel
theorem dX0_sellHeat_14 : decode cX0_sellHeat 14 = .ok (.aload_n 0, 1) := by decide +kernel
theorem dX0_sellHeat_15 : decode cX0_sellHeat 15 = .ok (.getfield 57, 3) := by decide +kernel
theorem dX0_sellHeat_18 : decode cX0_sellHeat 18 = .ok (.ldiv, 1) := by decide +kernel
theorem dX0_sellHeat_19 : decode cX0_sellHeat 19 = .ok (.goto 4, 3) := by decide +kernel
theorem dX0_sellHeat_22 : decode cX0_sellHeat 22 = .ok (.lconst 0, 1) := by decide +kernel
theorem dX0_sellHeat_23 : decode cX0_sellHeat 23 = .ok (.putfield 64, 3) := by decide +kernel
theorem dX0_sellHeat_26 : decode cX0_sellHeat 26 = .ok (.iconst 0, 1) := by decide +kernel
theorem dX0_sellHeat_27 : decode cX0_sellHeat 27 = .ok (.istore_n 1, 1) := by decide +kernel
theorem dX0_sellHeat_28 : decode cX0_sellHeat 28 = .ok (.iload_n 1, 1) := by decide +kernel
theorem dX0_sellHeat_29 : decode cX0_sellHeat 29 = .ok (.aload_n 0, 1) := by decide +kernel
theorem dX0_sellHeat_30 : decode cX0_sellHeat 30 = .ok (.getfield 35, 3) := by decide +kernel
theorem dX0_sellHeat_33 : decode cX0_sellHeat 33 = .ok (.getfield 195, 3) := by decide +kernel
theorem dX0_sellHeat_36 : decode cX0_sellHeat 36 = .ok (.if_icmp .ge 79, 3) := by decide +kernel
theorem dX0_sellHeat_39 : decode cX0_sellHeat 39 = .ok (.aload_n 0, 1) := by decide +kernel
theorem dX0_sellHeat_40 : decode cX0_sellHeat 40 = .ok (.getfield 57, 3) := by decide +kernel
theorem dX0_sellHeat_43 : decode cX0_sellHeat 43 = .ok (.lconst 0, 1) := by decide +kernel
theorem dX0_sellHeat_44 : decode cX0_sellHeat 44 = .ok (.lcmp, 1) := by decide +kernel
theorem dX0_sellHeat_45 : decode cX0_sellHeat 45 = .ok (.ifCond .le 64, 3) := by decide +kernel
theorem dX0_sellHeat_48 : decode cX0_sellHeat 48 = .ok (.aload_n 0, 1) := by decide +kernel
theorem dX0_sellHeat_49 : decode cX0_sellHeat 49 = .ok (.getfield 64, 3) := by decide +kernel
theorem dX0_sellHeat_52 : decode cX0_sellHeat 52 = .ok (.aload_n 0, 1) := by decide +kernel
theorem dX0_sellHeat_53 : decode cX0_sellHeat 53 = .ok (.getfield 35, 3) := by decide +kernel
theorem dX0_sellHeat_56 : decode cX0_sellHeat 56 = .ok (.getfield 196, 3) := by decide +kernel
theorem dX0_sellHeat_59 : decode cX0_sellHeat 59 = .ok (.iload_n 1, 1) := by decide +kernel
theorem dX0_sellHeat_60 : decode cX0_sellHeat 60 = .ok (.iaload, 1) := by decide +kernel
theorem dX0_sellHeat_61 : decode cX0_sellHeat 61 = .ok (.i2l, 1) := by decide +kernel
theorem dX0_sellHeat_62 : decode cX0_sellHeat 62 = .ok (.lcmp, 1) := by decide +kernel
theorem dX0_sellHeat_63 : decode cX0_sellHeat 63 = .ok (.ifCond .lt 46, 3) := by decide +kernel
theorem dX0_sellHeat_66 : decode cX0_sellHeat 66 = .ok (.aload_n 0, 1) := by decide +kernel
theorem dX0_sellHeat_67 : decode cX0_sellHeat 67 = .ok (.getfield 35, 3) := by decide +kernel
theorem dX0_sellHeat_70 : decode cX0_sellHeat 70 = .ok (.getfield 199, 3) := by decide +kernel
theorem dX0_sellHeat_73 : decode cX0_sellHeat 73 = .ok (.iload_n 1, 1) := by decide +kernel
theorem dX0_sellHeat_74 : decode cX0_sellHeat 74 = .ok (.iaload, 1) := by decide +kernel
theorem dX0_sellHeat_75 : decode cX0_sellHeat 75 = .ok (.i2l, 1) := by decide +kernel
theorem dX0_sellHeat_76 : decode cX0_sellHeat 76 = .ok (.aload_n 0, 1) := by decide +kernel
theorem dX0_sellHeat_77 : decode cX0_sellHeat 77 = .ok (.getfield 64, 3) := by decide +kernel
theorem dX0_sellHeat_80 : decode cX0_sellHeat 80 = .ok (.invokestatic 160, 3) := by decide +kernel
theorem dX0_sellHeat_83 : decode cX0_sellHeat 83 = .ok (.lstore_n 2, 1) := by decide +kernel
theorem dX0_sellHeat_84 : decode cX0_sellHeat 84 = .ok (.aload_n 0, 1) := by decide +kernel
theorem dX0_sellHeat_85 : decode cX0_sellHeat 85 = .ok (.getfield 53, 3) := by decide +kernel
theorem dX0_sellHeat_88 : decode cX0_sellHeat 88 = .ok (.iconst 5, 1) := by decide +kernel
theorem dX0_sellHeat_89 : decode cX0_sellHeat 89 = .ok (.dup2, 1) := by decide +kernel
theorem dX0_sellHeat_90 : decode cX0_sellHeat 90 = .ok (.laload, 1) := by decide +kernel
theorem dX0_sellHeat_91 : decode cX0_sellHeat 91 = .ok (.lload_n 2, 1) := by decide +kernel
theorem dX0_sellHeat_92 : decode cX0_sellHeat 92 = .ok (.aload_n 0, 1) := by decide +kernel
theorem dX0_sellHeat_93 : decode cX0_sellHeat 93 = .ok (.getfield 57, 3) := by decide +kernel
theorem dX0_sellHeat_96 : decode cX0_sellHeat 96 = .ok (.lmul, 1) := by decide +kernel
theorem dX0_sellHeat_97 : decode cX0_sellHeat 97 = .ok (.ladd, 1) := by decide +kernel
theorem dX0_sellHeat_98 : decode cX0_sellHeat 98 = .ok (.lastore, 1) := by decide +kernel
theorem dX0_sellHeat_99 : decode cX0_sellHeat 99 = .ok (.aload_n 0, 1) := by decide +kernel
theorem dX0_sellHeat_100 : decode cX0_sellHeat 100 = .ok (.dup, 1) := by decide +kernel
theorem dX0_sellHeat_101 : decode cX0_sellHeat 101 = .ok (.getfield 64, 3) := by decide +kernel
theorem dX0_sellHeat_104 : decode cX0_sellHeat 104 = .ok (.lload_n 2, 1) := by decide +kernel
theorem dX0_sellHeat_105 : decode cX0_sellHeat 105 = .ok (.lsub, 1) := by decide +kernel
theorem dX0_sellHeat_106 : decode cX0_sellHeat 106 = .ok (.putfield 64, 3) := by decide +kernel
theorem dX0_sellHeat_109 : decode cX0_sellHeat 109 = .ok (.iinc 1 1, 3) := by decide +kernel
theorem dX0_sellHeat_112 : decode cX0_sellHeat 112 = .ok (.goto (-84), 3) := by decide +kernel
theorem dX0_sellHeat_115 : decode cX0_sellHeat 115 = .ok (.return_, 1) := by decide +kernel
theorem dX0_giveBack_0 : decode cX0_giveBack 0 = .ok (.aload_n 0, 1) := by decide +kernel
theorem dX0_giveBack_1 : decode cX0_giveBack 1 = .ok (.getfield 28, 3) := by decide +kernel
theorem dX0_giveBack_4 : decode cX0_giveBack 4 = .ok (.invokevirtual 202, 3) := by decide +kernel
theorem dX0_giveBack_7 : decode cX0_giveBack 7 = .ok (.lstore_n 1, 1) := by decide +kernel
theorem dX0_giveBack_8 : decode cX0_giveBack 8 = .ok (.aload_n 0, 1) := by decide +kernel
theorem dX0_giveBack_9 : decode cX0_giveBack 9 = .ok (.getfield 57, 3) := by decide +kernel
theorem dX0_giveBack_12 : decode cX0_giveBack 12 = .ok (.lstore_n 3, 1) := by decide +kernel
theorem dX0_giveBack_13 : decode cX0_giveBack 13 = .ok (.iconst 0, 1) := by decide +kernel
theorem dX0_giveBack_14 : decode cX0_giveBack 14 = .ok (.istore 5, 2) := by decide +kernel
theorem dX0_giveBack_16 : decode cX0_giveBack 16 = .ok (.iload 5, 2) := by decide +kernel
theorem dX0_giveBack_18 : decode cX0_giveBack 18 = .ok (.aload_n 0, 1) := by decide +kernel
theorem dX0_giveBack_19 : decode cX0_giveBack 19 = .ok (.getfield 28, 3) := by decide +kernel
theorem dX0_giveBack_22 : decode cX0_giveBack 22 = .ok (.getfield 107, 3) := by decide +kernel
theorem dX0_giveBack_25 : decode cX0_giveBack 25 = .ok (.if_icmp .ge 51, 3) := by decide +kernel
theorem dX0_giveBack_28 : decode cX0_giveBack 28 = .ok (.aload_n 0, 1) := by decide +kernel
theorem dX0_giveBack_29 : decode cX0_giveBack 29 = .ok (.getfield 28, 3) := by decide +kernel
theorem dX0_giveBack_32 : decode cX0_giveBack 32 = .ok (.iload 5, 2) := by decide +kernel
theorem dX0_giveBack_34 : decode cX0_giveBack 34 = .ok (.invokevirtual 206, 3) := by decide +kernel
theorem dX0_giveBack_37 : decode cX0_giveBack 37 = .ok (.ifCond .eq 33, 3) := by decide +kernel
theorem dX0_giveBack_40 : decode cX0_giveBack 40 = .ok (.aload_n 0, 1) := by decide +kernel
theorem dX0_giveBack_41 : decode cX0_giveBack 41 = .ok (.getfield 28, 3) := by decide +kernel
theorem dX0_giveBack_44 : decode cX0_giveBack 44 = .ok (.getfield 110, 3) := by decide +kernel
theorem dX0_giveBack_47 : decode cX0_giveBack 47 = .ok (.iload 5, 2) := by decide +kernel
theorem dX0_giveBack_49 : decode cX0_giveBack 49 = .ok (.aload_n 0, 1) := by decide +kernel
theorem dX0_giveBack_50 : decode cX0_giveBack 50 = .ok (.iload 5, 2) := by decide +kernel
theorem dX0_giveBack_52 : decode cX0_giveBack 52 = .ok (.lload_n 1, 1) := by decide +kernel
theorem dX0_giveBack_53 : decode cX0_giveBack 53 = .ok (.invokevirtual 209, 3) := by decide +kernel
theorem dX0_giveBack_56 : decode cX0_giveBack 56 = .ok (.lastore, 1) := by decide +kernel
theorem dX0_giveBack_57 : decode cX0_giveBack 57 = .ok (.lload_n 3, 1) := by decide +kernel
theorem dX0_giveBack_58 : decode cX0_giveBack 58 = .ok (.aload_n 0, 1) := by decide +kernel
theorem dX0_giveBack_59 : decode cX0_giveBack 59 = .ok (.getfield 28, 3) := by decide +kernel
theorem dX0_giveBack_62 : decode cX0_giveBack 62 = .ok (.getfield 110, 3) := by decide +kernel
theorem dX0_giveBack_65 : decode cX0_giveBack 65 = .ok (.iload 5, 2) := by decide +kernel
theorem dX0_giveBack_67 : decode cX0_giveBack 67 = .ok (.laload, 1) := by decide +kernel
theorem dX0_giveBack_68 : decode cX0_giveBack 68 = .ok (.lsub, 1) := by decide +kernel
theorem dX0_giveBack_69 : decode cX0_giveBack 69 = .ok (.lstore_n 3, 1) := by decide +kernel
theorem dX0_giveBack_70 : decode cX0_giveBack 70 = .ok (.iinc 5 1, 3) := by decide +kernel
theorem dX0_giveBack_73 : decode cX0_giveBack 73 = .ok (.goto (-57), 3) := by decide +kernel
theorem dX0_giveBack_76 : decode cX0_giveBack 76 = .ok (.aload_n 0, 1) := by decide +kernel
theorem dX0_giveBack_77 : decode cX0_giveBack 77 = .ok (.getfield 53, 3) := by decide +kernel
theorem dX0_giveBack_80 : decode cX0_giveBack 80 = .ok (.iconst 2, 1) := by decide +kernel
theorem dX0_giveBack_81 : decode cX0_giveBack 81 = .ok (.dup2, 1) := by decide +kernel
theorem dX0_giveBack_82 : decode cX0_giveBack 82 = .ok (.laload, 1) := by decide +kernel
theorem dX0_giveBack_83 : decode cX0_giveBack 83 = .ok (.lload_n 3, 1) := by decide +kernel
theorem dX0_giveBack_84 : decode cX0_giveBack 84 = .ok (.ladd, 1) := by decide +kernel
theorem dX0_giveBack_85 : decode cX0_giveBack 85 = .ok (.lastore, 1) := by decide +kernel
theorem dX0_giveBack_86 : decode cX0_giveBack 86 = .ok (.iconst 0, 1) := by decide +kernel
theorem dX0_giveBack_87 : decode cX0_giveBack 87 = .ok (.istore 5, 2) := by decide +kernel
theorem dX0_giveBack_89 : decode cX0_giveBack 89 = .ok (.iload 5, 2) := by decide +kernel
theorem dX0_giveBack_91 : decode cX0_giveBack 91 = .ok (.aload_n 0, 1) := by decide +kernel
theorem dX0_giveBack_92 : decode cX0_giveBack 92 = .ok (.getfield 28, 3) := by decide +kernel
theorem dX0_giveBack_95 : decode cX0_giveBack 95 = .ok (.getfield 107, 3) := by decide +kernel
theorem dX0_giveBack_98 : decode cX0_giveBack 98 = .ok (.if_icmp .ge 83, 3) := by decide +kernel
theorem dX0_giveBack_101 : decode cX0_giveBack 101 = .ok (.aload_n 0, 1) := by decide +kernel
theorem dX0_giveBack_102 : decode cX0_giveBack 102 = .ok (.getfield 28, 3) := by decide +kernel
theorem dX0_giveBack_105 : decode cX0_giveBack 105 = .ok (.iload 5, 2) := by decide +kernel
theorem dX0_giveBack_107 : decode cX0_giveBack 107 = .ok (.invokevirtual 206, 3) := by decide +kernel
theorem dX0_giveBack_110 : decode cX0_giveBack 110 = .ok (.ifCond .eq 65, 3) := by decide +kernel
theorem dX0_giveBack_113 : decode cX0_giveBack 113 = .ok (.aload_n 0, 1) := by decide +kernel
theorem dX0_giveBack_114 : decode cX0_giveBack 114 = .ok (.getfield 21, 3) := by decide +kernel
theorem dX0_giveBack_117 : decode cX0_giveBack 117 = .ok (.aload_n 0, 1) := by decide +kernel
theorem dX0_giveBack_118 : decode cX0_giveBack 118 = .ok (.getfield 28, 3) := by decide +kernel
theorem dX0_giveBack_121 : decode cX0_giveBack 121 = .ok (.getfield 121, 3) := by decide +kernel
theorem dX0_giveBack_124 : decode cX0_giveBack 124 = .ok (.iload 5, 2) := by decide +kernel
theorem dX0_giveBack_126 : decode cX0_giveBack 126 = .ok (.iaload, 1) := by decide +kernel
theorem dX0_giveBack_127 : decode cX0_giveBack 127 = .ok (.aload_n 0, 1) := by decide +kernel
theorem dX0_giveBack_128 : decode cX0_giveBack 128 = .ok (.getfield 28, 3) := by decide +kernel
theorem dX0_giveBack_131 : decode cX0_giveBack 131 = .ok (.getfield 110, 3) := by decide +kernel
theorem dX0_giveBack_134 : decode cX0_giveBack 134 = .ok (.iload 5, 2) := by decide +kernel
theorem dX0_giveBack_136 : decode cX0_giveBack 136 = .ok (.laload, 1) := by decide +kernel
theorem dX0_giveBack_137 : decode cX0_giveBack 137 = .ok (.aload_n 0, 1) := by decide +kernel
theorem dX0_giveBack_138 : decode cX0_giveBack 138 = .ok (.getfield 64, 3) := by decide +kernel
theorem dX0_giveBack_141 : decode cX0_giveBack 141 = .ok (.invokevirtual 212, 3) := by decide +kernel
theorem dX0_giveBack_144 : decode cX0_giveBack 144 = .ok (.aload_n 0, 1) := by decide +kernel
theorem dX0_giveBack_145 : decode cX0_giveBack 145 = .ok (.getfield 21, 3) := by decide +kernel
theorem dX0_giveBack_148 : decode cX0_giveBack 148 = .ok (.getfield 216, 3) := by decide +kernel
theorem dX0_giveBack_151 : decode cX0_giveBack 151 = .ok (.aload_n 0, 1) := by decide +kernel
theorem dX0_giveBack_152 : decode cX0_giveBack 152 = .ok (.getfield 28, 3) := by decide +kernel
theorem dX0_giveBack_155 : decode cX0_giveBack 155 = .ok (.getfield 121, 3) := by decide +kernel
theorem dX0_giveBack_158 : decode cX0_giveBack 158 = .ok (.iload 5, 2) := by decide +kernel
theorem dX0_giveBack_160 : decode cX0_giveBack 160 = .ok (.iaload, 1) := by decide +kernel
theorem dX0_giveBack_161 : decode cX0_giveBack 161 = .ok (.dup2, 1) := by decide +kernel
theorem dX0_giveBack_162 : decode cX0_giveBack 162 = .ok (.laload, 1) := by decide +kernel
theorem dX0_giveBack_163 : decode cX0_giveBack 163 = .ok (.aload_n 0, 1) := by decide +kernel
theorem dX0_giveBack_164 : decode cX0_giveBack 164 = .ok (.getfield 28, 3) := by decide +kernel
theorem dX0_giveBack_167 : decode cX0_giveBack 167 = .ok (.getfield 110, 3) := by decide +kernel
theorem dX0_giveBack_170 : decode cX0_giveBack 170 = .ok (.iload 5, 2) := by decide +kernel
theorem dX0_giveBack_172 : decode cX0_giveBack 172 = .ok (.laload, 1) := by decide +kernel
theorem dX0_giveBack_173 : decode cX0_giveBack 173 = .ok (.ladd, 1) := by decide +kernel
theorem dX0_giveBack_174 : decode cX0_giveBack 174 = .ok (.lastore, 1) := by decide +kernel
theorem dX0_giveBack_175 : decode cX0_giveBack 175 = .ok (.iinc 5 1, 3) := by decide +kernel
theorem dX0_giveBack_178 : decode cX0_giveBack 178 = .ok (.goto (-89), 3) := by decide +kernel
theorem dX0_giveBack_181 : decode cX0_giveBack 181 = .ok (.return_, 1) := by decide +kernel
theorem dX0_part_0 : decode cX0_part 0 = .ok (.lload_n 2, 1) := by decide +kernel
theorem dX0_part_1 : decode cX0_part 1 = .ok (.lconst 0, 1) := by decide +kernel
theorem dX0_part_2 : decode cX0_part 2 = .ok (.lcmp, 1) := by decide +kernel
theorem dX0_part_3 : decode cX0_part 3 = .ok (.ifCond .le 23, 3) := by decide +kernel
theorem dX0_part_6 : decode cX0_part 6 = .ok (.aload_n 0, 1) := by decide +kernel
theorem dX0_part_7 : decode cX0_part 7 = .ok (.getfield 57, 3) := by decide +kernel
theorem dX0_part_10 : decode cX0_part 10 = .ok (.aload_n 0, 1) := by decide +kernel
theorem dX0_part_11 : decode cX0_part 11 = .ok (.getfield 28, 3) := by decide +kernel
theorem dX0_part_14 : decode cX0_part 14 = .ok (.getfield 219, 3) := by decide +kernel
theorem dX0_part_17 : decode cX0_part 17 = .ok (.iload_n 1, 1) := by decide +kernel
theorem dX0_part_18 : decode cX0_part 18 = .ok (.iaload, 1) := by decide +kernel
theorem dX0_part_19 : decode cX0_part 19 = .ok (.i2l, 1) := by decide +kernel
theorem dX0_part_20 : decode cX0_part 20 = .ok (.lmul, 1) := by decide +kernel
theorem dX0_part_21 : decode cX0_part 21 = .ok (.lload_n 2, 1) := by decide +kernel
theorem dX0_part_22 : decode cX0_part 22 = .ok (.ldiv, 1) := by decide +kernel
theorem dX0_part_23 : decode cX0_part 23 = .ok (.goto 4, 3) := by decide +kernel
theorem dX0_part_26 : decode cX0_part 26 = .ok (.lconst 0, 1) := by decide +kernel
theorem dX0_part_27 : decode cX0_part 27 = .ok (.lstore 4, 2) := by decide +kernel
theorem dX0_part_29 : decode cX0_part 29 = .ok (.aload_n 0, 1) := by decide +kernel
theorem dX0_part_30 : decode cX0_part 30 = .ok (.getfield 21, 3) := by decide +kernel
theorem dX0_part_33 : decode cX0_part 33 = .ok (.aload_n 0, 1) := by decide +kernel
theorem dX0_part_34 : decode cX0_part 34 = .ok (.getfield 28, 3) := by decide +kernel
theorem dX0_part_37 : decode cX0_part 37 = .ok (.getfield 121, 3) := by decide +kernel
theorem dX0_part_40 : decode cX0_part 40 = .ok (.iload_n 1, 1) := by decide +kernel
theorem dX0_part_41 : decode cX0_part 41 = .ok (.iaload, 1) := by decide +kernel
theorem dX0_part_42 : decode cX0_part 42 = .ok (.invokevirtual 128, 3) := by decide +kernel
theorem dX0_part_45 : decode cX0_part 45 = .ok (.iconst 1, 1) := by decide +kernel
theorem dX0_part_46 : decode cX0_part 46 = .ok (.if_icmp .ne 12, 3) := by decide +kernel
theorem dX0_part_49 : decode cX0_part 49 = .ok (.lload 4, 2) := by decide +kernel
theorem dX0_part_51 : decode cX0_part 51 = .ok (.ldc2_w 222, 3) := by decide +kernel
theorem dX0_part_54 : decode cX0_part 54 = .ok (.ldiv, 1) := by decide +kernel
theorem dX0_part_55 : decode cX0_part 55 = .ok (.goto 5, 3) := by decide +kernel
theorem dX0_part_58 : decode cX0_part 58 = .ok (.lload 4, 2) := by decide +kernel
theorem dX0_part_60 : decode cX0_part 60 = .ok (.lreturn, 1) := by decide +kernel
theorem dX0_shake_0 : decode cX0_shake 0 = .ok (.iconst 0, 1) := by decide +kernel
theorem dX0_shake_1 : decode cX0_shake 1 = .ok (.istore_n 1, 1) := by decide +kernel
theorem dX0_shake_2 : decode cX0_shake 2 = .ok (.iload_n 1, 1) := by decide +kernel
theorem dX0_shake_3 : decode cX0_shake 3 = .ok (.bipush 12, 2) := by decide +kernel
theorem dX0_shake_5 : decode cX0_shake 5 = .ok (.if_icmp .ge 67, 3) := by decide +kernel
theorem dX0_shake_8 : decode cX0_shake 8 = .ok (.aload_n 0, 1) := by decide +kernel
theorem dX0_shake_9 : decode cX0_shake 9 = .ok (.getfield 21, 3) := by decide +kernel
theorem dX0_shake_12 : decode cX0_shake 12 = .ok (.getfield 216, 3) := by decide +kernel
theorem dX0_shake_15 : decode cX0_shake 15 = .ok (.iload_n 1, 1) := by decide +kernel
theorem dX0_shake_16 : decode cX0_shake 16 = .ok (.laload, 1) := by decide +kernel
theorem dX0_shake_17 : decode cX0_shake 17 = .ok (.lstore_n 2, 1) := by decide +kernel
theorem dX0_shake_18 : decode cX0_shake 18 = .ok (.lload_n 2, 1) := by decide +kernel
theorem dX0_shake_19 : decode cX0_shake 19 = .ok (.ldc2_w 224, 3) := by decide +kernel
theorem dX0_shake_22 : decode cX0_shake 22 = .ok (.lcmp, 1) := by decide +kernel
theorem dX0_shake_23 : decode cX0_shake 23 = .ok (.ifCond .le 27, 3) := by decide +kernel
theorem dX0_shake_26 : decode cX0_shake 26 = .ok (.aload_n 0, 1) := by decide +kernel
theorem dX0_shake_27 : decode cX0_shake 27 = .ok (.getfield 49, 3) := by decide +kernel
theorem dX0_shake_30 : decode cX0_shake 30 = .ok (.aload_n 0, 1) := by decide +kernel
theorem dX0_shake_31 : decode cX0_shake 31 = .ok (.getfield 9, 3) := by decide +kernel
theorem dX0_shake_34 : decode cX0_shake 34 = .ok (.iload_n 1, 1) := by decide +kernel
theorem dX0_shake_35 : decode cX0_shake 35 = .ok (.lload_n 2, 1) := by decide +kernel
theorem dX0_shake_36 : decode cX0_shake 36 = .ok (.ldc2_w 226, 3) := by decide +kernel
theorem dX0_shake_39 : decode cX0_shake 39 = .ok (.ldiv, 1) := by decide +kernel
theorem dX0_shake_40 : decode cX0_shake 40 = .ok (.l2i, 1) := by decide +kernel
theorem dX0_shake_41 : decode cX0_shake 41 = .ok (.invokevirtual 228, 3) := by decide +kernel
theorem dX0_shake_44 : decode cX0_shake 44 = .ok (.lload_n 2, 1) := by decide +kernel
theorem dX0_shake_45 : decode cX0_shake 45 = .ok (.ldc2_w 222, 3) := by decide +kernel
theorem dX0_shake_48 : decode cX0_shake 48 = .ok (.ldiv, 1) := by decide +kernel
theorem dX0_shake_49 : decode cX0_shake 49 = .ok (.lstore_n 2, 1) := by decide +kernel
theorem dX0_shake_50 : decode cX0_shake 50 = .ok (.aload_n 0, 1) := by decide +kernel
theorem dX0_shake_51 : decode cX0_shake 51 = .ok (.getfield 21, 3) := by decide +kernel
theorem dX0_shake_54 : decode cX0_shake 54 = .ok (.getfield 216, 3) := by decide +kernel
theorem dX0_shake_57 : decode cX0_shake 57 = .ok (.iload_n 1, 1) := by decide +kernel
theorem dX0_shake_58 : decode cX0_shake 58 = .ok (.lload_n 2, 1) := by decide +kernel
theorem dX0_shake_59 : decode cX0_shake 59 = .ok (.lload_n 2, 1) := by decide +kernel
theorem dX0_shake_60 : decode cX0_shake 60 = .ok (.ldc2_w 158, 3) := by decide +kernel
theorem dX0_shake_63 : decode cX0_shake 63 = .ok (.ldiv, 1) := by decide +kernel
theorem dX0_shake_64 : decode cX0_shake 64 = .ok (.lsub, 1) := by decide +kernel
theorem dX0_shake_65 : decode cX0_shake 65 = .ok (.lastore, 1) := by decide +kernel
theorem dX0_shake_66 : decode cX0_shake 66 = .ok (.iinc 1 1, 3) := by decide +kernel
theorem dX0_shake_69 : decode cX0_shake 69 = .ok (.goto (-67), 3) := by decide +kernel
theorem dX0_shake_72 : decode cX0_shake 72 = .ok (.return_, 1) := by decide +kernel
theorem dX0_rainAndWarm_0 : decode cX0_rainAndWarm 0 = .ok (.iconst 0, 1) := by decide +kernel
theorem dX0_rainAndWarm_1 : decode cX0_rainAndWarm 1 = .ok (.istore_n 1, 1) := by decide +kernel
theorem dX0_rainAndWarm_2 : decode cX0_rainAndWarm 2 = .ok (.iload_n 1, 1) := by decide +kernel
theorem dX0_rainAndWarm_3 : decode cX0_rainAndWarm 3 = .ok (.bipush 12, 2) := by decide +kernel
theorem dX0_rainAndWarm_5 : decode cX0_rainAndWarm 5 = .ok (.if_icmp .ge 53, 3) := by decide +kernel
theorem dX0_rainAndWarm_8 : decode cX0_rainAndWarm 8 = .ok (.iload_n 1, 1) := by decide +kernel
theorem dX0_rainAndWarm_9 : decode cX0_rainAndWarm 9 = .ok (.bipush 8, 2) := by decide +kernel
theorem dX0_rainAndWarm_11 : decode cX0_rainAndWarm 11 = .ok (.if_icmp .lt 33, 3) := by decide +kernel
theorem dX0_rainAndWarm_14 : decode cX0_rainAndWarm 14 = .ok (.aload_n 0, 1) := by decide +kernel
theorem dX0_rainAndWarm_15 : decode cX0_rainAndWarm 15 = .ok (.getfield 21, 3) := by decide +kernel
theorem dX0_rainAndWarm_18 : decode cX0_rainAndWarm 18 = .ok (.iload_n 1, 1) := by decide +kernel
theorem dX0_rainAndWarm_19 : decode cX0_rainAndWarm 19 = .ok (.aload_n 0, 1) := by decide +kernel
theorem dX0_rainAndWarm_20 : decode cX0_rainAndWarm 20 = .ok (.getfield 15, 3) := by decide +kernel
theorem dX0_rainAndWarm_23 : decode cX0_rainAndWarm 23 = .ok (.i2l, 1) := by decide +kernel
theorem dX0_rainAndWarm_24 : decode cX0_rainAndWarm 24 = .ok (.ldc2_w 232, 3) := by decide +kernel
theorem dX0_rainAndWarm_27 : decode cX0_rainAndWarm 27 = .ok (.invokevirtual 212, 3) := by decide +kernel
theorem dX0_rainAndWarm_30 : decode cX0_rainAndWarm 30 = .ok (.aload_n 0, 1) := by decide +kernel
theorem dX0_rainAndWarm_31 : decode cX0_rainAndWarm 31 = .ok (.getfield 53, 3) := by decide +kernel
theorem dX0_rainAndWarm_34 : decode cX0_rainAndWarm 34 = .ok (.iconst 4, 1) := by decide +kernel
theorem dX0_rainAndWarm_35 : decode cX0_rainAndWarm 35 = .ok (.dup2, 1) := by decide +kernel
theorem dX0_rainAndWarm_36 : decode cX0_rainAndWarm 36 = .ok (.laload, 1) := by decide +kernel
theorem dX0_rainAndWarm_37 : decode cX0_rainAndWarm 37 = .ok (.aload_n 0, 1) := by decide +kernel
theorem dX0_rainAndWarm_38 : decode cX0_rainAndWarm 38 = .ok (.getfield 15, 3) := by decide +kernel
theorem dX0_rainAndWarm_41 : decode cX0_rainAndWarm 41 = .ok (.i2l, 1) := by decide +kernel
theorem dX0_rainAndWarm_42 : decode cX0_rainAndWarm 42 = .ok (.ladd, 1) := by decide +kernel
theorem dX0_rainAndWarm_43 : decode cX0_rainAndWarm 43 = .ok (.lastore, 1) := by decide +kernel
theorem dX0_rainAndWarm_44 : decode cX0_rainAndWarm 44 = .ok (.aload_n 0, 1) := by decide +kernel
theorem dX0_rainAndWarm_45 : decode cX0_rainAndWarm 45 = .ok (.getfield 21, 3) := by decide +kernel
theorem dX0_rainAndWarm_48 : decode cX0_rainAndWarm 48 = .ok (.iload_n 1, 1) := by decide +kernel
theorem dX0_rainAndWarm_49 : decode cX0_rainAndWarm 49 = .ok (.invokevirtual 234, 3) := by decide +kernel
theorem dX0_rainAndWarm_52 : decode cX0_rainAndWarm 52 = .ok (.iinc 1 1, 3) := by decide +kernel
theorem dX0_rainAndWarm_55 : decode cX0_rainAndWarm 55 = .ok (.goto (-53), 3) := by decide +kernel
theorem dX0_rainAndWarm_58 : decode cX0_rainAndWarm 58 = .ok (.return_, 1) := by decide +kernel
theorem dX0_feedSprings_0 : decode cX0_feedSprings 0 = .ok (.iconst 0, 1) := by decide +kernel
theorem dX0_feedSprings_1 : decode cX0_feedSprings 1 = .ok (.istore_n 1, 1) := by decide +kernel
theorem dX0_feedSprings_2 : decode cX0_feedSprings 2 = .ok (.iload_n 1, 1) := by decide +kernel
theorem dX0_feedSprings_3 : decode cX0_feedSprings 3 = .ok (.aload_n 0, 1) := by decide +kernel
theorem dX0_feedSprings_4 : decode cX0_feedSprings 4 = .ok (.getfield 42, 3) := by decide +kernel
theorem dX0_feedSprings_7 : decode cX0_feedSprings 7 = .ok (.getfield 132, 3) := by decide +kernel
theorem dX0_feedSprings_10 : decode cX0_feedSprings 10 = .ok (.if_icmp .ge 93, 3) := by decide +kernel
theorem dX0_feedSprings_13 : decode cX0_feedSprings 13 = .ok (.aload_n 0, 1) := by decide +kernel
theorem dX0_feedSprings_14 : decode cX0_feedSprings 14 = .ok (.getfield 42, 3) := by decide +kernel
theorem dX0_feedSprings_17 : decode cX0_feedSprings 17 = .ok (.getfield 140, 3) := by decide +kernel
theorem dX0_feedSprings_20 : decode cX0_feedSprings 20 = .ok (.iload_n 1, 1) := by decide +kernel
theorem dX0_feedSprings_21 : decode cX0_feedSprings 21 = .ok (.iaload, 1) := by decide +kernel
theorem dX0_feedSprings_22 : decode cX0_feedSprings 22 = .ok (.istore_n 2, 1) := by decide +kernel
theorem dX0_feedSprings_23 : decode cX0_feedSprings 23 = .ok (.aload_n 0, 1) := by decide +kernel
theorem dX0_feedSprings_24 : decode cX0_feedSprings 24 = .ok (.getfield 21, 3) := by decide +kernel
theorem dX0_feedSprings_27 : decode cX0_feedSprings 27 = .ok (.getfield 137, 3) := by decide +kernel
theorem dX0_feedSprings_30 : decode cX0_feedSprings 30 = .ok (.iload_n 2, 1) := by decide +kernel
theorem dX0_feedSprings_31 : decode cX0_feedSprings 31 = .ok (.laload, 1) := by decide +kernel
theorem dX0_feedSprings_32 : decode cX0_feedSprings 32 = .ok (.lstore_n 3, 1) := by decide +kernel
theorem dX0_feedSprings_33 : decode cX0_feedSprings 33 = .ok (.lload_n 3, 1) := by decide +kernel
theorem dX0_feedSprings_34 : decode cX0_feedSprings 34 = .ok (.aload_n 0, 1) := by decide +kernel
theorem dX0_feedSprings_35 : decode cX0_feedSprings 35 = .ok (.getfield 42, 3) := by decide +kernel
theorem dX0_feedSprings_38 : decode cX0_feedSprings 38 = .ok (.getfield 237, 3) := by decide +kernel
theorem dX0_feedSprings_41 : decode cX0_feedSprings 41 = .ok (.iload_n 1, 1) := by decide +kernel
theorem dX0_feedSprings_42 : decode cX0_feedSprings 42 = .ok (.iaload, 1) := by decide +kernel
theorem dX0_feedSprings_43 : decode cX0_feedSprings 43 = .ok (.i2l, 1) := by decide +kernel
theorem dX0_feedSprings_44 : decode cX0_feedSprings 44 = .ok (.lcmp, 1) := by decide +kernel
theorem dX0_feedSprings_45 : decode cX0_feedSprings 45 = .ok (.ifCond .lt 17, 3) := by decide +kernel
theorem dX0_feedSprings_48 : decode cX0_feedSprings 48 = .ok (.lload_n 3, 1) := by decide +kernel
theorem dX0_feedSprings_49 : decode cX0_feedSprings 49 = .ok (.ldc2_w 166, 3) := by decide +kernel
theorem dX0_feedSprings_52 : decode cX0_feedSprings 52 = .ok (.ldiv, 1) := by decide +kernel
theorem dX0_feedSprings_53 : decode cX0_feedSprings 53 = .ok (.ldc2_w 240, 3) := by decide +kernel
theorem dX0_feedSprings_56 : decode cX0_feedSprings 56 = .ok (.invokestatic 160, 3) := by decide +kernel
theorem dX0_feedSprings_59 : decode cX0_feedSprings 59 = .ok (.goto 4, 3) := by decide +kernel
theorem dX0_feedSprings_62 : decode cX0_feedSprings 62 = .ok (.lconst 0, 1) := by decide +kernel
theorem dX0_feedSprings_63 : decode cX0_feedSprings 63 = .ok (.lstore 5, 2) := by decide +kernel
theorem dX0_feedSprings_65 : decode cX0_feedSprings 65 = .ok (.aload_n 0, 1) := by decide +kernel
theorem dX0_feedSprings_66 : decode cX0_feedSprings 66 = .ok (.getfield 21, 3) := by decide +kernel
theorem dX0_feedSprings_69 : decode cX0_feedSprings 69 = .ok (.iload_n 2, 1) := by decide +kernel
theorem dX0_feedSprings_70 : decode cX0_feedSprings 70 = .ok (.lload 5, 2) := by decide +kernel
theorem dX0_feedSprings_72 : decode cX0_feedSprings 72 = .ok (.invokevirtual 172, 3) := by decide +kernel
theorem dX0_feedSprings_75 : decode cX0_feedSprings 75 = .ok (.pop2, 1) := by decide +kernel
theorem dX0_feedSprings_76 : decode cX0_feedSprings 76 = .ok (.aload_n 0, 1) := by decide +kernel
theorem dX0_feedSprings_77 : decode cX0_feedSprings 77 = .ok (.getfield 42, 3) := by decide +kernel
theorem dX0_feedSprings_80 : decode cX0_feedSprings 80 = .ok (.iload_n 1, 1) := by decide +kernel
theorem dX0_feedSprings_81 : decode cX0_feedSprings 81 = .ok (.lload 5, 2) := by decide +kernel
theorem dX0_feedSprings_83 : decode cX0_feedSprings 83 = .ok (.invokevirtual 242, 3) := by decide +kernel
theorem dX0_feedSprings_86 : decode cX0_feedSprings 86 = .ok (.aload_n 0, 1) := by decide +kernel
theorem dX0_feedSprings_87 : decode cX0_feedSprings 87 = .ok (.getfield 53, 3) := by decide +kernel
theorem dX0_feedSprings_90 : decode cX0_feedSprings 90 = .ok (.iconst 3, 1) := by decide +kernel
theorem dX0_feedSprings_91 : decode cX0_feedSprings 91 = .ok (.dup2, 1) := by decide +kernel
theorem dX0_feedSprings_92 : decode cX0_feedSprings 92 = .ok (.laload, 1) := by decide +kernel
theorem dX0_feedSprings_93 : decode cX0_feedSprings 93 = .ok (.lload 5, 2) := by decide +kernel
theorem dX0_feedSprings_95 : decode cX0_feedSprings 95 = .ok (.ladd, 1) := by decide +kernel
theorem dX0_feedSprings_96 : decode cX0_feedSprings 96 = .ok (.lastore, 1) := by decide +kernel
theorem dX0_feedSprings_97 : decode cX0_feedSprings 97 = .ok (.iinc 1 1, 3) := by decide +kernel
theorem dX0_feedSprings_100 : decode cX0_feedSprings 100 = .ok (.goto (-98), 3) := by decide +kernel
theorem dX0_feedSprings_103 : decode cX0_feedSprings 103 = .ok (.return_, 1) := by decide +kernel
theorem dX1_init_0 : decode cX1_init 0 = .ok (.aload_n 0, 1) := by decide +kernel
theorem dX1_init_1 : decode cX1_init 1 = .ok (.invokespecial 3, 3) := by decide +kernel
theorem dX1_init_4 : decode cX1_init 4 = .ok (.aload_n 0, 1) := by decide +kernel
theorem dX1_init_5 : decode cX1_init 5 = .ok (.bipush 12, 2) := by decide +kernel
theorem dX1_init_7 : decode cX1_init 7 = .ok (.newarray .long, 2) := by decide +kernel
theorem dX1_init_9 : decode cX1_init 9 = .ok (.putfield 9, 3) := by decide +kernel
theorem dX1_init_12 : decode cX1_init 12 = .ok (.aload_n 0, 1) := by decide +kernel
theorem dX1_init_13 : decode cX1_init 13 = .ok (.bipush 12, 2) := by decide +kernel
theorem dX1_init_15 : decode cX1_init 15 = .ok (.newarray .long, 2) := by decide +kernel
theorem dX1_init_17 : decode cX1_init 17 = .ok (.putfield 15, 3) := by decide +kernel
theorem dX1_init_20 : decode cX1_init 20 = .ok (.aload_n 0, 1) := by decide +kernel
theorem dX1_init_21 : decode cX1_init 21 = .ok (.bipush 12, 2) := by decide +kernel
theorem dX1_init_23 : decode cX1_init 23 = .ok (.newarray .long, 2) := by decide +kernel
theorem dX1_init_25 : decode cX1_init 25 = .ok (.putfield 18, 3) := by decide +kernel
theorem dX1_init_28 : decode cX1_init 28 = .ok (.aload_n 0, 1) := by decide +kernel
theorem dX1_init_29 : decode cX1_init 29 = .ok (.bipush 12, 2) := by decide +kernel
theorem dX1_init_31 : decode cX1_init 31 = .ok (.newarray .long, 2) := by decide +kernel
theorem dX1_init_33 : decode cX1_init 33 = .ok (.putfield 21, 3) := by decide +kernel
theorem dX1_init_36 : decode cX1_init 36 = .ok (.aload_n 0, 1) := by decide +kernel
theorem dX1_init_37 : decode cX1_init 37 = .ok (.bipush 12, 2) := by decide +kernel
theorem dX1_init_39 : decode cX1_init 39 = .ok (.newarray .int, 2) := by decide +kernel
theorem dX1_init_41 : decode cX1_init 41 = .ok (.putfield 24, 3) := by decide +kernel
theorem dX1_init_44 : decode cX1_init 44 = .ok (.aload_n 0, 1) := by decide +kernel
theorem dX1_init_45 : decode cX1_init 45 = .ok (.bipush 12, 2) := by decide +kernel
theorem dX1_init_47 : decode cX1_init 47 = .ok (.newarray .int, 2) := by decide +kernel
theorem dX1_init_49 : decode cX1_init 49 = .ok (.putfield 28, 3) := by decide +kernel
theorem dX1_init_52 : decode cX1_init 52 = .ok (.aload_n 0, 1) := by decide +kernel
theorem dX1_init_53 : decode cX1_init 53 = .ok (.bipush 12, 2) := by decide +kernel
theorem dX1_init_55 : decode cX1_init 55 = .ok (.newarray .long, 2) := by decide +kernel
theorem dX1_init_57 : decode cX1_init 57 = .ok (.putfield 31, 3) := by decide +kernel
theorem dX1_init_60 : decode cX1_init 60 = .ok (.aload_n 0, 1) := by decide +kernel
theorem dX1_init_61 : decode cX1_init 61 = .ok (.bipush 12, 2) := by decide +kernel
theorem dX1_init_63 : decode cX1_init 63 = .ok (.newarray .long, 2) := by decide +kernel
theorem dX1_init_65 : decode cX1_init 65 = .ok (.putfield 34, 3) := by decide +kernel
theorem dX1_init_68 : decode cX1_init 68 = .ok (.aload_n 0, 1) := by decide +kernel
theorem dX1_init_69 : decode cX1_init 69 = .ok (.bipush 12, 2) := by decide +kernel
theorem dX1_init_71 : decode cX1_init 71 = .ok (.newarray .long, 2) := by decide +kernel
theorem dX1_init_73 : decode cX1_init 73 = .ok (.putfield 37, 3) := by decide +kernel
theorem dX1_init_76 : decode cX1_init 76 = .ok (.iconst 0, 1) := by decide +kernel
theorem dX1_init_77 : decode cX1_init 77 = .ok (.istore_n 1, 1) := by decide +kernel
theorem dX1_init_78 : decode cX1_init 78 = .ok (.iload_n 1, 1) := by decide +kernel
theorem dX1_init_79 : decode cX1_init 79 = .ok (.bipush 12, 2) := by decide +kernel
theorem dX1_init_81 : decode cX1_init 81 = .ok (.if_icmp .ge 36, 3) := by decide +kernel
theorem dX1_init_84 : decode cX1_init 84 = .ok (.aload_n 0, 1) := by decide +kernel
theorem dX1_init_85 : decode cX1_init 85 = .ok (.iload_n 1, 1) := by decide +kernel
theorem dX1_init_86 : decode cX1_init 86 = .ok (.sipush 10000, 3) := by decide +kernel
theorem dX1_init_89 : decode cX1_init 89 = .ok (.sipush 200, 3) := by decide +kernel
theorem dX1_init_92 : decode cX1_init 92 = .ok (.invokevirtual 40, 3) := by decide +kernel
theorem dX1_init_95 : decode cX1_init 95 = .ok (.aload_n 0, 1) := by decide +kernel
theorem dX1_init_96 : decode cX1_init 96 = .ok (.getfield 24, 3) := by decide +kernel
theorem dX1_init_99 : decode cX1_init 99 = .ok (.iload_n 1, 1) := by decide +kernel
theorem dX1_init_100 : decode cX1_init 100 = .ok (.bipush 20, 2) := by decide +kernel
theorem dX1_init_102 : decode cX1_init 102 = .ok (.iastore, 1) := by decide +kernel
theorem dX1_init_103 : decode cX1_init 103 = .ok (.aload_n 0, 1) := by decide +kernel
theorem dX1_init_104 : decode cX1_init 104 = .ok (.getfield 28, 3) := by decide +kernel
theorem dX1_init_107 : decode cX1_init 107 = .ok (.iload_n 1, 1) := by decide +kernel
theorem dX1_init_108 : decode cX1_init 108 = .ok (.bipush 20, 2) := by decide +kernel
theorem dX1_init_110 : decode cX1_init 110 = .ok (.iastore, 1) := by decide +kernel
theorem dX1_init_111 : decode cX1_init 111 = .ok (.iinc 1 1, 3) := by decide +kernel
theorem dX1_init_114 : decode cX1_init 114 = .ok (.goto (-36), 3) := by decide +kernel
theorem dX1_init_117 : decode cX1_init 117 = .ok (.return_, 1) := by decide +kernel
theorem dX1_copy_0 : decode cX1_copy 0 = .ok (.iconst 0, 1) := by decide +kernel
theorem dX1_copy_1 : decode cX1_copy 1 = .ok (.istore_n 2, 1) := by decide +kernel
theorem dX1_copy_2 : decode cX1_copy 2 = .ok (.iload_n 2, 1) := by decide +kernel
theorem dX1_copy_3 : decode cX1_copy 3 = .ok (.bipush 12, 2) := by decide +kernel
theorem dX1_copy_5 : decode cX1_copy 5 = .ok (.if_icmp .ge 81, 3) := by decide +kernel
theorem dX1_copy_8 : decode cX1_copy 8 = .ok (.aload_n 0, 1) := by decide +kernel
theorem dX1_copy_9 : decode cX1_copy 9 = .ok (.getfield 9, 3) := by decide +kernel
theorem dX1_copy_12 : decode cX1_copy 12 = .ok (.iload_n 2, 1) := by decide +kernel
theorem dX1_copy_13 : decode cX1_copy 13 = .ok (.aload_n 1, 1) := by decide +kernel
theorem dX1_copy_14 : decode cX1_copy 14 = .ok (.getfield 9, 3) := by decide +kernel
theorem dX1_copy_17 : decode cX1_copy 17 = .ok (.iload_n 2, 1) := by decide +kernel
theorem dX1_copy_18 : decode cX1_copy 18 = .ok (.laload, 1) := by decide +kernel
theorem dX1_copy_19 : decode cX1_copy 19 = .ok (.lastore, 1) := by decide +kernel
theorem dX1_copy_20 : decode cX1_copy 20 = .ok (.aload_n 0, 1) := by decide +kernel
theorem dX1_copy_21 : decode cX1_copy 21 = .ok (.getfield 15, 3) := by decide +kernel
theorem dX1_copy_24 : decode cX1_copy 24 = .ok (.iload_n 2, 1) := by decide +kernel
theorem dX1_copy_25 : decode cX1_copy 25 = .ok (.aload_n 1, 1) := by decide +kernel
theorem dX1_copy_26 : decode cX1_copy 26 = .ok (.getfield 15, 3) := by decide +kernel
theorem dX1_copy_29 : decode cX1_copy 29 = .ok (.iload_n 2, 1) := by decide +kernel
theorem dX1_copy_30 : decode cX1_copy 30 = .ok (.laload, 1) := by decide +kernel
theorem dX1_copy_31 : decode cX1_copy 31 = .ok (.lastore, 1) := by decide +kernel
theorem dX1_copy_32 : decode cX1_copy 32 = .ok (.aload_n 0, 1) := by decide +kernel
theorem dX1_copy_33 : decode cX1_copy 33 = .ok (.getfield 18, 3) := by decide +kernel
theorem dX1_copy_36 : decode cX1_copy 36 = .ok (.iload_n 2, 1) := by decide +kernel
theorem dX1_copy_37 : decode cX1_copy 37 = .ok (.aload_n 1, 1) := by decide +kernel
theorem dX1_copy_38 : decode cX1_copy 38 = .ok (.getfield 18, 3) := by decide +kernel
theorem dX1_copy_41 : decode cX1_copy 41 = .ok (.iload_n 2, 1) := by decide +kernel
theorem dX1_copy_42 : decode cX1_copy 42 = .ok (.laload, 1) := by decide +kernel
theorem dX1_copy_43 : decode cX1_copy 43 = .ok (.lastore, 1) := by decide +kernel
theorem dX1_copy_44 : decode cX1_copy 44 = .ok (.aload_n 0, 1) := by decide +kernel
theorem dX1_copy_45 : decode cX1_copy 45 = .ok (.getfield 21, 3) := by decide +kernel
theorem dX1_copy_48 : decode cX1_copy 48 = .ok (.iload_n 2, 1) := by decide +kernel
theorem dX1_copy_49 : decode cX1_copy 49 = .ok (.aload_n 1, 1) := by decide +kernel
theorem dX1_copy_50 : decode cX1_copy 50 = .ok (.getfield 21, 3) := by decide +kernel
theorem dX1_copy_53 : decode cX1_copy 53 = .ok (.iload_n 2, 1) := by decide +kernel
theorem dX1_copy_54 : decode cX1_copy 54 = .ok (.laload, 1) := by decide +kernel
theorem dX1_copy_55 : decode cX1_copy 55 = .ok (.lastore, 1) := by decide +kernel
theorem dX1_copy_56 : decode cX1_copy 56 = .ok (.aload_n 0, 1) := by decide +kernel
theorem dX1_copy_57 : decode cX1_copy 57 = .ok (.getfield 24, 3) := by decide +kernel
theorem dX1_copy_60 : decode cX1_copy 60 = .ok (.iload_n 2, 1) := by decide +kernel
theorem dX1_copy_61 : decode cX1_copy 61 = .ok (.aload_n 1, 1) := by decide +kernel
theorem dX1_copy_62 : decode cX1_copy 62 = .ok (.getfield 24, 3) := by decide +kernel
theorem dX1_copy_65 : decode cX1_copy 65 = .ok (.iload_n 2, 1) := by decide +kernel
theorem dX1_copy_66 : decode cX1_copy 66 = .ok (.iaload, 1) := by decide +kernel
theorem dX1_copy_67 : decode cX1_copy 67 = .ok (.iastore, 1) := by decide +kernel
theorem dX1_copy_68 : decode cX1_copy 68 = .ok (.aload_n 0, 1) := by decide +kernel
theorem dX1_copy_69 : decode cX1_copy 69 = .ok (.getfield 28, 3) := by decide +kernel
theorem dX1_copy_72 : decode cX1_copy 72 = .ok (.iload_n 2, 1) := by decide +kernel
theorem dX1_copy_73 : decode cX1_copy 73 = .ok (.aload_n 1, 1) := by decide +kernel
theorem dX1_copy_74 : decode cX1_copy 74 = .ok (.getfield 28, 3) := by decide +kernel
theorem dX1_copy_77 : decode cX1_copy 77 = .ok (.iload_n 2, 1) := by decide +kernel
theorem dX1_copy_78 : decode cX1_copy 78 = .ok (.iaload, 1) := by decide +kernel
theorem dX1_copy_79 : decode cX1_copy 79 = .ok (.iastore, 1) := by decide +kernel
theorem dX1_copy_80 : decode cX1_copy 80 = .ok (.iinc 2 1, 3) := by decide +kernel
theorem dX1_copy_83 : decode cX1_copy 83 = .ok (.goto (-81), 3) := by decide +kernel
theorem dX1_copy_86 : decode cX1_copy 86 = .ok (.return_, 1) := by decide +kernel
theorem dX1_fill_0 : decode cX1_fill 0 = .ok (.aload_n 0, 1) := by decide +kernel
theorem dX1_fill_1 : decode cX1_fill 1 = .ok (.getfield 9, 3) := by decide +kernel
theorem dX1_fill_4 : decode cX1_fill 4 = .ok (.iload_n 1, 1) := by decide +kernel
theorem dX1_fill_5 : decode cX1_fill 5 = .ok (.iload_n 2, 1) := by decide +kernel
theorem dX1_fill_6 : decode cX1_fill 6 = .ok (.i2l, 1) := by decide +kernel
theorem dX1_fill_7 : decode cX1_fill 7 = .ok (.lastore, 1) := by decide +kernel
theorem dX1_fill_8 : decode cX1_fill 8 = .ok (.aload_n 0, 1) := by decide +kernel
theorem dX1_fill_9 : decode cX1_fill 9 = .ok (.getfield 15, 3) := by decide +kernel
theorem dX1_fill_12 : decode cX1_fill 12 = .ok (.iload_n 1, 1) := by decide +kernel
theorem dX1_fill_13 : decode cX1_fill 13 = .ok (.iload_n 3, 1) := by decide +kernel
theorem dX1_fill_14 : decode cX1_fill 14 = .ok (.i2l, 1) := by decide +kernel
theorem dX1_fill_15 : decode cX1_fill 15 = .ok (.iload_n 2, 1) := by decide +kernel
theorem dX1_fill_16 : decode cX1_fill 16 = .ok (.sipush 20000, 3) := by decide +kernel
theorem dX1_fill_19 : decode cX1_fill 19 = .ok (.iadd, 1) := by decide +kernel
theorem dX1_fill_20 : decode cX1_fill 20 = .ok (.i2l, 1) := by decide +kernel
theorem dX1_fill_21 : decode cX1_fill 21 = .ok (.lmul, 1) := by decide +kernel
theorem dX1_fill_22 : decode cX1_fill 22 = .ok (.lastore, 1) := by decide +kernel
theorem dX1_fill_23 : decode cX1_fill 23 = .ok (.return_, 1) := by decide +kernel
theorem dX1_setWidth_0 : decode cX1_setWidth 0 = .ok (.iload_n 1, 1) := by decide +kernel
theorem dX1_setWidth_1 : decode cX1_setWidth 1 = .ok (.iload_n 2, 1) := by decide +kernel
theorem dX1_setWidth_2 : decode cX1_setWidth 2 = .ok (.invokestatic 44, 3) := by decide +kernel
theorem dX1_setWidth_5 : decode cX1_setWidth 5 = .ok (.istore 4, 2) := by decide +kernel
theorem dX1_setWidth_7 : decode cX1_setWidth 7 = .ok (.iload_n 1, 1) := by decide +kernel
theorem dX1_setWidth_8 : decode cX1_setWidth 8 = .ok (.iconst 4, 1) := by decide +kernel
theorem dX1_setWidth_9 : decode cX1_setWidth 9 = .ok (.idiv, 1) := by decide +kernel
theorem dX1_setWidth_10 : decode cX1_setWidth 10 = .ok (.iload_n 2, 1) := by decide +kernel
theorem dX1_setWidth_11 : decode cX1_setWidth 11 = .ok (.iconst 4, 1) := by decide +kernel
theorem dX1_setWidth_12 : decode cX1_setWidth 12 = .ok (.idiv, 1) := by decide +kernel
theorem dX1_setWidth_13 : decode cX1_setWidth 13 = .ok (.if_icmp .ne 10, 3) := by decide +kernel
theorem dX1_setWidth_16 : decode cX1_setWidth 16 = .ok (.aload_n 0, 1) := by decide +kernel
theorem dX1_setWidth_17 : decode cX1_setWidth 17 = .ok (.getfield 24, 3) := by decide +kernel
theorem dX1_setWidth_20 : decode cX1_setWidth 20 = .ok (.goto 7, 3) := by decide +kernel
theorem dX1_setWidth_23 : decode cX1_setWidth 23 = .ok (.aload_n 0, 1) := by decide +kernel
theorem dX1_setWidth_24 : decode cX1_setWidth 24 = .ok (.getfield 28, 3) := by decide +kernel
theorem dX1_setWidth_27 : decode cX1_setWidth 27 = .ok (.astore 5, 2) := by decide +kernel
theorem dX1_setWidth_29 : decode cX1_setWidth 29 = .ok (.aload 5, 2) := by decide +kernel
theorem dX1_setWidth_31 : decode cX1_setWidth 31 = .ok (.iload 4, 2) := by decide +kernel
theorem dX1_setWidth_33 : decode cX1_setWidth 33 = .ok (.iaload, 1) := by decide +kernel
theorem dX1_setWidth_34 : decode cX1_setWidth 34 = .ok (.istore 6, 2) := by decide +kernel
theorem dX1_setWidth_36 : decode cX1_setWidth 36 = .ok (.aload 5, 2) := by decide +kernel
theorem dX1_setWidth_38 : decode cX1_setWidth 38 = .ok (.iload 4, 2) := by decide +kernel
theorem dX1_setWidth_40 : decode cX1_setWidth 40 = .ok (.iload_n 3, 1) := by decide +kernel
theorem dX1_setWidth_41 : decode cX1_setWidth 41 = .ok (.iastore, 1) := by decide +kernel
theorem dX1_setWidth_42 : decode cX1_setWidth 42 = .ok (.iload 6, 2) := by decide +kernel
theorem dX1_setWidth_44 : decode cX1_setWidth 44 = .ok (.ireturn, 1) := by decide +kernel
theorem dX1_tell_0 : decode cX1_tell 0 = .ok (.iload_n 2, 1) := by decide +kernel
theorem dX1_tell_1 : decode cX1_tell 1 = .ok (.tableswitch 69 0 4 #[35, 42, 48, 55, 62], 35) := by decide +kernel
theorem dX1_tell_36 : decode cX1_tell 36 = .ok (.aload_n 0, 1) := by decide +kernel
theorem dX1_tell_37 : decode cX1_tell 37 = .ok (.getfield 9, 3) := by decide +kernel
theorem dX1_tell_40 : decode cX1_tell 40 = .ok (.iload_n 1, 1) := by decide +kernel
