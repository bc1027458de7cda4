theorem dX1_isFull_0 : decode cX1_isFull 0 = .ok (.aload_n 0, 1) := by decide +kernel
theorem dX1_isFull_1 : decode cX1_isFull 1 = .ok (.getfield 22, 3) := by decide +kernel
theorem dX1_isFull_4 : decode cX1_isFull 4 = .ok (.bipush 30, 2) := by decide +kernel
theorem dX1_isFull_6 : decode cX1_isFull 6 = .ok (.if_icmp .lt 7, 3) := by decide +kernel
theorem dX1_isFull_9 : decode cX1_isFull 9 = .ok (.iconst 1, 1) := by decide +kernel
theorem dX1_isFull_10 : decode cX1_isFull 10 = .ok (.goto 4, 3) := by decide +kernel
theorem dX1_isFull_13 : decode cX1_isFull 13 = .ok (.iconst 0, 1) := by decide +kernel
theorem dX1_isFull_14 : decode cX1_isFull 14 = .ok (.ireturn, 1) := by decide +kernel
theorem dX1_find_0 : decode cX1_find 0 = .ok (.iconst 0, 1) := by decide +kernel
theorem dX1_find_1 : decode cX1_find 1 = .ok (.istore 4, 2) := by decide +kernel
theorem dX1_find_3 : decode cX1_find 3 = .ok (.iload 4, 2) := by decide +kernel
theorem dX1_find_5 : decode cX1_find 5 = .ok (.aload_n 0, 1) := by decide +kernel
theorem dX1_find_6 : decode cX1_find 6 = .ok (.getfield 22, 3) := by decide +kernel
theorem dX1_find_9 : decode cX1_find 9 = .ok (.if_icmp .ge 55, 3) := by decide +kernel
theorem dX1_find_12 : decode cX1_find 12 = .ok (.iload 4, 2) := by decide +kernel
theorem dX1_find_14 : decode cX1_find 14 = .ok (.aload_n 0, 1) := by decide +kernel
theorem dX1_find_15 : decode cX1_find 15 = .ok (.getfield 9, 3) := by decide +kernel
theorem dX1_find_18 : decode cX1_find 18 = .ok (.arraylength, 1) := by decide +kernel
theorem dX1_find_19 : decode cX1_find 19 = .ok (.if_icmp .ge 45, 3) := by decide +kernel
theorem dX1_find_22 : decode cX1_find 22 = .ok (.iload 4, 2) := by decide +kernel
theorem dX1_find_24 : decode cX1_find 24 = .ok (.aload_n 0, 1) := by decide +kernel
theorem dX1_find_25 : decode cX1_find 25 = .ok (.getfield 15, 3) := by decide +kernel
theorem dX1_find_28 : decode cX1_find 28 = .ok (.arraylength, 1) := by decide +kernel
theorem dX1_find_29 : decode cX1_find 29 = .ok (.if_icmp .ge 35, 3) := by decide +kernel
theorem dX1_find_32 : decode cX1_find 32 = .ok (.aload_n 0, 1) := by decide +kernel
theorem dX1_find_33 : decode cX1_find 33 = .ok (.getfield 9, 3) := by decide +kernel
theorem dX1_find_36 : decode cX1_find 36 = .ok (.iload 4, 2) := by decide +kernel
theorem dX1_find_38 : decode cX1_find 38 = .ok (.laload, 1) := by decide +kernel
theorem dX1_find_39 : decode cX1_find 39 = .ok (.lload_n 1, 1) := by decide +kernel
theorem dX1_find_40 : decode cX1_find 40 = .ok (.lcmp, 1) := by decide +kernel
theorem dX1_find_41 : decode cX1_find 41 = .ok (.ifCond .ne 17, 3) := by decide +kernel
theorem dX1_find_44 : decode cX1_find 44 = .ok (.aload_n 0, 1) := by decide +kernel
theorem dX1_find_45 : decode cX1_find 45 = .ok (.getfield 15, 3) := by decide +kernel
theorem dX1_find_48 : decode cX1_find 48 = .ok (.iload 4, 2) := by decide +kernel
theorem dX1_find_50 : decode cX1_find 50 = .ok (.iaload, 1) := by decide +kernel
theorem dX1_find_51 : decode cX1_find 51 = .ok (.iload_n 3, 1) := by decide +kernel
theorem dX1_find_52 : decode cX1_find 52 = .ok (.if_icmp .ne 6, 3) := by decide +kernel
theorem dX1_find_55 : decode cX1_find 55 = .ok (.iload 4, 2) := by decide +kernel
theorem dX1_find_57 : decode cX1_find 57 = .ok (.ireturn, 1) := by decide +kernel
theorem dX1_find_58 : decode cX1_find 58 = .ok (.iinc 4 1, 3) := by decide +kernel
theorem dX1_find_61 : decode cX1_find 61 = .ok (.goto (-58), 3) := by decide +kernel
theorem dX1_find_64 : decode cX1_find 64 = .ok (.iconst (-1), 1) := by decide +kernel
theorem dX1_find_65 : decode cX1_find 65 = .ok (.ireturn, 1) := by decide +kernel
theorem dX1_write_0 : decode cX1_write 0 = .ok (.aload_n 0, 1) := by decide +kernel
theorem dX1_write_1 : decode cX1_write 1 = .ok (.lload_n 1, 1) := by decide +kernel
theorem dX1_write_2 : decode cX1_write 2 = .ok (.iload_n 3, 1) := by decide +kernel
theorem dX1_write_3 : decode cX1_write 3 = .ok (.invokevirtual 26, 3) := by decide +kernel
theorem dX1_write_6 : decode cX1_write 6 = .ok (.istore 5, 2) := by decide +kernel
theorem dX1_write_8 : decode cX1_write 8 = .ok (.iload 5, 2) := by decide +kernel
theorem dX1_write_10 : decode cX1_write 10 = .ok (.ifCond .ge 9, 3) := by decide +kernel
theorem dX1_write_13 : decode cX1_write 13 = .ok (.aload_n 0, 1) := by decide +kernel
theorem dX1_write_14 : decode cX1_write 14 = .ok (.getfield 22, 3) := by decide +kernel
theorem dX1_write_17 : decode cX1_write 17 = .ok (.istore 5, 2) := by decide +kernel
theorem dX1_write_19 : decode cX1_write 19 = .ok (.iload 5, 2) := by decide +kernel
theorem dX1_write_21 : decode cX1_write 21 = .ok (.ifCond .lt 73, 3) := by decide +kernel
theorem dX1_write_24 : decode cX1_write 24 = .ok (.iload 5, 2) := by decide +kernel
theorem dX1_write_26 : decode cX1_write 26 = .ok (.aload_n 0, 1) := by decide +kernel
theorem dX1_write_27 : decode cX1_write 27 = .ok (.getfield 9, 3) := by decide +kernel
theorem dX1_write_30 : decode cX1_write 30 = .ok (.arraylength, 1) := by decide +kernel
theorem dX1_write_31 : decode cX1_write 31 = .ok (.if_icmp .ge 63, 3) := by decide +kernel
theorem dX1_write_34 : decode cX1_write 34 = .ok (.iload 5, 2) := by decide +kernel
theorem dX1_write_36 : decode cX1_write 36 = .ok (.aload_n 0, 1) := by decide +kernel
theorem dX1_write_37 : decode cX1_write 37 = .ok (.getfield 15, 3) := by decide +kernel
theorem dX1_write_40 : decode cX1_write 40 = .ok (.arraylength, 1) := by decide +kernel
theorem dX1_write_41 : decode cX1_write 41 = .ok (.if_icmp .ge 53, 3) := by decide +kernel
theorem dX1_write_44 : decode cX1_write 44 = .ok (.iload 5, 2) := by decide +kernel
theorem dX1_write_46 : decode cX1_write 46 = .ok (.aload_n 0, 1) := by decide +kernel
theorem dX1_write_47 : decode cX1_write 47 = .ok (.getfield 19, 3) := by decide +kernel
theorem dX1_write_50 : decode cX1_write 50 = .ok (.arraylength, 1) := by decide +kernel
theorem dX1_write_51 : decode cX1_write 51 = .ok (.if_icmp .ge 43, 3) := by decide +kernel
theorem dX1_write_54 : decode cX1_write 54 = .ok (.aload_n 0, 1) := by decide +kernel
theorem dX1_write_55 : decode cX1_write 55 = .ok (.getfield 9, 3) := by decide +kernel
theorem dX1_write_58 : decode cX1_write 58 = .ok (.iload 5, 2) := by decide +kernel
theorem dX1_write_60 : decode cX1_write 60 = .ok (.lload_n 1, 1) := by decide +kernel
theorem dX1_write_61 : decode cX1_write 61 = .ok (.lastore, 1) := by decide +kernel
theorem dX1_write_62 : decode cX1_write 62 = .ok (.aload_n 0, 1) := by decide +kernel
theorem dX1_write_63 : decode cX1_write 63 = .ok (.getfield 15, 3) := by decide +kernel
theorem dX1_write_66 : decode cX1_write 66 = .ok (.iload 5, 2) := by decide +kernel
theorem dX1_write_68 : decode cX1_write 68 = .ok (.iload_n 3, 1) := by decide +kernel
theorem dX1_write_69 : decode cX1_write 69 = .ok (.iastore, 1) := by decide +kernel
theorem dX1_write_70 : decode cX1_write 70 = .ok (.aload_n 0, 1) := by decide +kernel
theorem dX1_write_71 : decode cX1_write 71 = .ok (.getfield 19, 3) := by decide +kernel
theorem dX1_write_74 : decode cX1_write 74 = .ok (.iload 5, 2) := by decide +kernel
theorem dX1_write_76 : decode cX1_write 76 = .ok (.iload 4, 2) := by decide +kernel
theorem dX1_write_78 : decode cX1_write 78 = .ok (.iastore, 1) := by decide +kernel
theorem dX1_write_79 : decode cX1_write 79 = .ok (.aload_n 0, 1) := by decide +kernel
theorem dX1_write_80 : decode cX1_write 80 = .ok (.aload_n 0, 1) := by decide +kernel
theorem dX1_write_81 : decode cX1_write 81 = .ok (.getfield 22, 3) := by decide +kernel
theorem dX1_write_84 : decode cX1_write 84 = .ok (.iload 5, 2) := by decide +kernel
theorem dX1_write_86 : decode cX1_write 86 = .ok (.iconst 1, 1) := by decide +kernel
theorem dX1_write_87 : decode cX1_write 87 = .ok (.iadd, 1) := by decide +kernel
theorem dX1_write_88 : decode cX1_write 88 = .ok (.invokestatic 30, 3) := by decide +kernel
theorem dX1_write_91 : decode cX1_write 91 = .ok (.putfield 22, 3) := by decide +kernel
theorem dX1_write_94 : decode cX1_write 94 = .ok (.return_, 1) := by decide +kernel
theorem dX1_choose_0 : decode cX1_choose 0 = .ok (.iconst (-1), 1) := by decide +kernel
theorem dX1_choose_1 : decode cX1_choose 1 = .ok (.istore 4, 2) := by decide +kernel
theorem dX1_choose_3 : decode cX1_choose 3 = .ok (.iconst 0, 1) := by decide +kernel
theorem dX1_choose_4 : decode cX1_choose 4 = .ok (.istore 5, 2) := by decide +kernel
theorem dX1_choose_6 : decode cX1_choose 6 = .ok (.iconst 0, 1) := by decide +kernel
theorem dX1_choose_7 : decode cX1_choose 7 = .ok (.istore 6, 2) := by decide +kernel
theorem dX1_choose_9 : decode cX1_choose 9 = .ok (.iload 6, 2) := by decide +kernel
theorem dX1_choose_11 : decode cX1_choose 11 = .ok (.aload_n 3, 1) := by decide +kernel
theorem dX1_choose_12 : decode cX1_choose 12 = .ok (.invokevirtual 36, 3) := by decide +kernel
theorem dX1_choose_15 : decode cX1_choose 15 = .ok (.if_icmp .ge 41, 3) := by decide +kernel
theorem dX1_choose_18 : decode cX1_choose 18 = .ok (.aload_n 0, 1) := by decide +kernel
theorem dX1_choose_19 : decode cX1_choose 19 = .ok (.aload_n 0, 1) := by decide +kernel
theorem dX1_choose_20 : decode cX1_choose 20 = .ok (.lload_n 1, 1) := by decide +kernel
theorem dX1_choose_21 : decode cX1_choose 21 = .ok (.aload_n 3, 1) := by decide +kernel
theorem dX1_choose_22 : decode cX1_choose 22 = .ok (.iload 6, 2) := by decide +kernel
theorem dX1_choose_24 : decode cX1_choose 24 = .ok (.invokevirtual 42, 3) := by decide +kernel
theorem dX1_choose_27 : decode cX1_choose 27 = .ok (.invokevirtual 26, 3) := by decide +kernel
theorem dX1_choose_30 : decode cX1_choose 30 = .ok (.invokevirtual 46, 3) := by decide +kernel
theorem dX1_choose_33 : decode cX1_choose 33 = .ok (.istore 7, 2) := by decide +kernel
theorem dX1_choose_35 : decode cX1_choose 35 = .ok (.iload 7, 2) := by decide +kernel
theorem dX1_choose_37 : decode cX1_choose 37 = .ok (.iload 5, 2) := by decide +kernel
theorem dX1_choose_39 : decode cX1_choose 39 = .ok (.if_icmp .le 11, 3) := by decide +kernel
theorem dX1_choose_42 : decode cX1_choose 42 = .ok (.iload 7, 2) := by decide +kernel
theorem dX1_choose_44 : decode cX1_choose 44 = .ok (.istore 5, 2) := by decide +kernel
theorem dX1_choose_46 : decode cX1_choose 46 = .ok (.iload 6, 2) := by decide +kernel
theorem dX1_choose_48 : decode cX1_choose 48 = .ok (.istore 4, 2) := by decide +kernel
theorem dX1_choose_50 : decode cX1_choose 50 = .ok (.iinc 6 1, 3) := by decide +kernel
theorem dX1_choose_53 : decode cX1_choose 53 = .ok (.goto (-44), 3) := by decide +kernel
theorem dX1_choose_56 : decode cX1_choose 56 = .ok (.iload 4, 2) := by decide +kernel
theorem dX1_choose_58 : decode cX1_choose 58 = .ok (.ireturn, 1) := by decide +kernel
theorem dX1_weightAt_0 : decode cX1_weightAt 0 = .ok (.iload_n 1, 1) := by decide +kernel
theorem dX1_weightAt_1 : decode cX1_weightAt 1 = .ok (.ifCond .lt 21, 3) := by decide +kernel
theorem dX1_weightAt_4 : decode cX1_weightAt 4 = .ok (.iload_n 1, 1) := by decide +kernel
theorem dX1_weightAt_5 : decode cX1_weightAt 5 = .ok (.aload_n 0, 1) := by decide +kernel
theorem dX1_weightAt_6 : decode cX1_weightAt 6 = .ok (.getfield 19, 3) := by decide +kernel
theorem dX1_weightAt_9 : decode cX1_weightAt 9 = .ok (.arraylength, 1) := by decide +kernel
theorem dX1_weightAt_10 : decode cX1_weightAt 10 = .ok (.if_icmp .ge 12, 3) := by decide +kernel
theorem dX1_weightAt_13 : decode cX1_weightAt 13 = .ok (.aload_n 0, 1) := by decide +kernel
theorem dX1_weightAt_14 : decode cX1_weightAt 14 = .ok (.getfield 19, 3) := by decide +kernel
theorem dX1_weightAt_17 : decode cX1_weightAt 17 = .ok (.iload_n 1, 1) := by decide +kernel
theorem dX1_weightAt_18 : decode cX1_weightAt 18 = .ok (.iaload, 1) := by decide +kernel
theorem dX1_weightAt_19 : decode cX1_weightAt 19 = .ok (.goto 4, 3) := by decide +kernel
theorem dX1_weightAt_22 : decode cX1_weightAt 22 = .ok (.iconst 0, 1) := by decide +kernel
theorem dX1_weightAt_23 : decode cX1_weightAt 23 = .ok (.ireturn, 1) := by decide +kernel
theorem dX2_init_0 : decode cX2_init 0 = .ok (.aload_n 0, 1) := by decide +kernel
theorem dX2_init_1 : decode cX2_init 1 = .ok (.invokespecial 1, 3) := by decide +kernel
theorem dX2_init_4 : decode cX2_init 4 = .ok (.aload_n 0, 1) := by decide +kernel
theorem dX2_init_5 : decode cX2_init 5 = .ok (.bipush 10, 2) := by decide +kernel
theorem dX2_init_7 : decode cX2_init 7 = .ok (.putfield 7, 3) := by decide +kernel
theorem dX2_init_10 : decode cX2_init 10 = .ok (.aload_n 0, 1) := by decide +kernel
theorem dX2_init_11 : decode cX2_init 11 = .ok (.iconst 2, 1) := by decide +kernel
theorem dX2_init_12 : decode cX2_init 12 = .ok (.putfield 13, 3) := by decide +kernel
theorem dX2_init_15 : decode cX2_init 15 = .ok (.aload_n 0, 1) := by decide +kernel
theorem dX2_init_16 : decode cX2_init 16 = .ok (.iconst 1, 1) := by decide +kernel
theorem dX2_init_17 : decode cX2_init 17 = .ok (.putfield 16, 3) := by decide +kernel
theorem dX2_init_20 : decode cX2_init 20 = .ok (.aload_n 0, 1) := by decide +kernel
theorem dX2_init_21 : decode cX2_init 21 = .ok (.iconst 1, 1) := by decide +kernel
theorem dX2_init_22 : decode cX2_init 22 = .ok (.putfield 19, 3) := by decide +kernel
theorem dX2_init_25 : decode cX2_init 25 = .ok (.return_, 1) := by decide +kernel
theorem dX2_setWeights_0 : decode cX2_setWeights 0 = .ok (.aload_n 0, 1) := by decide +kernel
theorem dX2_setWeights_1 : decode cX2_setWeights 1 = .ok (.iload_n 1, 1) := by decide +kernel
theorem dX2_setWeights_2 : decode cX2_setWeights 2 = .ok (.putfield 7, 3) := by decide +kernel
theorem dX2_setWeights_5 : decode cX2_setWeights 5 = .ok (.aload_n 0, 1) := by decide +kernel
theorem dX2_setWeights_6 : decode cX2_setWeights 6 = .ok (.iload_n 2, 1) := by decide +kernel
theorem dX2_setWeights_7 : decode cX2_setWeights 7 = .ok (.putfield 13, 3) := by decide +kernel
theorem dX2_setWeights_10 : decode cX2_setWeights 10 = .ok (.aload_n 0, 1) := by decide +kernel
theorem dX2_setWeights_11 : decode cX2_setWeights 11 = .ok (.iload_n 3, 1) := by decide +kernel
theorem dX2_setWeights_12 : decode cX2_setWeights 12 = .ok (.putfield 16, 3) := by decide +kernel
theorem dX2_setWeights_15 : decode cX2_setWeights 15 = .ok (.return_, 1) := by decide +kernel
theorem dX2_isQuietOn_0 : decode cX2_isQuietOn 0 = .ok (.aload_n 0, 1) := by decide +kernel
theorem dX2_isQuietOn_1 : decode cX2_isQuietOn 1 = .ok (.getfield 19, 3) := by decide +kernel
theorem dX2_isQuietOn_4 : decode cX2_isQuietOn 4 = .ok (.ireturn, 1) := by decide +kernel
theorem dX2_switchQuiet_0 : decode cX2_switchQuiet 0 = .ok (.aload_n 0, 1) := by decide +kernel
theorem dX2_switchQuiet_1 : decode cX2_switchQuiet 1 = .ok (.iload_n 1, 1) := by decide +kernel
theorem dX2_switchQuiet_2 : decode cX2_switchQuiet 2 = .ok (.putfield 19, 3) := by decide +kernel
theorem dX2_switchQuiet_5 : decode cX2_switchQuiet 5 = .ok (.return_, 1) := by decide +kernel
theorem dX2_evaluate_0 : decode cX2_evaluate 0 = .ok (.iconst 0, 1) := by decide +kernel
theorem dX2_evaluate_1 : decode cX2_evaluate 1 = .ok (.istore_n 2, 1) := by decide +kernel
theorem dX2_evaluate_2 : decode cX2_evaluate 2 = .ok (.aload_n 1, 1) := by decide +kernel
theorem dX2_evaluate_3 : decode cX2_evaluate 3 = .ok (.invokevirtual 23, 3) := by decide +kernel
theorem dX2_evaluate_6 : decode cX2_evaluate 6 = .ok (.iconst 1, 1) := by decide +kernel
theorem dX2_evaluate_7 : decode cX2_evaluate 7 = .ok (.iadd, 1) := by decide +kernel
theorem dX2_evaluate_8 : decode cX2_evaluate 8 = .ok (.istore_n 3, 1) := by decide +kernel
theorem dX2_evaluate_9 : decode cX2_evaluate 9 = .ok (.iconst 0, 1) := by decide +kernel
theorem dX2_evaluate_10 : decode cX2_evaluate 10 = .ok (.istore 4, 2) := by decide +kernel
theorem dX2_evaluate_12 : decode cX2_evaluate 12 = .ok (.iload 4, 2) := by decide +kernel
theorem dX2_evaluate_14 : decode cX2_evaluate 14 = .ok (.aload_n 1, 1) := by decide +kernel
theorem dX2_evaluate_15 : decode cX2_evaluate 15 = .ok (.invokevirtual 29, 3) := by decide +kernel
theorem dX2_evaluate_18 : decode cX2_evaluate 18 = .ok (.if_icmp .ge 78, 3) := by decide +kernel
theorem dX2_evaluate_21 : decode cX2_evaluate 21 = .ok (.iconst 0, 1) := by decide +kernel
theorem dX2_evaluate_22 : decode cX2_evaluate 22 = .ok (.istore 5, 2) := by decide +kernel
theorem dX2_evaluate_24 : decode cX2_evaluate 24 = .ok (.iload 5, 2) := by decide +kernel
theorem dX2_evaluate_26 : decode cX2_evaluate 26 = .ok (.aload_n 1, 1) := by decide +kernel
theorem dX2_evaluate_27 : decode cX2_evaluate 27 = .ok (.invokevirtual 32, 3) := by decide +kernel
theorem dX2_evaluate_30 : decode cX2_evaluate 30 = .ok (.if_icmp .ge 60, 3) := by decide +kernel
theorem dX2_evaluate_33 : decode cX2_evaluate 33 = .ok (.aload_n 1, 1) := by decide +kernel
theorem dX2_evaluate_34 : decode cX2_evaluate 34 = .ok (.iload 4, 2) := by decide +kernel
theorem dX2_evaluate_36 : decode cX2_evaluate 36 = .ok (.aload_n 1, 1) := by decide +kernel
theorem dX2_evaluate_37 : decode cX2_evaluate 37 = .ok (.invokevirtual 32, 3) := by decide +kernel
theorem dX2_evaluate_40 : decode cX2_evaluate 40 = .ok (.imul, 1) := by decide +kernel
theorem dX2_evaluate_41 : decode cX2_evaluate 41 = .ok (.iload 5, 2) := by decide +kernel
theorem dX2_evaluate_43 : decode cX2_evaluate 43 = .ok (.iadd, 1) := by decide +kernel
theorem dX2_evaluate_44 : decode cX2_evaluate 44 = .ok (.invokevirtual 35, 3) := by decide +kernel
theorem dX2_evaluate_47 : decode cX2_evaluate 47 = .ok (.istore 6, 2) := by decide +kernel
theorem dX2_evaluate_49 : decode cX2_evaluate 49 = .ok (.iload 6, 2) := by decide +kernel
theorem dX2_evaluate_51 : decode cX2_evaluate 51 = .ok (.ifCond .eq 33, 3) := by decide +kernel
theorem dX2_evaluate_54 : decode cX2_evaluate 54 = .ok (.aload_n 0, 1) := by decide +kernel
theorem dX2_evaluate_55 : decode cX2_evaluate 55 = .ok (.aload_n 1, 1) := by decide +kernel
theorem dX2_evaluate_56 : decode cX2_evaluate 56 = .ok (.iload 4, 2) := by decide +kernel
theorem dX2_evaluate_58 : decode cX2_evaluate 58 = .ok (.iload 5, 2) := by decide +kernel
theorem dX2_evaluate_60 : decode cX2_evaluate 60 = .ok (.iload 6, 2) := by decide +kernel
theorem dX2_evaluate_62 : decode cX2_evaluate 62 = .ok (.invokevirtual 39, 3) := by decide +kernel
theorem dX2_evaluate_65 : decode cX2_evaluate 65 = .ok (.istore 7, 2) := by decide +kernel
theorem dX2_evaluate_67 : decode cX2_evaluate 67 = .ok (.iload_n 2, 1) := by decide +kernel
theorem dX2_evaluate_68 : decode cX2_evaluate 68 = .ok (.iload 6, 2) := by decide +kernel
theorem dX2_evaluate_70 : decode cX2_evaluate 70 = .ok (.iload_n 3, 1) := by decide +kernel
theorem dX2_evaluate_71 : decode cX2_evaluate 71 = .ok (.if_icmp .ne 8, 3) := by decide +kernel
theorem dX2_evaluate_74 : decode cX2_evaluate 74 = .ok (.iload 7, 2) := by decide +kernel
theorem dX2_evaluate_76 : decode cX2_evaluate 76 = .ok (.goto 6, 3) := by decide +kernel
theorem dX2_evaluate_79 : decode cX2_evaluate 79 = .ok (.iload 7, 2) := by decide +kernel
theorem dX2_evaluate_81 : decode cX2_evaluate 81 = .ok (.ineg, 1) := by decide +kernel
theorem dX2_evaluate_82 : decode cX2_evaluate 82 = .ok (.iadd, 1) := by decide +kernel
theorem dX2_evaluate_83 : decode cX2_evaluate 83 = .ok (.istore_n 2, 1) := by decide +kernel
theorem dX2_evaluate_84 : decode cX2_evaluate 84 = .ok (.iinc 5 1, 3) := by decide +kernel
theorem dX2_evaluate_87 : decode cX2_evaluate 87 = .ok (.goto (-63), 3) := by decide +kernel
theorem dX2_evaluate_90 : decode cX2_evaluate 90 = .ok (.iinc 4 1, 3) := by decide +kernel
theorem dX2_evaluate_93 : decode cX2_evaluate 93 = .ok (.goto (-81), 3) := by decide +kernel
theorem dX2_evaluate_96 : decode cX2_evaluate 96 = .ok (.iload_n 2, 1) := by decide +kernel
theorem dX2_evaluate_97 : decode cX2_evaluate 97 = .ok (.ireturn, 1) := by decide +kernel
theorem dX2_weighPawn_0 : decode cX2_weighPawn 0 = .ok (.iload 4, 2) := by decide +kernel
theorem dX2_weighPawn_2 : decode cX2_weighPawn 2 = .ok (.iconst 1, 1) := by decide +kernel
theorem dX2_weighPawn_3 : decode cX2_weighPawn 3 = .ok (.if_icmp .ne 7, 3) := by decide +kernel
theorem dX2_weighPawn_6 : decode cX2_weighPawn 6 = .ok (.iload_n 2, 1) := by decide +kernel
theorem dX2_weighPawn_7 : decode cX2_weighPawn 7 = .ok (.goto 11, 3) := by decide +kernel
theorem dX2_weighPawn_10 : decode cX2_weighPawn 10 = .ok (.aload_n 1, 1) := by decide +kernel
theorem dX2_weighPawn_11 : decode cX2_weighPawn 11 = .ok (.invokevirtual 29, 3) := by decide +kernel
theorem dX2_weighPawn_14 : decode cX2_weighPawn 14 = .ok (.iconst 1, 1) := by decide +kernel
theorem dX2_weighPawn_15 : decode cX2_weighPawn 15 = .ok (.isub, 1) := by decide +kernel
theorem dX2_weighPawn_16 : decode cX2_weighPawn 16 = .ok (.iload_n 2, 1) := by decide +kernel
theorem dX2_weighPawn_17 : decode cX2_weighPawn 17 = .ok (.isub, 1) := by decide +kernel
theorem dX2_weighPawn_18 : decode cX2_weighPawn 18 = .ok (.istore 5, 2) := by decide +kernel
theorem dX2_weighPawn_20 : decode cX2_weighPawn 20 = .ok (.iconst 0, 1) := by decide +kernel
theorem dX2_weighPawn_21 : decode cX2_weighPawn 21 = .ok (.istore 6, 2) := by decide +kernel
theorem dX2_weighPawn_23 : decode cX2_weighPawn 23 = .ok (.iconst (-1), 1) := by decide +kernel
theorem dX2_weighPawn_24 : decode cX2_weighPawn 24 = .ok (.istore 7, 2) := by decide +kernel
theorem dX2_weighPawn_26 : decode cX2_weighPawn 26 = .ok (.iload 7, 2) := by decide +kernel
theorem dX2_weighPawn_28 : decode cX2_weighPawn 28 = .ok (.iconst 1, 1) := by decide +kernel
theorem dX2_weighPawn_29 : decode cX2_weighPawn 29 = .ok (.if_icmp .gt 23, 3) := by decide +kernel
theorem dX2_weighPawn_32 : decode cX2_weighPawn 32 = .ok (.aload_n 1, 1) := by decide +kernel
theorem dX2_weighPawn_33 : decode cX2_weighPawn 33 = .ok (.iload_n 2, 1) := by decide +kernel
theorem dX2_weighPawn_34 : decode cX2_weighPawn 34 = .ok (.iload_n 3, 1) := by decide +kernel
theorem dX2_weighPawn_35 : decode cX2_weighPawn 35 = .ok (.iload 7, 2) := by decide +kernel
theorem dX2_weighPawn_37 : decode cX2_weighPawn 37 = .ok (.invokevirtual 43, 3) := by decide +kernel
theorem dX2_weighPawn_40 : decode cX2_weighPawn 40 = .ok (.ifCond .eq 6, 3) := by decide +kernel
theorem dX2_weighPawn_43 : decode cX2_weighPawn 43 = .ok (.iinc 6 1, 3) := by decide +kernel
theorem dX2_weighPawn_46 : decode cX2_weighPawn 46 = .ok (.iinc 7 1, 3) := by decide +kernel
theorem dX2_weighPawn_49 : decode cX2_weighPawn 49 = .ok (.goto (-23), 3) := by decide +kernel
theorem dX2_weighPawn_52 : decode cX2_weighPawn 52 = .ok (.aload_n 0, 1) := by decide +kernel
theorem dX2_weighPawn_53 : decode cX2_weighPawn 53 = .ok (.getfield 7, 3) := by decide +kernel
theorem dX2_weighPawn_56 : decode cX2_weighPawn 56 = .ok (.aload_n 0, 1) := by decide +kernel
theorem dX2_weighPawn_57 : decode cX2_weighPawn 57 = .ok (.getfield 13, 3) := by decide +kernel
theorem dX2_weighPawn_60 : decode cX2_weighPawn 60 = .ok (.iload 5, 2) := by decide +kernel
theorem dX2_weighPawn_62 : decode cX2_weighPawn 62 = .ok (.imul, 1) := by decide +kernel
theorem dX2_weighPawn_63 : decode cX2_weighPawn 63 = .ok (.iadd, 1) := by decide +kernel
theorem dX2_weighPawn_64 : decode cX2_weighPawn 64 = .ok (.aload_n 0, 1) := by decide +kernel
theorem dX2_weighPawn_65 : decode cX2_weighPawn 65 = .ok (.getfield 16, 3) := by decide +kernel
theorem dX2_weighPawn_68 : decode cX2_weighPawn 68 = .ok (.iload 6, 2) := by decide +kernel
theorem dX2_weighPawn_70 : decode cX2_weighPawn 70 = .ok (.imul, 1) := by decide +kernel
theorem dX2_weighPawn_71 : decode cX2_weighPawn 71 = .ok (.iadd, 1) := by decide +kernel
theorem dX2_weighPawn_72 : decode cX2_weighPawn 72 = .ok (.ireturn, 1) := by decide +kernel
theorem dX3_init_0 : decode cX3_init 0 = .ok (.aload_n 0, 1) := by decide +kernel
theorem dX3_init_1 : decode cX3_init 1 = .ok (.invokespecial 3, 3) := by decide +kernel
theorem dX3_init_4 : decode cX3_init 4 = .ok (.aload_n 0, 1) := by decide +kernel
theorem dX3_init_5 : decode cX3_init 5 = .ok (.iconst 5, 1) := by decide +kernel
theorem dX3_init_6 : decode cX3_init 6 = .ok (.newarray .int, 2) := by decide +kernel
theorem dX3_init_8 : decode cX3_init 8 = .ok (.putfield 9, 3) := by decide +kernel
theorem dX3_init_11 : decode cX3_init 11 = .ok (.aload_n 0, 1) := by decide +kernel
theorem dX3_init_12 : decode cX3_init 12 = .ok (.iconst 5, 1) := by decide +kernel
theorem dX3_init_13 : decode cX3_init 13 = .ok (.newarray .int, 2) := by decide +kernel
theorem dX3_init_15 : decode cX3_init 15 = .ok (.putfield 15, 3) := by decide +kernel
theorem dX3_init_18 : decode cX3_init 18 = .ok (.aload_n 0, 1) := by decide +kernel
theorem dX3_init_19 : decode cX3_init 19 = .ok (.invokevirtual 18, 3) := by decide +kernel
theorem dX3_init_22 : decode cX3_init 22 = .ok (.return_, 1) := by decide +kernel
theorem dX3_clear_0 : decode cX3_clear 0 = .ok (.iconst 0, 1) := by decide +kernel
theorem dX3_clear_1 : decode cX3_clear 1 = .ok (.istore_n 1, 1) := by decide +kernel
theorem dX3_clear_2 : decode cX3_clear 2 = .ok (.iload_n 1, 1) := by decide +kernel
theorem dX3_clear_3 : decode cX3_clear 3 = .ok (.aload_n 0, 1) := by decide +kernel
theorem dX3_clear_4 : decode cX3_clear 4 = .ok (.getfield 9, 3) := by decide +kernel
theorem dX3_clear_7 : decode cX3_clear 7 = .ok (.arraylength, 1) := by decide +kernel
theorem dX3_clear_8 : decode cX3_clear 8 = .ok (.if_icmp .ge 32, 3) := by decide +kernel
theorem dX3_clear_11 : decode cX3_clear 11 = .ok (.iload_n 1, 1) := by decide +kernel
theorem dX3_clear_12 : decode cX3_clear 12 = .ok (.aload_n 0, 1) := by decide +kernel
theorem dX3_clear_13 : decode cX3_clear 13 = .ok (.getfield 15, 3) := by decide +kernel
theorem dX3_clear_16 : decode cX3_clear 16 = .ok (.arraylength, 1) := by decide +kernel
theorem dX3_clear_17 : decode cX3_clear 17 = .ok (.if_icmp .ge 23, 3) := by decide +kernel
theorem dX3_clear_20 : decode cX3_clear 20 = .ok (.aload_n 0, 1) := by decide +kernel
theorem dX3_clear_21 : decode cX3_clear 21 = .ok (.getfield 9, 3) := by decide +kernel
theorem dX3_clear_24 : decode cX3_clear 24 = .ok (.iload_n 1, 1) := by decide +kernel
theorem dX3_clear_25 : decode cX3_clear 25 = .ok (.iconst (-1), 1) := by decide +kernel
theorem dX3_clear_26 : decode cX3_clear 26 = .ok (.iastore, 1) := by decide +kernel
theorem dX3_clear_27 : decode cX3_clear 27 = .ok (.aload_n 0, 1) := by decide +kernel
theorem dX3_clear_28 : decode cX3_clear 28 = .ok (.getfield 15, 3) := by decide +kernel
theorem dX3_clear_31 : decode cX3_clear 31 = .ok (.iload_n 1, 1) := by decide +kernel
theorem dX3_clear_32 : decode cX3_clear 32 = .ok (.iconst (-1), 1) := by decide +kernel
theorem dX3_clear_33 : decode cX3_clear 33 = .ok (.iastore, 1) := by decide +kernel
theorem dX3_clear_34 : decode cX3_clear 34 = .ok (.iinc 1 1, 3) := by decide +kernel
theorem dX3_clear_37 : decode cX3_clear 37 = .ok (.goto (-35), 3) := by decide +kernel
theorem dX3_clear_40 : decode cX3_clear 40 = .ok (.return_, 1) := by decide +kernel
theorem dX3_newerOf_0 : decode cX3_newerOf 0 = .ok (.iload_n 1, 1) := by decide +kernel
theorem dX3_newerOf_1 : decode cX3_newerOf 1 = .ok (.ifCond .lt 21, 3) := by decide +kernel
theorem dX3_newerOf_4 : decode cX3_newerOf 4 = .ok (.iload_n 1, 1) := by decide +kernel
theorem dX3_newerOf_5 : decode cX3_newerOf 5 = .ok (.aload_n 0, 1) := by decide +kernel
theorem dX3_newerOf_6 : decode cX3_newerOf 6 = .ok (.getfield 9, 3) := by decide +kernel
theorem dX3_newerOf_9 : decode cX3_newerOf 9 = .ok (.arraylength, 1) := by decide +kernel
theorem dX3_newerOf_10 : decode cX3_newerOf 10 = .ok (.if_icmp .ge 12, 3) := by decide +kernel
theorem dX3_newerOf_13 : decode cX3_newerOf 13 = .ok (.aload_n 0, 1) := by decide +kernel
theorem dX3_newerOf_14 : decode cX3_newerOf 14 = .ok (.getfield 9, 3) := by decide +kernel
theorem dX3_newerOf_17 : decode cX3_newerOf 17 = .ok (.iload_n 1, 1) := by decide +kernel
theorem dX3_newerOf_18 : decode cX3_newerOf 18 = .ok (.iaload, 1) := by decide +kernel
theorem dX3_newerOf_19 : decode cX3_newerOf 19 = .ok (.goto 4, 3) := by decide +kernel
theorem dX3_newerOf_22 : decode cX3_newerOf 22 = .ok (.iconst (-1), 1) := by decide +kernel
theorem dX3_newerOf_23 : decode cX3_newerOf 23 = .ok (.ireturn, 1) := by decide +kernel
theorem dX3_olderOf_0 : decode cX3_olderOf 0 = .ok (.iload_n 1, 1) := by decide +kernel
theorem dX3_olderOf_1 : decode cX3_olderOf 1 = .ok (.ifCond .lt 21, 3) := by decide +kernel
theorem dX3_olderOf_4 : decode cX3_olderOf 4 = .ok (.iload_n 1, 1) := by decide +kernel
theorem dX3_olderOf_5 : decode cX3_olderOf 5 = .ok (.aload_n 0, 1) := by decide +kernel
theorem dX3_olderOf_6 : decode cX3_olderOf 6 = .ok (.getfield 15, 3) := by decide +kernel
theorem dX3_olderOf_9 : decode cX3_olderOf 9 = .ok (.arraylength, 1) := by decide +kernel
theorem dX3_olderOf_10 : decode cX3_olderOf 10 = .ok (.if_icmp .ge 12, 3) := by decide +kernel
theorem dX3_olderOf_13 : decode cX3_olderOf 13 = .ok (.aload_n 0, 1) := by decide +kernel
theorem dX3_olderOf_14 : decode cX3_olderOf 14 = .ok (.getfield 15, 3) := by decide +kernel
theorem dX3_olderOf_17 : decode cX3_olderOf 17 = .ok (.iload_n 1, 1) := by decide +kernel
theorem dX3_olderOf_18 : decode cX3_olderOf 18 = .ok (.iaload, 1) := by decide +kernel
theorem dX3_olderOf_19 : decode cX3_olderOf 19 = .ok (.goto 4, 3) := by decide +kernel
theorem dX3_olderOf_22 : decode cX3_olderOf 22 = .ok (.iconst (-1), 1) := by decide +kernel
theorem dX3_olderOf_23 : decode cX3_olderOf 23 = .ok (.ireturn, 1) := by decide +kernel
theorem dX3_note_0 : decode cX3_note 0 = .ok (.iload_n 1, 1) := by decide +kernel
theorem dX3_note_1 : decode cX3_note 1 = .ok (.ifCond .lt 50, 3) := by decide +kernel
theorem dX3_note_4 : decode cX3_note 4 = .ok (.iload_n 1, 1) := by decide +kernel
theorem dX3_note_5 : decode cX3_note 5 = .ok (.aload_n 0, 1) := by decide +kernel
theorem dX3_note_6 : decode cX3_note 6 = .ok (.getfield 9, 3) := by decide +kernel
theorem dX3_note_9 : decode cX3_note 9 = .ok (.arraylength, 1) := by decide +kernel
theorem dX3_note_10 : decode cX3_note 10 = .ok (.if_icmp .ge 41, 3) := by decide +kernel
theorem dX3_note_13 : decode cX3_note 13 = .ok (.iload_n 1, 1) := by decide +kernel
theorem dX3_note_14 : decode cX3_note 14 = .ok (.aload_n 0, 1) := by decide +kernel
theorem dX3_note_15 : decode cX3_note 15 = .ok (.getfield 15, 3) := by decide +kernel
theorem dX3_note_18 : decode cX3_note 18 = .ok (.arraylength, 1) := by decide +kernel
theorem dX3_note_19 : decode cX3_note 19 = .ok (.if_icmp .ge 32, 3) := by decide +kernel
theorem dX3_note_22 : decode cX3_note 22 = .ok (.aload_n 0, 1) := by decide +kernel
theorem dX3_note_23 : decode cX3_note 23 = .ok (.getfield 9, 3) := by decide +kernel
theorem dX3_note_26 : decode cX3_note 26 = .ok (.iload_n 1, 1) := by decide +kernel
theorem dX3_note_27 : decode cX3_note 27 = .ok (.iaload, 1) := by decide +kernel
theorem dX3_note_28 : decode cX3_note 28 = .ok (.iload_n 2, 1) := by decide +kernel
theorem dX3_note_29 : decode cX3_note 29 = .ok (.if_icmp .eq 22, 3) := by decide +kernel
theorem dX3_note_32 : decode cX3_note 32 = .ok (.aload_n 0, 1) := by decide +kernel
theorem dX3_note_33 : decode cX3_note 33 = .ok (.getfield 15, 3) := by decide +kernel
theorem dX3_note_36 : decode cX3_note 36 = .ok (.iload_n 1, 1) := by decide +kernel
theorem dX3_note_37 : decode cX3_note 37 = .ok (.aload_n 0, 1) := by decide +kernel
theorem dX3_note_38 : decode cX3_note 38 = .ok (.getfield 9, 3) := by decide +kernel
theorem dX3_note_41 : decode cX3_note 41 = .ok (.iload_n 1, 1) := by decide +kernel
theorem dX3_note_42 : decode cX3_note 42 = .ok (.iaload, 1) := by decide +kernel
theorem dX3_note_43 : decode cX3_note 43 = .ok (.iastore, 1) := by decide +kernel
theorem dX3_note_44 : decode cX3_note 44 = .ok (.aload_n 0, 1) := by decide +kernel
theorem dX3_note_45 : decode cX3_note 45 = .ok (.getfield 9, 3) := by decide +kernel
theorem dX3_note_48 : decode cX3_note 48 = .ok (.iload_n 1, 1) := by decide +kernel
theorem dX3_note_49 : decode cX3_note 49 = .ok (.iload_n 2, 1) := by decide +kernel
theorem dX3_note_50 : decode cX3_note 50 = .ok (.iastore, 1) := by decide +kernel
theorem dX3_note_51 : decode cX3_note 51 = .ok (.return_, 1) := by decide +kernel
theorem dX4_init_0 : decode cX4_init 0 = .ok (.aload_n 0, 1) := by decide +kernel
theorem dX4_init_1 : decode cX4_init 1 = .ok (.invokespecial 3, 3) := by decide +kernel
theorem dX4_init_4 : decode cX4_init 4 = .ok (.aload_n 0, 1) := by decide +kernel
theorem dX4_init_5 : decode cX4_init 5 = .ok (.bipush 9, 2) := by decide +kernel
theorem dX4_init_7 : decode cX4_init 7 = .ok (.anewarray 9, 3) := by decide +kernel
theorem dX4_init_10 : decode cX4_init 10 = .ok (.putfield 11, 3) := by decide +kernel
theorem dX4_init_13 : decode cX4_init 13 = .ok (.iconst 0, 1) := by decide +kernel
theorem dX4_init_14 : decode cX4_init 14 = .ok (.istore_n 1, 1) := by decide +kernel
theorem dX4_init_15 : decode cX4_init 15 = .ok (.iload_n 1, 1) := by decide +kernel
theorem dX4_init_16 : decode cX4_init 16 = .ok (.aload_n 0, 1) := by decide +kernel
theorem dX4_init_17 : decode cX4_init 17 = .ok (.getfield 11, 3) := by decide +kernel
theorem dX4_init_20 : decode cX4_init 20 = .ok (.arraylength, 1) := by decide +kernel
theorem dX4_init_21 : decode cX4_init 21 = .ok (.if_icmp .ge 22, 3) := by decide +kernel
theorem dX4_init_24 : decode cX4_init 24 = .ok (.aload_n 0, 1) := by decide +kernel
theorem dX4_init_25 : decode cX4_init 25 = .ok (.getfield 11, 3) := by decide +kernel
theorem dX4_init_28 : decode cX4_init 28 = .ok (.iload_n 1, 1) := by decide +kernel
theorem dX4_init_29 : decode cX4_init 29 = .ok (.new 9, 3) := by decide +kernel
theorem dX4_init_32 : decode cX4_init 32 = .ok (.dup, 1) := by decide +kernel
theorem dX4_init_33 : decode cX4_init 33 = .ok (.invokespecial 17, 3) := by decide +kernel
theorem dX4_init_36 : decode cX4_init 36 = .ok (.aastore, 1) := by decide +kernel
theorem dX4_init_37 : decode cX4_init 37 = .ok (.iinc 1 1, 3) := by decide +kernel
theorem dX4_init_40 : decode cX4_init 40 = .ok (.goto (-25), 3) := by decide +kernel
theorem dX4_init_43 : decode cX4_init 43 = .ok (.aload_n 0, 1) := by decide +kernel
theorem dX4_init_44 : decode cX4_init 44 = .ok (.new 9, 3) := by decide +kernel
theorem dX4_init_47 : decode cX4_init 47 = .ok (.dup, 1) := by decide +kernel
theorem dX4_init_48 : decode cX4_init 48 = .ok (.invokespecial 17, 3) := by decide +kernel
theorem dX4_init_51 : decode cX4_init 51 = .ok (.putfield 18, 3) := by decide +kernel
theorem dX4_init_54 : decode cX4_init 54 = .ok (.return_, 1) := by decide +kernel
theorem dX4_ofDepth_0 : decode cX4_ofDepth 0 = .ok (.aload_n 0, 1) := by decide +kernel
theorem dX4_ofDepth_1 : decode cX4_ofDepth 1 = .ok (.iconst 4, 1) := by decide +kernel
theorem dX4_ofDepth_2 : decode cX4_ofDepth 2 = .ok (.iload_n 1, 1) := by decide +kernel
theorem dX4_ofDepth_3 : decode cX4_ofDepth 3 = .ok (.iadd, 1) := by decide +kernel
theorem dX4_ofDepth_4 : decode cX4_ofDepth 4 = .ok (.invokevirtual 22, 3) := by decide +kernel
theorem dX4_ofDepth_7 : decode cX4_ofDepth 7 = .ok (.areturn, 1) := by decide +kernel
theorem dX4_ofTurns_0 : decode cX4_ofTurns 0 = .ok (.iload_n 1, 1) := by decide +kernel
theorem dX4_ofTurns_1 : decode cX4_ofTurns 1 = .ok (.ifCond .lt 21, 3) := by decide +kernel
theorem dX4_ofTurns_4 : decode cX4_ofTurns 4 = .ok (.iload_n 1, 1) := by decide +kernel
theorem dX4_ofTurns_5 : decode cX4_ofTurns 5 = .ok (.aload_n 0, 1) := by decide +kernel
theorem dX4_ofTurns_6 : decode cX4_ofTurns 6 = .ok (.getfield 11, 3) := by decide +kernel
theorem dX4_ofTurns_9 : decode cX4_ofTurns 9 = .ok (.arraylength, 1) := by decide +kernel
theorem dX4_ofTurns_10 : decode cX4_ofTurns 10 = .ok (.if_icmp .ge 12, 3) := by decide +kernel
theorem dX4_ofTurns_13 : decode cX4_ofTurns 13 = .ok (.aload_n 0, 1) := by decide +kernel
theorem dX4_ofTurns_14 : decode cX4_ofTurns 14 = .ok (.getfield 11, 3) := by decide +kernel
theorem dX4_ofTurns_17 : decode cX4_ofTurns 17 = .ok (.iload_n 1, 1) := by decide +kernel
theorem dX4_ofTurns_18 : decode cX4_ofTurns 18 = .ok (.aaload, 1) := by decide +kernel
theorem dX4_ofTurns_19 : decode cX4_ofTurns 19 = .ok (.goto 7, 3) := by decide +kernel
theorem dX4_ofTurns_22 : decode cX4_ofTurns 22 = .ok (.aload_n 0, 1) := by decide +kernel
theorem dX4_ofTurns_23 : decode cX4_ofTurns 23 = .ok (.getfield 18, 3) := by decide +kernel
theorem dX4_ofTurns_26 : decode cX4_ofTurns 26 = .ok (.astore_n 2, 1) := by decide +kernel
theorem dX4_ofTurns_27 : decode cX4_ofTurns 27 = .ok (.aload_n 2, 1) := by decide +kernel
theorem dX4_ofTurns_28 : decode cX4_ofTurns 28 = .ok (.ifnonnull 10, 3) := by decide +kernel
theorem dX4_ofTurns_31 : decode cX4_ofTurns 31 = .ok (.aload_n 0, 1) := by decide +kernel
theorem dX4_ofTurns_32 : decode cX4_ofTurns 32 = .ok (.getfield 18, 3) := by decide +kernel
theorem dX4_ofTurns_35 : decode cX4_ofTurns 35 = .ok (.goto 4, 3) := by decide +kernel
theorem dX4_ofTurns_38 : decode cX4_ofTurns 38 = .ok (.aload_n 2, 1) := by decide +kernel
theorem dX4_ofTurns_39 : decode cX4_ofTurns 39 = .ok (.areturn, 1) := by decide +kernel
theorem dX5_init_0 : decode cX5_init 0 = .ok (.aload_n 0, 1) := by decide +kernel
theorem dX5_init_1 : decode cX5_init 1 = .ok (.invokespecial 3, 3) := by decide +kernel
theorem dX5_init_4 : decode cX5_init 4 = .ok (.aload_n 0, 1) := by decide +kernel
theorem dX5_init_5 : decode cX5_init 5 = .ok (.bipush 18, 2) := by decide +kernel
theorem dX5_init_7 : decode cX5_init 7 = .ok (.newarray .int, 2) := by decide +kernel
theorem dX5_init_9 : decode cX5_init 9 = .ok (.putfield 9, 3) := by decide +kernel
theorem dX5_init_12 : decode cX5_init 12 = .ok (.aload_n 0, 1) := by decide +kernel
theorem dX5_init_13 : decode cX5_init 13 = .ok (.bipush 18, 2) := by decide +kernel
theorem dX5_init_15 : decode cX5_init 15 = .ok (.newarray .boolean, 2) := by decide +kernel
theorem dX5_init_17 : decode cX5_init 17 = .ok (.putfield 15, 3) := by decide +kernel
theorem dX5_init_20 : decode cX5_init 20 = .ok (.aload_n 0, 1) := by decide +kernel
theorem dX5_init_21 : decode cX5_init 21 = .ok (.bipush 18, 2) := by decide +kernel
theorem dX5_init_23 : decode cX5_init 23 = .ok (.newarray .int, 2) := by decide +kernel
theorem dX5_init_25 : decode cX5_init 25 = .ok (.putfield 19, 3) := by decide +kernel
theorem dX5_init_28 : decode cX5_init 28 = .ok (.aload_n 0, 1) := by decide +kernel
theorem dX5_init_29 : decode cX5_init 29 = .ok (.bipush 18, 2) := by decide +kernel
theorem dX5_init_31 : decode cX5_init 31 = .ok (.newarray .boolean, 2) := by decide +kernel
theorem dX5_init_33 : decode cX5_init 33 = .ok (.putfield 22, 3) := by decide +kernel
theorem dX5_init_36 : decode cX5_init 36 = .ok (.return_, 1) := by decide +kernel
theorem dX5_clear_0 : decode cX5_clear 0 = .ok (.aload_n 0, 1) := by decide +kernel
theorem dX5_clear_1 : decode cX5_clear 1 = .ok (.iconst 0, 1) := by decide +kernel
theorem dX5_clear_2 : decode cX5_clear 2 = .ok (.putfield 25, 3) := by decide +kernel
theorem dX5_clear_5 : decode cX5_clear 5 = .ok (.return_, 1) := by decide +kernel
theorem dX5_add_0 : decode cX5_add 0 = .ok (.aload_n 0, 1) := by decide +kernel
theorem dX5_add_1 : decode cX5_add 1 = .ok (.getfield 25, 3) := by decide +kernel
theorem dX5_add_4 : decode cX5_add 4 = .ok (.ifCond .lt 57, 3) := by decide +kernel
theorem dX5_add_7 : decode cX5_add 7 = .ok (.aload_n 0, 1) := by decide +kernel
theorem dX5_add_8 : decode cX5_add 8 = .ok (.getfield 25, 3) := by decide +kernel
theorem dX5_add_11 : decode cX5_add 11 = .ok (.aload_n 0, 1) := by decide +kernel
theorem dX5_add_12 : decode cX5_add 12 = .ok (.getfield 9, 3) := by decide +kernel
theorem dX5_add_15 : decode cX5_add 15 = .ok (.arraylength, 1) := by decide +kernel
theorem dX5_add_16 : decode cX5_add 16 = .ok (.if_icmp .ge 45, 3) := by decide +kernel
theorem dX5_add_19 : decode cX5_add 19 = .ok (.aload_n 0, 1) := by decide +kernel
theorem dX5_add_20 : decode cX5_add 20 = .ok (.getfield 25, 3) := by decide +kernel
theorem dX5_add_23 : decode cX5_add 23 = .ok (.aload_n 0, 1) := by decide +kernel
theorem dX5_add_24 : decode cX5_add 24 = .ok (.getfield 15, 3) := by decide +kernel
theorem dX5_add_27 : decode cX5_add 27 = .ok (.arraylength, 1) := by decide +kernel
theorem dX5_add_28 : decode cX5_add 28 = .ok (.if_icmp .ge 33, 3) := by decide +kernel
theorem dX5_add_31 : decode cX5_add 31 = .ok (.aload_n 0, 1) := by decide +kernel
theorem dX5_add_32 : decode cX5_add 32 = .ok (.getfield 9, 3) := by decide +kernel
theorem dX5_add_35 : decode cX5_add 35 = .ok (.aload_n 0, 1) := by decide +kernel
theorem dX5_add_36 : decode cX5_add 36 = .ok (.getfield 25, 3) := by decide +kernel
theorem dX5_add_39 : decode cX5_add 39 = .ok (.iload_n 1, 1) := by decide +kernel
theorem dX5_add_40 : decode cX5_add 40 = .ok (.iastore, 1) := by decide +kernel
theorem dX5_add_41 : decode cX5_add 41 = .ok (.aload_n 0, 1) := by decide +kernel
theorem dX5_add_42 : decode cX5_add 42 = .ok (.getfield 15, 3) := by decide +kernel
theorem dX5_add_45 : decode cX5_add 45 = .ok (.aload_n 0, 1) := by decide +kernel
theorem dX5_add_46 : decode cX5_add 46 = .ok (.getfield 25, 3) := by decide +kernel
theorem dX5_add_49 : decode cX5_add 49 = .ok (.iload_n 2, 1) := by decide +kernel
theorem dX5_add_50 : decode cX5_add 50 = .ok (.bastore, 1) := by decide +kernel
theorem dX5_add_51 : decode cX5_add 51 = .ok (.aload_n 0, 1) := by decide +kernel
theorem dX5_add_52 : decode cX5_add 52 = .ok (.dup, 1) := by decide +kernel
theorem dX5_add_53 : decode cX5_add 53 = .ok (.getfield 25, 3) := by decide +kernel
theorem dX5_add_56 : decode cX5_add 56 = .ok (.iconst 1, 1) := by decide +kernel
theorem dX5_add_57 : decode cX5_add 57 = .ok (.iadd, 1) := by decide +kernel
theorem dX5_add_58 : decode cX5_add 58 = .ok (.putfield 25, 3) := by decide +kernel
theorem dX5_add_61 : decode cX5_add 61 = .ok (.return_, 1) := by decide +kernel
theorem dX5_size_0 : decode cX5_size 0 = .ok (.aload_n 0, 1) := by decide +kernel
theorem dX5_size_1 : decode cX5_size 1 = .ok (.getfield 25, 3) := by decide +kernel
theorem dX5_size_4 : decode cX5_size 4 = .ok (.ireturn, 1) := by decide +kernel
theorem dX5_has_0 : decode cX5_has 0 = .ok (.iload_n 1, 1) := by decide +kernel
theorem dX5_has_1 : decode cX5_has 1 = .ok (.ifCond .lt 15, 3) := by decide +kernel
theorem dX5_has_4 : decode cX5_has 4 = .ok (.iload_n 1, 1) := by decide +kernel
theorem dX5_has_5 : decode cX5_has 5 = .ok (.aload_n 0, 1) := by decide +kernel
theorem dX5_has_6 : decode cX5_has 6 = .ok (.getfield 25, 3) := by decide +kernel
theorem dX5_has_9 : decode cX5_has 9 = .ok (.if_icmp .ge 7, 3) := by decide +kernel
theorem dX5_has_12 : decode cX5_has 12 = .ok (.iconst 1, 1) := by decide +kernel
theorem dX5_has_13 : decode cX5_has 13 = .ok (.goto 4, 3) := by decide +kernel
theorem dX5_has_16 : decode cX5_has 16 = .ok (.iconst 0, 1) := by decide +kernel
theorem dX5_has_17 : decode cX5_has 17 = .ok (.ireturn, 1) := by decide +kernel
