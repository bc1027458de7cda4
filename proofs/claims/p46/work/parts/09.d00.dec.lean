theorem dX0_init_0 : decode cX0_init 0 = .ok (.aload_n 0, 1) := by decide +kernel
theorem dX0_init_1 : decode cX0_init 1 = .ok (.invokespecial 3, 3) := by decide +kernel
theorem dX0_init_4 : decode cX0_init 4 = .ok (.aload_n 0, 1) := by decide +kernel
theorem dX0_init_5 : decode cX0_init 5 = .ok (.bipush 25, 2) := by decide +kernel
theorem dX0_init_7 : decode cX0_init 7 = .ok (.newarray .int, 2) := by decide +kernel
theorem dX0_init_9 : decode cX0_init 9 = .ok (.putfield 9, 3) := by decide +kernel
theorem dX0_init_12 : decode cX0_init 12 = .ok (.aload_n 0, 1) := by decide +kernel
theorem dX0_init_13 : decode cX0_init 13 = .ok (.iconst 3, 1) := by decide +kernel
theorem dX0_init_14 : decode cX0_init 14 = .ok (.iconst 3, 1) := by decide +kernel
theorem dX0_init_15 : decode cX0_init 15 = .ok (.iconst 1, 1) := by decide +kernel
theorem dX0_init_16 : decode cX0_init 16 = .ok (.invokevirtual 15, 3) := by decide +kernel
theorem dX0_init_19 : decode cX0_init 19 = .ok (.return_, 1) := by decide +kernel
theorem dX0_lay_0 : decode cX0_lay 0 = .ok (.aload_n 0, 1) := by decide +kernel
theorem dX0_lay_1 : decode cX0_lay 1 = .ok (.iload_n 1, 1) := by decide +kernel
theorem dX0_lay_2 : decode cX0_lay 2 = .ok (.putfield 19, 3) := by decide +kernel
theorem dX0_lay_5 : decode cX0_lay 5 = .ok (.aload_n 0, 1) := by decide +kernel
theorem dX0_lay_6 : decode cX0_lay 6 = .ok (.iload_n 2, 1) := by decide +kernel
theorem dX0_lay_7 : decode cX0_lay 7 = .ok (.putfield 23, 3) := by decide +kernel
theorem dX0_lay_10 : decode cX0_lay 10 = .ok (.aload_n 0, 1) := by decide +kernel
theorem dX0_lay_11 : decode cX0_lay 11 = .ok (.iconst 0, 1) := by decide +kernel
theorem dX0_lay_12 : decode cX0_lay 12 = .ok (.putfield 26, 3) := by decide +kernel
theorem dX0_lay_15 : decode cX0_lay 15 = .ok (.aload_n 0, 1) := by decide +kernel
theorem dX0_lay_16 : decode cX0_lay 16 = .ok (.getfield 19, 3) := by decide +kernel
theorem dX0_lay_19 : decode cX0_lay 19 = .ok (.aload_n 0, 1) := by decide +kernel
theorem dX0_lay_20 : decode cX0_lay 20 = .ok (.getfield 23, 3) := by decide +kernel
theorem dX0_lay_23 : decode cX0_lay 23 = .ok (.imul, 1) := by decide +kernel
theorem dX0_lay_24 : decode cX0_lay 24 = .ok (.istore 4, 2) := by decide +kernel
theorem dX0_lay_26 : decode cX0_lay 26 = .ok (.iload_n 3, 1) := by decide +kernel
theorem dX0_lay_27 : decode cX0_lay 27 = .ok (.aload_n 0, 1) := by decide +kernel
theorem dX0_lay_28 : decode cX0_lay 28 = .ok (.getfield 19, 3) := by decide +kernel
theorem dX0_lay_31 : decode cX0_lay 31 = .ok (.imul, 1) := by decide +kernel
theorem dX0_lay_32 : decode cX0_lay 32 = .ok (.istore 5, 2) := by decide +kernel
theorem dX0_lay_34 : decode cX0_lay 34 = .ok (.iconst 0, 1) := by decide +kernel
theorem dX0_lay_35 : decode cX0_lay 35 = .ok (.istore 6, 2) := by decide +kernel
theorem dX0_lay_37 : decode cX0_lay 37 = .ok (.iload 6, 2) := by decide +kernel
theorem dX0_lay_39 : decode cX0_lay 39 = .ok (.aload_n 0, 1) := by decide +kernel
theorem dX0_lay_40 : decode cX0_lay 40 = .ok (.getfield 9, 3) := by decide +kernel
theorem dX0_lay_43 : decode cX0_lay 43 = .ok (.arraylength, 1) := by decide +kernel
theorem dX0_lay_44 : decode cX0_lay 44 = .ok (.if_icmp .ge 73, 3) := by decide +kernel
theorem dX0_lay_47 : decode cX0_lay 47 = .ok (.iload 6, 2) := by decide +kernel
theorem dX0_lay_49 : decode cX0_lay 49 = .ok (.iload 5, 2) := by decide +kernel
theorem dX0_lay_51 : decode cX0_lay 51 = .ok (.if_icmp .ge 7, 3) := by decide +kernel
theorem dX0_lay_54 : decode cX0_lay 54 = .ok (.iconst 1, 1) := by decide +kernel
theorem dX0_lay_55 : decode cX0_lay 55 = .ok (.goto 4, 3) := by decide +kernel
theorem dX0_lay_58 : decode cX0_lay 58 = .ok (.iconst 0, 1) := by decide +kernel
theorem dX0_lay_59 : decode cX0_lay 59 = .ok (.istore 7, 2) := by decide +kernel
theorem dX0_lay_61 : decode cX0_lay 61 = .ok (.iload 6, 2) := by decide +kernel
theorem dX0_lay_63 : decode cX0_lay 63 = .ok (.iload 4, 2) := by decide +kernel
theorem dX0_lay_65 : decode cX0_lay 65 = .ok (.iload 5, 2) := by decide +kernel
theorem dX0_lay_67 : decode cX0_lay 67 = .ok (.isub, 1) := by decide +kernel
theorem dX0_lay_68 : decode cX0_lay 68 = .ok (.if_icmp .lt 14, 3) := by decide +kernel
theorem dX0_lay_71 : decode cX0_lay 71 = .ok (.iload 6, 2) := by decide +kernel
theorem dX0_lay_73 : decode cX0_lay 73 = .ok (.iload 4, 2) := by decide +kernel
theorem dX0_lay_75 : decode cX0_lay 75 = .ok (.if_icmp .ge 7, 3) := by decide +kernel
theorem dX0_lay_78 : decode cX0_lay 78 = .ok (.iconst 1, 1) := by decide +kernel
theorem dX0_lay_79 : decode cX0_lay 79 = .ok (.goto 4, 3) := by decide +kernel
theorem dX0_lay_82 : decode cX0_lay 82 = .ok (.iconst 0, 1) := by decide +kernel
theorem dX0_lay_83 : decode cX0_lay 83 = .ok (.istore 8, 2) := by decide +kernel
theorem dX0_lay_85 : decode cX0_lay 85 = .ok (.aload_n 0, 1) := by decide +kernel
theorem dX0_lay_86 : decode cX0_lay 86 = .ok (.getfield 9, 3) := by decide +kernel
theorem dX0_lay_89 : decode cX0_lay 89 = .ok (.iload 6, 2) := by decide +kernel
theorem dX0_lay_91 : decode cX0_lay 91 = .ok (.iload 7, 2) := by decide +kernel
theorem dX0_lay_93 : decode cX0_lay 93 = .ok (.ifCond .eq 7, 3) := by decide +kernel
theorem dX0_lay_96 : decode cX0_lay 96 = .ok (.iconst 1, 1) := by decide +kernel
theorem dX0_lay_97 : decode cX0_lay 97 = .ok (.goto 13, 3) := by decide +kernel
theorem dX0_lay_100 : decode cX0_lay 100 = .ok (.iload 8, 2) := by decide +kernel
theorem dX0_lay_102 : decode cX0_lay 102 = .ok (.ifCond .eq 7, 3) := by decide +kernel
theorem dX0_lay_105 : decode cX0_lay 105 = .ok (.iconst 2, 1) := by decide +kernel
theorem dX0_lay_106 : decode cX0_lay 106 = .ok (.goto 4, 3) := by decide +kernel
theorem dX0_lay_109 : decode cX0_lay 109 = .ok (.iconst 0, 1) := by decide +kernel
theorem dX0_lay_110 : decode cX0_lay 110 = .ok (.iastore, 1) := by decide +kernel
theorem dX0_lay_111 : decode cX0_lay 111 = .ok (.iinc 6 1, 3) := by decide +kernel
theorem dX0_lay_114 : decode cX0_lay 114 = .ok (.goto (-77), 3) := by decide +kernel
theorem dX0_lay_117 : decode cX0_lay 117 = .ok (.return_, 1) := by decide +kernel
theorem dX0_layOn_0 : decode cX0_layOn 0 = .ok (.aload_n 0, 1) := by decide +kernel
theorem dX0_layOn_1 : decode cX0_layOn 1 = .ok (.iload_n 1, 1) := by decide +kernel
theorem dX0_layOn_2 : decode cX0_layOn 2 = .ok (.invokevirtual 29, 3) := by decide +kernel
theorem dX0_layOn_5 : decode cX0_layOn 5 = .ok (.ifCond .eq 10, 3) := by decide +kernel
theorem dX0_layOn_8 : decode cX0_layOn 8 = .ok (.aload_n 0, 1) := by decide +kernel
theorem dX0_layOn_9 : decode cX0_layOn 9 = .ok (.getfield 9, 3) := by decide +kernel
theorem dX0_layOn_12 : decode cX0_layOn 12 = .ok (.iload_n 1, 1) := by decide +kernel
theorem dX0_layOn_13 : decode cX0_layOn 13 = .ok (.iload_n 2, 1) := by decide +kernel
theorem dX0_layOn_14 : decode cX0_layOn 14 = .ok (.iastore, 1) := by decide +kernel
theorem dX0_layOn_15 : decode cX0_layOn 15 = .ok (.return_, 1) := by decide +kernel
theorem dX0_turnTo_0 : decode cX0_turnTo 0 = .ok (.aload_n 0, 1) := by decide +kernel
theorem dX0_turnTo_1 : decode cX0_turnTo 1 = .ok (.iload_n 1, 1) := by decide +kernel
theorem dX0_turnTo_2 : decode cX0_turnTo 2 = .ok (.putfield 26, 3) := by decide +kernel
theorem dX0_turnTo_5 : decode cX0_turnTo 5 = .ok (.return_, 1) := by decide +kernel
theorem dX0_width_0 : decode cX0_width 0 = .ok (.aload_n 0, 1) := by decide +kernel
theorem dX0_width_1 : decode cX0_width 1 = .ok (.getfield 19, 3) := by decide +kernel
theorem dX0_width_4 : decode cX0_width 4 = .ok (.ireturn, 1) := by decide +kernel
theorem dX0_height_0 : decode cX0_height 0 = .ok (.aload_n 0, 1) := by decide +kernel
theorem dX0_height_1 : decode cX0_height 1 = .ok (.getfield 23, 3) := by decide +kernel
theorem dX0_height_4 : decode cX0_height 4 = .ok (.ireturn, 1) := by decide +kernel
theorem dX0_mover_0 : decode cX0_mover 0 = .ok (.aload_n 0, 1) := by decide +kernel
theorem dX0_mover_1 : decode cX0_mover 1 = .ok (.getfield 26, 3) := by decide +kernel
theorem dX0_mover_4 : decode cX0_mover 4 = .ok (.ireturn, 1) := by decide +kernel
theorem dX0_countFields_0 : decode cX0_countFields 0 = .ok (.aload_n 0, 1) := by decide +kernel
theorem dX0_countFields_1 : decode cX0_countFields 1 = .ok (.getfield 19, 3) := by decide +kernel
theorem dX0_countFields_4 : decode cX0_countFields 4 = .ok (.aload_n 0, 1) := by decide +kernel
theorem dX0_countFields_5 : decode cX0_countFields 5 = .ok (.getfield 23, 3) := by decide +kernel
theorem dX0_countFields_8 : decode cX0_countFields 8 = .ok (.imul, 1) := by decide +kernel
theorem dX0_countFields_9 : decode cX0_countFields 9 = .ok (.ireturn, 1) := by decide +kernel
theorem dX0_isField_0 : decode cX0_isField 0 = .ok (.iload_n 1, 1) := by decide +kernel
theorem dX0_isField_1 : decode cX0_isField 1 = .ok (.ifCond .lt 29, 3) := by decide +kernel
theorem dX0_isField_4 : decode cX0_isField 4 = .ok (.iload_n 1, 1) := by decide +kernel
theorem dX0_isField_5 : decode cX0_isField 5 = .ok (.aload_n 0, 1) := by decide +kernel
theorem dX0_isField_6 : decode cX0_isField 6 = .ok (.getfield 19, 3) := by decide +kernel
theorem dX0_isField_9 : decode cX0_isField 9 = .ok (.aload_n 0, 1) := by decide +kernel
theorem dX0_isField_10 : decode cX0_isField 10 = .ok (.getfield 23, 3) := by decide +kernel
theorem dX0_isField_13 : decode cX0_isField 13 = .ok (.imul, 1) := by decide +kernel
theorem dX0_isField_14 : decode cX0_isField 14 = .ok (.if_icmp .ge 16, 3) := by decide +kernel
theorem dX0_isField_17 : decode cX0_isField 17 = .ok (.iload_n 1, 1) := by decide +kernel
theorem dX0_isField_18 : decode cX0_isField 18 = .ok (.aload_n 0, 1) := by decide +kernel
theorem dX0_isField_19 : decode cX0_isField 19 = .ok (.getfield 9, 3) := by decide +kernel
theorem dX0_isField_22 : decode cX0_isField 22 = .ok (.arraylength, 1) := by decide +kernel
theorem dX0_isField_23 : decode cX0_isField 23 = .ok (.if_icmp .ge 7, 3) := by decide +kernel
theorem dX0_isField_26 : decode cX0_isField 26 = .ok (.iconst 1, 1) := by decide +kernel
theorem dX0_isField_27 : decode cX0_isField 27 = .ok (.goto 4, 3) := by decide +kernel
theorem dX0_isField_30 : decode cX0_isField 30 = .ok (.iconst 0, 1) := by decide +kernel
theorem dX0_isField_31 : decode cX0_isField 31 = .ok (.ireturn, 1) := by decide +kernel
theorem dX0_pawnAt_0 : decode cX0_pawnAt 0 = .ok (.iload_n 1, 1) := by decide +kernel
theorem dX0_pawnAt_1 : decode cX0_pawnAt 1 = .ok (.ifCond .lt 21, 3) := by decide +kernel
theorem dX0_pawnAt_4 : decode cX0_pawnAt 4 = .ok (.iload_n 1, 1) := by decide +kernel
theorem dX0_pawnAt_5 : decode cX0_pawnAt 5 = .ok (.aload_n 0, 1) := by decide +kernel
theorem dX0_pawnAt_6 : decode cX0_pawnAt 6 = .ok (.getfield 9, 3) := by decide +kernel
theorem dX0_pawnAt_9 : decode cX0_pawnAt 9 = .ok (.arraylength, 1) := by decide +kernel
theorem dX0_pawnAt_10 : decode cX0_pawnAt 10 = .ok (.if_icmp .ge 12, 3) := by decide +kernel
theorem dX0_pawnAt_13 : decode cX0_pawnAt 13 = .ok (.aload_n 0, 1) := by decide +kernel
theorem dX0_pawnAt_14 : decode cX0_pawnAt 14 = .ok (.getfield 9, 3) := by decide +kernel
theorem dX0_pawnAt_17 : decode cX0_pawnAt 17 = .ok (.iload_n 1, 1) := by decide +kernel
theorem dX0_pawnAt_18 : decode cX0_pawnAt 18 = .ok (.iaload, 1) := by decide +kernel
theorem dX0_pawnAt_19 : decode cX0_pawnAt 19 = .ok (.goto 4, 3) := by decide +kernel
theorem dX0_pawnAt_22 : decode cX0_pawnAt 22 = .ok (.iconst 0, 1) := by decide +kernel
theorem dX0_pawnAt_23 : decode cX0_pawnAt 23 = .ok (.ireturn, 1) := by decide +kernel
theorem dX0_countPawns_0 : decode cX0_countPawns 0 = .ok (.iconst 0, 1) := by decide +kernel
theorem dX0_countPawns_1 : decode cX0_countPawns 1 = .ok (.istore_n 2, 1) := by decide +kernel
theorem dX0_countPawns_2 : decode cX0_countPawns 2 = .ok (.iconst 0, 1) := by decide +kernel
theorem dX0_countPawns_3 : decode cX0_countPawns 3 = .ok (.istore_n 3, 1) := by decide +kernel
theorem dX0_countPawns_4 : decode cX0_countPawns 4 = .ok (.iload_n 3, 1) := by decide +kernel
theorem dX0_countPawns_5 : decode cX0_countPawns 5 = .ok (.aload_n 0, 1) := by decide +kernel
theorem dX0_countPawns_6 : decode cX0_countPawns 6 = .ok (.getfield 9, 3) := by decide +kernel
theorem dX0_countPawns_9 : decode cX0_countPawns 9 = .ok (.arraylength, 1) := by decide +kernel
theorem dX0_countPawns_10 : decode cX0_countPawns 10 = .ok (.if_icmp .ge 22, 3) := by decide +kernel
theorem dX0_countPawns_13 : decode cX0_countPawns 13 = .ok (.aload_n 0, 1) := by decide +kernel
theorem dX0_countPawns_14 : decode cX0_countPawns 14 = .ok (.getfield 9, 3) := by decide +kernel
theorem dX0_countPawns_17 : decode cX0_countPawns 17 = .ok (.iload_n 3, 1) := by decide +kernel
theorem dX0_countPawns_18 : decode cX0_countPawns 18 = .ok (.iaload, 1) := by decide +kernel
theorem dX0_countPawns_19 : decode cX0_countPawns 19 = .ok (.iload_n 1, 1) := by decide +kernel
theorem dX0_countPawns_20 : decode cX0_countPawns 20 = .ok (.if_icmp .ne 6, 3) := by decide +kernel
theorem dX0_countPawns_23 : decode cX0_countPawns 23 = .ok (.iinc 2 1, 3) := by decide +kernel
theorem dX0_countPawns_26 : decode cX0_countPawns 26 = .ok (.iinc 3 1, 3) := by decide +kernel
theorem dX0_countPawns_29 : decode cX0_countPawns 29 = .ok (.goto (-25), 3) := by decide +kernel
theorem dX0_countPawns_32 : decode cX0_countPawns 32 = .ok (.iload_n 2, 1) := by decide +kernel
theorem dX0_countPawns_33 : decode cX0_countPawns 33 = .ok (.ireturn, 1) := by decide +kernel
theorem dX0_keyNumber_0 : decode cX0_keyNumber 0 = .ok (.lconst 0, 1) := by decide +kernel
theorem dX0_keyNumber_1 : decode cX0_keyNumber 1 = .ok (.lstore_n 1, 1) := by decide +kernel
theorem dX0_keyNumber_2 : decode cX0_keyNumber 2 = .ok (.aload_n 0, 1) := by decide +kernel
theorem dX0_keyNumber_3 : decode cX0_keyNumber 3 = .ok (.getfield 19, 3) := by decide +kernel
theorem dX0_keyNumber_6 : decode cX0_keyNumber 6 = .ok (.aload_n 0, 1) := by decide +kernel
theorem dX0_keyNumber_7 : decode cX0_keyNumber 7 = .ok (.getfield 23, 3) := by decide +kernel
theorem dX0_keyNumber_10 : decode cX0_keyNumber 10 = .ok (.imul, 1) := by decide +kernel
theorem dX0_keyNumber_11 : decode cX0_keyNumber 11 = .ok (.istore_n 3, 1) := by decide +kernel
theorem dX0_keyNumber_12 : decode cX0_keyNumber 12 = .ok (.iconst 0, 1) := by decide +kernel
theorem dX0_keyNumber_13 : decode cX0_keyNumber 13 = .ok (.istore 4, 2) := by decide +kernel
theorem dX0_keyNumber_15 : decode cX0_keyNumber 15 = .ok (.iload 4, 2) := by decide +kernel
theorem dX0_keyNumber_17 : decode cX0_keyNumber 17 = .ok (.iload_n 3, 1) := by decide +kernel
theorem dX0_keyNumber_18 : decode cX0_keyNumber 18 = .ok (.if_icmp .ge 34, 3) := by decide +kernel
theorem dX0_keyNumber_21 : decode cX0_keyNumber 21 = .ok (.iload 4, 2) := by decide +kernel
theorem dX0_keyNumber_23 : decode cX0_keyNumber 23 = .ok (.aload_n 0, 1) := by decide +kernel
theorem dX0_keyNumber_24 : decode cX0_keyNumber 24 = .ok (.getfield 9, 3) := by decide +kernel
theorem dX0_keyNumber_27 : decode cX0_keyNumber 27 = .ok (.arraylength, 1) := by decide +kernel
theorem dX0_keyNumber_28 : decode cX0_keyNumber 28 = .ok (.if_icmp .ge 24, 3) := by decide +kernel
theorem dX0_keyNumber_31 : decode cX0_keyNumber 31 = .ok (.lload_n 1, 1) := by decide +kernel
theorem dX0_keyNumber_32 : decode cX0_keyNumber 32 = .ok (.ldc2_w 33, 3) := by decide +kernel
theorem dX0_keyNumber_35 : decode cX0_keyNumber 35 = .ok (.lmul, 1) := by decide +kernel
theorem dX0_keyNumber_36 : decode cX0_keyNumber 36 = .ok (.aload_n 0, 1) := by decide +kernel
theorem dX0_keyNumber_37 : decode cX0_keyNumber 37 = .ok (.getfield 9, 3) := by decide +kernel
theorem dX0_keyNumber_40 : decode cX0_keyNumber 40 = .ok (.iload 4, 2) := by decide +kernel
theorem dX0_keyNumber_42 : decode cX0_keyNumber 42 = .ok (.iaload, 1) := by decide +kernel
theorem dX0_keyNumber_43 : decode cX0_keyNumber 43 = .ok (.i2l, 1) := by decide +kernel
theorem dX0_keyNumber_44 : decode cX0_keyNumber 44 = .ok (.ladd, 1) := by decide +kernel
theorem dX0_keyNumber_45 : decode cX0_keyNumber 45 = .ok (.lstore_n 1, 1) := by decide +kernel
theorem dX0_keyNumber_46 : decode cX0_keyNumber 46 = .ok (.iinc 4 1, 3) := by decide +kernel
theorem dX0_keyNumber_49 : decode cX0_keyNumber 49 = .ok (.goto (-34), 3) := by decide +kernel
theorem dX0_keyNumber_52 : decode cX0_keyNumber 52 = .ok (.lload_n 1, 1) := by decide +kernel
theorem dX0_keyNumber_53 : decode cX0_keyNumber 53 = .ok (.ldc2_w 35, 3) := by decide +kernel
theorem dX0_keyNumber_56 : decode cX0_keyNumber 56 = .ok (.lmul, 1) := by decide +kernel
theorem dX0_keyNumber_57 : decode cX0_keyNumber 57 = .ok (.aload_n 0, 1) := by decide +kernel
theorem dX0_keyNumber_58 : decode cX0_keyNumber 58 = .ok (.getfield 26, 3) := by decide +kernel
theorem dX0_keyNumber_61 : decode cX0_keyNumber 61 = .ok (.i2l, 1) := by decide +kernel
theorem dX0_keyNumber_62 : decode cX0_keyNumber 62 = .ok (.ladd, 1) := by decide +kernel
theorem dX0_keyNumber_63 : decode cX0_keyNumber 63 = .ok (.lreturn, 1) := by decide +kernel
theorem dX0_advance_0 : decode cX0_advance 0 = .ok (.iload_n 1, 1) := by decide +kernel
theorem dX0_advance_1 : decode cX0_advance 1 = .ok (.invokestatic 37, 3) := by decide +kernel
theorem dX0_advance_4 : decode cX0_advance 4 = .ok (.istore_n 2, 1) := by decide +kernel
theorem dX0_advance_5 : decode cX0_advance 5 = .ok (.iload_n 1, 1) := by decide +kernel
theorem dX0_advance_6 : decode cX0_advance 6 = .ok (.invokestatic 41, 3) := by decide +kernel
theorem dX0_advance_9 : decode cX0_advance 9 = .ok (.istore_n 3, 1) := by decide +kernel
theorem dX0_advance_10 : decode cX0_advance 10 = .ok (.aload_n 0, 1) := by decide +kernel
theorem dX0_advance_11 : decode cX0_advance 11 = .ok (.iload_n 2, 1) := by decide +kernel
theorem dX0_advance_12 : decode cX0_advance 12 = .ok (.invokevirtual 29, 3) := by decide +kernel
theorem dX0_advance_15 : decode cX0_advance 15 = .ok (.ifCond .eq 11, 3) := by decide +kernel
theorem dX0_advance_18 : decode cX0_advance 18 = .ok (.aload_n 0, 1) := by decide +kernel
theorem dX0_advance_19 : decode cX0_advance 19 = .ok (.iload_n 3, 1) := by decide +kernel
theorem dX0_advance_20 : decode cX0_advance 20 = .ok (.invokevirtual 29, 3) := by decide +kernel
theorem dX0_advance_23 : decode cX0_advance 23 = .ok (.ifCond .ne 5, 3) := by decide +kernel
theorem dX0_advance_26 : decode cX0_advance 26 = .ok (.iconst 0, 1) := by decide +kernel
theorem dX0_advance_27 : decode cX0_advance 27 = .ok (.ireturn, 1) := by decide +kernel
theorem dX0_advance_28 : decode cX0_advance 28 = .ok (.aload_n 0, 1) := by decide +kernel
theorem dX0_advance_29 : decode cX0_advance 29 = .ok (.getfield 9, 3) := by decide +kernel
theorem dX0_advance_32 : decode cX0_advance 32 = .ok (.iload_n 3, 1) := by decide +kernel
theorem dX0_advance_33 : decode cX0_advance 33 = .ok (.iaload, 1) := by decide +kernel
theorem dX0_advance_34 : decode cX0_advance 34 = .ok (.istore 4, 2) := by decide +kernel
theorem dX0_advance_36 : decode cX0_advance 36 = .ok (.aload_n 0, 1) := by decide +kernel
theorem dX0_advance_37 : decode cX0_advance 37 = .ok (.getfield 9, 3) := by decide +kernel
theorem dX0_advance_40 : decode cX0_advance 40 = .ok (.iload_n 3, 1) := by decide +kernel
theorem dX0_advance_41 : decode cX0_advance 41 = .ok (.aload_n 0, 1) := by decide +kernel
theorem dX0_advance_42 : decode cX0_advance 42 = .ok (.getfield 9, 3) := by decide +kernel
theorem dX0_advance_45 : decode cX0_advance 45 = .ok (.iload_n 2, 1) := by decide +kernel
theorem dX0_advance_46 : decode cX0_advance 46 = .ok (.iaload, 1) := by decide +kernel
theorem dX0_advance_47 : decode cX0_advance 47 = .ok (.iastore, 1) := by decide +kernel
theorem dX0_advance_48 : decode cX0_advance 48 = .ok (.aload_n 0, 1) := by decide +kernel
theorem dX0_advance_49 : decode cX0_advance 49 = .ok (.getfield 9, 3) := by decide +kernel
theorem dX0_advance_52 : decode cX0_advance 52 = .ok (.iload_n 2, 1) := by decide +kernel
theorem dX0_advance_53 : decode cX0_advance 53 = .ok (.iconst 0, 1) := by decide +kernel
theorem dX0_advance_54 : decode cX0_advance 54 = .ok (.iastore, 1) := by decide +kernel
theorem dX0_advance_55 : decode cX0_advance 55 = .ok (.aload_n 0, 1) := by decide +kernel
theorem dX0_advance_56 : decode cX0_advance 56 = .ok (.iconst 1, 1) := by decide +kernel
theorem dX0_advance_57 : decode cX0_advance 57 = .ok (.aload_n 0, 1) := by decide +kernel
theorem dX0_advance_58 : decode cX0_advance 58 = .ok (.getfield 26, 3) := by decide +kernel
theorem dX0_advance_61 : decode cX0_advance 61 = .ok (.isub, 1) := by decide +kernel
theorem dX0_advance_62 : decode cX0_advance 62 = .ok (.putfield 26, 3) := by decide +kernel
theorem dX0_advance_65 : decode cX0_advance 65 = .ok (.iload 4, 2) := by decide +kernel
theorem dX0_advance_67 : decode cX0_advance 67 = .ok (.ireturn, 1) := by decide +kernel
theorem dX0_retreat_0 : decode cX0_retreat 0 = .ok (.iload_n 1, 1) := by decide +kernel
theorem dX0_retreat_1 : decode cX0_retreat 1 = .ok (.invokestatic 37, 3) := by decide +kernel
theorem dX0_retreat_4 : decode cX0_retreat 4 = .ok (.istore_n 3, 1) := by decide +kernel
theorem dX0_retreat_5 : decode cX0_retreat 5 = .ok (.iload_n 1, 1) := by decide +kernel
theorem dX0_retreat_6 : decode cX0_retreat 6 = .ok (.invokestatic 41, 3) := by decide +kernel
theorem dX0_retreat_9 : decode cX0_retreat 9 = .ok (.istore 4, 2) := by decide +kernel
theorem dX0_retreat_11 : decode cX0_retreat 11 = .ok (.aload_n 0, 1) := by decide +kernel
theorem dX0_retreat_12 : decode cX0_retreat 12 = .ok (.iload_n 3, 1) := by decide +kernel
theorem dX0_retreat_13 : decode cX0_retreat 13 = .ok (.invokevirtual 29, 3) := by decide +kernel
theorem dX0_retreat_16 : decode cX0_retreat 16 = .ok (.ifCond .eq 43, 3) := by decide +kernel
theorem dX0_retreat_19 : decode cX0_retreat 19 = .ok (.aload_n 0, 1) := by decide +kernel
theorem dX0_retreat_20 : decode cX0_retreat 20 = .ok (.iload 4, 2) := by decide +kernel
theorem dX0_retreat_22 : decode cX0_retreat 22 = .ok (.invokevirtual 29, 3) := by decide +kernel
theorem dX0_retreat_25 : decode cX0_retreat 25 = .ok (.ifCond .eq 34, 3) := by decide +kernel
theorem dX0_retreat_28 : decode cX0_retreat 28 = .ok (.aload_n 0, 1) := by decide +kernel
theorem dX0_retreat_29 : decode cX0_retreat 29 = .ok (.getfield 9, 3) := by decide +kernel
theorem dX0_retreat_32 : decode cX0_retreat 32 = .ok (.iload_n 3, 1) := by decide +kernel
theorem dX0_retreat_33 : decode cX0_retreat 33 = .ok (.aload_n 0, 1) := by decide +kernel
theorem dX0_retreat_34 : decode cX0_retreat 34 = .ok (.getfield 9, 3) := by decide +kernel
theorem dX0_retreat_37 : decode cX0_retreat 37 = .ok (.iload 4, 2) := by decide +kernel
theorem dX0_retreat_39 : decode cX0_retreat 39 = .ok (.iaload, 1) := by decide +kernel
theorem dX0_retreat_40 : decode cX0_retreat 40 = .ok (.iastore, 1) := by decide +kernel
theorem dX0_retreat_41 : decode cX0_retreat 41 = .ok (.aload_n 0, 1) := by decide +kernel
theorem dX0_retreat_42 : decode cX0_retreat 42 = .ok (.getfield 9, 3) := by decide +kernel
theorem dX0_retreat_45 : decode cX0_retreat 45 = .ok (.iload 4, 2) := by decide +kernel
theorem dX0_retreat_47 : decode cX0_retreat 47 = .ok (.iload_n 2, 1) := by decide +kernel
theorem dX0_retreat_48 : decode cX0_retreat 48 = .ok (.iastore, 1) := by decide +kernel
theorem dX0_retreat_49 : decode cX0_retreat 49 = .ok (.aload_n 0, 1) := by decide +kernel
theorem dX0_retreat_50 : decode cX0_retreat 50 = .ok (.iconst 1, 1) := by decide +kernel
theorem dX0_retreat_51 : decode cX0_retreat 51 = .ok (.aload_n 0, 1) := by decide +kernel
theorem dX0_retreat_52 : decode cX0_retreat 52 = .ok (.getfield 26, 3) := by decide +kernel
theorem dX0_retreat_55 : decode cX0_retreat 55 = .ok (.isub, 1) := by decide +kernel
theorem dX0_retreat_56 : decode cX0_retreat 56 = .ok (.putfield 26, 3) := by decide +kernel
theorem dX0_retreat_59 : decode cX0_retreat 59 = .ok (.return_, 1) := by decide +kernel
theorem dX0_listMoves_0 : decode cX0_listMoves 0 = .ok (.aload_n 1, 1) := by decide +kernel
theorem dX0_listMoves_1 : decode cX0_listMoves 1 = .ok (.invokevirtual 44, 3) := by decide +kernel
theorem dX0_listMoves_4 : decode cX0_listMoves 4 = .ok (.aload_n 0, 1) := by decide +kernel
theorem dX0_listMoves_5 : decode cX0_listMoves 5 = .ok (.invokevirtual 49, 3) := by decide +kernel
theorem dX0_listMoves_8 : decode cX0_listMoves 8 = .ok (.ifCond .eq 4, 3) := by decide +kernel
theorem dX0_listMoves_11 : decode cX0_listMoves 11 = .ok (.return_, 1) := by decide +kernel
theorem dX0_listMoves_12 : decode cX0_listMoves 12 = .ok (.iconst 0, 1) := by decide +kernel
theorem dX0_listMoves_13 : decode cX0_listMoves 13 = .ok (.istore_n 2, 1) := by decide +kernel
theorem dX0_listMoves_14 : decode cX0_listMoves 14 = .ok (.iload_n 2, 1) := by decide +kernel
theorem dX0_listMoves_15 : decode cX0_listMoves 15 = .ok (.aload_n 0, 1) := by decide +kernel
theorem dX0_listMoves_16 : decode cX0_listMoves 16 = .ok (.getfield 23, 3) := by decide +kernel
theorem dX0_listMoves_19 : decode cX0_listMoves 19 = .ok (.if_icmp .ge 53, 3) := by decide +kernel
theorem dX0_listMoves_22 : decode cX0_listMoves 22 = .ok (.iconst 0, 1) := by decide +kernel
theorem dX0_listMoves_23 : decode cX0_listMoves 23 = .ok (.istore_n 3, 1) := by decide +kernel
theorem dX0_listMoves_24 : decode cX0_listMoves 24 = .ok (.iload_n 3, 1) := by decide +kernel
theorem dX0_listMoves_25 : decode cX0_listMoves 25 = .ok (.aload_n 0, 1) := by decide +kernel
theorem dX0_listMoves_26 : decode cX0_listMoves 26 = .ok (.getfield 19, 3) := by decide +kernel
theorem dX0_listMoves_29 : decode cX0_listMoves 29 = .ok (.if_icmp .ge 37, 3) := by decide +kernel
theorem dX0_listMoves_32 : decode cX0_listMoves 32 = .ok (.aload_n 0, 1) := by decide +kernel
theorem dX0_listMoves_33 : decode cX0_listMoves 33 = .ok (.iload_n 2, 1) := by decide +kernel
theorem dX0_listMoves_34 : decode cX0_listMoves 34 = .ok (.aload_n 0, 1) := by decide +kernel
theorem dX0_listMoves_35 : decode cX0_listMoves 35 = .ok (.getfield 19, 3) := by decide +kernel
theorem dX0_listMoves_38 : decode cX0_listMoves 38 = .ok (.imul, 1) := by decide +kernel
theorem dX0_listMoves_39 : decode cX0_listMoves 39 = .ok (.iload_n 3, 1) := by decide +kernel
theorem dX0_listMoves_40 : decode cX0_listMoves 40 = .ok (.iadd, 1) := by decide +kernel
theorem dX0_listMoves_41 : decode cX0_listMoves 41 = .ok (.invokevirtual 53, 3) := by decide +kernel
theorem dX0_listMoves_44 : decode cX0_listMoves 44 = .ok (.aload_n 0, 1) := by decide +kernel
theorem dX0_listMoves_45 : decode cX0_listMoves 45 = .ok (.getfield 26, 3) := by decide +kernel
theorem dX0_listMoves_48 : decode cX0_listMoves 48 = .ok (.iconst 1, 1) := by decide +kernel
theorem dX0_listMoves_49 : decode cX0_listMoves 49 = .ok (.iadd, 1) := by decide +kernel
theorem dX0_listMoves_50 : decode cX0_listMoves 50 = .ok (.if_icmp .ne 10, 3) := by decide +kernel
theorem dX0_listMoves_53 : decode cX0_listMoves 53 = .ok (.aload_n 0, 1) := by decide +kernel
theorem dX0_listMoves_54 : decode cX0_listMoves 54 = .ok (.aload_n 1, 1) := by decide +kernel
theorem dX0_listMoves_55 : decode cX0_listMoves 55 = .ok (.iload_n 2, 1) := by decide +kernel
theorem dX0_listMoves_56 : decode cX0_listMoves 56 = .ok (.iload_n 3, 1) := by decide +kernel
theorem dX0_listMoves_57 : decode cX0_listMoves 57 = .ok (.invokevirtual 56, 3) := by decide +kernel
theorem dX0_listMoves_60 : decode cX0_listMoves 60 = .ok (.iinc 3 1, 3) := by decide +kernel
theorem dX0_listMoves_63 : decode cX0_listMoves 63 = .ok (.goto (-39), 3) := by decide +kernel
theorem dX0_listMoves_66 : decode cX0_listMoves 66 = .ok (.iinc 2 1, 3) := by decide +kernel
theorem dX0_listMoves_69 : decode cX0_listMoves 69 = .ok (.goto (-55), 3) := by decide +kernel
theorem dX0_listMoves_72 : decode cX0_listMoves 72 = .ok (.return_, 1) := by decide +kernel
theorem dX0_isOtherThrough_0 : decode cX0_isOtherThrough 0 = .ok (.aload_n 0, 1) := by decide +kernel
theorem dX0_isOtherThrough_1 : decode cX0_isOtherThrough 1 = .ok (.getfield 26, 3) := by decide +kernel
theorem dX0_isOtherThrough_4 : decode cX0_isOtherThrough 4 = .ok (.ifCond .ne 7, 3) := by decide +kernel
theorem dX0_isOtherThrough_7 : decode cX0_isOtherThrough 7 = .ok (.iconst 0, 1) := by decide +kernel
theorem dX0_isOtherThrough_8 : decode cX0_isOtherThrough 8 = .ok (.goto 14, 3) := by decide +kernel
theorem dX0_isOtherThrough_11 : decode cX0_isOtherThrough 11 = .ok (.aload_n 0, 1) := by decide +kernel
theorem dX0_isOtherThrough_12 : decode cX0_isOtherThrough 12 = .ok (.getfield 23, 3) := by decide +kernel
theorem dX0_isOtherThrough_15 : decode cX0_isOtherThrough 15 = .ok (.iconst 1, 1) := by decide +kernel
theorem dX0_isOtherThrough_16 : decode cX0_isOtherThrough 16 = .ok (.isub, 1) := by decide +kernel
theorem dX0_isOtherThrough_17 : decode cX0_isOtherThrough 17 = .ok (.aload_n 0, 1) := by decide +kernel
theorem dX0_isOtherThrough_18 : decode cX0_isOtherThrough 18 = .ok (.getfield 19, 3) := by decide +kernel
theorem dX0_isOtherThrough_21 : decode cX0_isOtherThrough 21 = .ok (.imul, 1) := by decide +kernel
theorem dX0_isOtherThrough_22 : decode cX0_isOtherThrough 22 = .ok (.istore_n 1, 1) := by decide +kernel
theorem dX0_isOtherThrough_23 : decode cX0_isOtherThrough 23 = .ok (.iconst 0, 1) := by decide +kernel
theorem dX0_isOtherThrough_24 : decode cX0_isOtherThrough 24 = .ok (.istore_n 2, 1) := by decide +kernel
theorem dX0_isOtherThrough_25 : decode cX0_isOtherThrough 25 = .ok (.iload_n 2, 1) := by decide +kernel
theorem dX0_isOtherThrough_26 : decode cX0_isOtherThrough 26 = .ok (.aload_n 0, 1) := by decide +kernel
theorem dX0_isOtherThrough_27 : decode cX0_isOtherThrough 27 = .ok (.getfield 19, 3) := by decide +kernel
theorem dX0_isOtherThrough_30 : decode cX0_isOtherThrough 30 = .ok (.if_icmp .ge 27, 3) := by decide +kernel
theorem dX0_isOtherThrough_33 : decode cX0_isOtherThrough 33 = .ok (.aload_n 0, 1) := by decide +kernel
theorem dX0_isOtherThrough_34 : decode cX0_isOtherThrough 34 = .ok (.iload_n 1, 1) := by decide +kernel
theorem dX0_isOtherThrough_35 : decode cX0_isOtherThrough 35 = .ok (.iload_n 2, 1) := by decide +kernel
theorem dX0_isOtherThrough_36 : decode cX0_isOtherThrough 36 = .ok (.iadd, 1) := by decide +kernel
theorem dX0_isOtherThrough_37 : decode cX0_isOtherThrough 37 = .ok (.invokevirtual 53, 3) := by decide +kernel
theorem dX0_isOtherThrough_40 : decode cX0_isOtherThrough 40 = .ok (.iconst 2, 1) := by decide +kernel
theorem dX0_isOtherThrough_41 : decode cX0_isOtherThrough 41 = .ok (.aload_n 0, 1) := by decide +kernel
theorem dX0_isOtherThrough_42 : decode cX0_isOtherThrough 42 = .ok (.getfield 26, 3) := by decide +kernel
theorem dX0_isOtherThrough_45 : decode cX0_isOtherThrough 45 = .ok (.isub, 1) := by decide +kernel
theorem dX0_isOtherThrough_46 : decode cX0_isOtherThrough 46 = .ok (.if_icmp .ne 5, 3) := by decide +kernel
theorem dX0_isOtherThrough_49 : decode cX0_isOtherThrough 49 = .ok (.iconst 1, 1) := by decide +kernel
theorem dX0_isOtherThrough_50 : decode cX0_isOtherThrough 50 = .ok (.ireturn, 1) := by decide +kernel
theorem dX0_isOtherThrough_51 : decode cX0_isOtherThrough 51 = .ok (.iinc 2 1, 3) := by decide +kernel
theorem dX0_isOtherThrough_54 : decode cX0_isOtherThrough 54 = .ok (.goto (-29), 3) := by decide +kernel
theorem dX0_isOtherThrough_57 : decode cX0_isOtherThrough 57 = .ok (.iconst 0, 1) := by decide +kernel
theorem dX0_isOtherThrough_58 : decode cX0_isOtherThrough 58 = .ok (.ireturn, 1) := by decide +kernel
theorem dX0_listSteps_0 : decode cX0_listSteps 0 = .ok (.iload_n 2, 1) := by decide +kernel
theorem dX0_listSteps_1 : decode cX0_listSteps 1 = .ok (.aload_n 0, 1) := by decide +kernel
theorem dX0_listSteps_2 : decode cX0_listSteps 2 = .ok (.getfield 19, 3) := by decide +kernel
theorem dX0_listSteps_5 : decode cX0_listSteps 5 = .ok (.imul, 1) := by decide +kernel
theorem dX0_listSteps_6 : decode cX0_listSteps 6 = .ok (.iload_n 3, 1) := by decide +kernel
theorem dX0_listSteps_7 : decode cX0_listSteps 7 = .ok (.iadd, 1) := by decide +kernel
theorem dX0_listSteps_8 : decode cX0_listSteps 8 = .ok (.istore 4, 2) := by decide +kernel
theorem dX0_listSteps_10 : decode cX0_listSteps 10 = .ok (.aload_n 0, 1) := by decide +kernel
theorem dX0_listSteps_11 : decode cX0_listSteps 11 = .ok (.getfield 26, 3) := by decide +kernel
theorem dX0_listSteps_14 : decode cX0_listSteps 14 = .ok (.ifCond .ne 13, 3) := by decide +kernel
theorem dX0_listSteps_17 : decode cX0_listSteps 17 = .ok (.iload 4, 2) := by decide +kernel
theorem dX0_listSteps_19 : decode cX0_listSteps 19 = .ok (.aload_n 0, 1) := by decide +kernel
theorem dX0_listSteps_20 : decode cX0_listSteps 20 = .ok (.getfield 19, 3) := by decide +kernel
theorem dX0_listSteps_23 : decode cX0_listSteps 23 = .ok (.iadd, 1) := by decide +kernel
theorem dX0_listSteps_24 : decode cX0_listSteps 24 = .ok (.goto 10, 3) := by decide +kernel
theorem dX0_listSteps_27 : decode cX0_listSteps 27 = .ok (.iload 4, 2) := by decide +kernel
theorem dX0_listSteps_29 : decode cX0_listSteps 29 = .ok (.aload_n 0, 1) := by decide +kernel
theorem dX0_listSteps_30 : decode cX0_listSteps 30 = .ok (.getfield 19, 3) := by decide +kernel
theorem dX0_listSteps_33 : decode cX0_listSteps 33 = .ok (.isub, 1) := by decide +kernel
theorem dX0_listSteps_34 : decode cX0_listSteps 34 = .ok (.istore 5, 2) := by decide +kernel
theorem dX0_listSteps_36 : decode cX0_listSteps 36 = .ok (.iconst (-1), 1) := by decide +kernel
theorem dX0_listSteps_37 : decode cX0_listSteps 37 = .ok (.istore 6, 2) := by decide +kernel
theorem dX0_listSteps_39 : decode cX0_listSteps 39 = .ok (.iload 6, 2) := by decide +kernel
theorem dX0_listSteps_41 : decode cX0_listSteps 41 = .ok (.iconst 1, 1) := by decide +kernel
theorem dX0_listSteps_42 : decode cX0_listSteps 42 = .ok (.if_icmp .gt 45, 3) := by decide +kernel
theorem dX0_listSteps_45 : decode cX0_listSteps 45 = .ok (.aload_n 0, 1) := by decide +kernel
theorem dX0_listSteps_46 : decode cX0_listSteps 46 = .ok (.iload_n 2, 1) := by decide +kernel
theorem dX0_listSteps_47 : decode cX0_listSteps 47 = .ok (.iload_n 3, 1) := by decide +kernel
theorem dX0_listSteps_48 : decode cX0_listSteps 48 = .ok (.iload 6, 2) := by decide +kernel
theorem dX0_listSteps_50 : decode cX0_listSteps 50 = .ok (.invokevirtual 60, 3) := by decide +kernel
theorem dX0_listSteps_53 : decode cX0_listSteps 53 = .ok (.ifCond .eq 28, 3) := by decide +kernel
theorem dX0_listSteps_56 : decode cX0_listSteps 56 = .ok (.aload_n 1, 1) := by decide +kernel
theorem dX0_listSteps_57 : decode cX0_listSteps 57 = .ok (.iload 4, 2) := by decide +kernel
theorem dX0_listSteps_59 : decode cX0_listSteps 59 = .ok (.bipush 100, 2) := by decide +kernel
theorem dX0_listSteps_61 : decode cX0_listSteps 61 = .ok (.imul, 1) := by decide +kernel
theorem dX0_listSteps_62 : decode cX0_listSteps 62 = .ok (.iload 5, 2) := by decide +kernel
theorem dX0_listSteps_64 : decode cX0_listSteps 64 = .ok (.iadd, 1) := by decide +kernel
theorem dX0_listSteps_65 : decode cX0_listSteps 65 = .ok (.iload 6, 2) := by decide +kernel
theorem dX0_listSteps_67 : decode cX0_listSteps 67 = .ok (.iadd, 1) := by decide +kernel
theorem dX0_listSteps_68 : decode cX0_listSteps 68 = .ok (.iload 6, 2) := by decide +kernel
theorem dX0_listSteps_70 : decode cX0_listSteps 70 = .ok (.ifCond .eq 7, 3) := by decide +kernel
theorem dX0_listSteps_73 : decode cX0_listSteps 73 = .ok (.iconst 1, 1) := by decide +kernel
theorem dX0_listSteps_74 : decode cX0_listSteps 74 = .ok (.goto 4, 3) := by decide +kernel
theorem dX0_listSteps_77 : decode cX0_listSteps 77 = .ok (.iconst 0, 1) := by decide +kernel
theorem dX0_listSteps_78 : decode cX0_listSteps 78 = .ok (.invokevirtual 64, 3) := by decide +kernel
theorem dX0_listSteps_81 : decode cX0_listSteps 81 = .ok (.iinc 6 1, 3) := by decide +kernel
theorem dX0_listSteps_84 : decode cX0_listSteps 84 = .ok (.goto (-45), 3) := by decide +kernel
theorem dX0_listSteps_87 : decode cX0_listSteps 87 = .ok (.return_, 1) := by decide +kernel
theorem dX0_canStep_0 : decode cX0_canStep 0 = .ok (.iload_n 1, 1) := by decide +kernel
theorem dX0_canStep_1 : decode cX0_canStep 1 = .ok (.aload_n 0, 1) := by decide +kernel
theorem dX0_canStep_2 : decode cX0_canStep 2 = .ok (.getfield 19, 3) := by decide +kernel
theorem dX0_canStep_5 : decode cX0_canStep 5 = .ok (.imul, 1) := by decide +kernel
theorem dX0_canStep_6 : decode cX0_canStep 6 = .ok (.iload_n 2, 1) := by decide +kernel
theorem dX0_canStep_7 : decode cX0_canStep 7 = .ok (.iadd, 1) := by decide +kernel
theorem dX0_canStep_8 : decode cX0_canStep 8 = .ok (.istore 4, 2) := by decide +kernel
theorem dX0_canStep_10 : decode cX0_canStep 10 = .ok (.iload_n 2, 1) := by decide +kernel
theorem dX0_canStep_11 : decode cX0_canStep 11 = .ok (.iload_n 3, 1) := by decide +kernel
theorem dX0_canStep_12 : decode cX0_canStep 12 = .ok (.iadd, 1) := by decide +kernel
theorem dX0_canStep_13 : decode cX0_canStep 13 = .ok (.istore 5, 2) := by decide +kernel
theorem dX0_canStep_15 : decode cX0_canStep 15 = .ok (.iload 4, 2) := by decide +kernel
theorem dX0_canStep_17 : decode cX0_canStep 17 = .ok (.ifCond .lt 27, 3) := by decide +kernel
theorem dX0_canStep_20 : decode cX0_canStep 20 = .ok (.iload 4, 2) := by decide +kernel
theorem dX0_canStep_22 : decode cX0_canStep 22 = .ok (.aload_n 0, 1) := by decide +kernel
theorem dX0_canStep_23 : decode cX0_canStep 23 = .ok (.getfield 9, 3) := by decide +kernel
theorem dX0_canStep_26 : decode cX0_canStep 26 = .ok (.arraylength, 1) := by decide +kernel
theorem dX0_canStep_27 : decode cX0_canStep 27 = .ok (.if_icmp .ge 17, 3) := by decide +kernel
theorem dX0_canStep_30 : decode cX0_canStep 30 = .ok (.iload 5, 2) := by decide +kernel
theorem dX0_canStep_32 : decode cX0_canStep 32 = .ok (.ifCond .lt 12, 3) := by decide +kernel
theorem dX0_canStep_35 : decode cX0_canStep 35 = .ok (.iload 5, 2) := by decide +kernel
theorem dX0_canStep_37 : decode cX0_canStep 37 = .ok (.aload_n 0, 1) := by decide +kernel
theorem dX0_canStep_38 : decode cX0_canStep 38 = .ok (.getfield 19, 3) := by decide +kernel
theorem dX0_canStep_41 : decode cX0_canStep 41 = .ok (.if_icmp .lt 5, 3) := by decide +kernel
theorem dX0_canStep_44 : decode cX0_canStep 44 = .ok (.iconst 0, 1) := by decide +kernel
theorem dX0_canStep_45 : decode cX0_canStep 45 = .ok (.ireturn, 1) := by decide +kernel
theorem dX0_canStep_46 : decode cX0_canStep 46 = .ok (.aload_n 0, 1) := by decide +kernel
theorem dX0_canStep_47 : decode cX0_canStep 47 = .ok (.getfield 9, 3) := by decide +kernel
theorem dX0_canStep_50 : decode cX0_canStep 50 = .ok (.iload 4, 2) := by decide +kernel
theorem dX0_canStep_52 : decode cX0_canStep 52 = .ok (.iaload, 1) := by decide +kernel
theorem dX0_canStep_53 : decode cX0_canStep 53 = .ok (.istore 6, 2) := by decide +kernel
theorem dX0_canStep_55 : decode cX0_canStep 55 = .ok (.iload 6, 2) := by decide +kernel
theorem dX0_canStep_57 : decode cX0_canStep 57 = .ok (.iconst 1, 1) := by decide +kernel
theorem dX0_canStep_58 : decode cX0_canStep 58 = .ok (.if_icmp .ne 9, 3) := by decide +kernel
theorem dX0_canStep_61 : decode cX0_canStep 61 = .ok (.iload_n 1, 1) := by decide +kernel
theorem dX0_canStep_62 : decode cX0_canStep 62 = .ok (.iconst 1, 1) := by decide +kernel
theorem dX0_canStep_63 : decode cX0_canStep 63 = .ok (.iadd, 1) := by decide +kernel
theorem dX0_canStep_64 : decode cX0_canStep 64 = .ok (.goto 6, 3) := by decide +kernel
theorem dX0_canStep_67 : decode cX0_canStep 67 = .ok (.iload_n 1, 1) := by decide +kernel
theorem dX0_canStep_68 : decode cX0_canStep 68 = .ok (.iconst 1, 1) := by decide +kernel
theorem dX0_canStep_69 : decode cX0_canStep 69 = .ok (.isub, 1) := by decide +kernel
theorem dX0_canStep_70 : decode cX0_canStep 70 = .ok (.istore 7, 2) := by decide +kernel
theorem dX0_canStep_72 : decode cX0_canStep 72 = .ok (.iload 7, 2) := by decide +kernel
theorem dX0_canStep_74 : decode cX0_canStep 74 = .ok (.aload_n 0, 1) := by decide +kernel
theorem dX0_canStep_75 : decode cX0_canStep 75 = .ok (.getfield 19, 3) := by decide +kernel
theorem dX0_canStep_78 : decode cX0_canStep 78 = .ok (.imul, 1) := by decide +kernel
theorem dX0_canStep_79 : decode cX0_canStep 79 = .ok (.iload 5, 2) := by decide +kernel
theorem dX0_canStep_81 : decode cX0_canStep 81 = .ok (.iadd, 1) := by decide +kernel
theorem dX0_canStep_82 : decode cX0_canStep 82 = .ok (.istore 8, 2) := by decide +kernel
theorem dX0_canStep_84 : decode cX0_canStep 84 = .ok (.iload 6, 2) := by decide +kernel
theorem dX0_canStep_86 : decode cX0_canStep 86 = .ok (.ifCond .eq 32, 3) := by decide +kernel
theorem dX0_canStep_89 : decode cX0_canStep 89 = .ok (.iload 7, 2) := by decide +kernel
theorem dX0_canStep_91 : decode cX0_canStep 91 = .ok (.ifCond .lt 27, 3) := by decide +kernel
theorem dX0_canStep_94 : decode cX0_canStep 94 = .ok (.iload 7, 2) := by decide +kernel
theorem dX0_canStep_96 : decode cX0_canStep 96 = .ok (.aload_n 0, 1) := by decide +kernel
theorem dX0_canStep_97 : decode cX0_canStep 97 = .ok (.getfield 23, 3) := by decide +kernel
theorem dX0_canStep_100 : decode cX0_canStep 100 = .ok (.if_icmp .ge 18, 3) := by decide +kernel
theorem dX0_canStep_103 : decode cX0_canStep 103 = .ok (.iload 8, 2) := by decide +kernel
theorem dX0_canStep_105 : decode cX0_canStep 105 = .ok (.ifCond .lt 13, 3) := by decide +kernel
theorem dX0_canStep_108 : decode cX0_canStep 108 = .ok (.iload 8, 2) := by decide +kernel
theorem dX0_canStep_110 : decode cX0_canStep 110 = .ok (.aload_n 0, 1) := by decide +kernel
theorem dX0_canStep_111 : decode cX0_canStep 111 = .ok (.getfield 9, 3) := by decide +kernel
theorem dX0_canStep_114 : decode cX0_canStep 114 = .ok (.arraylength, 1) := by decide +kernel
theorem dX0_canStep_115 : decode cX0_canStep 115 = .ok (.if_icmp .lt 5, 3) := by decide +kernel
theorem dX0_canStep_118 : decode cX0_canStep 118 = .ok (.iconst 0, 1) := by decide +kernel
theorem dX0_canStep_119 : decode cX0_canStep 119 = .ok (.ireturn, 1) := by decide +kernel
theorem dX0_canStep_120 : decode cX0_canStep 120 = .ok (.iload_n 3, 1) := by decide +kernel
theorem dX0_canStep_121 : decode cX0_canStep 121 = .ok (.ifCond .ne 21, 3) := by decide +kernel
theorem dX0_canStep_124 : decode cX0_canStep 124 = .ok (.aload_n 0, 1) := by decide +kernel
theorem dX0_canStep_125 : decode cX0_canStep 125 = .ok (.getfield 9, 3) := by decide +kernel
theorem dX0_canStep_128 : decode cX0_canStep 128 = .ok (.iload 8, 2) := by decide +kernel
theorem dX0_canStep_130 : decode cX0_canStep 130 = .ok (.iaload, 1) := by decide +kernel
theorem dX0_canStep_131 : decode cX0_canStep 131 = .ok (.ifCond .ne 7, 3) := by decide +kernel
theorem dX0_canStep_134 : decode cX0_canStep 134 = .ok (.iconst 1, 1) := by decide +kernel
theorem dX0_canStep_135 : decode cX0_canStep 135 = .ok (.goto 26, 3) := by decide +kernel
theorem dX0_canStep_138 : decode cX0_canStep 138 = .ok (.iconst 0, 1) := by decide +kernel
theorem dX0_canStep_139 : decode cX0_canStep 139 = .ok (.goto 22, 3) := by decide +kernel
theorem dX0_canStep_142 : decode cX0_canStep 142 = .ok (.aload_n 0, 1) := by decide +kernel
theorem dX0_canStep_143 : decode cX0_canStep 143 = .ok (.getfield 9, 3) := by decide +kernel
theorem dX0_canStep_146 : decode cX0_canStep 146 = .ok (.iload 8, 2) := by decide +kernel
theorem dX0_canStep_148 : decode cX0_canStep 148 = .ok (.iaload, 1) := by decide +kernel
theorem dX0_canStep_149 : decode cX0_canStep 149 = .ok (.iconst 3, 1) := by decide +kernel
theorem dX0_canStep_150 : decode cX0_canStep 150 = .ok (.iload 6, 2) := by decide +kernel
theorem dX0_canStep_152 : decode cX0_canStep 152 = .ok (.isub, 1) := by decide +kernel
theorem dX0_canStep_153 : decode cX0_canStep 153 = .ok (.if_icmp .ne 7, 3) := by decide +kernel
theorem dX0_canStep_156 : decode cX0_canStep 156 = .ok (.iconst 1, 1) := by decide +kernel
theorem dX0_canStep_157 : decode cX0_canStep 157 = .ok (.goto 4, 3) := by decide +kernel
theorem dX0_canStep_160 : decode cX0_canStep 160 = .ok (.iconst 0, 1) := by decide +kernel
theorem dX0_canStep_161 : decode cX0_canStep 161 = .ok (.ireturn, 1) := by decide +kernel
theorem dX1_init_0 : decode cX1_init 0 = .ok (.aload_n 0, 1) := by decide +kernel
theorem dX1_init_1 : decode cX1_init 1 = .ok (.invokespecial 3, 3) := by decide +kernel
theorem dX1_init_4 : decode cX1_init 4 = .ok (.aload_n 0, 1) := by decide +kernel
theorem dX1_init_5 : decode cX1_init 5 = .ok (.bipush 30, 2) := by decide +kernel
theorem dX1_init_7 : decode cX1_init 7 = .ok (.newarray .long, 2) := by decide +kernel
theorem dX1_init_9 : decode cX1_init 9 = .ok (.putfield 9, 3) := by decide +kernel
theorem dX1_init_12 : decode cX1_init 12 = .ok (.aload_n 0, 1) := by decide +kernel
theorem dX1_init_13 : decode cX1_init 13 = .ok (.bipush 30, 2) := by decide +kernel
theorem dX1_init_15 : decode cX1_init 15 = .ok (.newarray .int, 2) := by decide +kernel
theorem dX1_init_17 : decode cX1_init 17 = .ok (.putfield 15, 3) := by decide +kernel
theorem dX1_init_20 : decode cX1_init 20 = .ok (.aload_n 0, 1) := by decide +kernel
theorem dX1_init_21 : decode cX1_init 21 = .ok (.bipush 30, 2) := by decide +kernel
theorem dX1_init_23 : decode cX1_init 23 = .ok (.newarray .int, 2) := by decide +kernel
theorem dX1_init_25 : decode cX1_init 25 = .ok (.putfield 19, 3) := by decide +kernel
theorem dX1_init_28 : decode cX1_init 28 = .ok (.return_, 1) := by decide +kernel
theorem dX1_length_0 : decode cX1_length 0 = .ok (.aload_n 0, 1) := by decide +kernel
theorem dX1_length_1 : decode cX1_length 1 = .ok (.getfield 22, 3) := by decide +kernel
theorem dX1_length_4 : decode cX1_length 4 = .ok (.ireturn, 1) := by decide +kernel
