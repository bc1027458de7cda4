theorem dX5_moveAt_0 : decode cX5_moveAt 0 = .ok (.iload_n 1, 1) := by decide +kernel
theorem dX5_moveAt_1 : decode cX5_moveAt 1 = .ok (.ifCond .lt 29, 3) := by decide +kernel
theorem dX5_moveAt_4 : decode cX5_moveAt 4 = .ok (.iload_n 1, 1) := by decide +kernel
theorem dX5_moveAt_5 : decode cX5_moveAt 5 = .ok (.aload_n 0, 1) := by decide +kernel
theorem dX5_moveAt_6 : decode cX5_moveAt 6 = .ok (.getfield 25, 3) := by decide +kernel
theorem dX5_moveAt_9 : decode cX5_moveAt 9 = .ok (.if_icmp .ge 21, 3) := by decide +kernel
theorem dX5_moveAt_12 : decode cX5_moveAt 12 = .ok (.iload_n 1, 1) := by decide +kernel
theorem dX5_moveAt_13 : decode cX5_moveAt 13 = .ok (.aload_n 0, 1) := by decide +kernel
theorem dX5_moveAt_14 : decode cX5_moveAt 14 = .ok (.getfield 9, 3) := by decide +kernel
theorem dX5_moveAt_17 : decode cX5_moveAt 17 = .ok (.arraylength, 1) := by decide +kernel
theorem dX5_moveAt_18 : decode cX5_moveAt 18 = .ok (.if_icmp .ge 12, 3) := by decide +kernel
theorem dX5_moveAt_21 : decode cX5_moveAt 21 = .ok (.aload_n 0, 1) := by decide +kernel
theorem dX5_moveAt_22 : decode cX5_moveAt 22 = .ok (.getfield 9, 3) := by decide +kernel
theorem dX5_moveAt_25 : decode cX5_moveAt 25 = .ok (.iload_n 1, 1) := by decide +kernel
theorem dX5_moveAt_26 : decode cX5_moveAt 26 = .ok (.iaload, 1) := by decide +kernel
theorem dX5_moveAt_27 : decode cX5_moveAt 27 = .ok (.goto 4, 3) := by decide +kernel
theorem dX5_moveAt_30 : decode cX5_moveAt 30 = .ok (.iconst (-1), 1) := by decide +kernel
theorem dX5_moveAt_31 : decode cX5_moveAt 31 = .ok (.ireturn, 1) := by decide +kernel
theorem dX5_isTaking_0 : decode cX5_isTaking 0 = .ok (.iload_n 1, 1) := by decide +kernel
theorem dX5_isTaking_1 : decode cX5_isTaking 1 = .ok (.ifCond .lt 33, 3) := by decide +kernel
theorem dX5_isTaking_4 : decode cX5_isTaking 4 = .ok (.iload_n 1, 1) := by decide +kernel
theorem dX5_isTaking_5 : decode cX5_isTaking 5 = .ok (.aload_n 0, 1) := by decide +kernel
theorem dX5_isTaking_6 : decode cX5_isTaking 6 = .ok (.getfield 25, 3) := by decide +kernel
theorem dX5_isTaking_9 : decode cX5_isTaking 9 = .ok (.if_icmp .ge 25, 3) := by decide +kernel
theorem dX5_isTaking_12 : decode cX5_isTaking 12 = .ok (.iload_n 1, 1) := by decide +kernel
theorem dX5_isTaking_13 : decode cX5_isTaking 13 = .ok (.aload_n 0, 1) := by decide +kernel
theorem dX5_isTaking_14 : decode cX5_isTaking 14 = .ok (.getfield 15, 3) := by decide +kernel
theorem dX5_isTaking_17 : decode cX5_isTaking 17 = .ok (.arraylength, 1) := by decide +kernel
theorem dX5_isTaking_18 : decode cX5_isTaking 18 = .ok (.if_icmp .ge 16, 3) := by decide +kernel
theorem dX5_isTaking_21 : decode cX5_isTaking 21 = .ok (.aload_n 0, 1) := by decide +kernel
theorem dX5_isTaking_22 : decode cX5_isTaking 22 = .ok (.getfield 15, 3) := by decide +kernel
theorem dX5_isTaking_25 : decode cX5_isTaking 25 = .ok (.iload_n 1, 1) := by decide +kernel
theorem dX5_isTaking_26 : decode cX5_isTaking 26 = .ok (.baload, 1) := by decide +kernel
theorem dX5_isTaking_27 : decode cX5_isTaking 27 = .ok (.ifCond .eq 7, 3) := by decide +kernel
theorem dX5_isTaking_30 : decode cX5_isTaking 30 = .ok (.iconst 1, 1) := by decide +kernel
theorem dX5_isTaking_31 : decode cX5_isTaking 31 = .ok (.goto 4, 3) := by decide +kernel
theorem dX5_isTaking_34 : decode cX5_isTaking 34 = .ok (.iconst 0, 1) := by decide +kernel
theorem dX5_isTaking_35 : decode cX5_isTaking 35 = .ok (.ireturn, 1) := by decide +kernel
theorem dX5_indexOf_0 : decode cX5_indexOf 0 = .ok (.iconst 0, 1) := by decide +kernel
theorem dX5_indexOf_1 : decode cX5_indexOf 1 = .ok (.istore_n 2, 1) := by decide +kernel
theorem dX5_indexOf_2 : decode cX5_indexOf 2 = .ok (.iload_n 2, 1) := by decide +kernel
theorem dX5_indexOf_3 : decode cX5_indexOf 3 = .ok (.aload_n 0, 1) := by decide +kernel
theorem dX5_indexOf_4 : decode cX5_indexOf 4 = .ok (.getfield 25, 3) := by decide +kernel
theorem dX5_indexOf_7 : decode cX5_indexOf 7 = .ok (.if_icmp .ge 30, 3) := by decide +kernel
theorem dX5_indexOf_10 : decode cX5_indexOf 10 = .ok (.iload_n 2, 1) := by decide +kernel
theorem dX5_indexOf_11 : decode cX5_indexOf 11 = .ok (.aload_n 0, 1) := by decide +kernel
theorem dX5_indexOf_12 : decode cX5_indexOf 12 = .ok (.getfield 9, 3) := by decide +kernel
theorem dX5_indexOf_15 : decode cX5_indexOf 15 = .ok (.arraylength, 1) := by decide +kernel
theorem dX5_indexOf_16 : decode cX5_indexOf 16 = .ok (.if_icmp .ge 21, 3) := by decide +kernel
theorem dX5_indexOf_19 : decode cX5_indexOf 19 = .ok (.aload_n 0, 1) := by decide +kernel
theorem dX5_indexOf_20 : decode cX5_indexOf 20 = .ok (.getfield 9, 3) := by decide +kernel
theorem dX5_indexOf_23 : decode cX5_indexOf 23 = .ok (.iload_n 2, 1) := by decide +kernel
theorem dX5_indexOf_24 : decode cX5_indexOf 24 = .ok (.iaload, 1) := by decide +kernel
theorem dX5_indexOf_25 : decode cX5_indexOf 25 = .ok (.iload_n 1, 1) := by decide +kernel
theorem dX5_indexOf_26 : decode cX5_indexOf 26 = .ok (.if_icmp .ne 5, 3) := by decide +kernel
theorem dX5_indexOf_29 : decode cX5_indexOf 29 = .ok (.iload_n 2, 1) := by decide +kernel
theorem dX5_indexOf_30 : decode cX5_indexOf 30 = .ok (.ireturn, 1) := by decide +kernel
theorem dX5_indexOf_31 : decode cX5_indexOf 31 = .ok (.iinc 2 1, 3) := by decide +kernel
theorem dX5_indexOf_34 : decode cX5_indexOf 34 = .ok (.goto (-32), 3) := by decide +kernel
theorem dX5_indexOf_37 : decode cX5_indexOf 37 = .ok (.iconst (-1), 1) := by decide +kernel
theorem dX5_indexOf_38 : decode cX5_indexOf 38 = .ok (.ireturn, 1) := by decide +kernel
theorem dX5_arrange_0 : decode cX5_arrange 0 = .ok (.aload_n 0, 1) := by decide +kernel
theorem dX5_arrange_1 : decode cX5_arrange 1 = .ok (.iconst 0, 1) := by decide +kernel
theorem dX5_arrange_2 : decode cX5_arrange 2 = .ok (.putfield 29, 3) := by decide +kernel
theorem dX5_arrange_5 : decode cX5_arrange 5 = .ok (.iconst 0, 1) := by decide +kernel
theorem dX5_arrange_6 : decode cX5_arrange 6 = .ok (.istore 4, 2) := by decide +kernel
theorem dX5_arrange_8 : decode cX5_arrange 8 = .ok (.iload 4, 2) := by decide +kernel
theorem dX5_arrange_10 : decode cX5_arrange 10 = .ok (.aload_n 0, 1) := by decide +kernel
theorem dX5_arrange_11 : decode cX5_arrange 11 = .ok (.getfield 22, 3) := by decide +kernel
theorem dX5_arrange_14 : decode cX5_arrange 14 = .ok (.arraylength, 1) := by decide +kernel
theorem dX5_arrange_15 : decode cX5_arrange 15 = .ok (.if_icmp .ge 17, 3) := by decide +kernel
theorem dX5_arrange_18 : decode cX5_arrange 18 = .ok (.aload_n 0, 1) := by decide +kernel
theorem dX5_arrange_19 : decode cX5_arrange 19 = .ok (.getfield 22, 3) := by decide +kernel
theorem dX5_arrange_22 : decode cX5_arrange 22 = .ok (.iload 4, 2) := by decide +kernel
theorem dX5_arrange_24 : decode cX5_arrange 24 = .ok (.iconst 0, 1) := by decide +kernel
theorem dX5_arrange_25 : decode cX5_arrange 25 = .ok (.bastore, 1) := by decide +kernel
theorem dX5_arrange_26 : decode cX5_arrange 26 = .ok (.iinc 4 1, 3) := by decide +kernel
theorem dX5_arrange_29 : decode cX5_arrange 29 = .ok (.goto (-21), 3) := by decide +kernel
theorem dX5_arrange_32 : decode cX5_arrange 32 = .ok (.aload_n 0, 1) := by decide +kernel
theorem dX5_arrange_33 : decode cX5_arrange 33 = .ok (.aload_n 0, 1) := by decide +kernel
theorem dX5_arrange_34 : decode cX5_arrange 34 = .ok (.iload_n 1, 1) := by decide +kernel
theorem dX5_arrange_35 : decode cX5_arrange 35 = .ok (.invokevirtual 32, 3) := by decide +kernel
theorem dX5_arrange_38 : decode cX5_arrange 38 = .ok (.invokevirtual 36, 3) := by decide +kernel
theorem dX5_arrange_41 : decode cX5_arrange 41 = .ok (.iconst 0, 1) := by decide +kernel
theorem dX5_arrange_42 : decode cX5_arrange 42 = .ok (.istore 4, 2) := by decide +kernel
theorem dX5_arrange_44 : decode cX5_arrange 44 = .ok (.iload 4, 2) := by decide +kernel
theorem dX5_arrange_46 : decode cX5_arrange 46 = .ok (.aload_n 0, 1) := by decide +kernel
theorem dX5_arrange_47 : decode cX5_arrange 47 = .ok (.getfield 25, 3) := by decide +kernel
theorem dX5_arrange_50 : decode cX5_arrange 50 = .ok (.if_icmp .ge 24, 3) := by decide +kernel
theorem dX5_arrange_53 : decode cX5_arrange 53 = .ok (.aload_n 0, 1) := by decide +kernel
theorem dX5_arrange_54 : decode cX5_arrange 54 = .ok (.iload 4, 2) := by decide +kernel
theorem dX5_arrange_56 : decode cX5_arrange 56 = .ok (.invokevirtual 40, 3) := by decide +kernel
theorem dX5_arrange_59 : decode cX5_arrange 59 = .ok (.ifCond .eq 9, 3) := by decide +kernel
theorem dX5_arrange_62 : decode cX5_arrange 62 = .ok (.aload_n 0, 1) := by decide +kernel
theorem dX5_arrange_63 : decode cX5_arrange 63 = .ok (.iload 4, 2) := by decide +kernel
theorem dX5_arrange_65 : decode cX5_arrange 65 = .ok (.invokevirtual 36, 3) := by decide +kernel
theorem dX5_arrange_68 : decode cX5_arrange 68 = .ok (.iinc 4 1, 3) := by decide +kernel
theorem dX5_arrange_71 : decode cX5_arrange 71 = .ok (.goto (-27), 3) := by decide +kernel
theorem dX5_arrange_74 : decode cX5_arrange 74 = .ok (.aload_n 0, 1) := by decide +kernel
theorem dX5_arrange_75 : decode cX5_arrange 75 = .ok (.aload_n 0, 1) := by decide +kernel
theorem dX5_arrange_76 : decode cX5_arrange 76 = .ok (.iload_n 2, 1) := by decide +kernel
theorem dX5_arrange_77 : decode cX5_arrange 77 = .ok (.invokevirtual 32, 3) := by decide +kernel
theorem dX5_arrange_80 : decode cX5_arrange 80 = .ok (.invokevirtual 36, 3) := by decide +kernel
theorem dX5_arrange_83 : decode cX5_arrange 83 = .ok (.aload_n 0, 1) := by decide +kernel
theorem dX5_arrange_84 : decode cX5_arrange 84 = .ok (.aload_n 0, 1) := by decide +kernel
theorem dX5_arrange_85 : decode cX5_arrange 85 = .ok (.iload_n 3, 1) := by decide +kernel
theorem dX5_arrange_86 : decode cX5_arrange 86 = .ok (.invokevirtual 32, 3) := by decide +kernel
theorem dX5_arrange_89 : decode cX5_arrange 89 = .ok (.invokevirtual 36, 3) := by decide +kernel
theorem dX5_arrange_92 : decode cX5_arrange 92 = .ok (.iconst 0, 1) := by decide +kernel
theorem dX5_arrange_93 : decode cX5_arrange 93 = .ok (.istore 4, 2) := by decide +kernel
theorem dX5_arrange_95 : decode cX5_arrange 95 = .ok (.iload 4, 2) := by decide +kernel
theorem dX5_arrange_97 : decode cX5_arrange 97 = .ok (.aload_n 0, 1) := by decide +kernel
theorem dX5_arrange_98 : decode cX5_arrange 98 = .ok (.getfield 25, 3) := by decide +kernel
theorem dX5_arrange_101 : decode cX5_arrange 101 = .ok (.if_icmp .ge 15, 3) := by decide +kernel
theorem dX5_arrange_104 : decode cX5_arrange 104 = .ok (.aload_n 0, 1) := by decide +kernel
theorem dX5_arrange_105 : decode cX5_arrange 105 = .ok (.iload 4, 2) := by decide +kernel
theorem dX5_arrange_107 : decode cX5_arrange 107 = .ok (.invokevirtual 36, 3) := by decide +kernel
theorem dX5_arrange_110 : decode cX5_arrange 110 = .ok (.iinc 4 1, 3) := by decide +kernel
theorem dX5_arrange_113 : decode cX5_arrange 113 = .ok (.goto (-18), 3) := by decide +kernel
theorem dX5_arrange_116 : decode cX5_arrange 116 = .ok (.return_, 1) := by decide +kernel
theorem dX5_place_0 : decode cX5_place 0 = .ok (.iload_n 1, 1) := by decide +kernel
theorem dX5_place_1 : decode cX5_place 1 = .ok (.ifCond .lt 67, 3) := by decide +kernel
theorem dX5_place_4 : decode cX5_place 4 = .ok (.iload_n 1, 1) := by decide +kernel
theorem dX5_place_5 : decode cX5_place 5 = .ok (.aload_n 0, 1) := by decide +kernel
theorem dX5_place_6 : decode cX5_place 6 = .ok (.getfield 22, 3) := by decide +kernel
theorem dX5_place_9 : decode cX5_place 9 = .ok (.arraylength, 1) := by decide +kernel
theorem dX5_place_10 : decode cX5_place 10 = .ok (.if_icmp .ge 58, 3) := by decide +kernel
theorem dX5_place_13 : decode cX5_place 13 = .ok (.aload_n 0, 1) := by decide +kernel
theorem dX5_place_14 : decode cX5_place 14 = .ok (.getfield 22, 3) := by decide +kernel
theorem dX5_place_17 : decode cX5_place 17 = .ok (.iload_n 1, 1) := by decide +kernel
theorem dX5_place_18 : decode cX5_place 18 = .ok (.baload, 1) := by decide +kernel
theorem dX5_place_19 : decode cX5_place 19 = .ok (.ifCond .ne 49, 3) := by decide +kernel
theorem dX5_place_22 : decode cX5_place 22 = .ok (.aload_n 0, 1) := by decide +kernel
theorem dX5_place_23 : decode cX5_place 23 = .ok (.getfield 29, 3) := by decide +kernel
theorem dX5_place_26 : decode cX5_place 26 = .ok (.ifCond .lt 42, 3) := by decide +kernel
theorem dX5_place_29 : decode cX5_place 29 = .ok (.aload_n 0, 1) := by decide +kernel
theorem dX5_place_30 : decode cX5_place 30 = .ok (.getfield 29, 3) := by decide +kernel
theorem dX5_place_33 : decode cX5_place 33 = .ok (.aload_n 0, 1) := by decide +kernel
theorem dX5_place_34 : decode cX5_place 34 = .ok (.getfield 19, 3) := by decide +kernel
theorem dX5_place_37 : decode cX5_place 37 = .ok (.arraylength, 1) := by decide +kernel
theorem dX5_place_38 : decode cX5_place 38 = .ok (.if_icmp .ge 30, 3) := by decide +kernel
theorem dX5_place_41 : decode cX5_place 41 = .ok (.aload_n 0, 1) := by decide +kernel
theorem dX5_place_42 : decode cX5_place 42 = .ok (.getfield 22, 3) := by decide +kernel
theorem dX5_place_45 : decode cX5_place 45 = .ok (.iload_n 1, 1) := by decide +kernel
theorem dX5_place_46 : decode cX5_place 46 = .ok (.iconst 1, 1) := by decide +kernel
theorem dX5_place_47 : decode cX5_place 47 = .ok (.bastore, 1) := by decide +kernel
theorem dX5_place_48 : decode cX5_place 48 = .ok (.aload_n 0, 1) := by decide +kernel
theorem dX5_place_49 : decode cX5_place 49 = .ok (.getfield 19, 3) := by decide +kernel
theorem dX5_place_52 : decode cX5_place 52 = .ok (.aload_n 0, 1) := by decide +kernel
theorem dX5_place_53 : decode cX5_place 53 = .ok (.getfield 29, 3) := by decide +kernel
theorem dX5_place_56 : decode cX5_place 56 = .ok (.iload_n 1, 1) := by decide +kernel
theorem dX5_place_57 : decode cX5_place 57 = .ok (.iastore, 1) := by decide +kernel
theorem dX5_place_58 : decode cX5_place 58 = .ok (.aload_n 0, 1) := by decide +kernel
theorem dX5_place_59 : decode cX5_place 59 = .ok (.dup, 1) := by decide +kernel
theorem dX5_place_60 : decode cX5_place 60 = .ok (.getfield 29, 3) := by decide +kernel
theorem dX5_place_63 : decode cX5_place 63 = .ok (.iconst 1, 1) := by decide +kernel
theorem dX5_place_64 : decode cX5_place 64 = .ok (.iadd, 1) := by decide +kernel
theorem dX5_place_65 : decode cX5_place 65 = .ok (.putfield 29, 3) := by decide +kernel
theorem dX5_place_68 : decode cX5_place 68 = .ok (.return_, 1) := by decide +kernel
theorem dX5_inOrder_0 : decode cX5_inOrder 0 = .ok (.iload_n 1, 1) := by decide +kernel
theorem dX5_inOrder_1 : decode cX5_inOrder 1 = .ok (.ifCond .lt 29, 3) := by decide +kernel
theorem dX5_inOrder_4 : decode cX5_inOrder 4 = .ok (.iload_n 1, 1) := by decide +kernel
theorem dX5_inOrder_5 : decode cX5_inOrder 5 = .ok (.aload_n 0, 1) := by decide +kernel
theorem dX5_inOrder_6 : decode cX5_inOrder 6 = .ok (.getfield 29, 3) := by decide +kernel
theorem dX5_inOrder_9 : decode cX5_inOrder 9 = .ok (.if_icmp .ge 21, 3) := by decide +kernel
theorem dX5_inOrder_12 : decode cX5_inOrder 12 = .ok (.iload_n 1, 1) := by decide +kernel
theorem dX5_inOrder_13 : decode cX5_inOrder 13 = .ok (.aload_n 0, 1) := by decide +kernel
theorem dX5_inOrder_14 : decode cX5_inOrder 14 = .ok (.getfield 19, 3) := by decide +kernel
theorem dX5_inOrder_17 : decode cX5_inOrder 17 = .ok (.arraylength, 1) := by decide +kernel
theorem dX5_inOrder_18 : decode cX5_inOrder 18 = .ok (.if_icmp .ge 12, 3) := by decide +kernel
theorem dX5_inOrder_21 : decode cX5_inOrder 21 = .ok (.aload_n 0, 1) := by decide +kernel
theorem dX5_inOrder_22 : decode cX5_inOrder 22 = .ok (.getfield 19, 3) := by decide +kernel
theorem dX5_inOrder_25 : decode cX5_inOrder 25 = .ok (.iload_n 1, 1) := by decide +kernel
theorem dX5_inOrder_26 : decode cX5_inOrder 26 = .ok (.iaload, 1) := by decide +kernel
theorem dX5_inOrder_27 : decode cX5_inOrder 27 = .ok (.goto 4, 3) := by decide +kernel
theorem dX5_inOrder_30 : decode cX5_inOrder 30 = .ok (.iconst (-1), 1) := by decide +kernel
theorem dX5_inOrder_31 : decode cX5_inOrder 31 = .ok (.ireturn, 1) := by decide +kernel
theorem dX6_init_0 : decode cX6_init 0 = .ok (.aload_n 0, 1) := by decide +kernel
theorem dX6_init_1 : decode cX6_init 1 = .ok (.invokespecial 3, 3) := by decide +kernel
theorem dX6_init_4 : decode cX6_init 4 = .ok (.aload_n 0, 1) := by decide +kernel
theorem dX6_init_5 : decode cX6_init 5 = .ok (.aload_n 1, 1) := by decide +kernel
theorem dX6_init_6 : decode cX6_init 6 = .ok (.putfield 9, 3) := by decide +kernel
theorem dX6_init_9 : decode cX6_init 9 = .ok (.aload_n 0, 1) := by decide +kernel
theorem dX6_init_10 : decode cX6_init 10 = .ok (.aload_n 2, 1) := by decide +kernel
theorem dX6_init_11 : decode cX6_init 11 = .ok (.putfield 15, 3) := by decide +kernel
theorem dX6_init_14 : decode cX6_init 14 = .ok (.aload_n 0, 1) := by decide +kernel
theorem dX6_init_15 : decode cX6_init 15 = .ok (.aload_n 3, 1) := by decide +kernel
theorem dX6_init_16 : decode cX6_init 16 = .ok (.putfield 19, 3) := by decide +kernel
theorem dX6_init_19 : decode cX6_init 19 = .ok (.return_, 1) := by decide +kernel
theorem dX6_clearCount_0 : decode cX6_clearCount 0 = .ok (.aload_n 0, 1) := by decide +kernel
theorem dX6_clearCount_1 : decode cX6_clearCount 1 = .ok (.iconst 0, 1) := by decide +kernel
theorem dX6_clearCount_2 : decode cX6_clearCount 2 = .ok (.putfield 23, 3) := by decide +kernel
theorem dX6_clearCount_5 : decode cX6_clearCount 5 = .ok (.return_, 1) := by decide +kernel
theorem dX6_nodeCount_0 : decode cX6_nodeCount 0 = .ok (.aload_n 0, 1) := by decide +kernel
theorem dX6_nodeCount_1 : decode cX6_nodeCount 1 = .ok (.getfield 23, 3) := by decide +kernel
theorem dX6_nodeCount_4 : decode cX6_nodeCount 4 = .ok (.ireturn, 1) := by decide +kernel
theorem dX6_lookOn_0 : decode cX6_lookOn 0 = .ok (.aload_n 0, 1) := by decide +kernel
theorem dX6_lookOn_1 : decode cX6_lookOn 1 = .ok (.dup, 1) := by decide +kernel
theorem dX6_lookOn_2 : decode cX6_lookOn 2 = .ok (.getfield 23, 3) := by decide +kernel
theorem dX6_lookOn_5 : decode cX6_lookOn 5 = .ok (.iconst 1, 1) := by decide +kernel
theorem dX6_lookOn_6 : decode cX6_lookOn 6 = .ok (.iadd, 1) := by decide +kernel
theorem dX6_lookOn_7 : decode cX6_lookOn 7 = .ok (.putfield 23, 3) := by decide +kernel
theorem dX6_lookOn_10 : decode cX6_lookOn 10 = .ok (.aload_n 0, 1) := by decide +kernel
theorem dX6_lookOn_11 : decode cX6_lookOn 11 = .ok (.getfield 19, 3) := by decide +kernel
theorem dX6_lookOn_14 : decode cX6_lookOn 14 = .ok (.iload_n 1, 1) := by decide +kernel
theorem dX6_lookOn_15 : decode cX6_lookOn 15 = .ok (.invokevirtual 27, 3) := by decide +kernel
theorem dX6_lookOn_18 : decode cX6_lookOn 18 = .ok (.astore 4, 2) := by decide +kernel
theorem dX6_lookOn_20 : decode cX6_lookOn 20 = .ok (.aload_n 0, 1) := by decide +kernel
theorem dX6_lookOn_21 : decode cX6_lookOn 21 = .ok (.getfield 9, 3) := by decide +kernel
theorem dX6_lookOn_24 : decode cX6_lookOn 24 = .ok (.aload 4, 2) := by decide +kernel
theorem dX6_lookOn_26 : decode cX6_lookOn 26 = .ok (.invokevirtual 33, 3) := by decide +kernel
theorem dX6_lookOn_29 : decode cX6_lookOn 29 = .ok (.aload 4, 2) := by decide +kernel
theorem dX6_lookOn_31 : decode cX6_lookOn 31 = .ok (.invokevirtual 39, 3) := by decide +kernel
theorem dX6_lookOn_34 : decode cX6_lookOn 34 = .ok (.ifCond .ne 7, 3) := by decide +kernel
theorem dX6_lookOn_37 : decode cX6_lookOn 37 = .ok (.sipush (-1000), 3) := by decide +kernel
theorem dX6_lookOn_40 : decode cX6_lookOn 40 = .ok (.ireturn, 1) := by decide +kernel
theorem dX6_lookOn_41 : decode cX6_lookOn 41 = .ok (.aload_n 0, 1) := by decide +kernel
theorem dX6_lookOn_42 : decode cX6_lookOn 42 = .ok (.getfield 15, 3) := by decide +kernel
theorem dX6_lookOn_45 : decode cX6_lookOn 45 = .ok (.aload_n 0, 1) := by decide +kernel
theorem dX6_lookOn_46 : decode cX6_lookOn 46 = .ok (.getfield 9, 3) := by decide +kernel
theorem dX6_lookOn_49 : decode cX6_lookOn 49 = .ok (.invokevirtual 45, 3) := by decide +kernel
theorem dX6_lookOn_52 : decode cX6_lookOn 52 = .ok (.istore 5, 2) := by decide +kernel
theorem dX6_lookOn_54 : decode cX6_lookOn 54 = .ok (.iload_n 1, 1) := by decide +kernel
theorem dX6_lookOn_55 : decode cX6_lookOn 55 = .ok (.ifCond .le 13, 3) := by decide +kernel
theorem dX6_lookOn_58 : decode cX6_lookOn 58 = .ok (.aload_n 0, 1) := by decide +kernel
theorem dX6_lookOn_59 : decode cX6_lookOn 59 = .ok (.getfield 15, 3) := by decide +kernel
theorem dX6_lookOn_62 : decode cX6_lookOn 62 = .ok (.invokevirtual 51, 3) := by decide +kernel
theorem dX6_lookOn_65 : decode cX6_lookOn 65 = .ok (.ifCond .ne 6, 3) := by decide +kernel
theorem dX6_lookOn_68 : decode cX6_lookOn 68 = .ok (.iload 5, 2) := by decide +kernel
theorem dX6_lookOn_70 : decode cX6_lookOn 70 = .ok (.ireturn, 1) := by decide +kernel
theorem dX6_lookOn_71 : decode cX6_lookOn 71 = .ok (.iload_n 2, 1) := by decide +kernel
theorem dX6_lookOn_72 : decode cX6_lookOn 72 = .ok (.iload 5, 2) := by decide +kernel
theorem dX6_lookOn_74 : decode cX6_lookOn 74 = .ok (.invokestatic 55, 3) := by decide +kernel
theorem dX6_lookOn_77 : decode cX6_lookOn 77 = .ok (.istore 6, 2) := by decide +kernel
theorem dX6_lookOn_79 : decode cX6_lookOn 79 = .ok (.iconst 0, 1) := by decide +kernel
theorem dX6_lookOn_80 : decode cX6_lookOn 80 = .ok (.istore 7, 2) := by decide +kernel
theorem dX6_lookOn_82 : decode cX6_lookOn 82 = .ok (.iload 7, 2) := by decide +kernel
theorem dX6_lookOn_84 : decode cX6_lookOn 84 = .ok (.aload 4, 2) := by decide +kernel
theorem dX6_lookOn_86 : decode cX6_lookOn 86 = .ok (.invokevirtual 39, 3) := by decide +kernel
theorem dX6_lookOn_89 : decode cX6_lookOn 89 = .ok (.if_icmp .ge 56, 3) := by decide +kernel
theorem dX6_lookOn_92 : decode cX6_lookOn 92 = .ok (.iload 5, 2) := by decide +kernel
theorem dX6_lookOn_94 : decode cX6_lookOn 94 = .ok (.iload_n 3, 1) := by decide +kernel
theorem dX6_lookOn_95 : decode cX6_lookOn 95 = .ok (.if_icmp .ge 50, 3) := by decide +kernel
theorem dX6_lookOn_98 : decode cX6_lookOn 98 = .ok (.aload 4, 2) := by decide +kernel
theorem dX6_lookOn_100 : decode cX6_lookOn 100 = .ok (.iload 7, 2) := by decide +kernel
theorem dX6_lookOn_102 : decode cX6_lookOn 102 = .ok (.invokevirtual 61, 3) := by decide +kernel
theorem dX6_lookOn_105 : decode cX6_lookOn 105 = .ok (.ifCond .eq 34, 3) := by decide +kernel
theorem dX6_lookOn_108 : decode cX6_lookOn 108 = .ok (.iload 5, 2) := by decide +kernel
theorem dX6_lookOn_110 : decode cX6_lookOn 110 = .ok (.aload_n 0, 1) := by decide +kernel
theorem dX6_lookOn_111 : decode cX6_lookOn 111 = .ok (.aload 4, 2) := by decide +kernel
theorem dX6_lookOn_113 : decode cX6_lookOn 113 = .ok (.iload 7, 2) := by decide +kernel
theorem dX6_lookOn_115 : decode cX6_lookOn 115 = .ok (.invokevirtual 65, 3) := by decide +kernel
theorem dX6_lookOn_118 : decode cX6_lookOn 118 = .ok (.iload_n 1, 1) := by decide +kernel
theorem dX6_lookOn_119 : decode cX6_lookOn 119 = .ok (.iload 6, 2) := by decide +kernel
theorem dX6_lookOn_121 : decode cX6_lookOn 121 = .ok (.iload_n 3, 1) := by decide +kernel
theorem dX6_lookOn_122 : decode cX6_lookOn 122 = .ok (.invokevirtual 69, 3) := by decide +kernel
theorem dX6_lookOn_125 : decode cX6_lookOn 125 = .ok (.invokestatic 55, 3) := by decide +kernel
theorem dX6_lookOn_128 : decode cX6_lookOn 128 = .ok (.istore 5, 2) := by decide +kernel
theorem dX6_lookOn_130 : decode cX6_lookOn 130 = .ok (.iload 6, 2) := by decide +kernel
theorem dX6_lookOn_132 : decode cX6_lookOn 132 = .ok (.iload 5, 2) := by decide +kernel
theorem dX6_lookOn_134 : decode cX6_lookOn 134 = .ok (.invokestatic 55, 3) := by decide +kernel
theorem dX6_lookOn_137 : decode cX6_lookOn 137 = .ok (.istore 6, 2) := by decide +kernel
theorem dX6_lookOn_139 : decode cX6_lookOn 139 = .ok (.iinc 7 1, 3) := by decide +kernel
theorem dX6_lookOn_142 : decode cX6_lookOn 142 = .ok (.goto (-60), 3) := by decide +kernel
theorem dX6_lookOn_145 : decode cX6_lookOn 145 = .ok (.iload 5, 2) := by decide +kernel
theorem dX6_lookOn_147 : decode cX6_lookOn 147 = .ok (.ireturn, 1) := by decide +kernel
theorem dX6_behind_0 : decode cX6_behind 0 = .ok (.aload_n 0, 1) := by decide +kernel
theorem dX6_behind_1 : decode cX6_behind 1 = .ok (.getfield 9, 3) := by decide +kernel
theorem dX6_behind_4 : decode cX6_behind 4 = .ok (.iload_n 1, 1) := by decide +kernel
theorem dX6_behind_5 : decode cX6_behind 5 = .ok (.invokevirtual 73, 3) := by decide +kernel
theorem dX6_behind_8 : decode cX6_behind 8 = .ok (.istore 5, 2) := by decide +kernel
theorem dX6_behind_10 : decode cX6_behind 10 = .ok (.aload_n 0, 1) := by decide +kernel
theorem dX6_behind_11 : decode cX6_behind 11 = .ok (.iload_n 2, 1) := by decide +kernel
theorem dX6_behind_12 : decode cX6_behind 12 = .ok (.iconst 1, 1) := by decide +kernel
theorem dX6_behind_13 : decode cX6_behind 13 = .ok (.isub, 1) := by decide +kernel
theorem dX6_behind_14 : decode cX6_behind 14 = .ok (.iload 4, 2) := by decide +kernel
theorem dX6_behind_16 : decode cX6_behind 16 = .ok (.ineg, 1) := by decide +kernel
theorem dX6_behind_17 : decode cX6_behind 17 = .ok (.iload_n 3, 1) := by decide +kernel
theorem dX6_behind_18 : decode cX6_behind 18 = .ok (.ineg, 1) := by decide +kernel
theorem dX6_behind_19 : decode cX6_behind 19 = .ok (.invokevirtual 76, 3) := by decide +kernel
theorem dX6_behind_22 : decode cX6_behind 22 = .ok (.ineg, 1) := by decide +kernel
theorem dX6_behind_23 : decode cX6_behind 23 = .ok (.istore 6, 2) := by decide +kernel
theorem dX6_behind_25 : decode cX6_behind 25 = .ok (.aload_n 0, 1) := by decide +kernel
theorem dX6_behind_26 : decode cX6_behind 26 = .ok (.getfield 9, 3) := by decide +kernel
theorem dX6_behind_29 : decode cX6_behind 29 = .ok (.iload_n 1, 1) := by decide +kernel
theorem dX6_behind_30 : decode cX6_behind 30 = .ok (.iload 5, 2) := by decide +kernel
theorem dX6_behind_32 : decode cX6_behind 32 = .ok (.invokevirtual 80, 3) := by decide +kernel
theorem dX6_behind_35 : decode cX6_behind 35 = .ok (.iload 6, 2) := by decide +kernel
theorem dX6_behind_37 : decode cX6_behind 37 = .ok (.ireturn, 1) := by decide +kernel
theorem dX7_init_0 : decode cX7_init 0 = .ok (.aload_n 0, 1) := by decide +kernel
theorem dX7_init_1 : decode cX7_init 1 = .ok (.invokespecial 3, 3) := by decide +kernel
theorem dX7_init_4 : decode cX7_init 4 = .ok (.aload_n 0, 1) := by decide +kernel
theorem dX7_init_5 : decode cX7_init 5 = .ok (.aload_n 1, 1) := by decide +kernel
theorem dX7_init_6 : decode cX7_init 6 = .ok (.putfield 9, 3) := by decide +kernel
theorem dX7_init_9 : decode cX7_init 9 = .ok (.aload_n 0, 1) := by decide +kernel
theorem dX7_init_10 : decode cX7_init 10 = .ok (.aload_n 2, 1) := by decide +kernel
theorem dX7_init_11 : decode cX7_init 11 = .ok (.putfield 15, 3) := by decide +kernel
theorem dX7_init_14 : decode cX7_init 14 = .ok (.aload_n 0, 1) := by decide +kernel
theorem dX7_init_15 : decode cX7_init 15 = .ok (.aload_n 3, 1) := by decide +kernel
theorem dX7_init_16 : decode cX7_init 16 = .ok (.putfield 19, 3) := by decide +kernel
theorem dX7_init_19 : decode cX7_init 19 = .ok (.aload_n 0, 1) := by decide +kernel
theorem dX7_init_20 : decode cX7_init 20 = .ok (.aload 4, 2) := by decide +kernel
theorem dX7_init_22 : decode cX7_init 22 = .ok (.putfield 23, 3) := by decide +kernel
theorem dX7_init_25 : decode cX7_init 25 = .ok (.aload_n 0, 1) := by decide +kernel
theorem dX7_init_26 : decode cX7_init 26 = .ok (.new 27, 3) := by decide +kernel
theorem dX7_init_29 : decode cX7_init 29 = .ok (.dup, 1) := by decide +kernel
theorem dX7_init_30 : decode cX7_init 30 = .ok (.invokespecial 29, 3) := by decide +kernel
theorem dX7_init_33 : decode cX7_init 33 = .ok (.putfield 30, 3) := by decide +kernel
theorem dX7_init_36 : decode cX7_init 36 = .ok (.aload_n 0, 1) := by decide +kernel
theorem dX7_init_37 : decode cX7_init 37 = .ok (.iconst (-1), 1) := by decide +kernel
theorem dX7_init_38 : decode cX7_init 38 = .ok (.putfield 34, 3) := by decide +kernel
theorem dX7_init_41 : decode cX7_init 41 = .ok (.return_, 1) := by decide +kernel
theorem dX7_bestMove_0 : decode cX7_bestMove 0 = .ok (.aload_n 0, 1) := by decide +kernel
theorem dX7_bestMove_1 : decode cX7_bestMove 1 = .ok (.getfield 34, 3) := by decide +kernel
theorem dX7_bestMove_4 : decode cX7_bestMove 4 = .ok (.ireturn, 1) := by decide +kernel
theorem dX7_depthReached_0 : decode cX7_depthReached 0 = .ok (.aload_n 0, 1) := by decide +kernel
theorem dX7_depthReached_1 : decode cX7_depthReached 1 = .ok (.getfield 38, 3) := by decide +kernel
theorem dX7_depthReached_4 : decode cX7_depthReached 4 = .ok (.ireturn, 1) := by decide +kernel
theorem dX7_nodeCount_0 : decode cX7_nodeCount 0 = .ok (.aload_n 0, 1) := by decide +kernel
theorem dX7_nodeCount_1 : decode cX7_nodeCount 1 = .ok (.getfield 41, 3) := by decide +kernel
theorem dX7_nodeCount_4 : decode cX7_nodeCount 4 = .ok (.aload_n 0, 1) := by decide +kernel
theorem dX7_nodeCount_5 : decode cX7_nodeCount 5 = .ok (.getfield 23, 3) := by decide +kernel
theorem dX7_nodeCount_8 : decode cX7_nodeCount 8 = .ok (.invokevirtual 44, 3) := by decide +kernel
theorem dX7_nodeCount_11 : decode cX7_nodeCount 11 = .ok (.iadd, 1) := by decide +kernel
theorem dX7_nodeCount_12 : decode cX7_nodeCount 12 = .ok (.ireturn, 1) := by decide +kernel
theorem dX7_hitCount_0 : decode cX7_hitCount 0 = .ok (.aload_n 0, 1) := by decide +kernel
theorem dX7_hitCount_1 : decode cX7_hitCount 1 = .ok (.getfield 50, 3) := by decide +kernel
theorem dX7_hitCount_4 : decode cX7_hitCount 4 = .ok (.ireturn, 1) := by decide +kernel
theorem dX7_cutCount_0 : decode cX7_cutCount 0 = .ok (.aload_n 0, 1) := by decide +kernel
theorem dX7_cutCount_1 : decode cX7_cutCount 1 = .ok (.getfield 53, 3) := by decide +kernel
theorem dX7_cutCount_4 : decode cX7_cutCount 4 = .ok (.ireturn, 1) := by decide +kernel
theorem dX7_killerOf_0 : decode cX7_killerOf 0 = .ok (.iload_n 2, 1) := by decide +kernel
theorem dX7_killerOf_1 : decode cX7_killerOf 1 = .ok (.ifCond .eq 14, 3) := by decide +kernel
theorem dX7_killerOf_4 : decode cX7_killerOf 4 = .ok (.aload_n 0, 1) := by decide +kernel
theorem dX7_killerOf_5 : decode cX7_killerOf 5 = .ok (.getfield 30, 3) := by decide +kernel
theorem dX7_killerOf_8 : decode cX7_killerOf 8 = .ok (.iload_n 1, 1) := by decide +kernel
theorem dX7_killerOf_9 : decode cX7_killerOf 9 = .ok (.invokevirtual 56, 3) := by decide +kernel
theorem dX7_killerOf_12 : decode cX7_killerOf 12 = .ok (.goto 11, 3) := by decide +kernel
theorem dX7_killerOf_15 : decode cX7_killerOf 15 = .ok (.aload_n 0, 1) := by decide +kernel
theorem dX7_killerOf_16 : decode cX7_killerOf 16 = .ok (.getfield 30, 3) := by decide +kernel
theorem dX7_killerOf_19 : decode cX7_killerOf 19 = .ok (.iload_n 1, 1) := by decide +kernel
theorem dX7_killerOf_20 : decode cX7_killerOf 20 = .ok (.invokevirtual 60, 3) := by decide +kernel
theorem dX7_killerOf_23 : decode cX7_killerOf 23 = .ok (.ireturn, 1) := by decide +kernel
theorem dX7_seek_0 : decode cX7_seek 0 = .ok (.aload_n 0, 1) := by decide +kernel
theorem dX7_seek_1 : decode cX7_seek 1 = .ok (.getfield 30, 3) := by decide +kernel
theorem dX7_seek_4 : decode cX7_seek 4 = .ok (.invokevirtual 63, 3) := by decide +kernel
theorem dX7_seek_7 : decode cX7_seek 7 = .ok (.aload_n 0, 1) := by decide +kernel
theorem dX7_seek_8 : decode cX7_seek 8 = .ok (.getfield 23, 3) := by decide +kernel
theorem dX7_seek_11 : decode cX7_seek 11 = .ok (.invokevirtual 66, 3) := by decide +kernel
theorem dX7_seek_14 : decode cX7_seek 14 = .ok (.aload_n 0, 1) := by decide +kernel
theorem dX7_seek_15 : decode cX7_seek 15 = .ok (.iconst 0, 1) := by decide +kernel
theorem dX7_seek_16 : decode cX7_seek 16 = .ok (.putfield 41, 3) := by decide +kernel
theorem dX7_seek_19 : decode cX7_seek 19 = .ok (.aload_n 0, 1) := by decide +kernel
theorem dX7_seek_20 : decode cX7_seek 20 = .ok (.iconst 0, 1) := by decide +kernel
theorem dX7_seek_21 : decode cX7_seek 21 = .ok (.putfield 50, 3) := by decide +kernel
theorem dX7_seek_24 : decode cX7_seek 24 = .ok (.aload_n 0, 1) := by decide +kernel
theorem dX7_seek_25 : decode cX7_seek 25 = .ok (.iconst 0, 1) := by decide +kernel
theorem dX7_seek_26 : decode cX7_seek 26 = .ok (.putfield 53, 3) := by decide +kernel
theorem dX7_seek_29 : decode cX7_seek 29 = .ok (.iconst 0, 1) := by decide +kernel
theorem dX7_seek_30 : decode cX7_seek 30 = .ok (.istore_n 2, 1) := by decide +kernel
theorem dX7_seek_31 : decode cX7_seek 31 = .ok (.iconst 1, 1) := by decide +kernel
theorem dX7_seek_32 : decode cX7_seek 32 = .ok (.istore_n 3, 1) := by decide +kernel
theorem dX7_seek_33 : decode cX7_seek 33 = .ok (.iload_n 3, 1) := by decide +kernel
theorem dX7_seek_34 : decode cX7_seek 34 = .ok (.iload_n 1, 1) := by decide +kernel
theorem dX7_seek_35 : decode cX7_seek 35 = .ok (.if_icmp .gt 36, 3) := by decide +kernel
theorem dX7_seek_38 : decode cX7_seek 38 = .ok (.aload_n 0, 1) := by decide +kernel
theorem dX7_seek_39 : decode cX7_seek 39 = .ok (.invokevirtual 69, 3) := by decide +kernel
theorem dX7_seek_42 : decode cX7_seek 42 = .ok (.sipush 1000, 3) := by decide +kernel
theorem dX7_seek_45 : decode cX7_seek 45 = .ok (.if_icmp .gt 26, 3) := by decide +kernel
theorem dX7_seek_48 : decode cX7_seek 48 = .ok (.aload_n 0, 1) := by decide +kernel
theorem dX7_seek_49 : decode cX7_seek 49 = .ok (.iload_n 3, 1) := by decide +kernel
theorem dX7_seek_50 : decode cX7_seek 50 = .ok (.sipush (-9999), 3) := by decide +kernel
theorem dX7_seek_53 : decode cX7_seek 53 = .ok (.sipush 9999, 3) := by decide +kernel
theorem dX7_seek_56 : decode cX7_seek 56 = .ok (.invokevirtual 70, 3) := by decide +kernel
theorem dX7_seek_59 : decode cX7_seek 59 = .ok (.istore_n 2, 1) := by decide +kernel
theorem dX7_seek_60 : decode cX7_seek 60 = .ok (.aload_n 0, 1) := by decide +kernel
theorem dX7_seek_61 : decode cX7_seek 61 = .ok (.iload_n 3, 1) := by decide +kernel
theorem dX7_seek_62 : decode cX7_seek 62 = .ok (.putfield 38, 3) := by decide +kernel
theorem dX7_seek_65 : decode cX7_seek 65 = .ok (.iinc 3 1, 3) := by decide +kernel
theorem dX7_seek_68 : decode cX7_seek 68 = .ok (.goto (-35), 3) := by decide +kernel
theorem dX7_seek_71 : decode cX7_seek 71 = .ok (.iload_n 2, 1) := by decide +kernel
theorem dX7_seek_72 : decode cX7_seek 72 = .ok (.ireturn, 1) := by decide +kernel
theorem dX7_explore_0 : decode cX7_explore 0 = .ok (.iload_n 1, 1) := by decide +kernel
theorem dX7_explore_1 : decode cX7_explore 1 = .ok (.ifCond .gt 14, 3) := by decide +kernel
theorem dX7_explore_4 : decode cX7_explore 4 = .ok (.aload_n 0, 1) := by decide +kernel
theorem dX7_explore_5 : decode cX7_explore 5 = .ok (.getfield 23, 3) := by decide +kernel
theorem dX7_explore_8 : decode cX7_explore 8 = .ok (.iconst 4, 1) := by decide +kernel
theorem dX7_explore_9 : decode cX7_explore 9 = .ok (.iload_n 2, 1) := by decide +kernel
theorem dX7_explore_10 : decode cX7_explore 10 = .ok (.iload_n 3, 1) := by decide +kernel
theorem dX7_explore_11 : decode cX7_explore 11 = .ok (.invokevirtual 74, 3) := by decide +kernel
theorem dX7_explore_14 : decode cX7_explore 14 = .ok (.ireturn, 1) := by decide +kernel
theorem dX7_explore_15 : decode cX7_explore 15 = .ok (.aload_n 0, 1) := by decide +kernel
theorem dX7_explore_16 : decode cX7_explore 16 = .ok (.dup, 1) := by decide +kernel
theorem dX7_explore_17 : decode cX7_explore 17 = .ok (.getfield 41, 3) := by decide +kernel
theorem dX7_explore_20 : decode cX7_explore 20 = .ok (.iconst 1, 1) := by decide +kernel
theorem dX7_explore_21 : decode cX7_explore 21 = .ok (.iadd, 1) := by decide +kernel
theorem dX7_explore_22 : decode cX7_explore 22 = .ok (.putfield 41, 3) := by decide +kernel
theorem dX7_explore_25 : decode cX7_explore 25 = .ok (.aload_n 0, 1) := by decide +kernel
theorem dX7_explore_26 : decode cX7_explore 26 = .ok (.getfield 15, 3) := by decide +kernel
theorem dX7_explore_29 : decode cX7_explore 29 = .ok (.iload_n 1, 1) := by decide +kernel
theorem dX7_explore_30 : decode cX7_explore 30 = .ok (.invokevirtual 77, 3) := by decide +kernel
theorem dX7_explore_33 : decode cX7_explore 33 = .ok (.astore 4, 2) := by decide +kernel
theorem dX7_explore_35 : decode cX7_explore 35 = .ok (.aload_n 0, 1) := by decide +kernel
theorem dX7_explore_36 : decode cX7_explore 36 = .ok (.getfield 9, 3) := by decide +kernel
theorem dX7_explore_39 : decode cX7_explore 39 = .ok (.aload 4, 2) := by decide +kernel
theorem dX7_explore_41 : decode cX7_explore 41 = .ok (.invokevirtual 83, 3) := by decide +kernel
theorem dX7_explore_44 : decode cX7_explore 44 = .ok (.aload 4, 2) := by decide +kernel
theorem dX7_explore_46 : decode cX7_explore 46 = .ok (.invokevirtual 89, 3) := by decide +kernel
theorem dX7_explore_49 : decode cX7_explore 49 = .ok (.ifCond .ne 9, 3) := by decide +kernel
theorem dX7_explore_52 : decode cX7_explore 52 = .ok (.sipush (-1000), 3) := by decide +kernel
theorem dX7_explore_55 : decode cX7_explore 55 = .ok (.iload_n 1, 1) := by decide +kernel
theorem dX7_explore_56 : decode cX7_explore 56 = .ok (.isub, 1) := by decide +kernel
theorem dX7_explore_57 : decode cX7_explore 57 = .ok (.ireturn, 1) := by decide +kernel
theorem dX7_explore_58 : decode cX7_explore 58 = .ok (.aload_n 0, 1) := by decide +kernel
theorem dX7_explore_59 : decode cX7_explore 59 = .ok (.getfield 9, 3) := by decide +kernel
theorem dX7_explore_62 : decode cX7_explore 62 = .ok (.invokevirtual 94, 3) := by decide +kernel
theorem dX7_explore_65 : decode cX7_explore 65 = .ok (.lstore 5, 2) := by decide +kernel
theorem dX7_explore_67 : decode cX7_explore 67 = .ok (.aload_n 0, 1) := by decide +kernel
theorem dX7_explore_68 : decode cX7_explore 68 = .ok (.getfield 19, 3) := by decide +kernel
theorem dX7_explore_71 : decode cX7_explore 71 = .ok (.lload 5, 2) := by decide +kernel
theorem dX7_explore_73 : decode cX7_explore 73 = .ok (.invokevirtual 98, 3) := by decide +kernel
theorem dX7_explore_76 : decode cX7_explore 76 = .ok (.istore 7, 2) := by decide +kernel
theorem dX7_explore_78 : decode cX7_explore 78 = .ok (.aload_n 0, 1) := by decide +kernel
theorem dX7_explore_79 : decode cX7_explore 79 = .ok (.getfield 19, 3) := by decide +kernel
theorem dX7_explore_82 : decode cX7_explore 82 = .ok (.iload 7, 2) := by decide +kernel
theorem dX7_explore_84 : decode cX7_explore 84 = .ok (.iload_n 1, 1) := by decide +kernel
theorem dX7_explore_85 : decode cX7_explore 85 = .ok (.iload_n 2, 1) := by decide +kernel
theorem dX7_explore_86 : decode cX7_explore 86 = .ok (.iload_n 3, 1) := by decide +kernel
theorem dX7_explore_87 : decode cX7_explore 87 = .ok (.invokevirtual 104, 3) := by decide +kernel
theorem dX7_explore_90 : decode cX7_explore 90 = .ok (.ifCond .eq 36, 3) := by decide +kernel
theorem dX7_explore_93 : decode cX7_explore 93 = .ok (.aload_n 0, 1) := by decide +kernel
theorem dX7_explore_94 : decode cX7_explore 94 = .ok (.dup, 1) := by decide +kernel
theorem dX7_explore_95 : decode cX7_explore 95 = .ok (.getfield 50, 3) := by decide +kernel
theorem dX7_explore_98 : decode cX7_explore 98 = .ok (.iconst 1, 1) := by decide +kernel
theorem dX7_explore_99 : decode cX7_explore 99 = .ok (.iadd, 1) := by decide +kernel
theorem dX7_explore_100 : decode cX7_explore 100 = .ok (.putfield 50, 3) := by decide +kernel
theorem dX7_explore_103 : decode cX7_explore 103 = .ok (.aload_n 0, 1) := by decide +kernel
theorem dX7_explore_104 : decode cX7_explore 104 = .ok (.aload_n 0, 1) := by decide +kernel
theorem dX7_explore_105 : decode cX7_explore 105 = .ok (.getfield 19, 3) := by decide +kernel
theorem dX7_explore_108 : decode cX7_explore 108 = .ok (.iload 7, 2) := by decide +kernel
theorem dX7_explore_110 : decode cX7_explore 110 = .ok (.invokevirtual 108, 3) := by decide +kernel
theorem dX7_explore_113 : decode cX7_explore 113 = .ok (.putfield 34, 3) := by decide +kernel
theorem dX7_explore_116 : decode cX7_explore 116 = .ok (.aload_n 0, 1) := by decide +kernel
theorem dX7_explore_117 : decode cX7_explore 117 = .ok (.getfield 19, 3) := by decide +kernel
theorem dX7_explore_120 : decode cX7_explore 120 = .ok (.iload 7, 2) := by decide +kernel
theorem dX7_explore_122 : decode cX7_explore 122 = .ok (.invokevirtual 111, 3) := by decide +kernel
theorem dX7_explore_125 : decode cX7_explore 125 = .ok (.ireturn, 1) := by decide +kernel
theorem dX7_explore_126 : decode cX7_explore 126 = .ok (.aload 4, 2) := by decide +kernel
theorem dX7_explore_128 : decode cX7_explore 128 = .ok (.aload_n 0, 1) := by decide +kernel
theorem dX7_explore_129 : decode cX7_explore 129 = .ok (.getfield 19, 3) := by decide +kernel
theorem dX7_explore_132 : decode cX7_explore 132 = .ok (.iload 7, 2) := by decide +kernel
theorem dX7_explore_134 : decode cX7_explore 134 = .ok (.invokevirtual 108, 3) := by decide +kernel
theorem dX7_explore_137 : decode cX7_explore 137 = .ok (.aload_n 0, 1) := by decide +kernel
theorem dX7_explore_138 : decode cX7_explore 138 = .ok (.getfield 30, 3) := by decide +kernel
theorem dX7_explore_141 : decode cX7_explore 141 = .ok (.iload_n 1, 1) := by decide +kernel
theorem dX7_explore_142 : decode cX7_explore 142 = .ok (.invokevirtual 60, 3) := by decide +kernel
theorem dX7_explore_145 : decode cX7_explore 145 = .ok (.aload_n 0, 1) := by decide +kernel
theorem dX7_explore_146 : decode cX7_explore 146 = .ok (.getfield 30, 3) := by decide +kernel
theorem dX7_explore_149 : decode cX7_explore 149 = .ok (.iload_n 1, 1) := by decide +kernel
theorem dX7_explore_150 : decode cX7_explore 150 = .ok (.invokevirtual 56, 3) := by decide +kernel
theorem dX7_explore_153 : decode cX7_explore 153 = .ok (.invokevirtual 114, 3) := by decide +kernel
theorem dX7_explore_156 : decode cX7_explore 156 = .ok (.aload_n 0, 1) := by decide +kernel
theorem dX7_explore_157 : decode cX7_explore 157 = .ok (.aload 4, 2) := by decide +kernel
theorem dX7_explore_159 : decode cX7_explore 159 = .ok (.lload 5, 2) := by decide +kernel
theorem dX7_explore_161 : decode cX7_explore 161 = .ok (.iload_n 1, 1) := by decide +kernel
theorem dX7_explore_162 : decode cX7_explore 162 = .ok (.iload_n 2, 1) := by decide +kernel
theorem dX7_explore_163 : decode cX7_explore 163 = .ok (.iload_n 3, 1) := by decide +kernel
theorem dX7_explore_164 : decode cX7_explore 164 = .ok (.invokevirtual 118, 3) := by decide +kernel
theorem dX7_explore_167 : decode cX7_explore 167 = .ok (.ireturn, 1) := by decide +kernel
