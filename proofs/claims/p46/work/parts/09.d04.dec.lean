theorem dX9_forgetOldest_0 : decode cX9_forgetOldest 0 = .ok (.iconst 0, 1) := by decide +kernel
theorem dX9_forgetOldest_1 : decode cX9_forgetOldest 1 = .ok (.istore_n 1, 1) := by decide +kernel
theorem dX9_forgetOldest_2 : decode cX9_forgetOldest 2 = .ok (.iload_n 1, 1) := by decide +kernel
theorem dX9_forgetOldest_3 : decode cX9_forgetOldest 3 = .ok (.iconst 1, 1) := by decide +kernel
theorem dX9_forgetOldest_4 : decode cX9_forgetOldest 4 = .ok (.iadd, 1) := by decide +kernel
theorem dX9_forgetOldest_5 : decode cX9_forgetOldest 5 = .ok (.aload_n 0, 1) := by decide +kernel
theorem dX9_forgetOldest_6 : decode cX9_forgetOldest 6 = .ok (.getfield 9, 3) := by decide +kernel
theorem dX9_forgetOldest_9 : decode cX9_forgetOldest 9 = .ok (.arraylength, 1) := by decide +kernel
theorem dX9_forgetOldest_10 : decode cX9_forgetOldest 10 = .ok (.if_icmp .ge 48, 3) := by decide +kernel
theorem dX9_forgetOldest_13 : decode cX9_forgetOldest 13 = .ok (.iload_n 1, 1) := by decide +kernel
theorem dX9_forgetOldest_14 : decode cX9_forgetOldest 14 = .ok (.iconst 1, 1) := by decide +kernel
theorem dX9_forgetOldest_15 : decode cX9_forgetOldest 15 = .ok (.iadd, 1) := by decide +kernel
theorem dX9_forgetOldest_16 : decode cX9_forgetOldest 16 = .ok (.aload_n 0, 1) := by decide +kernel
theorem dX9_forgetOldest_17 : decode cX9_forgetOldest 17 = .ok (.getfield 15, 3) := by decide +kernel
theorem dX9_forgetOldest_20 : decode cX9_forgetOldest 20 = .ok (.arraylength, 1) := by decide +kernel
theorem dX9_forgetOldest_21 : decode cX9_forgetOldest 21 = .ok (.if_icmp .ge 37, 3) := by decide +kernel
theorem dX9_forgetOldest_24 : decode cX9_forgetOldest 24 = .ok (.aload_n 0, 1) := by decide +kernel
theorem dX9_forgetOldest_25 : decode cX9_forgetOldest 25 = .ok (.getfield 9, 3) := by decide +kernel
theorem dX9_forgetOldest_28 : decode cX9_forgetOldest 28 = .ok (.iload_n 1, 1) := by decide +kernel
theorem dX9_forgetOldest_29 : decode cX9_forgetOldest 29 = .ok (.aload_n 0, 1) := by decide +kernel
theorem dX9_forgetOldest_30 : decode cX9_forgetOldest 30 = .ok (.getfield 9, 3) := by decide +kernel
theorem dX9_forgetOldest_33 : decode cX9_forgetOldest 33 = .ok (.iload_n 1, 1) := by decide +kernel
theorem dX9_forgetOldest_34 : decode cX9_forgetOldest 34 = .ok (.iconst 1, 1) := by decide +kernel
theorem dX9_forgetOldest_35 : decode cX9_forgetOldest 35 = .ok (.iadd, 1) := by decide +kernel
theorem dX9_forgetOldest_36 : decode cX9_forgetOldest 36 = .ok (.iaload, 1) := by decide +kernel
theorem dX9_forgetOldest_37 : decode cX9_forgetOldest 37 = .ok (.iastore, 1) := by decide +kernel
theorem dX9_forgetOldest_38 : decode cX9_forgetOldest 38 = .ok (.aload_n 0, 1) := by decide +kernel
theorem dX9_forgetOldest_39 : decode cX9_forgetOldest 39 = .ok (.getfield 15, 3) := by decide +kernel
theorem dX9_forgetOldest_42 : decode cX9_forgetOldest 42 = .ok (.iload_n 1, 1) := by decide +kernel
theorem dX9_forgetOldest_43 : decode cX9_forgetOldest 43 = .ok (.aload_n 0, 1) := by decide +kernel
theorem dX9_forgetOldest_44 : decode cX9_forgetOldest 44 = .ok (.getfield 15, 3) := by decide +kernel
theorem dX9_forgetOldest_47 : decode cX9_forgetOldest 47 = .ok (.iload_n 1, 1) := by decide +kernel
theorem dX9_forgetOldest_48 : decode cX9_forgetOldest 48 = .ok (.iconst 1, 1) := by decide +kernel
theorem dX9_forgetOldest_49 : decode cX9_forgetOldest 49 = .ok (.iadd, 1) := by decide +kernel
theorem dX9_forgetOldest_50 : decode cX9_forgetOldest 50 = .ok (.iaload, 1) := by decide +kernel
theorem dX9_forgetOldest_51 : decode cX9_forgetOldest 51 = .ok (.iastore, 1) := by decide +kernel
theorem dX9_forgetOldest_52 : decode cX9_forgetOldest 52 = .ok (.iinc 1 1, 3) := by decide +kernel
theorem dX9_forgetOldest_55 : decode cX9_forgetOldest 55 = .ok (.goto (-53), 3) := by decide +kernel
theorem dX9_forgetOldest_58 : decode cX9_forgetOldest 58 = .ok (.aload_n 0, 1) := by decide +kernel
theorem dX9_forgetOldest_59 : decode cX9_forgetOldest 59 = .ok (.dup, 1) := by decide +kernel
theorem dX9_forgetOldest_60 : decode cX9_forgetOldest 60 = .ok (.getfield 18, 3) := by decide +kernel
theorem dX9_forgetOldest_63 : decode cX9_forgetOldest 63 = .ok (.iconst 1, 1) := by decide +kernel
theorem dX9_forgetOldest_64 : decode cX9_forgetOldest 64 = .ok (.isub, 1) := by decide +kernel
theorem dX9_forgetOldest_65 : decode cX9_forgetOldest 65 = .ok (.putfield 18, 3) := by decide +kernel
theorem dX9_forgetOldest_68 : decode cX9_forgetOldest 68 = .ok (.return_, 1) := by decide +kernel
theorem dX9_lastMove_0 : decode cX9_lastMove 0 = .ok (.aload_n 0, 1) := by decide +kernel
theorem dX9_lastMove_1 : decode cX9_lastMove 1 = .ok (.getfield 18, 3) := by decide +kernel
theorem dX9_lastMove_4 : decode cX9_lastMove 4 = .ok (.iconst 1, 1) := by decide +kernel
theorem dX9_lastMove_5 : decode cX9_lastMove 5 = .ok (.isub, 1) := by decide +kernel
theorem dX9_lastMove_6 : decode cX9_lastMove 6 = .ok (.istore_n 1, 1) := by decide +kernel
theorem dX9_lastMove_7 : decode cX9_lastMove 7 = .ok (.iload_n 1, 1) := by decide +kernel
theorem dX9_lastMove_8 : decode cX9_lastMove 8 = .ok (.ifCond .lt 21, 3) := by decide +kernel
theorem dX9_lastMove_11 : decode cX9_lastMove 11 = .ok (.iload_n 1, 1) := by decide +kernel
theorem dX9_lastMove_12 : decode cX9_lastMove 12 = .ok (.aload_n 0, 1) := by decide +kernel
theorem dX9_lastMove_13 : decode cX9_lastMove 13 = .ok (.getfield 9, 3) := by decide +kernel
theorem dX9_lastMove_16 : decode cX9_lastMove 16 = .ok (.arraylength, 1) := by decide +kernel
theorem dX9_lastMove_17 : decode cX9_lastMove 17 = .ok (.if_icmp .ge 12, 3) := by decide +kernel
theorem dX9_lastMove_20 : decode cX9_lastMove 20 = .ok (.aload_n 0, 1) := by decide +kernel
theorem dX9_lastMove_21 : decode cX9_lastMove 21 = .ok (.getfield 9, 3) := by decide +kernel
theorem dX9_lastMove_24 : decode cX9_lastMove 24 = .ok (.iload_n 1, 1) := by decide +kernel
theorem dX9_lastMove_25 : decode cX9_lastMove 25 = .ok (.iaload, 1) := by decide +kernel
theorem dX9_lastMove_26 : decode cX9_lastMove 26 = .ok (.goto 4, 3) := by decide +kernel
theorem dX9_lastMove_29 : decode cX9_lastMove 29 = .ok (.iconst (-1), 1) := by decide +kernel
theorem dX9_lastMove_30 : decode cX9_lastMove 30 = .ok (.ireturn, 1) := by decide +kernel
theorem dX9_lastTaken_0 : decode cX9_lastTaken 0 = .ok (.aload_n 0, 1) := by decide +kernel
theorem dX9_lastTaken_1 : decode cX9_lastTaken 1 = .ok (.getfield 18, 3) := by decide +kernel
theorem dX9_lastTaken_4 : decode cX9_lastTaken 4 = .ok (.iconst 1, 1) := by decide +kernel
theorem dX9_lastTaken_5 : decode cX9_lastTaken 5 = .ok (.isub, 1) := by decide +kernel
theorem dX9_lastTaken_6 : decode cX9_lastTaken 6 = .ok (.istore_n 1, 1) := by decide +kernel
theorem dX9_lastTaken_7 : decode cX9_lastTaken 7 = .ok (.iload_n 1, 1) := by decide +kernel
theorem dX9_lastTaken_8 : decode cX9_lastTaken 8 = .ok (.ifCond .lt 21, 3) := by decide +kernel
theorem dX9_lastTaken_11 : decode cX9_lastTaken 11 = .ok (.iload_n 1, 1) := by decide +kernel
theorem dX9_lastTaken_12 : decode cX9_lastTaken 12 = .ok (.aload_n 0, 1) := by decide +kernel
theorem dX9_lastTaken_13 : decode cX9_lastTaken 13 = .ok (.getfield 15, 3) := by decide +kernel
theorem dX9_lastTaken_16 : decode cX9_lastTaken 16 = .ok (.arraylength, 1) := by decide +kernel
theorem dX9_lastTaken_17 : decode cX9_lastTaken 17 = .ok (.if_icmp .ge 12, 3) := by decide +kernel
theorem dX9_lastTaken_20 : decode cX9_lastTaken 20 = .ok (.aload_n 0, 1) := by decide +kernel
theorem dX9_lastTaken_21 : decode cX9_lastTaken 21 = .ok (.getfield 15, 3) := by decide +kernel
theorem dX9_lastTaken_24 : decode cX9_lastTaken 24 = .ok (.iload_n 1, 1) := by decide +kernel
theorem dX9_lastTaken_25 : decode cX9_lastTaken 25 = .ok (.iaload, 1) := by decide +kernel
theorem dX9_lastTaken_26 : decode cX9_lastTaken 26 = .ok (.goto 4, 3) := by decide +kernel
theorem dX9_lastTaken_29 : decode cX9_lastTaken 29 = .ok (.iconst 0, 1) := by decide +kernel
theorem dX9_lastTaken_30 : decode cX9_lastTaken 30 = .ok (.ireturn, 1) := by decide +kernel
theorem dX9_dropLast_0 : decode cX9_dropLast 0 = .ok (.aload_n 0, 1) := by decide +kernel
theorem dX9_dropLast_1 : decode cX9_dropLast 1 = .ok (.getfield 18, 3) := by decide +kernel
theorem dX9_dropLast_4 : decode cX9_dropLast 4 = .ok (.ifCond .le 13, 3) := by decide +kernel
theorem dX9_dropLast_7 : decode cX9_dropLast 7 = .ok (.aload_n 0, 1) := by decide +kernel
theorem dX9_dropLast_8 : decode cX9_dropLast 8 = .ok (.dup, 1) := by decide +kernel
theorem dX9_dropLast_9 : decode cX9_dropLast 9 = .ok (.getfield 18, 3) := by decide +kernel
theorem dX9_dropLast_12 : decode cX9_dropLast 12 = .ok (.iconst 1, 1) := by decide +kernel
theorem dX9_dropLast_13 : decode cX9_dropLast 13 = .ok (.isub, 1) := by decide +kernel
theorem dX9_dropLast_14 : decode cX9_dropLast 14 = .ok (.putfield 18, 3) := by decide +kernel
theorem dX9_dropLast_17 : decode cX9_dropLast 17 = .ok (.return_, 1) := by decide +kernel
theorem dX10_init_0 : decode cX10_init 0 = .ok (.aload_n 0, 1) := by decide +kernel
theorem dX10_init_1 : decode cX10_init 1 = .ok (.invokespecial 3, 3) := by decide +kernel
theorem dX10_init_4 : decode cX10_init 4 = .ok (.aload_n 0, 1) := by decide +kernel
theorem dX10_init_5 : decode cX10_init 5 = .ok (.aload_n 1, 1) := by decide +kernel
theorem dX10_init_6 : decode cX10_init 6 = .ok (.putfield 9, 3) := by decide +kernel
theorem dX10_init_9 : decode cX10_init 9 = .ok (.aload_n 0, 1) := by decide +kernel
theorem dX10_init_10 : decode cX10_init 10 = .ok (.aload_n 2, 1) := by decide +kernel
theorem dX10_init_11 : decode cX10_init 11 = .ok (.putfield 15, 3) := by decide +kernel
theorem dX10_init_14 : decode cX10_init 14 = .ok (.aload_n 0, 1) := by decide +kernel
theorem dX10_init_15 : decode cX10_init 15 = .ok (.aload_n 3, 1) := by decide +kernel
theorem dX10_init_16 : decode cX10_init 16 = .ok (.putfield 19, 3) := by decide +kernel
theorem dX10_init_19 : decode cX10_init 19 = .ok (.return_, 1) := by decide +kernel
theorem dX10_countWays_0 : decode cX10_countWays 0 = .ok (.iload_n 1, 1) := by decide +kernel
theorem dX10_countWays_1 : decode cX10_countWays 1 = .ok (.ifCond .gt 5, 3) := by decide +kernel
theorem dX10_countWays_4 : decode cX10_countWays 4 = .ok (.iconst 1, 1) := by decide +kernel
theorem dX10_countWays_5 : decode cX10_countWays 5 = .ok (.ireturn, 1) := by decide +kernel
theorem dX10_countWays_6 : decode cX10_countWays 6 = .ok (.aload_n 0, 1) := by decide +kernel
theorem dX10_countWays_7 : decode cX10_countWays 7 = .ok (.getfield 15, 3) := by decide +kernel
theorem dX10_countWays_10 : decode cX10_countWays 10 = .ok (.iload_n 1, 1) := by decide +kernel
theorem dX10_countWays_11 : decode cX10_countWays 11 = .ok (.invokevirtual 23, 3) := by decide +kernel
theorem dX10_countWays_14 : decode cX10_countWays 14 = .ok (.astore_n 2, 1) := by decide +kernel
theorem dX10_countWays_15 : decode cX10_countWays 15 = .ok (.aload_n 0, 1) := by decide +kernel
theorem dX10_countWays_16 : decode cX10_countWays 16 = .ok (.getfield 9, 3) := by decide +kernel
theorem dX10_countWays_19 : decode cX10_countWays 19 = .ok (.aload_n 2, 1) := by decide +kernel
theorem dX10_countWays_20 : decode cX10_countWays 20 = .ok (.invokevirtual 29, 3) := by decide +kernel
theorem dX10_countWays_23 : decode cX10_countWays 23 = .ok (.iconst 0, 1) := by decide +kernel
theorem dX10_countWays_24 : decode cX10_countWays 24 = .ok (.istore_n 3, 1) := by decide +kernel
theorem dX10_countWays_25 : decode cX10_countWays 25 = .ok (.iconst 0, 1) := by decide +kernel
theorem dX10_countWays_26 : decode cX10_countWays 26 = .ok (.istore 4, 2) := by decide +kernel
theorem dX10_countWays_28 : decode cX10_countWays 28 = .ok (.iload 4, 2) := by decide +kernel
theorem dX10_countWays_30 : decode cX10_countWays 30 = .ok (.aload_n 2, 1) := by decide +kernel
theorem dX10_countWays_31 : decode cX10_countWays 31 = .ok (.invokevirtual 35, 3) := by decide +kernel
theorem dX10_countWays_34 : decode cX10_countWays 34 = .ok (.if_icmp .ge 23, 3) := by decide +kernel
theorem dX10_countWays_37 : decode cX10_countWays 37 = .ok (.iload_n 3, 1) := by decide +kernel
theorem dX10_countWays_38 : decode cX10_countWays 38 = .ok (.aload_n 0, 1) := by decide +kernel
theorem dX10_countWays_39 : decode cX10_countWays 39 = .ok (.aload_n 2, 1) := by decide +kernel
theorem dX10_countWays_40 : decode cX10_countWays 40 = .ok (.iload 4, 2) := by decide +kernel
theorem dX10_countWays_42 : decode cX10_countWays 42 = .ok (.invokevirtual 41, 3) := by decide +kernel
theorem dX10_countWays_45 : decode cX10_countWays 45 = .ok (.iload_n 1, 1) := by decide +kernel
theorem dX10_countWays_46 : decode cX10_countWays 46 = .ok (.invokevirtual 45, 3) := by decide +kernel
theorem dX10_countWays_49 : decode cX10_countWays 49 = .ok (.iadd, 1) := by decide +kernel
theorem dX10_countWays_50 : decode cX10_countWays 50 = .ok (.istore_n 3, 1) := by decide +kernel
theorem dX10_countWays_51 : decode cX10_countWays 51 = .ok (.iinc 4 1, 3) := by decide +kernel
theorem dX10_countWays_54 : decode cX10_countWays 54 = .ok (.goto (-26), 3) := by decide +kernel
theorem dX10_countWays_57 : decode cX10_countWays 57 = .ok (.iload_n 3, 1) := by decide +kernel
theorem dX10_countWays_58 : decode cX10_countWays 58 = .ok (.ireturn, 1) := by decide +kernel
theorem dX10_countBehind_0 : decode cX10_countBehind 0 = .ok (.aload_n 0, 1) := by decide +kernel
theorem dX10_countBehind_1 : decode cX10_countBehind 1 = .ok (.getfield 9, 3) := by decide +kernel
theorem dX10_countBehind_4 : decode cX10_countBehind 4 = .ok (.iload_n 1, 1) := by decide +kernel
theorem dX10_countBehind_5 : decode cX10_countBehind 5 = .ok (.invokevirtual 49, 3) := by decide +kernel
theorem dX10_countBehind_8 : decode cX10_countBehind 8 = .ok (.istore_n 3, 1) := by decide +kernel
theorem dX10_countBehind_9 : decode cX10_countBehind 9 = .ok (.aload_n 0, 1) := by decide +kernel
theorem dX10_countBehind_10 : decode cX10_countBehind 10 = .ok (.iload_n 2, 1) := by decide +kernel
theorem dX10_countBehind_11 : decode cX10_countBehind 11 = .ok (.iconst 1, 1) := by decide +kernel
theorem dX10_countBehind_12 : decode cX10_countBehind 12 = .ok (.isub, 1) := by decide +kernel
theorem dX10_countBehind_13 : decode cX10_countBehind 13 = .ok (.invokevirtual 52, 3) := by decide +kernel
theorem dX10_countBehind_16 : decode cX10_countBehind 16 = .ok (.istore 4, 2) := by decide +kernel
theorem dX10_countBehind_18 : decode cX10_countBehind 18 = .ok (.aload_n 0, 1) := by decide +kernel
theorem dX10_countBehind_19 : decode cX10_countBehind 19 = .ok (.getfield 9, 3) := by decide +kernel
theorem dX10_countBehind_22 : decode cX10_countBehind 22 = .ok (.iload_n 1, 1) := by decide +kernel
theorem dX10_countBehind_23 : decode cX10_countBehind 23 = .ok (.iload_n 3, 1) := by decide +kernel
theorem dX10_countBehind_24 : decode cX10_countBehind 24 = .ok (.invokevirtual 55, 3) := by decide +kernel
theorem dX10_countBehind_27 : decode cX10_countBehind 27 = .ok (.iload 4, 2) := by decide +kernel
theorem dX10_countBehind_29 : decode cX10_countBehind 29 = .ok (.ireturn, 1) := by decide +kernel
theorem dX10_worth_0 : decode cX10_worth 0 = .ok (.iload_n 1, 1) := by decide +kernel
theorem dX10_worth_1 : decode cX10_worth 1 = .ok (.ifCond .gt 14, 3) := by decide +kernel
theorem dX10_worth_4 : decode cX10_worth 4 = .ok (.aload_n 0, 1) := by decide +kernel
theorem dX10_worth_5 : decode cX10_worth 5 = .ok (.getfield 19, 3) := by decide +kernel
theorem dX10_worth_8 : decode cX10_worth 8 = .ok (.iconst 4, 1) := by decide +kernel
theorem dX10_worth_9 : decode cX10_worth 9 = .ok (.iload_n 2, 1) := by decide +kernel
theorem dX10_worth_10 : decode cX10_worth 10 = .ok (.iload_n 3, 1) := by decide +kernel
theorem dX10_worth_11 : decode cX10_worth 11 = .ok (.invokevirtual 59, 3) := by decide +kernel
theorem dX10_worth_14 : decode cX10_worth 14 = .ok (.ireturn, 1) := by decide +kernel
theorem dX10_worth_15 : decode cX10_worth 15 = .ok (.aload_n 0, 1) := by decide +kernel
theorem dX10_worth_16 : decode cX10_worth 16 = .ok (.getfield 15, 3) := by decide +kernel
theorem dX10_worth_19 : decode cX10_worth 19 = .ok (.iload_n 1, 1) := by decide +kernel
theorem dX10_worth_20 : decode cX10_worth 20 = .ok (.invokevirtual 23, 3) := by decide +kernel
theorem dX10_worth_23 : decode cX10_worth 23 = .ok (.astore 4, 2) := by decide +kernel
theorem dX10_worth_25 : decode cX10_worth 25 = .ok (.aload_n 0, 1) := by decide +kernel
theorem dX10_worth_26 : decode cX10_worth 26 = .ok (.getfield 9, 3) := by decide +kernel
theorem dX10_worth_29 : decode cX10_worth 29 = .ok (.aload 4, 2) := by decide +kernel
theorem dX10_worth_31 : decode cX10_worth 31 = .ok (.invokevirtual 29, 3) := by decide +kernel
theorem dX10_worth_34 : decode cX10_worth 34 = .ok (.aload 4, 2) := by decide +kernel
theorem dX10_worth_36 : decode cX10_worth 36 = .ok (.invokevirtual 35, 3) := by decide +kernel
theorem dX10_worth_39 : decode cX10_worth 39 = .ok (.ifCond .ne 9, 3) := by decide +kernel
theorem dX10_worth_42 : decode cX10_worth 42 = .ok (.sipush (-1000), 3) := by decide +kernel
theorem dX10_worth_45 : decode cX10_worth 45 = .ok (.iload_n 1, 1) := by decide +kernel
theorem dX10_worth_46 : decode cX10_worth 46 = .ok (.isub, 1) := by decide +kernel
theorem dX10_worth_47 : decode cX10_worth 47 = .ok (.ireturn, 1) := by decide +kernel
theorem dX10_worth_48 : decode cX10_worth 48 = .ok (.sipush (-10000), 3) := by decide +kernel
theorem dX10_worth_51 : decode cX10_worth 51 = .ok (.istore 5, 2) := by decide +kernel
theorem dX10_worth_53 : decode cX10_worth 53 = .ok (.iload_n 2, 1) := by decide +kernel
theorem dX10_worth_54 : decode cX10_worth 54 = .ok (.istore 6, 2) := by decide +kernel
theorem dX10_worth_56 : decode cX10_worth 56 = .ok (.iconst 0, 1) := by decide +kernel
theorem dX10_worth_57 : decode cX10_worth 57 = .ok (.istore 7, 2) := by decide +kernel
theorem dX10_worth_59 : decode cX10_worth 59 = .ok (.iload 7, 2) := by decide +kernel
theorem dX10_worth_61 : decode cX10_worth 61 = .ok (.aload 4, 2) := by decide +kernel
theorem dX10_worth_63 : decode cX10_worth 63 = .ok (.invokevirtual 35, 3) := by decide +kernel
theorem dX10_worth_66 : decode cX10_worth 66 = .ok (.if_icmp .ge 46, 3) := by decide +kernel
theorem dX10_worth_69 : decode cX10_worth 69 = .ok (.iload 5, 2) := by decide +kernel
theorem dX10_worth_71 : decode cX10_worth 71 = .ok (.iload_n 3, 1) := by decide +kernel
theorem dX10_worth_72 : decode cX10_worth 72 = .ok (.if_icmp .ge 40, 3) := by decide +kernel
theorem dX10_worth_75 : decode cX10_worth 75 = .ok (.iload 5, 2) := by decide +kernel
theorem dX10_worth_77 : decode cX10_worth 77 = .ok (.aload_n 0, 1) := by decide +kernel
theorem dX10_worth_78 : decode cX10_worth 78 = .ok (.aload 4, 2) := by decide +kernel
theorem dX10_worth_80 : decode cX10_worth 80 = .ok (.iload 7, 2) := by decide +kernel
theorem dX10_worth_82 : decode cX10_worth 82 = .ok (.invokevirtual 41, 3) := by decide +kernel
theorem dX10_worth_85 : decode cX10_worth 85 = .ok (.iload_n 1, 1) := by decide +kernel
theorem dX10_worth_86 : decode cX10_worth 86 = .ok (.iload 6, 2) := by decide +kernel
theorem dX10_worth_88 : decode cX10_worth 88 = .ok (.iload_n 3, 1) := by decide +kernel
theorem dX10_worth_89 : decode cX10_worth 89 = .ok (.invokevirtual 65, 3) := by decide +kernel
theorem dX10_worth_92 : decode cX10_worth 92 = .ok (.invokestatic 69, 3) := by decide +kernel
theorem dX10_worth_95 : decode cX10_worth 95 = .ok (.istore 5, 2) := by decide +kernel
theorem dX10_worth_97 : decode cX10_worth 97 = .ok (.iload 6, 2) := by decide +kernel
theorem dX10_worth_99 : decode cX10_worth 99 = .ok (.iload 5, 2) := by decide +kernel
theorem dX10_worth_101 : decode cX10_worth 101 = .ok (.invokestatic 69, 3) := by decide +kernel
theorem dX10_worth_104 : decode cX10_worth 104 = .ok (.istore 6, 2) := by decide +kernel
theorem dX10_worth_106 : decode cX10_worth 106 = .ok (.iinc 7 1, 3) := by decide +kernel
theorem dX10_worth_109 : decode cX10_worth 109 = .ok (.goto (-50), 3) := by decide +kernel
theorem dX10_worth_112 : decode cX10_worth 112 = .ok (.iload 5, 2) := by decide +kernel
theorem dX10_worth_114 : decode cX10_worth 114 = .ok (.ireturn, 1) := by decide +kernel
theorem dX10_worthBehind_0 : decode cX10_worthBehind 0 = .ok (.aload_n 0, 1) := by decide +kernel
theorem dX10_worthBehind_1 : decode cX10_worthBehind 1 = .ok (.getfield 9, 3) := by decide +kernel
theorem dX10_worthBehind_4 : decode cX10_worthBehind 4 = .ok (.iload_n 1, 1) := by decide +kernel
theorem dX10_worthBehind_5 : decode cX10_worthBehind 5 = .ok (.invokevirtual 49, 3) := by decide +kernel
theorem dX10_worthBehind_8 : decode cX10_worthBehind 8 = .ok (.istore 5, 2) := by decide +kernel
theorem dX10_worthBehind_10 : decode cX10_worthBehind 10 = .ok (.aload_n 0, 1) := by decide +kernel
theorem dX10_worthBehind_11 : decode cX10_worthBehind 11 = .ok (.iload_n 2, 1) := by decide +kernel
theorem dX10_worthBehind_12 : decode cX10_worthBehind 12 = .ok (.iconst 1, 1) := by decide +kernel
theorem dX10_worthBehind_13 : decode cX10_worthBehind 13 = .ok (.isub, 1) := by decide +kernel
theorem dX10_worthBehind_14 : decode cX10_worthBehind 14 = .ok (.iload 4, 2) := by decide +kernel
theorem dX10_worthBehind_16 : decode cX10_worthBehind 16 = .ok (.ineg, 1) := by decide +kernel
theorem dX10_worthBehind_17 : decode cX10_worthBehind 17 = .ok (.iload_n 3, 1) := by decide +kernel
theorem dX10_worthBehind_18 : decode cX10_worthBehind 18 = .ok (.ineg, 1) := by decide +kernel
theorem dX10_worthBehind_19 : decode cX10_worthBehind 19 = .ok (.invokevirtual 74, 3) := by decide +kernel
theorem dX10_worthBehind_22 : decode cX10_worthBehind 22 = .ok (.ineg, 1) := by decide +kernel
theorem dX10_worthBehind_23 : decode cX10_worthBehind 23 = .ok (.istore 6, 2) := by decide +kernel
theorem dX10_worthBehind_25 : decode cX10_worthBehind 25 = .ok (.aload_n 0, 1) := by decide +kernel
theorem dX10_worthBehind_26 : decode cX10_worthBehind 26 = .ok (.getfield 9, 3) := by decide +kernel
theorem dX10_worthBehind_29 : decode cX10_worthBehind 29 = .ok (.iload_n 1, 1) := by decide +kernel
theorem dX10_worthBehind_30 : decode cX10_worthBehind 30 = .ok (.iload 5, 2) := by decide +kernel
theorem dX10_worthBehind_32 : decode cX10_worthBehind 32 = .ok (.invokevirtual 55, 3) := by decide +kernel
theorem dX10_worthBehind_35 : decode cX10_worthBehind 35 = .ok (.iload 6, 2) := by decide +kernel
theorem dX10_worthBehind_37 : decode cX10_worthBehind 37 = .ok (.ireturn, 1) := by decide +kernel
theorem dX11_init_0 : decode cX11_init 0 = .ok (.aload_n 0, 1) := by decide +kernel
theorem dX11_init_1 : decode cX11_init 1 = .ok (.invokespecial 1, 3) := by decide +kernel
theorem dX11_init_4 : decode cX11_init 4 = .ok (.new 7, 3) := by decide +kernel
theorem dX11_init_7 : decode cX11_init 7 = .ok (.dup, 1) := by decide +kernel
theorem dX11_init_8 : decode cX11_init 8 = .ok (.invokespecial 9, 3) := by decide +kernel
theorem dX11_init_11 : decode cX11_init 11 = .ok (.astore_n 1, 1) := by decide +kernel
theorem dX11_init_12 : decode cX11_init 12 = .ok (.aload_n 0, 1) := by decide +kernel
theorem dX11_init_13 : decode cX11_init 13 = .ok (.new 10, 3) := by decide +kernel
theorem dX11_init_16 : decode cX11_init 16 = .ok (.dup, 1) := by decide +kernel
theorem dX11_init_17 : decode cX11_init 17 = .ok (.invokespecial 12, 3) := by decide +kernel
theorem dX11_init_20 : decode cX11_init 20 = .ok (.putfield 13, 3) := by decide +kernel
theorem dX11_init_23 : decode cX11_init 23 = .ok (.aload_n 0, 1) := by decide +kernel
theorem dX11_init_24 : decode cX11_init 24 = .ok (.new 19, 3) := by decide +kernel
theorem dX11_init_27 : decode cX11_init 27 = .ok (.dup, 1) := by decide +kernel
theorem dX11_init_28 : decode cX11_init 28 = .ok (.invokespecial 21, 3) := by decide +kernel
theorem dX11_init_31 : decode cX11_init 31 = .ok (.putfield 22, 3) := by decide +kernel
theorem dX11_init_34 : decode cX11_init 34 = .ok (.aload_n 0, 1) := by decide +kernel
theorem dX11_init_35 : decode cX11_init 35 = .ok (.new 26, 3) := by decide +kernel
theorem dX11_init_38 : decode cX11_init 38 = .ok (.dup, 1) := by decide +kernel
theorem dX11_init_39 : decode cX11_init 39 = .ok (.invokespecial 28, 3) := by decide +kernel
theorem dX11_init_42 : decode cX11_init 42 = .ok (.putfield 29, 3) := by decide +kernel
theorem dX11_init_45 : decode cX11_init 45 = .ok (.aload_n 0, 1) := by decide +kernel
theorem dX11_init_46 : decode cX11_init 46 = .ok (.new 33, 3) := by decide +kernel
theorem dX11_init_49 : decode cX11_init 49 = .ok (.dup, 1) := by decide +kernel
theorem dX11_init_50 : decode cX11_init 50 = .ok (.invokespecial 35, 3) := by decide +kernel
theorem dX11_init_53 : decode cX11_init 53 = .ok (.putfield 36, 3) := by decide +kernel
theorem dX11_init_56 : decode cX11_init 56 = .ok (.aload_n 0, 1) := by decide +kernel
theorem dX11_init_57 : decode cX11_init 57 = .ok (.new 40, 3) := by decide +kernel
theorem dX11_init_60 : decode cX11_init 60 = .ok (.dup, 1) := by decide +kernel
theorem dX11_init_61 : decode cX11_init 61 = .ok (.invokespecial 42, 3) := by decide +kernel
theorem dX11_init_64 : decode cX11_init 64 = .ok (.putfield 43, 3) := by decide +kernel
theorem dX11_init_67 : decode cX11_init 67 = .ok (.aload_n 0, 1) := by decide +kernel
theorem dX11_init_68 : decode cX11_init 68 = .ok (.new 47, 3) := by decide +kernel
theorem dX11_init_71 : decode cX11_init 71 = .ok (.dup, 1) := by decide +kernel
theorem dX11_init_72 : decode cX11_init 72 = .ok (.aload_n 0, 1) := by decide +kernel
theorem dX11_init_73 : decode cX11_init 73 = .ok (.getfield 13, 3) := by decide +kernel
theorem dX11_init_76 : decode cX11_init 76 = .ok (.aload_n 1, 1) := by decide +kernel
theorem dX11_init_77 : decode cX11_init 77 = .ok (.new 49, 3) := by decide +kernel
theorem dX11_init_80 : decode cX11_init 80 = .ok (.dup, 1) := by decide +kernel
theorem dX11_init_81 : decode cX11_init 81 = .ok (.aload_n 0, 1) := by decide +kernel
theorem dX11_init_82 : decode cX11_init 82 = .ok (.getfield 13, 3) := by decide +kernel
theorem dX11_init_85 : decode cX11_init 85 = .ok (.aload_n 0, 1) := by decide +kernel
theorem dX11_init_86 : decode cX11_init 86 = .ok (.getfield 36, 3) := by decide +kernel
theorem dX11_init_89 : decode cX11_init 89 = .ok (.aload_n 1, 1) := by decide +kernel
theorem dX11_init_90 : decode cX11_init 90 = .ok (.invokespecial 51, 3) := by decide +kernel
theorem dX11_init_93 : decode cX11_init 93 = .ok (.invokespecial 54, 3) := by decide +kernel
theorem dX11_init_96 : decode cX11_init 96 = .ok (.putfield 57, 3) := by decide +kernel
theorem dX11_init_99 : decode cX11_init 99 = .ok (.aload_n 0, 1) := by decide +kernel
theorem dX11_init_100 : decode cX11_init 100 = .ok (.new 61, 3) := by decide +kernel
theorem dX11_init_103 : decode cX11_init 103 = .ok (.dup, 1) := by decide +kernel
theorem dX11_init_104 : decode cX11_init 104 = .ok (.aload_n 0, 1) := by decide +kernel
theorem dX11_init_105 : decode cX11_init 105 = .ok (.getfield 13, 3) := by decide +kernel
theorem dX11_init_108 : decode cX11_init 108 = .ok (.aload_n 1, 1) := by decide +kernel
theorem dX11_init_109 : decode cX11_init 109 = .ok (.aload_n 0, 1) := by decide +kernel
theorem dX11_init_110 : decode cX11_init 110 = .ok (.getfield 43, 3) := by decide +kernel
theorem dX11_init_113 : decode cX11_init 113 = .ok (.new 49, 3) := by decide +kernel
theorem dX11_init_116 : decode cX11_init 116 = .ok (.dup, 1) := by decide +kernel
theorem dX11_init_117 : decode cX11_init 117 = .ok (.aload_n 0, 1) := by decide +kernel
theorem dX11_init_118 : decode cX11_init 118 = .ok (.getfield 13, 3) := by decide +kernel
theorem dX11_init_121 : decode cX11_init 121 = .ok (.aload_n 0, 1) := by decide +kernel
theorem dX11_init_122 : decode cX11_init 122 = .ok (.getfield 36, 3) := by decide +kernel
theorem dX11_init_125 : decode cX11_init 125 = .ok (.aload_n 1, 1) := by decide +kernel
theorem dX11_init_126 : decode cX11_init 126 = .ok (.invokespecial 51, 3) := by decide +kernel
theorem dX11_init_129 : decode cX11_init 129 = .ok (.invokespecial 63, 3) := by decide +kernel
theorem dX11_init_132 : decode cX11_init 132 = .ok (.putfield 66, 3) := by decide +kernel
theorem dX11_init_135 : decode cX11_init 135 = .ok (.aload_n 0, 1) := by decide +kernel
theorem dX11_init_136 : decode cX11_init 136 = .ok (.new 70, 3) := by decide +kernel
theorem dX11_init_139 : decode cX11_init 139 = .ok (.dup, 1) := by decide +kernel
theorem dX11_init_140 : decode cX11_init 140 = .ok (.invokespecial 72, 3) := by decide +kernel
theorem dX11_init_143 : decode cX11_init 143 = .ok (.putfield 73, 3) := by decide +kernel
theorem dX11_init_146 : decode cX11_init 146 = .ok (.aload_n 0, 1) := by decide +kernel
theorem dX11_init_147 : decode cX11_init 147 = .ok (.getfield 13, 3) := by decide +kernel
theorem dX11_init_150 : decode cX11_init 150 = .ok (.aload_n 0, 1) := by decide +kernel
theorem dX11_init_151 : decode cX11_init 151 = .ok (.getfield 22, 3) := by decide +kernel
theorem dX11_init_154 : decode cX11_init 154 = .ok (.invokevirtual 77, 3) := by decide +kernel
theorem dX11_init_157 : decode cX11_init 157 = .ok (.return_, 1) := by decide +kernel
theorem dX11_setUp_0 : decode cX11_setUp 0 = .ok (.iload_n 1, 1) := by decide +kernel
theorem dX11_setUp_1 : decode cX11_setUp 1 = .ok (.iconst 3, 1) := by decide +kernel
theorem dX11_setUp_2 : decode cX11_setUp 2 = .ok (.iconst 5, 1) := by decide +kernel
theorem dX11_setUp_3 : decode cX11_setUp 3 = .ok (.invokestatic 81, 3) := by decide +kernel
theorem dX11_setUp_6 : decode cX11_setUp 6 = .ok (.ifCond .eq 12, 3) := by decide +kernel
theorem dX11_setUp_9 : decode cX11_setUp 9 = .ok (.iload_n 2, 1) := by decide +kernel
theorem dX11_setUp_10 : decode cX11_setUp 10 = .ok (.iconst 3, 1) := by decide +kernel
theorem dX11_setUp_11 : decode cX11_setUp 11 = .ok (.iconst 5, 1) := by decide +kernel
theorem dX11_setUp_12 : decode cX11_setUp 12 = .ok (.invokestatic 81, 3) := by decide +kernel
theorem dX11_setUp_15 : decode cX11_setUp 15 = .ok (.ifCond .ne 13, 3) := by decide +kernel
theorem dX11_setUp_18 : decode cX11_setUp 18 = .ok (.new 85, 3) := by decide +kernel
theorem dX11_setUp_21 : decode cX11_setUp 21 = .ok (.dup, 1) := by decide +kernel
theorem dX11_setUp_22 : decode cX11_setUp 22 = .ok (.ldc 87, 2) := by decide +kernel
theorem dX11_setUp_24 : decode cX11_setUp 24 = .ok (.invokespecial 89, 3) := by decide +kernel
theorem dX11_setUp_27 : decode cX11_setUp 27 = .ok (.athrow, 1) := by decide +kernel
theorem dX11_setUp_28 : decode cX11_setUp 28 = .ok (.iload_n 3, 1) := by decide +kernel
theorem dX11_setUp_29 : decode cX11_setUp 29 = .ok (.iconst 1, 1) := by decide +kernel
theorem dX11_setUp_30 : decode cX11_setUp 30 = .ok (.if_icmp .lt 27, 3) := by decide +kernel
theorem dX11_setUp_33 : decode cX11_setUp 33 = .ok (.ldc2_w 92, 3) := by decide +kernel
theorem dX11_setUp_36 : decode cX11_setUp 36 = .ok (.iload_n 3, 1) := by decide +kernel
theorem dX11_setUp_37 : decode cX11_setUp 37 = .ok (.i2l, 1) := by decide +kernel
theorem dX11_setUp_38 : decode cX11_setUp 38 = .ok (.lmul, 1) := by decide +kernel
theorem dX11_setUp_39 : decode cX11_setUp 39 = .ok (.iload_n 2, 1) := by decide +kernel
theorem dX11_setUp_40 : decode cX11_setUp 40 = .ok (.i2l, 1) := by decide +kernel
theorem dX11_setUp_41 : decode cX11_setUp 41 = .ok (.lcmp, 1) := by decide +kernel
theorem dX11_setUp_42 : decode cX11_setUp 42 = .ok (.ifCond .ge 15, 3) := by decide +kernel
theorem dX11_setUp_45 : decode cX11_setUp 45 = .ok (.iload_n 3, 1) := by decide +kernel
theorem dX11_setUp_46 : decode cX11_setUp 46 = .ok (.i2l, 1) := by decide +kernel
theorem dX11_setUp_47 : decode cX11_setUp 47 = .ok (.iload_n 1, 1) := by decide +kernel
theorem dX11_setUp_48 : decode cX11_setUp 48 = .ok (.i2l, 1) := by decide +kernel
theorem dX11_setUp_49 : decode cX11_setUp 49 = .ok (.lmul, 1) := by decide +kernel
theorem dX11_setUp_50 : decode cX11_setUp 50 = .ok (.ldc2_w 94, 3) := by decide +kernel
theorem dX11_setUp_53 : decode cX11_setUp 53 = .ok (.lcmp, 1) := by decide +kernel
theorem dX11_setUp_54 : decode cX11_setUp 54 = .ok (.ifCond .le 13, 3) := by decide +kernel
theorem dX11_setUp_57 : decode cX11_setUp 57 = .ok (.new 85, 3) := by decide +kernel
theorem dX11_setUp_60 : decode cX11_setUp 60 = .ok (.dup, 1) := by decide +kernel
theorem dX11_setUp_61 : decode cX11_setUp 61 = .ok (.ldc 96, 2) := by decide +kernel
theorem dX11_setUp_63 : decode cX11_setUp 63 = .ok (.invokespecial 89, 3) := by decide +kernel
theorem dX11_setUp_66 : decode cX11_setUp 66 = .ok (.athrow, 1) := by decide +kernel
theorem dX11_setUp_67 : decode cX11_setUp 67 = .ok (.aload_n 0, 1) := by decide +kernel
theorem dX11_setUp_68 : decode cX11_setUp 68 = .ok (.getfield 13, 3) := by decide +kernel
theorem dX11_setUp_71 : decode cX11_setUp 71 = .ok (.iload_n 1, 1) := by decide +kernel
theorem dX11_setUp_72 : decode cX11_setUp 72 = .ok (.iload_n 2, 1) := by decide +kernel
theorem dX11_setUp_73 : decode cX11_setUp 73 = .ok (.iload_n 3, 1) := by decide +kernel
theorem dX11_setUp_74 : decode cX11_setUp 74 = .ok (.invokevirtual 98, 3) := by decide +kernel
theorem dX11_setUp_77 : decode cX11_setUp 77 = .ok (.aload_n 0, 1) := by decide +kernel
theorem dX11_setUp_78 : decode cX11_setUp 78 = .ok (.getfield 43, 3) := by decide +kernel
theorem dX11_setUp_81 : decode cX11_setUp 81 = .ok (.invokevirtual 102, 3) := by decide +kernel
theorem dX11_setUp_84 : decode cX11_setUp 84 = .ok (.aload_n 0, 1) := by decide +kernel
theorem dX11_setUp_85 : decode cX11_setUp 85 = .ok (.invokevirtual 105, 3) := by decide +kernel
theorem dX11_setUp_88 : decode cX11_setUp 88 = .ok (.iconst 2, 1) := by decide +kernel
theorem dX11_setUp_89 : decode cX11_setUp 89 = .ok (.iload_n 3, 1) := by decide +kernel
theorem dX11_setUp_90 : decode cX11_setUp 90 = .ok (.imul, 1) := by decide +kernel
theorem dX11_setUp_91 : decode cX11_setUp 91 = .ok (.iload_n 1, 1) := by decide +kernel
theorem dX11_setUp_92 : decode cX11_setUp 92 = .ok (.imul, 1) := by decide +kernel
theorem dX11_setUp_93 : decode cX11_setUp 93 = .ok (.ireturn, 1) := by decide +kernel
theorem dX11_put_0 : decode cX11_put 0 = .ok (.aload_n 0, 1) := by decide +kernel
theorem dX11_put_1 : decode cX11_put 1 = .ok (.getfield 13, 3) := by decide +kernel
theorem dX11_put_4 : decode cX11_put 4 = .ok (.iload_n 1, 1) := by decide +kernel
theorem dX11_put_5 : decode cX11_put 5 = .ok (.invokevirtual 108, 3) := by decide +kernel
theorem dX11_put_8 : decode cX11_put 8 = .ok (.ifCond .ne 13, 3) := by decide +kernel
theorem dX11_put_11 : decode cX11_put 11 = .ok (.new 112, 3) := by decide +kernel
theorem dX11_put_14 : decode cX11_put 14 = .ok (.dup, 1) := by decide +kernel
theorem dX11_put_15 : decode cX11_put 15 = .ok (.ldc 114, 2) := by decide +kernel
theorem dX11_put_17 : decode cX11_put 17 = .ok (.invokespecial 116, 3) := by decide +kernel
theorem dX11_put_20 : decode cX11_put 20 = .ok (.athrow, 1) := by decide +kernel
theorem dX11_put_21 : decode cX11_put 21 = .ok (.iload_n 2, 1) := by decide +kernel
theorem dX11_put_22 : decode cX11_put 22 = .ok (.iconst 0, 1) := by decide +kernel
theorem dX11_put_23 : decode cX11_put 23 = .ok (.iconst 2, 1) := by decide +kernel
theorem dX11_put_24 : decode cX11_put 24 = .ok (.invokestatic 81, 3) := by decide +kernel
theorem dX11_put_27 : decode cX11_put 27 = .ok (.ifCond .ne 13, 3) := by decide +kernel
theorem dX11_put_30 : decode cX11_put 30 = .ok (.new 85, 3) := by decide +kernel
theorem dX11_put_33 : decode cX11_put 33 = .ok (.dup, 1) := by decide +kernel
theorem dX11_put_34 : decode cX11_put 34 = .ok (.ldc 117, 2) := by decide +kernel
theorem dX11_put_36 : decode cX11_put 36 = .ok (.invokespecial 89, 3) := by decide +kernel
theorem dX11_put_39 : decode cX11_put 39 = .ok (.athrow, 1) := by decide +kernel
theorem dX11_put_40 : decode cX11_put 40 = .ok (.aload_n 0, 1) := by decide +kernel
theorem dX11_put_41 : decode cX11_put 41 = .ok (.getfield 13, 3) := by decide +kernel
theorem dX11_put_44 : decode cX11_put 44 = .ok (.iload_n 1, 1) := by decide +kernel
theorem dX11_put_45 : decode cX11_put 45 = .ok (.invokevirtual 119, 3) := by decide +kernel
theorem dX11_put_48 : decode cX11_put 48 = .ok (.istore_n 3, 1) := by decide +kernel
theorem dX11_put_49 : decode cX11_put 49 = .ok (.iload_n 2, 1) := by decide +kernel
theorem dX11_put_50 : decode cX11_put 50 = .ok (.ifCond .eq 31, 3) := by decide +kernel
theorem dX11_put_53 : decode cX11_put 53 = .ok (.iload_n 2, 1) := by decide +kernel
theorem dX11_put_54 : decode cX11_put 54 = .ok (.iload_n 3, 1) := by decide +kernel
theorem dX11_put_55 : decode cX11_put 55 = .ok (.if_icmp .eq 26, 3) := by decide +kernel
theorem dX11_put_58 : decode cX11_put 58 = .ok (.aload_n 0, 1) := by decide +kernel
theorem dX11_put_59 : decode cX11_put 59 = .ok (.getfield 13, 3) := by decide +kernel
theorem dX11_put_62 : decode cX11_put 62 = .ok (.iload_n 2, 1) := by decide +kernel
theorem dX11_put_63 : decode cX11_put 63 = .ok (.invokevirtual 123, 3) := by decide +kernel
theorem dX11_put_66 : decode cX11_put 66 = .ok (.bipush 6, 2) := by decide +kernel
theorem dX11_put_68 : decode cX11_put 68 = .ok (.if_icmp .lt 13, 3) := by decide +kernel
theorem dX11_put_71 : decode cX11_put 71 = .ok (.new 126, 3) := by decide +kernel
theorem dX11_put_74 : decode cX11_put 74 = .ok (.dup, 1) := by decide +kernel
theorem dX11_put_75 : decode cX11_put 75 = .ok (.ldc 128, 2) := by decide +kernel
theorem dX11_put_77 : decode cX11_put 77 = .ok (.invokespecial 130, 3) := by decide +kernel
theorem dX11_put_80 : decode cX11_put 80 = .ok (.athrow, 1) := by decide +kernel
theorem dX11_put_81 : decode cX11_put 81 = .ok (.aload_n 0, 1) := by decide +kernel
theorem dX11_put_82 : decode cX11_put 82 = .ok (.getfield 13, 3) := by decide +kernel
theorem dX11_put_85 : decode cX11_put 85 = .ok (.iload_n 1, 1) := by decide +kernel
theorem dX11_put_86 : decode cX11_put 86 = .ok (.iload_n 2, 1) := by decide +kernel
theorem dX11_put_87 : decode cX11_put 87 = .ok (.invokevirtual 131, 3) := by decide +kernel
theorem dX11_put_90 : decode cX11_put 90 = .ok (.aload_n 0, 1) := by decide +kernel
theorem dX11_put_91 : decode cX11_put 91 = .ok (.invokevirtual 105, 3) := by decide +kernel
theorem dX11_put_94 : decode cX11_put 94 = .ok (.iload_n 3, 1) := by decide +kernel
theorem dX11_put_95 : decode cX11_put 95 = .ok (.ireturn, 1) := by decide +kernel
theorem dX11_setSide_0 : decode cX11_setSide 0 = .ok (.iload_n 1, 1) := by decide +kernel
theorem dX11_setSide_1 : decode cX11_setSide 1 = .ok (.iconst 0, 1) := by decide +kernel
theorem dX11_setSide_2 : decode cX11_setSide 2 = .ok (.iconst 1, 1) := by decide +kernel
theorem dX11_setSide_3 : decode cX11_setSide 3 = .ok (.invokestatic 81, 3) := by decide +kernel
theorem dX11_setSide_6 : decode cX11_setSide 6 = .ok (.ifCond .ne 13, 3) := by decide +kernel
theorem dX11_setSide_9 : decode cX11_setSide 9 = .ok (.new 85, 3) := by decide +kernel
theorem dX11_setSide_12 : decode cX11_setSide 12 = .ok (.dup, 1) := by decide +kernel
theorem dX11_setSide_13 : decode cX11_setSide 13 = .ok (.ldc 135, 2) := by decide +kernel
theorem dX11_setSide_15 : decode cX11_setSide 15 = .ok (.invokespecial 89, 3) := by decide +kernel
theorem dX11_setSide_18 : decode cX11_setSide 18 = .ok (.athrow, 1) := by decide +kernel
theorem dX11_setSide_19 : decode cX11_setSide 19 = .ok (.aload_n 0, 1) := by decide +kernel
theorem dX11_setSide_20 : decode cX11_setSide 20 = .ok (.getfield 13, 3) := by decide +kernel
theorem dX11_setSide_23 : decode cX11_setSide 23 = .ok (.invokevirtual 137, 3) := by decide +kernel
theorem dX11_setSide_26 : decode cX11_setSide 26 = .ok (.istore_n 2, 1) := by decide +kernel
theorem dX11_setSide_27 : decode cX11_setSide 27 = .ok (.aload_n 0, 1) := by decide +kernel
theorem dX11_setSide_28 : decode cX11_setSide 28 = .ok (.getfield 13, 3) := by decide +kernel
theorem dX11_setSide_31 : decode cX11_setSide 31 = .ok (.iload_n 1, 1) := by decide +kernel
theorem dX11_setSide_32 : decode cX11_setSide 32 = .ok (.invokevirtual 141, 3) := by decide +kernel
theorem dX11_setSide_35 : decode cX11_setSide 35 = .ok (.aload_n 0, 1) := by decide +kernel
theorem dX11_setSide_36 : decode cX11_setSide 36 = .ok (.invokevirtual 105, 3) := by decide +kernel
theorem dX11_setSide_39 : decode cX11_setSide 39 = .ok (.iload_n 2, 1) := by decide +kernel
theorem dX11_setSide_40 : decode cX11_setSide 40 = .ok (.ireturn, 1) := by decide +kernel
theorem dX11_play_0 : decode cX11_play 0 = .ok (.aload_n 0, 1) := by decide +kernel
theorem dX11_play_1 : decode cX11_play 1 = .ok (.getfield 22, 3) := by decide +kernel
theorem dX11_play_4 : decode cX11_play 4 = .ok (.iload_n 1, 1) := by decide +kernel
theorem dX11_play_5 : decode cX11_play 5 = .ok (.invokevirtual 145, 3) := by decide +kernel
theorem dX11_play_8 : decode cX11_play 8 = .ok (.ifCond .ne 13, 3) := by decide +kernel
theorem dX11_play_11 : decode cX11_play 11 = .ok (.new 112, 3) := by decide +kernel
theorem dX11_play_14 : decode cX11_play 14 = .ok (.dup, 1) := by decide +kernel
theorem dX11_play_15 : decode cX11_play 15 = .ok (.ldc 148, 2) := by decide +kernel
theorem dX11_play_17 : decode cX11_play 17 = .ok (.invokespecial 116, 3) := by decide +kernel
theorem dX11_play_20 : decode cX11_play 20 = .ok (.athrow, 1) := by decide +kernel
theorem dX11_play_21 : decode cX11_play 21 = .ok (.aload_n 0, 1) := by decide +kernel
theorem dX11_play_22 : decode cX11_play 22 = .ok (.iload_n 1, 1) := by decide +kernel
theorem dX11_play_23 : decode cX11_play 23 = .ok (.invokevirtual 150, 3) := by decide +kernel
theorem dX11_play_26 : decode cX11_play 26 = .ok (.ireturn, 1) := by decide +kernel
theorem dX11_back_0 : decode cX11_back 0 = .ok (.aload_n 0, 1) := by decide +kernel
theorem dX11_back_1 : decode cX11_back 1 = .ok (.getfield 29, 3) := by decide +kernel
theorem dX11_back_4 : decode cX11_back 4 = .ok (.invokevirtual 153, 3) := by decide +kernel
theorem dX11_back_7 : decode cX11_back 7 = .ok (.ifCond .ne 13, 3) := by decide +kernel
theorem dX11_back_10 : decode cX11_back 10 = .ok (.new 126, 3) := by decide +kernel
theorem dX11_back_13 : decode cX11_back 13 = .ok (.dup, 1) := by decide +kernel
theorem dX11_back_14 : decode cX11_back 14 = .ok (.ldc 156, 2) := by decide +kernel
theorem dX11_back_16 : decode cX11_back 16 = .ok (.invokespecial 130, 3) := by decide +kernel
theorem dX11_back_19 : decode cX11_back 19 = .ok (.athrow, 1) := by decide +kernel
theorem dX11_back_20 : decode cX11_back 20 = .ok (.aload_n 0, 1) := by decide +kernel
theorem dX11_back_21 : decode cX11_back 21 = .ok (.getfield 13, 3) := by decide +kernel
theorem dX11_back_24 : decode cX11_back 24 = .ok (.aload_n 0, 1) := by decide +kernel
theorem dX11_back_25 : decode cX11_back 25 = .ok (.getfield 29, 3) := by decide +kernel
theorem dX11_back_28 : decode cX11_back 28 = .ok (.invokevirtual 158, 3) := by decide +kernel
theorem dX11_back_31 : decode cX11_back 31 = .ok (.aload_n 0, 1) := by decide +kernel
theorem dX11_back_32 : decode cX11_back 32 = .ok (.getfield 29, 3) := by decide +kernel
theorem dX11_back_35 : decode cX11_back 35 = .ok (.invokevirtual 161, 3) := by decide +kernel
theorem dX11_back_38 : decode cX11_back 38 = .ok (.invokevirtual 164, 3) := by decide +kernel
theorem dX11_back_41 : decode cX11_back 41 = .ok (.aload_n 0, 1) := by decide +kernel
theorem dX11_back_42 : decode cX11_back 42 = .ok (.getfield 29, 3) := by decide +kernel
theorem dX11_back_45 : decode cX11_back 45 = .ok (.invokevirtual 167, 3) := by decide +kernel
theorem dX11_back_48 : decode cX11_back 48 = .ok (.aload_n 0, 1) := by decide +kernel
theorem dX11_back_49 : decode cX11_back 49 = .ok (.getfield 13, 3) := by decide +kernel
theorem dX11_back_52 : decode cX11_back 52 = .ok (.aload_n 0, 1) := by decide +kernel
theorem dX11_back_53 : decode cX11_back 53 = .ok (.getfield 22, 3) := by decide +kernel
theorem dX11_back_56 : decode cX11_back 56 = .ok (.invokevirtual 77, 3) := by decide +kernel
theorem dX11_back_59 : decode cX11_back 59 = .ok (.aload_n 0, 1) := by decide +kernel
theorem dX11_back_60 : decode cX11_back 60 = .ok (.getfield 29, 3) := by decide +kernel
theorem dX11_back_63 : decode cX11_back 63 = .ok (.invokevirtual 153, 3) := by decide +kernel
theorem dX11_back_66 : decode cX11_back 66 = .ok (.ireturn, 1) := by decide +kernel
