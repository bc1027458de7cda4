theorem dX12_lay_0 : decode cX12_lay 0 = .ok (.aload_n 0, 1) := by decide +kernel
theorem dX12_lay_1 : decode cX12_lay 1 = .ok (.iload_n 1, 1) := by decide +kernel
theorem dX12_lay_2 : decode cX12_lay 2 = .ok (.putfield 67, 3) := by decide +kernel
theorem dX12_lay_5 : decode cX12_lay 5 = .ok (.aload_n 0, 1) := by decide +kernel
theorem dX12_lay_6 : decode cX12_lay 6 = .ok (.iload_n 2, 1) := by decide +kernel
theorem dX12_lay_7 : decode cX12_lay 7 = .ok (.putfield 70, 3) := by decide +kernel
theorem dX12_lay_10 : decode cX12_lay 10 = .ok (.aload_n 0, 1) := by decide +kernel
theorem dX12_lay_11 : decode cX12_lay 11 = .ok (.aload_n 0, 1) := by decide +kernel
theorem dX12_lay_12 : decode cX12_lay 12 = .ok (.getfield 67, 3) := by decide +kernel
theorem dX12_lay_15 : decode cX12_lay 15 = .ok (.aload_n 0, 1) := by decide +kernel
theorem dX12_lay_16 : decode cX12_lay 16 = .ok (.getfield 70, 3) := by decide +kernel
theorem dX12_lay_19 : decode cX12_lay 19 = .ok (.imul, 1) := by decide +kernel
theorem dX12_lay_20 : decode cX12_lay 20 = .ok (.iconst 1, 1) := by decide +kernel
theorem dX12_lay_21 : decode cX12_lay 21 = .ok (.iadd, 1) := by decide +kernel
theorem dX12_lay_22 : decode cX12_lay 22 = .ok (.newarray .int, 2) := by decide +kernel
theorem dX12_lay_24 : decode cX12_lay 24 = .ok (.putfield 73, 3) := by decide +kernel
theorem dX12_lay_27 : decode cX12_lay 27 = .ok (.iconst 0, 1) := by decide +kernel
theorem dX12_lay_28 : decode cX12_lay 28 = .ok (.istore 4, 2) := by decide +kernel
theorem dX12_lay_30 : decode cX12_lay 30 = .ok (.iload 4, 2) := by decide +kernel
theorem dX12_lay_32 : decode cX12_lay 32 = .ok (.iload_n 3, 1) := by decide +kernel
theorem dX12_lay_33 : decode cX12_lay 33 = .ok (.aload_n 0, 1) := by decide +kernel
theorem dX12_lay_34 : decode cX12_lay 34 = .ok (.getfield 67, 3) := by decide +kernel
theorem dX12_lay_37 : decode cX12_lay 37 = .ok (.imul, 1) := by decide +kernel
theorem dX12_lay_38 : decode cX12_lay 38 = .ok (.if_icmp .ge 37, 3) := by decide +kernel
theorem dX12_lay_41 : decode cX12_lay 41 = .ok (.aload_n 0, 1) := by decide +kernel
theorem dX12_lay_42 : decode cX12_lay 42 = .ok (.getfield 73, 3) := by decide +kernel
theorem dX12_lay_45 : decode cX12_lay 45 = .ok (.iload 4, 2) := by decide +kernel
theorem dX12_lay_47 : decode cX12_lay 47 = .ok (.iconst 1, 1) := by decide +kernel
theorem dX12_lay_48 : decode cX12_lay 48 = .ok (.iastore, 1) := by decide +kernel
theorem dX12_lay_49 : decode cX12_lay 49 = .ok (.aload_n 0, 1) := by decide +kernel
theorem dX12_lay_50 : decode cX12_lay 50 = .ok (.getfield 73, 3) := by decide +kernel
theorem dX12_lay_53 : decode cX12_lay 53 = .ok (.aload_n 0, 1) := by decide +kernel
theorem dX12_lay_54 : decode cX12_lay 54 = .ok (.getfield 67, 3) := by decide +kernel
theorem dX12_lay_57 : decode cX12_lay 57 = .ok (.aload_n 0, 1) := by decide +kernel
theorem dX12_lay_58 : decode cX12_lay 58 = .ok (.getfield 70, 3) := by decide +kernel
theorem dX12_lay_61 : decode cX12_lay 61 = .ok (.imul, 1) := by decide +kernel
theorem dX12_lay_62 : decode cX12_lay 62 = .ok (.iconst 1, 1) := by decide +kernel
theorem dX12_lay_63 : decode cX12_lay 63 = .ok (.isub, 1) := by decide +kernel
theorem dX12_lay_64 : decode cX12_lay 64 = .ok (.iload 4, 2) := by decide +kernel
theorem dX12_lay_66 : decode cX12_lay 66 = .ok (.isub, 1) := by decide +kernel
theorem dX12_lay_67 : decode cX12_lay 67 = .ok (.iconst 2, 1) := by decide +kernel
theorem dX12_lay_68 : decode cX12_lay 68 = .ok (.iastore, 1) := by decide +kernel
theorem dX12_lay_69 : decode cX12_lay 69 = .ok (.iinc 4 1, 3) := by decide +kernel
theorem dX12_lay_72 : decode cX12_lay 72 = .ok (.goto (-42), 3) := by decide +kernel
theorem dX12_lay_75 : decode cX12_lay 75 = .ok (.aload_n 0, 1) := by decide +kernel
theorem dX12_lay_76 : decode cX12_lay 76 = .ok (.iconst 0, 1) := by decide +kernel
theorem dX12_lay_77 : decode cX12_lay 77 = .ok (.putfield 76, 3) := by decide +kernel
theorem dX12_lay_80 : decode cX12_lay 80 = .ok (.aload_n 0, 1) := by decide +kernel
theorem dX12_lay_81 : decode cX12_lay 81 = .ok (.aload_n 0, 1) := by decide +kernel
theorem dX12_lay_82 : decode cX12_lay 82 = .ok (.getfield 32, 3) := by decide +kernel
theorem dX12_lay_85 : decode cX12_lay 85 = .ok (.invokevirtual 79, 3) := by decide +kernel
theorem dX12_lay_88 : decode cX12_lay 88 = .ok (.pop, 1) := by decide +kernel
theorem dX12_lay_89 : decode cX12_lay 89 = .ok (.return_, 1) := by decide +kernel
theorem dX12_sideNow_0 : decode cX12_sideNow 0 = .ok (.aload_n 0, 1) := by decide +kernel
theorem dX12_sideNow_1 : decode cX12_sideNow 1 = .ok (.getfield 73, 3) := by decide +kernel
theorem dX12_sideNow_4 : decode cX12_sideNow 4 = .ok (.aload_n 0, 1) := by decide +kernel
theorem dX12_sideNow_5 : decode cX12_sideNow 5 = .ok (.getfield 73, 3) := by decide +kernel
theorem dX12_sideNow_8 : decode cX12_sideNow 8 = .ok (.arraylength, 1) := by decide +kernel
theorem dX12_sideNow_9 : decode cX12_sideNow 9 = .ok (.iconst 1, 1) := by decide +kernel
theorem dX12_sideNow_10 : decode cX12_sideNow 10 = .ok (.isub, 1) := by decide +kernel
theorem dX12_sideNow_11 : decode cX12_sideNow 11 = .ok (.iaload, 1) := by decide +kernel
theorem dX12_sideNow_12 : decode cX12_sideNow 12 = .ok (.ireturn, 1) := by decide +kernel
theorem dX12_goal_0 : decode cX12_goal 0 = .ok (.iload_n 1, 1) := by decide +kernel
theorem dX12_goal_1 : decode cX12_goal 1 = .ok (.ifCond .ne 12, 3) := by decide +kernel
theorem dX12_goal_4 : decode cX12_goal 4 = .ok (.aload_n 0, 1) := by decide +kernel
theorem dX12_goal_5 : decode cX12_goal 5 = .ok (.getfield 70, 3) := by decide +kernel
theorem dX12_goal_8 : decode cX12_goal 8 = .ok (.iconst 1, 1) := by decide +kernel
theorem dX12_goal_9 : decode cX12_goal 9 = .ok (.isub, 1) := by decide +kernel
theorem dX12_goal_10 : decode cX12_goal 10 = .ok (.goto 4, 3) := by decide +kernel
theorem dX12_goal_13 : decode cX12_goal 13 = .ok (.iconst 0, 1) := by decide +kernel
theorem dX12_goal_14 : decode cX12_goal 14 = .ok (.ireturn, 1) := by decide +kernel
theorem dX12_target_0 : decode cX12_target 0 = .ok (.iload_n 2, 1) := by decide +kernel
theorem dX12_target_1 : decode cX12_target 1 = .ok (.aload_n 0, 1) := by decide +kernel
theorem dX12_target_2 : decode cX12_target 2 = .ok (.getfield 67, 3) := by decide +kernel
theorem dX12_target_5 : decode cX12_target 5 = .ok (.idiv, 1) := by decide +kernel
theorem dX12_target_6 : decode cX12_target 6 = .ok (.iload_n 1, 1) := by decide +kernel
theorem dX12_target_7 : decode cX12_target 7 = .ok (.ifCond .ne 7, 3) := by decide +kernel
theorem dX12_target_10 : decode cX12_target 10 = .ok (.iconst 1, 1) := by decide +kernel
theorem dX12_target_11 : decode cX12_target 11 = .ok (.goto 4, 3) := by decide +kernel
theorem dX12_target_14 : decode cX12_target 14 = .ok (.iconst (-1), 1) := by decide +kernel
theorem dX12_target_15 : decode cX12_target 15 = .ok (.iadd, 1) := by decide +kernel
theorem dX12_target_16 : decode cX12_target 16 = .ok (.istore 4, 2) := by decide +kernel
theorem dX12_target_18 : decode cX12_target 18 = .ok (.iload_n 2, 1) := by decide +kernel
theorem dX12_target_19 : decode cX12_target 19 = .ok (.aload_n 0, 1) := by decide +kernel
theorem dX12_target_20 : decode cX12_target 20 = .ok (.getfield 67, 3) := by decide +kernel
theorem dX12_target_23 : decode cX12_target 23 = .ok (.irem, 1) := by decide +kernel
theorem dX12_target_24 : decode cX12_target 24 = .ok (.iload_n 3, 1) := by decide +kernel
theorem dX12_target_25 : decode cX12_target 25 = .ok (.iadd, 1) := by decide +kernel
theorem dX12_target_26 : decode cX12_target 26 = .ok (.istore 5, 2) := by decide +kernel
theorem dX12_target_28 : decode cX12_target 28 = .ok (.iload 4, 2) := by decide +kernel
theorem dX12_target_30 : decode cX12_target 30 = .ok (.iconst 0, 1) := by decide +kernel
theorem dX12_target_31 : decode cX12_target 31 = .ok (.aload_n 0, 1) := by decide +kernel
theorem dX12_target_32 : decode cX12_target 32 = .ok (.getfield 70, 3) := by decide +kernel
theorem dX12_target_35 : decode cX12_target 35 = .ok (.iconst 1, 1) := by decide +kernel
theorem dX12_target_36 : decode cX12_target 36 = .ok (.isub, 1) := by decide +kernel
theorem dX12_target_37 : decode cX12_target 37 = .ok (.invokestatic 83, 3) := by decide +kernel
theorem dX12_target_40 : decode cX12_target 40 = .ok (.ifCond .eq 31, 3) := by decide +kernel
theorem dX12_target_43 : decode cX12_target 43 = .ok (.iload 5, 2) := by decide +kernel
theorem dX12_target_45 : decode cX12_target 45 = .ok (.iconst 0, 1) := by decide +kernel
theorem dX12_target_46 : decode cX12_target 46 = .ok (.aload_n 0, 1) := by decide +kernel
theorem dX12_target_47 : decode cX12_target 47 = .ok (.getfield 67, 3) := by decide +kernel
theorem dX12_target_50 : decode cX12_target 50 = .ok (.iconst 1, 1) := by decide +kernel
theorem dX12_target_51 : decode cX12_target 51 = .ok (.isub, 1) := by decide +kernel
theorem dX12_target_52 : decode cX12_target 52 = .ok (.invokestatic 83, 3) := by decide +kernel
theorem dX12_target_55 : decode cX12_target 55 = .ok (.ifCond .eq 16, 3) := by decide +kernel
theorem dX12_target_58 : decode cX12_target 58 = .ok (.iload 4, 2) := by decide +kernel
theorem dX12_target_60 : decode cX12_target 60 = .ok (.aload_n 0, 1) := by decide +kernel
theorem dX12_target_61 : decode cX12_target 61 = .ok (.getfield 67, 3) := by decide +kernel
theorem dX12_target_64 : decode cX12_target 64 = .ok (.imul, 1) := by decide +kernel
theorem dX12_target_65 : decode cX12_target 65 = .ok (.iload 5, 2) := by decide +kernel
theorem dX12_target_67 : decode cX12_target 67 = .ok (.iadd, 1) := by decide +kernel
theorem dX12_target_68 : decode cX12_target 68 = .ok (.goto 4, 3) := by decide +kernel
theorem dX12_target_71 : decode cX12_target 71 = .ok (.iconst (-1), 1) := by decide +kernel
theorem dX12_target_72 : decode cX12_target 72 = .ok (.ireturn, 1) := by decide +kernel
theorem dX12_isStep_0 : decode cX12_isStep 0 = .ok (.aload_n 0, 1) := by decide +kernel
theorem dX12_isStep_1 : decode cX12_isStep 1 = .ok (.getfield 73, 3) := by decide +kernel
theorem dX12_isStep_4 : decode cX12_isStep 4 = .ok (.iload_n 2, 1) := by decide +kernel
theorem dX12_isStep_5 : decode cX12_isStep 5 = .ok (.iaload, 1) := by decide +kernel
theorem dX12_isStep_6 : decode cX12_isStep 6 = .ok (.iload_n 1, 1) := by decide +kernel
theorem dX12_isStep_7 : decode cX12_isStep 7 = .ok (.iconst 1, 1) := by decide +kernel
theorem dX12_isStep_8 : decode cX12_isStep 8 = .ok (.iadd, 1) := by decide +kernel
theorem dX12_isStep_9 : decode cX12_isStep 9 = .ok (.if_icmp .ne 13, 3) := by decide +kernel
theorem dX12_isStep_12 : decode cX12_isStep 12 = .ok (.aload_n 0, 1) := by decide +kernel
theorem dX12_isStep_13 : decode cX12_isStep 13 = .ok (.iload_n 1, 1) := by decide +kernel
theorem dX12_isStep_14 : decode cX12_isStep 14 = .ok (.iload_n 2, 1) := by decide +kernel
theorem dX12_isStep_15 : decode cX12_isStep 15 = .ok (.iload_n 3, 1) := by decide +kernel
theorem dX12_isStep_16 : decode cX12_isStep 16 = .ok (.invokevirtual 87, 3) := by decide +kernel
theorem dX12_isStep_19 : decode cX12_isStep 19 = .ok (.goto 4, 3) := by decide +kernel
theorem dX12_isStep_22 : decode cX12_isStep 22 = .ok (.iconst (-1), 1) := by decide +kernel
theorem dX12_isStep_23 : decode cX12_isStep 23 = .ok (.istore 4, 2) := by decide +kernel
theorem dX12_isStep_25 : decode cX12_isStep 25 = .ok (.iload 4, 2) := by decide +kernel
theorem dX12_isStep_27 : decode cX12_isStep 27 = .ok (.iconst (-1), 1) := by decide +kernel
theorem dX12_isStep_28 : decode cX12_isStep 28 = .ok (.if_icmp .eq 28, 3) := by decide +kernel
theorem dX12_isStep_31 : decode cX12_isStep 31 = .ok (.aload_n 0, 1) := by decide +kernel
theorem dX12_isStep_32 : decode cX12_isStep 32 = .ok (.getfield 73, 3) := by decide +kernel
theorem dX12_isStep_35 : decode cX12_isStep 35 = .ok (.iload 4, 2) := by decide +kernel
theorem dX12_isStep_37 : decode cX12_isStep 37 = .ok (.iaload, 1) := by decide +kernel
theorem dX12_isStep_38 : decode cX12_isStep 38 = .ok (.iload_n 3, 1) := by decide +kernel
theorem dX12_isStep_39 : decode cX12_isStep 39 = .ok (.ifCond .ne 7, 3) := by decide +kernel
theorem dX12_isStep_42 : decode cX12_isStep 42 = .ok (.iconst 0, 1) := by decide +kernel
theorem dX12_isStep_43 : decode cX12_isStep 43 = .ok (.goto 6, 3) := by decide +kernel
theorem dX12_isStep_46 : decode cX12_isStep 46 = .ok (.iconst 2, 1) := by decide +kernel
theorem dX12_isStep_47 : decode cX12_isStep 47 = .ok (.iload_n 1, 1) := by decide +kernel
theorem dX12_isStep_48 : decode cX12_isStep 48 = .ok (.isub, 1) := by decide +kernel
theorem dX12_isStep_49 : decode cX12_isStep 49 = .ok (.if_icmp .ne 7, 3) := by decide +kernel
theorem dX12_isStep_52 : decode cX12_isStep 52 = .ok (.iconst 1, 1) := by decide +kernel
theorem dX12_isStep_53 : decode cX12_isStep 53 = .ok (.goto 4, 3) := by decide +kernel
theorem dX12_isStep_56 : decode cX12_isStep 56 = .ok (.iconst 0, 1) := by decide +kernel
theorem dX12_isStep_57 : decode cX12_isStep 57 = .ok (.ireturn, 1) := by decide +kernel
theorem dX12_countSteps_0 : decode cX12_countSteps 0 = .ok (.iconst 0, 1) := by decide +kernel
theorem dX12_countSteps_1 : decode cX12_countSteps 1 = .ok (.istore_n 2, 1) := by decide +kernel
theorem dX12_countSteps_2 : decode cX12_countSteps 2 = .ok (.iconst 0, 1) := by decide +kernel
theorem dX12_countSteps_3 : decode cX12_countSteps 3 = .ok (.istore_n 3, 1) := by decide +kernel
theorem dX12_countSteps_4 : decode cX12_countSteps 4 = .ok (.iload_n 3, 1) := by decide +kernel
theorem dX12_countSteps_5 : decode cX12_countSteps 5 = .ok (.iconst 1, 1) := by decide +kernel
theorem dX12_countSteps_6 : decode cX12_countSteps 6 = .ok (.iadd, 1) := by decide +kernel
theorem dX12_countSteps_7 : decode cX12_countSteps 7 = .ok (.aload_n 0, 1) := by decide +kernel
theorem dX12_countSteps_8 : decode cX12_countSteps 8 = .ok (.getfield 73, 3) := by decide +kernel
theorem dX12_countSteps_11 : decode cX12_countSteps 11 = .ok (.arraylength, 1) := by decide +kernel
theorem dX12_countSteps_12 : decode cX12_countSteps 12 = .ok (.if_icmp .ge 43, 3) := by decide +kernel
theorem dX12_countSteps_15 : decode cX12_countSteps 15 = .ok (.iconst (-1), 1) := by decide +kernel
theorem dX12_countSteps_16 : decode cX12_countSteps 16 = .ok (.istore 4, 2) := by decide +kernel
theorem dX12_countSteps_18 : decode cX12_countSteps 18 = .ok (.iload 4, 2) := by decide +kernel
theorem dX12_countSteps_20 : decode cX12_countSteps 20 = .ok (.iconst 1, 1) := by decide +kernel
theorem dX12_countSteps_21 : decode cX12_countSteps 21 = .ok (.if_icmp .gt 28, 3) := by decide +kernel
theorem dX12_countSteps_24 : decode cX12_countSteps 24 = .ok (.iload_n 2, 1) := by decide +kernel
theorem dX12_countSteps_25 : decode cX12_countSteps 25 = .ok (.aload_n 0, 1) := by decide +kernel
theorem dX12_countSteps_26 : decode cX12_countSteps 26 = .ok (.iload_n 1, 1) := by decide +kernel
theorem dX12_countSteps_27 : decode cX12_countSteps 27 = .ok (.iload_n 3, 1) := by decide +kernel
theorem dX12_countSteps_28 : decode cX12_countSteps 28 = .ok (.iload 4, 2) := by decide +kernel
theorem dX12_countSteps_30 : decode cX12_countSteps 30 = .ok (.invokevirtual 91, 3) := by decide +kernel
theorem dX12_countSteps_33 : decode cX12_countSteps 33 = .ok (.ifCond .eq 7, 3) := by decide +kernel
theorem dX12_countSteps_36 : decode cX12_countSteps 36 = .ok (.iconst 1, 1) := by decide +kernel
theorem dX12_countSteps_37 : decode cX12_countSteps 37 = .ok (.goto 4, 3) := by decide +kernel
theorem dX12_countSteps_40 : decode cX12_countSteps 40 = .ok (.iconst 0, 1) := by decide +kernel
theorem dX12_countSteps_41 : decode cX12_countSteps 41 = .ok (.iadd, 1) := by decide +kernel
theorem dX12_countSteps_42 : decode cX12_countSteps 42 = .ok (.istore_n 2, 1) := by decide +kernel
theorem dX12_countSteps_43 : decode cX12_countSteps 43 = .ok (.iinc 4 1, 3) := by decide +kernel
theorem dX12_countSteps_46 : decode cX12_countSteps 46 = .ok (.goto (-28), 3) := by decide +kernel
theorem dX12_countSteps_49 : decode cX12_countSteps 49 = .ok (.iinc 3 1, 3) := by decide +kernel
theorem dX12_countSteps_52 : decode cX12_countSteps 52 = .ok (.goto (-48), 3) := by decide +kernel
theorem dX12_countSteps_55 : decode cX12_countSteps 55 = .ok (.iload_n 2, 1) := by decide +kernel
theorem dX12_countSteps_56 : decode cX12_countSteps 56 = .ok (.ireturn, 1) := by decide +kernel
theorem dX12_isLostNow_0 : decode cX12_isLostNow 0 = .ok (.iconst 1, 1) := by decide +kernel
theorem dX12_isLostNow_1 : decode cX12_isLostNow 1 = .ok (.aload_n 0, 1) := by decide +kernel
theorem dX12_isLostNow_2 : decode cX12_isLostNow 2 = .ok (.invokevirtual 94, 3) := by decide +kernel
theorem dX12_isLostNow_5 : decode cX12_isLostNow 5 = .ok (.isub, 1) := by decide +kernel
theorem dX12_isLostNow_6 : decode cX12_isLostNow 6 = .ok (.istore_n 1, 1) := by decide +kernel
theorem dX12_isLostNow_7 : decode cX12_isLostNow 7 = .ok (.iconst 0, 1) := by decide +kernel
theorem dX12_isLostNow_8 : decode cX12_isLostNow 8 = .ok (.istore_n 2, 1) := by decide +kernel
theorem dX12_isLostNow_9 : decode cX12_isLostNow 9 = .ok (.iload_n 2, 1) := by decide +kernel
theorem dX12_isLostNow_10 : decode cX12_isLostNow 10 = .ok (.aload_n 0, 1) := by decide +kernel
theorem dX12_isLostNow_11 : decode cX12_isLostNow 11 = .ok (.getfield 67, 3) := by decide +kernel
theorem dX12_isLostNow_14 : decode cX12_isLostNow 14 = .ok (.if_icmp .ge 34, 3) := by decide +kernel
theorem dX12_isLostNow_17 : decode cX12_isLostNow 17 = .ok (.aload_n 0, 1) := by decide +kernel
theorem dX12_isLostNow_18 : decode cX12_isLostNow 18 = .ok (.getfield 73, 3) := by decide +kernel
theorem dX12_isLostNow_21 : decode cX12_isLostNow 21 = .ok (.aload_n 0, 1) := by decide +kernel
theorem dX12_isLostNow_22 : decode cX12_isLostNow 22 = .ok (.iload_n 1, 1) := by decide +kernel
theorem dX12_isLostNow_23 : decode cX12_isLostNow 23 = .ok (.invokevirtual 98, 3) := by decide +kernel
theorem dX12_isLostNow_26 : decode cX12_isLostNow 26 = .ok (.aload_n 0, 1) := by decide +kernel
theorem dX12_isLostNow_27 : decode cX12_isLostNow 27 = .ok (.getfield 67, 3) := by decide +kernel
theorem dX12_isLostNow_30 : decode cX12_isLostNow 30 = .ok (.imul, 1) := by decide +kernel
theorem dX12_isLostNow_31 : decode cX12_isLostNow 31 = .ok (.iload_n 2, 1) := by decide +kernel
theorem dX12_isLostNow_32 : decode cX12_isLostNow 32 = .ok (.iadd, 1) := by decide +kernel
theorem dX12_isLostNow_33 : decode cX12_isLostNow 33 = .ok (.iaload, 1) := by decide +kernel
theorem dX12_isLostNow_34 : decode cX12_isLostNow 34 = .ok (.iload_n 1, 1) := by decide +kernel
theorem dX12_isLostNow_35 : decode cX12_isLostNow 35 = .ok (.iconst 1, 1) := by decide +kernel
theorem dX12_isLostNow_36 : decode cX12_isLostNow 36 = .ok (.iadd, 1) := by decide +kernel
theorem dX12_isLostNow_37 : decode cX12_isLostNow 37 = .ok (.if_icmp .ne 5, 3) := by decide +kernel
theorem dX12_isLostNow_40 : decode cX12_isLostNow 40 = .ok (.iconst 1, 1) := by decide +kernel
theorem dX12_isLostNow_41 : decode cX12_isLostNow 41 = .ok (.ireturn, 1) := by decide +kernel
theorem dX12_isLostNow_42 : decode cX12_isLostNow 42 = .ok (.iinc 2 1, 3) := by decide +kernel
theorem dX12_isLostNow_45 : decode cX12_isLostNow 45 = .ok (.goto (-36), 3) := by decide +kernel
theorem dX12_isLostNow_48 : decode cX12_isLostNow 48 = .ok (.aload_n 0, 1) := by decide +kernel
theorem dX12_isLostNow_49 : decode cX12_isLostNow 49 = .ok (.aload_n 0, 1) := by decide +kernel
theorem dX12_isLostNow_50 : decode cX12_isLostNow 50 = .ok (.invokevirtual 94, 3) := by decide +kernel
theorem dX12_isLostNow_53 : decode cX12_isLostNow 53 = .ok (.invokevirtual 101, 3) := by decide +kernel
theorem dX12_isLostNow_56 : decode cX12_isLostNow 56 = .ok (.ifCond .ne 7, 3) := by decide +kernel
theorem dX12_isLostNow_59 : decode cX12_isLostNow 59 = .ok (.iconst 1, 1) := by decide +kernel
theorem dX12_isLostNow_60 : decode cX12_isLostNow 60 = .ok (.goto 4, 3) := by decide +kernel
theorem dX12_isLostNow_63 : decode cX12_isLostNow 63 = .ok (.iconst 0, 1) := by decide +kernel
theorem dX12_isLostNow_64 : decode cX12_isLostNow 64 = .ok (.ireturn, 1) := by decide +kernel
theorem dX12_list_0 : decode cX12_list 0 = .ok (.iconst 0, 1) := by decide +kernel
theorem dX12_list_1 : decode cX12_list 1 = .ok (.istore_n 2, 1) := by decide +kernel
theorem dX12_list_2 : decode cX12_list 2 = .ok (.aload_n 0, 1) := by decide +kernel
theorem dX12_list_3 : decode cX12_list 3 = .ok (.invokevirtual 104, 3) := by decide +kernel
theorem dX12_list_6 : decode cX12_list 6 = .ok (.ifCond .eq 5, 3) := by decide +kernel
theorem dX12_list_9 : decode cX12_list 9 = .ok (.iconst 0, 1) := by decide +kernel
theorem dX12_list_10 : decode cX12_list 10 = .ok (.ireturn, 1) := by decide +kernel
theorem dX12_list_11 : decode cX12_list 11 = .ok (.iconst 0, 1) := by decide +kernel
theorem dX12_list_12 : decode cX12_list 12 = .ok (.istore_n 3, 1) := by decide +kernel
theorem dX12_list_13 : decode cX12_list 13 = .ok (.iload_n 3, 1) := by decide +kernel
theorem dX12_list_14 : decode cX12_list 14 = .ok (.iconst 1, 1) := by decide +kernel
theorem dX12_list_15 : decode cX12_list 15 = .ok (.iadd, 1) := by decide +kernel
theorem dX12_list_16 : decode cX12_list 16 = .ok (.aload_n 0, 1) := by decide +kernel
theorem dX12_list_17 : decode cX12_list 17 = .ok (.getfield 73, 3) := by decide +kernel
theorem dX12_list_20 : decode cX12_list 20 = .ok (.arraylength, 1) := by decide +kernel
theorem dX12_list_21 : decode cX12_list 21 = .ok (.if_icmp .ge 68, 3) := by decide +kernel
theorem dX12_list_24 : decode cX12_list 24 = .ok (.iconst (-1), 1) := by decide +kernel
theorem dX12_list_25 : decode cX12_list 25 = .ok (.istore 4, 2) := by decide +kernel
theorem dX12_list_27 : decode cX12_list 27 = .ok (.iload 4, 2) := by decide +kernel
theorem dX12_list_29 : decode cX12_list 29 = .ok (.iconst 1, 1) := by decide +kernel
theorem dX12_list_30 : decode cX12_list 30 = .ok (.if_icmp .gt 53, 3) := by decide +kernel
theorem dX12_list_33 : decode cX12_list 33 = .ok (.aload_n 0, 1) := by decide +kernel
theorem dX12_list_34 : decode cX12_list 34 = .ok (.aload_n 0, 1) := by decide +kernel
theorem dX12_list_35 : decode cX12_list 35 = .ok (.invokevirtual 94, 3) := by decide +kernel
theorem dX12_list_38 : decode cX12_list 38 = .ok (.iload_n 3, 1) := by decide +kernel
theorem dX12_list_39 : decode cX12_list 39 = .ok (.iload 4, 2) := by decide +kernel
theorem dX12_list_41 : decode cX12_list 41 = .ok (.invokevirtual 91, 3) := by decide +kernel
theorem dX12_list_44 : decode cX12_list 44 = .ok (.ifCond .ne 6, 3) := by decide +kernel
theorem dX12_list_47 : decode cX12_list 47 = .ok (.goto 30, 3) := by decide +kernel
theorem dX12_list_50 : decode cX12_list 50 = .ok (.aload_n 0, 1) := by decide +kernel
theorem dX12_list_51 : decode cX12_list 51 = .ok (.getfield 29, 3) := by decide +kernel
theorem dX12_list_54 : decode cX12_list 54 = .ok (.iload_n 1, 1) := by decide +kernel
theorem dX12_list_55 : decode cX12_list 55 = .ok (.aaload, 1) := by decide +kernel
theorem dX12_list_56 : decode cX12_list 56 = .ok (.iload_n 2, 1) := by decide +kernel
theorem dX12_list_57 : decode cX12_list 57 = .ok (.iload_n 3, 1) := by decide +kernel
theorem dX12_list_58 : decode cX12_list 58 = .ok (.bipush 100, 2) := by decide +kernel
theorem dX12_list_60 : decode cX12_list 60 = .ok (.imul, 1) := by decide +kernel
theorem dX12_list_61 : decode cX12_list 61 = .ok (.aload_n 0, 1) := by decide +kernel
theorem dX12_list_62 : decode cX12_list 62 = .ok (.aload_n 0, 1) := by decide +kernel
theorem dX12_list_63 : decode cX12_list 63 = .ok (.invokevirtual 94, 3) := by decide +kernel
theorem dX12_list_66 : decode cX12_list 66 = .ok (.iload_n 3, 1) := by decide +kernel
theorem dX12_list_67 : decode cX12_list 67 = .ok (.iload 4, 2) := by decide +kernel
theorem dX12_list_69 : decode cX12_list 69 = .ok (.invokevirtual 87, 3) := by decide +kernel
theorem dX12_list_72 : decode cX12_list 72 = .ok (.iadd, 1) := by decide +kernel
theorem dX12_list_73 : decode cX12_list 73 = .ok (.iastore, 1) := by decide +kernel
theorem dX12_list_74 : decode cX12_list 74 = .ok (.iinc 2 1, 3) := by decide +kernel
theorem dX12_list_77 : decode cX12_list 77 = .ok (.iinc 4 1, 3) := by decide +kernel
theorem dX12_list_80 : decode cX12_list 80 = .ok (.goto (-53), 3) := by decide +kernel
theorem dX12_list_83 : decode cX12_list 83 = .ok (.iinc 3 1, 3) := by decide +kernel
theorem dX12_list_86 : decode cX12_list 86 = .ok (.goto (-73), 3) := by decide +kernel
theorem dX12_list_89 : decode cX12_list 89 = .ok (.iload_n 2, 1) := by decide +kernel
theorem dX12_list_90 : decode cX12_list 90 = .ok (.ireturn, 1) := by decide +kernel
theorem dX12_isTaking_0 : decode cX12_isTaking 0 = .ok (.aload_n 0, 1) := by decide +kernel
theorem dX12_isTaking_1 : decode cX12_isTaking 1 = .ok (.getfield 73, 3) := by decide +kernel
theorem dX12_isTaking_4 : decode cX12_isTaking 4 = .ok (.iload_n 1, 1) := by decide +kernel
theorem dX12_isTaking_5 : decode cX12_isTaking 5 = .ok (.bipush 100, 2) := by decide +kernel
theorem dX12_isTaking_7 : decode cX12_isTaking 7 = .ok (.irem, 1) := by decide +kernel
theorem dX12_isTaking_8 : decode cX12_isTaking 8 = .ok (.iaload, 1) := by decide +kernel
theorem dX12_isTaking_9 : decode cX12_isTaking 9 = .ok (.ifCond .eq 7, 3) := by decide +kernel
theorem dX12_isTaking_12 : decode cX12_isTaking 12 = .ok (.iconst 1, 1) := by decide +kernel
theorem dX12_isTaking_13 : decode cX12_isTaking 13 = .ok (.goto 4, 3) := by decide +kernel
theorem dX12_isTaking_16 : decode cX12_isTaking 16 = .ok (.iconst 0, 1) := by decide +kernel
theorem dX12_isTaking_17 : decode cX12_isTaking 17 = .ok (.ireturn, 1) := by decide +kernel
theorem dX12_make_0 : decode cX12_make 0 = .ok (.aload_n 0, 1) := by decide +kernel
theorem dX12_make_1 : decode cX12_make 1 = .ok (.getfield 73, 3) := by decide +kernel
theorem dX12_make_4 : decode cX12_make 4 = .ok (.iload_n 1, 1) := by decide +kernel
theorem dX12_make_5 : decode cX12_make 5 = .ok (.bipush 100, 2) := by decide +kernel
theorem dX12_make_7 : decode cX12_make 7 = .ok (.irem, 1) := by decide +kernel
theorem dX12_make_8 : decode cX12_make 8 = .ok (.iaload, 1) := by decide +kernel
theorem dX12_make_9 : decode cX12_make 9 = .ok (.istore_n 2, 1) := by decide +kernel
theorem dX12_make_10 : decode cX12_make 10 = .ok (.aload_n 0, 1) := by decide +kernel
theorem dX12_make_11 : decode cX12_make 11 = .ok (.getfield 73, 3) := by decide +kernel
theorem dX12_make_14 : decode cX12_make 14 = .ok (.iload_n 1, 1) := by decide +kernel
theorem dX12_make_15 : decode cX12_make 15 = .ok (.bipush 100, 2) := by decide +kernel
theorem dX12_make_17 : decode cX12_make 17 = .ok (.irem, 1) := by decide +kernel
theorem dX12_make_18 : decode cX12_make 18 = .ok (.aload_n 0, 1) := by decide +kernel
theorem dX12_make_19 : decode cX12_make 19 = .ok (.getfield 73, 3) := by decide +kernel
theorem dX12_make_22 : decode cX12_make 22 = .ok (.iload_n 1, 1) := by decide +kernel
theorem dX12_make_23 : decode cX12_make 23 = .ok (.bipush 100, 2) := by decide +kernel
theorem dX12_make_25 : decode cX12_make 25 = .ok (.idiv, 1) := by decide +kernel
theorem dX12_make_26 : decode cX12_make 26 = .ok (.iaload, 1) := by decide +kernel
theorem dX12_make_27 : decode cX12_make 27 = .ok (.iastore, 1) := by decide +kernel
theorem dX12_make_28 : decode cX12_make 28 = .ok (.aload_n 0, 1) := by decide +kernel
theorem dX12_make_29 : decode cX12_make 29 = .ok (.getfield 73, 3) := by decide +kernel
theorem dX12_make_32 : decode cX12_make 32 = .ok (.iload_n 1, 1) := by decide +kernel
theorem dX12_make_33 : decode cX12_make 33 = .ok (.bipush 100, 2) := by decide +kernel
theorem dX12_make_35 : decode cX12_make 35 = .ok (.idiv, 1) := by decide +kernel
theorem dX12_make_36 : decode cX12_make 36 = .ok (.iconst 0, 1) := by decide +kernel
theorem dX12_make_37 : decode cX12_make 37 = .ok (.iastore, 1) := by decide +kernel
theorem dX12_make_38 : decode cX12_make 38 = .ok (.aload_n 0, 1) := by decide +kernel
theorem dX12_make_39 : decode cX12_make 39 = .ok (.getfield 73, 3) := by decide +kernel
theorem dX12_make_42 : decode cX12_make 42 = .ok (.aload_n 0, 1) := by decide +kernel
theorem dX12_make_43 : decode cX12_make 43 = .ok (.getfield 73, 3) := by decide +kernel
theorem dX12_make_46 : decode cX12_make 46 = .ok (.arraylength, 1) := by decide +kernel
theorem dX12_make_47 : decode cX12_make 47 = .ok (.iconst 1, 1) := by decide +kernel
theorem dX12_make_48 : decode cX12_make 48 = .ok (.isub, 1) := by decide +kernel
theorem dX12_make_49 : decode cX12_make 49 = .ok (.iconst 1, 1) := by decide +kernel
theorem dX12_make_50 : decode cX12_make 50 = .ok (.aload_n 0, 1) := by decide +kernel
theorem dX12_make_51 : decode cX12_make 51 = .ok (.invokevirtual 94, 3) := by decide +kernel
theorem dX12_make_54 : decode cX12_make 54 = .ok (.isub, 1) := by decide +kernel
theorem dX12_make_55 : decode cX12_make 55 = .ok (.iastore, 1) := by decide +kernel
theorem dX12_make_56 : decode cX12_make 56 = .ok (.iload_n 2, 1) := by decide +kernel
theorem dX12_make_57 : decode cX12_make 57 = .ok (.ireturn, 1) := by decide +kernel
theorem dX12_unmake_0 : decode cX12_unmake 0 = .ok (.aload_n 0, 1) := by decide +kernel
theorem dX12_unmake_1 : decode cX12_unmake 1 = .ok (.getfield 73, 3) := by decide +kernel
theorem dX12_unmake_4 : decode cX12_unmake 4 = .ok (.iload_n 1, 1) := by decide +kernel
theorem dX12_unmake_5 : decode cX12_unmake 5 = .ok (.bipush 100, 2) := by decide +kernel
theorem dX12_unmake_7 : decode cX12_unmake 7 = .ok (.idiv, 1) := by decide +kernel
theorem dX12_unmake_8 : decode cX12_unmake 8 = .ok (.aload_n 0, 1) := by decide +kernel
theorem dX12_unmake_9 : decode cX12_unmake 9 = .ok (.getfield 73, 3) := by decide +kernel
theorem dX12_unmake_12 : decode cX12_unmake 12 = .ok (.iload_n 1, 1) := by decide +kernel
theorem dX12_unmake_13 : decode cX12_unmake 13 = .ok (.bipush 100, 2) := by decide +kernel
theorem dX12_unmake_15 : decode cX12_unmake 15 = .ok (.irem, 1) := by decide +kernel
theorem dX12_unmake_16 : decode cX12_unmake 16 = .ok (.iaload, 1) := by decide +kernel
theorem dX12_unmake_17 : decode cX12_unmake 17 = .ok (.iastore, 1) := by decide +kernel
theorem dX12_unmake_18 : decode cX12_unmake 18 = .ok (.aload_n 0, 1) := by decide +kernel
theorem dX12_unmake_19 : decode cX12_unmake 19 = .ok (.getfield 73, 3) := by decide +kernel
theorem dX12_unmake_22 : decode cX12_unmake 22 = .ok (.iload_n 1, 1) := by decide +kernel
theorem dX12_unmake_23 : decode cX12_unmake 23 = .ok (.bipush 100, 2) := by decide +kernel
theorem dX12_unmake_25 : decode cX12_unmake 25 = .ok (.irem, 1) := by decide +kernel
theorem dX12_unmake_26 : decode cX12_unmake 26 = .ok (.iload_n 2, 1) := by decide +kernel
theorem dX12_unmake_27 : decode cX12_unmake 27 = .ok (.iastore, 1) := by decide +kernel
theorem dX12_unmake_28 : decode cX12_unmake 28 = .ok (.aload_n 0, 1) := by decide +kernel
theorem dX12_unmake_29 : decode cX12_unmake 29 = .ok (.getfield 73, 3) := by decide +kernel
theorem dX12_unmake_32 : decode cX12_unmake 32 = .ok (.aload_n 0, 1) := by decide +kernel
theorem dX12_unmake_33 : decode cX12_unmake 33 = .ok (.getfield 73, 3) := by decide +kernel
theorem dX12_unmake_36 : decode cX12_unmake 36 = .ok (.arraylength, 1) := by decide +kernel
theorem dX12_unmake_37 : decode cX12_unmake 37 = .ok (.iconst 1, 1) := by decide +kernel
theorem dX12_unmake_38 : decode cX12_unmake 38 = .ok (.isub, 1) := by decide +kernel
theorem dX12_unmake_39 : decode cX12_unmake 39 = .ok (.iconst 1, 1) := by decide +kernel
theorem dX12_unmake_40 : decode cX12_unmake 40 = .ok (.aload_n 0, 1) := by decide +kernel
theorem dX12_unmake_41 : decode cX12_unmake 41 = .ok (.invokevirtual 94, 3) := by decide +kernel
theorem dX12_unmake_44 : decode cX12_unmake 44 = .ok (.isub, 1) := by decide +kernel
theorem dX12_unmake_45 : decode cX12_unmake 45 = .ok (.iastore, 1) := by decide +kernel
theorem dX12_unmake_46 : decode cX12_unmake 46 = .ok (.return_, 1) := by decide +kernel
theorem dX12_keyNow_0 : decode cX12_keyNow 0 = .ok (.lconst 0, 1) := by decide +kernel
theorem dX12_keyNow_1 : decode cX12_keyNow 1 = .ok (.lstore_n 1, 1) := by decide +kernel
theorem dX12_keyNow_2 : decode cX12_keyNow 2 = .ok (.iconst 0, 1) := by decide +kernel
theorem dX12_keyNow_3 : decode cX12_keyNow 3 = .ok (.istore_n 3, 1) := by decide +kernel
theorem dX12_keyNow_4 : decode cX12_keyNow 4 = .ok (.iload_n 3, 1) := by decide +kernel
theorem dX12_keyNow_5 : decode cX12_keyNow 5 = .ok (.iconst 1, 1) := by decide +kernel
theorem dX12_keyNow_6 : decode cX12_keyNow 6 = .ok (.iadd, 1) := by decide +kernel
theorem dX12_keyNow_7 : decode cX12_keyNow 7 = .ok (.aload_n 0, 1) := by decide +kernel
theorem dX12_keyNow_8 : decode cX12_keyNow 8 = .ok (.getfield 73, 3) := by decide +kernel
theorem dX12_keyNow_11 : decode cX12_keyNow 11 = .ok (.arraylength, 1) := by decide +kernel
theorem dX12_keyNow_12 : decode cX12_keyNow 12 = .ok (.if_icmp .ge 23, 3) := by decide +kernel
theorem dX12_keyNow_15 : decode cX12_keyNow 15 = .ok (.ldc2_w 108, 3) := by decide +kernel
theorem dX12_keyNow_18 : decode cX12_keyNow 18 = .ok (.lload_n 1, 1) := by decide +kernel
theorem dX12_keyNow_19 : decode cX12_keyNow 19 = .ok (.lmul, 1) := by decide +kernel
theorem dX12_keyNow_20 : decode cX12_keyNow 20 = .ok (.aload_n 0, 1) := by decide +kernel
theorem dX12_keyNow_21 : decode cX12_keyNow 21 = .ok (.getfield 73, 3) := by decide +kernel
theorem dX12_keyNow_24 : decode cX12_keyNow 24 = .ok (.iload_n 3, 1) := by decide +kernel
theorem dX12_keyNow_25 : decode cX12_keyNow 25 = .ok (.iaload, 1) := by decide +kernel
theorem dX12_keyNow_26 : decode cX12_keyNow 26 = .ok (.i2l, 1) := by decide +kernel
theorem dX12_keyNow_27 : decode cX12_keyNow 27 = .ok (.ladd, 1) := by decide +kernel
theorem dX12_keyNow_28 : decode cX12_keyNow 28 = .ok (.lstore_n 1, 1) := by decide +kernel
theorem dX12_keyNow_29 : decode cX12_keyNow 29 = .ok (.iinc 3 1, 3) := by decide +kernel
theorem dX12_keyNow_32 : decode cX12_keyNow 32 = .ok (.goto (-28), 3) := by decide +kernel
theorem dX12_keyNow_35 : decode cX12_keyNow 35 = .ok (.ldc2_w 110, 3) := by decide +kernel
theorem dX12_keyNow_38 : decode cX12_keyNow 38 = .ok (.lload_n 1, 1) := by decide +kernel
theorem dX12_keyNow_39 : decode cX12_keyNow 39 = .ok (.lmul, 1) := by decide +kernel
theorem dX12_keyNow_40 : decode cX12_keyNow 40 = .ok (.aload_n 0, 1) := by decide +kernel
theorem dX12_keyNow_41 : decode cX12_keyNow 41 = .ok (.invokevirtual 94, 3) := by decide +kernel
theorem dX12_keyNow_44 : decode cX12_keyNow 44 = .ok (.i2l, 1) := by decide +kernel
theorem dX12_keyNow_45 : decode cX12_keyNow 45 = .ok (.ladd, 1) := by decide +kernel
theorem dX12_keyNow_46 : decode cX12_keyNow 46 = .ok (.lreturn, 1) := by decide +kernel
theorem dX12_worth_0 : decode cX12_worth 0 = .ok (.aload_n 0, 1) := by decide +kernel
theorem dX12_worth_1 : decode cX12_worth 1 = .ok (.getfield 20, 3) := by decide +kernel
theorem dX12_worth_4 : decode cX12_worth 4 = .ok (.aload_n 0, 1) := by decide +kernel
theorem dX12_worth_5 : decode cX12_worth 5 = .ok (.iload_n 1, 1) := by decide +kernel
theorem dX12_worth_6 : decode cX12_worth 6 = .ok (.invokevirtual 101, 3) := by decide +kernel
theorem dX12_worth_9 : decode cX12_worth 9 = .ok (.imul, 1) := by decide +kernel
theorem dX12_worth_10 : decode cX12_worth 10 = .ok (.istore_n 2, 1) := by decide +kernel
theorem dX12_worth_11 : decode cX12_worth 11 = .ok (.iconst 0, 1) := by decide +kernel
theorem dX12_worth_12 : decode cX12_worth 12 = .ok (.istore_n 3, 1) := by decide +kernel
theorem dX12_worth_13 : decode cX12_worth 13 = .ok (.iload_n 3, 1) := by decide +kernel
theorem dX12_worth_14 : decode cX12_worth 14 = .ok (.iconst 1, 1) := by decide +kernel
theorem dX12_worth_15 : decode cX12_worth 15 = .ok (.iadd, 1) := by decide +kernel
theorem dX12_worth_16 : decode cX12_worth 16 = .ok (.aload_n 0, 1) := by decide +kernel
theorem dX12_worth_17 : decode cX12_worth 17 = .ok (.getfield 73, 3) := by decide +kernel
theorem dX12_worth_20 : decode cX12_worth 20 = .ok (.arraylength, 1) := by decide +kernel
theorem dX12_worth_21 : decode cX12_worth 21 = .ok (.if_icmp .ge 51, 3) := by decide +kernel
theorem dX12_worth_24 : decode cX12_worth 24 = .ok (.aload_n 0, 1) := by decide +kernel
theorem dX12_worth_25 : decode cX12_worth 25 = .ok (.getfield 73, 3) := by decide +kernel
theorem dX12_worth_28 : decode cX12_worth 28 = .ok (.iload_n 3, 1) := by decide +kernel
theorem dX12_worth_29 : decode cX12_worth 29 = .ok (.iaload, 1) := by decide +kernel
theorem dX12_worth_30 : decode cX12_worth 30 = .ok (.iload_n 1, 1) := by decide +kernel
theorem dX12_worth_31 : decode cX12_worth 31 = .ok (.iconst 1, 1) := by decide +kernel
theorem dX12_worth_32 : decode cX12_worth 32 = .ok (.iadd, 1) := by decide +kernel
theorem dX12_worth_33 : decode cX12_worth 33 = .ok (.if_icmp .ne 33, 3) := by decide +kernel
theorem dX12_worth_36 : decode cX12_worth 36 = .ok (.iload_n 2, 1) := by decide +kernel
theorem dX12_worth_37 : decode cX12_worth 37 = .ok (.aload_n 0, 1) := by decide +kernel
theorem dX12_worth_38 : decode cX12_worth 38 = .ok (.getfield 13, 3) := by decide +kernel
theorem dX12_worth_41 : decode cX12_worth 41 = .ok (.aload_n 0, 1) := by decide +kernel
theorem dX12_worth_42 : decode cX12_worth 42 = .ok (.getfield 17, 3) := by decide +kernel
theorem dX12_worth_45 : decode cX12_worth 45 = .ok (.iload_n 3, 1) := by decide +kernel
theorem dX12_worth_46 : decode cX12_worth 46 = .ok (.aload_n 0, 1) := by decide +kernel
theorem dX12_worth_47 : decode cX12_worth 47 = .ok (.getfield 67, 3) := by decide +kernel
theorem dX12_worth_50 : decode cX12_worth 50 = .ok (.idiv, 1) := by decide +kernel
theorem dX12_worth_51 : decode cX12_worth 51 = .ok (.aload_n 0, 1) := by decide +kernel
theorem dX12_worth_52 : decode cX12_worth 52 = .ok (.iconst 1, 1) := by decide +kernel
theorem dX12_worth_53 : decode cX12_worth 53 = .ok (.iload_n 1, 1) := by decide +kernel
theorem dX12_worth_54 : decode cX12_worth 54 = .ok (.isub, 1) := by decide +kernel
theorem dX12_worth_55 : decode cX12_worth 55 = .ok (.invokevirtual 98, 3) := by decide +kernel
theorem dX12_worth_58 : decode cX12_worth 58 = .ok (.isub, 1) := by decide +kernel
theorem dX12_worth_59 : decode cX12_worth 59 = .ok (.invokestatic 112, 3) := by decide +kernel
theorem dX12_worth_62 : decode cX12_worth 62 = .ok (.imul, 1) := by decide +kernel
theorem dX12_worth_63 : decode cX12_worth 63 = .ok (.iadd, 1) := by decide +kernel
theorem dX12_worth_64 : decode cX12_worth 64 = .ok (.iadd, 1) := by decide +kernel
theorem dX12_worth_65 : decode cX12_worth 65 = .ok (.istore_n 2, 1) := by decide +kernel
theorem dX12_worth_66 : decode cX12_worth 66 = .ok (.iinc 3 1, 3) := by decide +kernel
theorem dX12_worth_69 : decode cX12_worth 69 = .ok (.goto (-56), 3) := by decide +kernel
theorem dX12_worth_72 : decode cX12_worth 72 = .ok (.iload_n 2, 1) := by decide +kernel
theorem dX12_worth_73 : decode cX12_worth 73 = .ok (.ireturn, 1) := by decide +kernel
theorem dX12_evaluated_0 : decode cX12_evaluated 0 = .ok (.aload_n 0, 1) := by decide +kernel
theorem dX12_evaluated_1 : decode cX12_evaluated 1 = .ok (.aload_n 0, 1) := by decide +kernel
theorem dX12_evaluated_2 : decode cX12_evaluated 2 = .ok (.invokevirtual 94, 3) := by decide +kernel
theorem dX12_evaluated_5 : decode cX12_evaluated 5 = .ok (.invokevirtual 117, 3) := by decide +kernel
theorem dX12_evaluated_8 : decode cX12_evaluated 8 = .ok (.aload_n 0, 1) := by decide +kernel
theorem dX12_evaluated_9 : decode cX12_evaluated 9 = .ok (.iconst 1, 1) := by decide +kernel
theorem dX12_evaluated_10 : decode cX12_evaluated 10 = .ok (.aload_n 0, 1) := by decide +kernel
theorem dX12_evaluated_11 : decode cX12_evaluated 11 = .ok (.invokevirtual 94, 3) := by decide +kernel
theorem dX12_evaluated_14 : decode cX12_evaluated 14 = .ok (.isub, 1) := by decide +kernel
theorem dX12_evaluated_15 : decode cX12_evaluated 15 = .ok (.invokevirtual 117, 3) := by decide +kernel
theorem dX12_evaluated_18 : decode cX12_evaluated 18 = .ok (.isub, 1) := by decide +kernel
theorem dX12_evaluated_19 : decode cX12_evaluated 19 = .ok (.ireturn, 1) := by decide +kernel
