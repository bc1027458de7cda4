theorem dX12_quietValue_0 : decode cX12_quietValue 0 = .ok (.aload_n 0, 1) := by decide +kernel
theorem dX12_quietValue_1 : decode cX12_quietValue 1 = .ok (.invokevirtual 104, 3) := by decide +kernel
theorem dX12_quietValue_4 : decode cX12_quietValue 4 = .ok (.ifCond .eq 7, 3) := by decide +kernel
theorem dX12_quietValue_7 : decode cX12_quietValue 7 = .ok (.sipush (-1000), 3) := by decide +kernel
theorem dX12_quietValue_10 : decode cX12_quietValue 10 = .ok (.ireturn, 1) := by decide +kernel
theorem dX12_quietValue_11 : decode cX12_quietValue 11 = .ok (.aload_n 0, 1) := by decide +kernel
theorem dX12_quietValue_12 : decode cX12_quietValue 12 = .ok (.invokevirtual 120, 3) := by decide +kernel
theorem dX12_quietValue_15 : decode cX12_quietValue 15 = .ok (.istore_n 3, 1) := by decide +kernel
theorem dX12_quietValue_16 : decode cX12_quietValue 16 = .ok (.aload_n 0, 1) := by decide +kernel
theorem dX12_quietValue_17 : decode cX12_quietValue 17 = .ok (.getfield 23, 3) := by decide +kernel
theorem dX12_quietValue_20 : decode cX12_quietValue 20 = .ok (.ifCond .eq 15, 3) := by decide +kernel
theorem dX12_quietValue_23 : decode cX12_quietValue 23 = .ok (.iload_n 2, 1) := by decide +kernel
theorem dX12_quietValue_24 : decode cX12_quietValue 24 = .ok (.ifCond .le 11, 3) := by decide +kernel
theorem dX12_quietValue_27 : decode cX12_quietValue 27 = .ok (.aload_n 0, 1) := by decide +kernel
theorem dX12_quietValue_28 : decode cX12_quietValue 28 = .ok (.iload_n 1, 1) := by decide +kernel
theorem dX12_quietValue_29 : decode cX12_quietValue 29 = .ok (.invokevirtual 123, 3) := by decide +kernel
theorem dX12_quietValue_32 : decode cX12_quietValue 32 = .ok (.goto 4, 3) := by decide +kernel
theorem dX12_quietValue_35 : decode cX12_quietValue 35 = .ok (.iconst 0, 1) := by decide +kernel
theorem dX12_quietValue_36 : decode cX12_quietValue 36 = .ok (.istore 4, 2) := by decide +kernel
theorem dX12_quietValue_38 : decode cX12_quietValue 38 = .ok (.iconst 0, 1) := by decide +kernel
theorem dX12_quietValue_39 : decode cX12_quietValue 39 = .ok (.istore 5, 2) := by decide +kernel
theorem dX12_quietValue_41 : decode cX12_quietValue 41 = .ok (.iload 5, 2) := by decide +kernel
theorem dX12_quietValue_43 : decode cX12_quietValue 43 = .ok (.iload 4, 2) := by decide +kernel
theorem dX12_quietValue_45 : decode cX12_quietValue 45 = .ok (.if_icmp .ge 64, 3) := by decide +kernel
theorem dX12_quietValue_48 : decode cX12_quietValue 48 = .ok (.aload_n 0, 1) := by decide +kernel
theorem dX12_quietValue_49 : decode cX12_quietValue 49 = .ok (.getfield 29, 3) := by decide +kernel
theorem dX12_quietValue_52 : decode cX12_quietValue 52 = .ok (.iload_n 1, 1) := by decide +kernel
theorem dX12_quietValue_53 : decode cX12_quietValue 53 = .ok (.aaload, 1) := by decide +kernel
theorem dX12_quietValue_54 : decode cX12_quietValue 54 = .ok (.iload 5, 2) := by decide +kernel
theorem dX12_quietValue_56 : decode cX12_quietValue 56 = .ok (.iaload, 1) := by decide +kernel
theorem dX12_quietValue_57 : decode cX12_quietValue 57 = .ok (.istore 6, 2) := by decide +kernel
theorem dX12_quietValue_59 : decode cX12_quietValue 59 = .ok (.aload_n 0, 1) := by decide +kernel
theorem dX12_quietValue_60 : decode cX12_quietValue 60 = .ok (.iload 6, 2) := by decide +kernel
theorem dX12_quietValue_62 : decode cX12_quietValue 62 = .ok (.invokevirtual 126, 3) := by decide +kernel
theorem dX12_quietValue_65 : decode cX12_quietValue 65 = .ok (.ifCond .ne 6, 3) := by decide +kernel
theorem dX12_quietValue_68 : decode cX12_quietValue 68 = .ok (.goto 35, 3) := by decide +kernel
theorem dX12_quietValue_71 : decode cX12_quietValue 71 = .ok (.aload_n 0, 1) := by decide +kernel
theorem dX12_quietValue_72 : decode cX12_quietValue 72 = .ok (.iload 6, 2) := by decide +kernel
theorem dX12_quietValue_74 : decode cX12_quietValue 74 = .ok (.invokevirtual 130, 3) := by decide +kernel
theorem dX12_quietValue_77 : decode cX12_quietValue 77 = .ok (.istore 7, 2) := by decide +kernel
theorem dX12_quietValue_79 : decode cX12_quietValue 79 = .ok (.iload_n 3, 1) := by decide +kernel
theorem dX12_quietValue_80 : decode cX12_quietValue 80 = .ok (.aload_n 0, 1) := by decide +kernel
theorem dX12_quietValue_81 : decode cX12_quietValue 81 = .ok (.iload_n 1, 1) := by decide +kernel
theorem dX12_quietValue_82 : decode cX12_quietValue 82 = .ok (.iconst 1, 1) := by decide +kernel
theorem dX12_quietValue_83 : decode cX12_quietValue 83 = .ok (.iadd, 1) := by decide +kernel
theorem dX12_quietValue_84 : decode cX12_quietValue 84 = .ok (.iload_n 2, 1) := by decide +kernel
theorem dX12_quietValue_85 : decode cX12_quietValue 85 = .ok (.iconst 1, 1) := by decide +kernel
theorem dX12_quietValue_86 : decode cX12_quietValue 86 = .ok (.isub, 1) := by decide +kernel
theorem dX12_quietValue_87 : decode cX12_quietValue 87 = .ok (.invokevirtual 133, 3) := by decide +kernel
theorem dX12_quietValue_90 : decode cX12_quietValue 90 = .ok (.ineg, 1) := by decide +kernel
theorem dX12_quietValue_91 : decode cX12_quietValue 91 = .ok (.invokestatic 137, 3) := by decide +kernel
theorem dX12_quietValue_94 : decode cX12_quietValue 94 = .ok (.istore_n 3, 1) := by decide +kernel
theorem dX12_quietValue_95 : decode cX12_quietValue 95 = .ok (.aload_n 0, 1) := by decide +kernel
theorem dX12_quietValue_96 : decode cX12_quietValue 96 = .ok (.iload 6, 2) := by decide +kernel
theorem dX12_quietValue_98 : decode cX12_quietValue 98 = .ok (.iload 7, 2) := by decide +kernel
theorem dX12_quietValue_100 : decode cX12_quietValue 100 = .ok (.invokevirtual 140, 3) := by decide +kernel
theorem dX12_quietValue_103 : decode cX12_quietValue 103 = .ok (.iinc 5 1, 3) := by decide +kernel
theorem dX12_quietValue_106 : decode cX12_quietValue 106 = .ok (.goto (-65), 3) := by decide +kernel
theorem dX12_quietValue_109 : decode cX12_quietValue 109 = .ok (.iload_n 3, 1) := by decide +kernel
theorem dX12_quietValue_110 : decode cX12_quietValue 110 = .ok (.ireturn, 1) := by decide +kernel
theorem dX12_valueNow_0 : decode cX12_valueNow 0 = .ok (.aload_n 0, 1) := by decide +kernel
theorem dX12_valueNow_1 : decode cX12_valueNow 1 = .ok (.invokevirtual 104, 3) := by decide +kernel
theorem dX12_valueNow_4 : decode cX12_valueNow 4 = .ok (.ifCond .eq 9, 3) := by decide +kernel
theorem dX12_valueNow_7 : decode cX12_valueNow 7 = .ok (.sipush (-1000), 3) := by decide +kernel
theorem dX12_valueNow_10 : decode cX12_valueNow 10 = .ok (.iload_n 2, 1) := by decide +kernel
theorem dX12_valueNow_11 : decode cX12_valueNow 11 = .ok (.isub, 1) := by decide +kernel
theorem dX12_valueNow_12 : decode cX12_valueNow 12 = .ok (.ireturn, 1) := by decide +kernel
theorem dX12_valueNow_13 : decode cX12_valueNow 13 = .ok (.iload_n 2, 1) := by decide +kernel
theorem dX12_valueNow_14 : decode cX12_valueNow 14 = .ok (.ifCond .ne 10, 3) := by decide +kernel
theorem dX12_valueNow_17 : decode cX12_valueNow 17 = .ok (.aload_n 0, 1) := by decide +kernel
theorem dX12_valueNow_18 : decode cX12_valueNow 18 = .ok (.iload_n 1, 1) := by decide +kernel
theorem dX12_valueNow_19 : decode cX12_valueNow 19 = .ok (.iconst 4, 1) := by decide +kernel
theorem dX12_valueNow_20 : decode cX12_valueNow 20 = .ok (.invokevirtual 133, 3) := by decide +kernel
theorem dX12_valueNow_23 : decode cX12_valueNow 23 = .ok (.ireturn, 1) := by decide +kernel
theorem dX12_valueNow_24 : decode cX12_valueNow 24 = .ok (.ldc 144, 2) := by decide +kernel
theorem dX12_valueNow_26 : decode cX12_valueNow 26 = .ok (.istore_n 3, 1) := by decide +kernel
theorem dX12_valueNow_27 : decode cX12_valueNow 27 = .ok (.aload_n 0, 1) := by decide +kernel
theorem dX12_valueNow_28 : decode cX12_valueNow 28 = .ok (.iload_n 1, 1) := by decide +kernel
theorem dX12_valueNow_29 : decode cX12_valueNow 29 = .ok (.invokevirtual 123, 3) := by decide +kernel
theorem dX12_valueNow_32 : decode cX12_valueNow 32 = .ok (.istore 4, 2) := by decide +kernel
theorem dX12_valueNow_34 : decode cX12_valueNow 34 = .ok (.iconst 0, 1) := by decide +kernel
theorem dX12_valueNow_35 : decode cX12_valueNow 35 = .ok (.istore 5, 2) := by decide +kernel
theorem dX12_valueNow_37 : decode cX12_valueNow 37 = .ok (.iload 5, 2) := by decide +kernel
theorem dX12_valueNow_39 : decode cX12_valueNow 39 = .ok (.iload 4, 2) := by decide +kernel
theorem dX12_valueNow_41 : decode cX12_valueNow 41 = .ok (.if_icmp .ge 25, 3) := by decide +kernel
theorem dX12_valueNow_44 : decode cX12_valueNow 44 = .ok (.iload_n 3, 1) := by decide +kernel
theorem dX12_valueNow_45 : decode cX12_valueNow 45 = .ok (.aload_n 0, 1) := by decide +kernel
theorem dX12_valueNow_46 : decode cX12_valueNow 46 = .ok (.iload_n 1, 1) := by decide +kernel
theorem dX12_valueNow_47 : decode cX12_valueNow 47 = .ok (.iload 5, 2) := by decide +kernel
theorem dX12_valueNow_49 : decode cX12_valueNow 49 = .ok (.iload_n 2, 1) := by decide +kernel
theorem dX12_valueNow_50 : decode cX12_valueNow 50 = .ok (.iconst 1, 1) := by decide +kernel
theorem dX12_valueNow_51 : decode cX12_valueNow 51 = .ok (.isub, 1) := by decide +kernel
theorem dX12_valueNow_52 : decode cX12_valueNow 52 = .ok (.invokevirtual 145, 3) := by decide +kernel
theorem dX12_valueNow_55 : decode cX12_valueNow 55 = .ok (.ineg, 1) := by decide +kernel
theorem dX12_valueNow_56 : decode cX12_valueNow 56 = .ok (.invokestatic 137, 3) := by decide +kernel
theorem dX12_valueNow_59 : decode cX12_valueNow 59 = .ok (.istore_n 3, 1) := by decide +kernel
theorem dX12_valueNow_60 : decode cX12_valueNow 60 = .ok (.iinc 5 1, 3) := by decide +kernel
theorem dX12_valueNow_63 : decode cX12_valueNow 63 = .ok (.goto (-26), 3) := by decide +kernel
theorem dX12_valueNow_66 : decode cX12_valueNow 66 = .ok (.iload_n 3, 1) := by decide +kernel
theorem dX12_valueNow_67 : decode cX12_valueNow 67 = .ok (.ireturn, 1) := by decide +kernel
theorem dX12_valueBehind_0 : decode cX12_valueBehind 0 = .ok (.aload_n 0, 1) := by decide +kernel
theorem dX12_valueBehind_1 : decode cX12_valueBehind 1 = .ok (.getfield 29, 3) := by decide +kernel
theorem dX12_valueBehind_4 : decode cX12_valueBehind 4 = .ok (.iload_n 1, 1) := by decide +kernel
theorem dX12_valueBehind_5 : decode cX12_valueBehind 5 = .ok (.aaload, 1) := by decide +kernel
theorem dX12_valueBehind_6 : decode cX12_valueBehind 6 = .ok (.iload_n 2, 1) := by decide +kernel
theorem dX12_valueBehind_7 : decode cX12_valueBehind 7 = .ok (.iaload, 1) := by decide +kernel
theorem dX12_valueBehind_8 : decode cX12_valueBehind 8 = .ok (.istore 4, 2) := by decide +kernel
theorem dX12_valueBehind_10 : decode cX12_valueBehind 10 = .ok (.aload_n 0, 1) := by decide +kernel
theorem dX12_valueBehind_11 : decode cX12_valueBehind 11 = .ok (.iload 4, 2) := by decide +kernel
theorem dX12_valueBehind_13 : decode cX12_valueBehind 13 = .ok (.invokevirtual 130, 3) := by decide +kernel
theorem dX12_valueBehind_16 : decode cX12_valueBehind 16 = .ok (.istore 5, 2) := by decide +kernel
theorem dX12_valueBehind_18 : decode cX12_valueBehind 18 = .ok (.aload_n 0, 1) := by decide +kernel
theorem dX12_valueBehind_19 : decode cX12_valueBehind 19 = .ok (.iload_n 1, 1) := by decide +kernel
theorem dX12_valueBehind_20 : decode cX12_valueBehind 20 = .ok (.iconst 1, 1) := by decide +kernel
theorem dX12_valueBehind_21 : decode cX12_valueBehind 21 = .ok (.iadd, 1) := by decide +kernel
theorem dX12_valueBehind_22 : decode cX12_valueBehind 22 = .ok (.iload_n 3, 1) := by decide +kernel
theorem dX12_valueBehind_23 : decode cX12_valueBehind 23 = .ok (.invokevirtual 148, 3) := by decide +kernel
theorem dX12_valueBehind_26 : decode cX12_valueBehind 26 = .ok (.istore 6, 2) := by decide +kernel
theorem dX12_valueBehind_28 : decode cX12_valueBehind 28 = .ok (.aload_n 0, 1) := by decide +kernel
theorem dX12_valueBehind_29 : decode cX12_valueBehind 29 = .ok (.iload 4, 2) := by decide +kernel
theorem dX12_valueBehind_31 : decode cX12_valueBehind 31 = .ok (.iload 5, 2) := by decide +kernel
theorem dX12_valueBehind_33 : decode cX12_valueBehind 33 = .ok (.invokevirtual 140, 3) := by decide +kernel
theorem dX12_valueBehind_36 : decode cX12_valueBehind 36 = .ok (.iload 6, 2) := by decide +kernel
theorem dX12_valueBehind_38 : decode cX12_valueBehind 38 = .ok (.ireturn, 1) := by decide +kernel
theorem dX12_waysNow_0 : decode cX12_waysNow 0 = .ok (.iload_n 2, 1) := by decide +kernel
theorem dX12_waysNow_1 : decode cX12_waysNow 1 = .ok (.ifCond .ne 5, 3) := by decide +kernel
theorem dX12_waysNow_4 : decode cX12_waysNow 4 = .ok (.iconst 1, 1) := by decide +kernel
theorem dX12_waysNow_5 : decode cX12_waysNow 5 = .ok (.ireturn, 1) := by decide +kernel
theorem dX12_waysNow_6 : decode cX12_waysNow 6 = .ok (.iconst 0, 1) := by decide +kernel
theorem dX12_waysNow_7 : decode cX12_waysNow 7 = .ok (.istore_n 3, 1) := by decide +kernel
theorem dX12_waysNow_8 : decode cX12_waysNow 8 = .ok (.aload_n 0, 1) := by decide +kernel
theorem dX12_waysNow_9 : decode cX12_waysNow 9 = .ok (.iload_n 1, 1) := by decide +kernel
theorem dX12_waysNow_10 : decode cX12_waysNow 10 = .ok (.invokevirtual 123, 3) := by decide +kernel
theorem dX12_waysNow_13 : decode cX12_waysNow 13 = .ok (.istore 4, 2) := by decide +kernel
theorem dX12_waysNow_15 : decode cX12_waysNow 15 = .ok (.iconst 0, 1) := by decide +kernel
theorem dX12_waysNow_16 : decode cX12_waysNow 16 = .ok (.istore 5, 2) := by decide +kernel
theorem dX12_waysNow_18 : decode cX12_waysNow 18 = .ok (.iload 5, 2) := by decide +kernel
theorem dX12_waysNow_20 : decode cX12_waysNow 20 = .ok (.iload 4, 2) := by decide +kernel
theorem dX12_waysNow_22 : decode cX12_waysNow 22 = .ok (.if_icmp .ge 49, 3) := by decide +kernel
theorem dX12_waysNow_25 : decode cX12_waysNow 25 = .ok (.aload_n 0, 1) := by decide +kernel
theorem dX12_waysNow_26 : decode cX12_waysNow 26 = .ok (.getfield 29, 3) := by decide +kernel
theorem dX12_waysNow_29 : decode cX12_waysNow 29 = .ok (.iload_n 1, 1) := by decide +kernel
theorem dX12_waysNow_30 : decode cX12_waysNow 30 = .ok (.aaload, 1) := by decide +kernel
theorem dX12_waysNow_31 : decode cX12_waysNow 31 = .ok (.iload 5, 2) := by decide +kernel
theorem dX12_waysNow_33 : decode cX12_waysNow 33 = .ok (.iaload, 1) := by decide +kernel
theorem dX12_waysNow_34 : decode cX12_waysNow 34 = .ok (.istore 6, 2) := by decide +kernel
theorem dX12_waysNow_36 : decode cX12_waysNow 36 = .ok (.aload_n 0, 1) := by decide +kernel
theorem dX12_waysNow_37 : decode cX12_waysNow 37 = .ok (.iload 6, 2) := by decide +kernel
theorem dX12_waysNow_39 : decode cX12_waysNow 39 = .ok (.invokevirtual 130, 3) := by decide +kernel
theorem dX12_waysNow_42 : decode cX12_waysNow 42 = .ok (.istore 7, 2) := by decide +kernel
theorem dX12_waysNow_44 : decode cX12_waysNow 44 = .ok (.iload_n 3, 1) := by decide +kernel
theorem dX12_waysNow_45 : decode cX12_waysNow 45 = .ok (.aload_n 0, 1) := by decide +kernel
theorem dX12_waysNow_46 : decode cX12_waysNow 46 = .ok (.iload_n 1, 1) := by decide +kernel
theorem dX12_waysNow_47 : decode cX12_waysNow 47 = .ok (.iconst 1, 1) := by decide +kernel
theorem dX12_waysNow_48 : decode cX12_waysNow 48 = .ok (.iadd, 1) := by decide +kernel
theorem dX12_waysNow_49 : decode cX12_waysNow 49 = .ok (.iload_n 2, 1) := by decide +kernel
theorem dX12_waysNow_50 : decode cX12_waysNow 50 = .ok (.iconst 1, 1) := by decide +kernel
theorem dX12_waysNow_51 : decode cX12_waysNow 51 = .ok (.isub, 1) := by decide +kernel
theorem dX12_waysNow_52 : decode cX12_waysNow 52 = .ok (.invokevirtual 151, 3) := by decide +kernel
theorem dX12_waysNow_55 : decode cX12_waysNow 55 = .ok (.iadd, 1) := by decide +kernel
theorem dX12_waysNow_56 : decode cX12_waysNow 56 = .ok (.istore_n 3, 1) := by decide +kernel
theorem dX12_waysNow_57 : decode cX12_waysNow 57 = .ok (.aload_n 0, 1) := by decide +kernel
theorem dX12_waysNow_58 : decode cX12_waysNow 58 = .ok (.iload 6, 2) := by decide +kernel
theorem dX12_waysNow_60 : decode cX12_waysNow 60 = .ok (.iload 7, 2) := by decide +kernel
theorem dX12_waysNow_62 : decode cX12_waysNow 62 = .ok (.invokevirtual 140, 3) := by decide +kernel
theorem dX12_waysNow_65 : decode cX12_waysNow 65 = .ok (.iinc 5 1, 3) := by decide +kernel
theorem dX12_waysNow_68 : decode cX12_waysNow 68 = .ok (.goto (-50), 3) := by decide +kernel
theorem dX12_waysNow_71 : decode cX12_waysNow 71 = .ok (.iload_n 3, 1) := by decide +kernel
theorem dX12_waysNow_72 : decode cX12_waysNow 72 = .ok (.ireturn, 1) := by decide +kernel
theorem dX12_clear_0 : decode cX12_clear 0 = .ok (.aload_n 0, 1) := by decide +kernel
theorem dX12_clear_1 : decode cX12_clear 1 = .ok (.invokevirtual 154, 3) := by decide +kernel
theorem dX12_clear_4 : decode cX12_clear 4 = .ok (.istore_n 2, 1) := by decide +kernel
theorem dX12_clear_5 : decode cX12_clear 5 = .ok (.aload_n 0, 1) := by decide +kernel
theorem dX12_clear_6 : decode cX12_clear 6 = .ok (.iload_n 1, 1) := by decide +kernel
theorem dX12_clear_7 : decode cX12_clear 7 = .ok (.putfield 32, 3) := by decide +kernel
theorem dX12_clear_10 : decode cX12_clear 10 = .ok (.aload_n 0, 1) := by decide +kernel
theorem dX12_clear_11 : decode cX12_clear 11 = .ok (.getfield 39, 3) := by decide +kernel
theorem dX12_clear_14 : decode cX12_clear 14 = .ok (.astore_n 3, 1) := by decide +kernel
theorem dX12_clear_15 : decode cX12_clear 15 = .ok (.aload_n 3, 1) := by decide +kernel
theorem dX12_clear_16 : decode cX12_clear 16 = .ok (.arraylength, 1) := by decide +kernel
theorem dX12_clear_17 : decode cX12_clear 17 = .ok (.istore 4, 2) := by decide +kernel
theorem dX12_clear_19 : decode cX12_clear 19 = .ok (.iconst 0, 1) := by decide +kernel
theorem dX12_clear_20 : decode cX12_clear 20 = .ok (.istore 5, 2) := by decide +kernel
theorem dX12_clear_22 : decode cX12_clear 22 = .ok (.iload 5, 2) := by decide +kernel
theorem dX12_clear_24 : decode cX12_clear 24 = .ok (.iload 4, 2) := by decide +kernel
theorem dX12_clear_26 : decode cX12_clear 26 = .ok (.if_icmp .ge 20, 3) := by decide +kernel
theorem dX12_clear_29 : decode cX12_clear 29 = .ok (.aload_n 3, 1) := by decide +kernel
theorem dX12_clear_30 : decode cX12_clear 30 = .ok (.iload 5, 2) := by decide +kernel
theorem dX12_clear_32 : decode cX12_clear 32 = .ok (.aaload, 1) := by decide +kernel
theorem dX12_clear_33 : decode cX12_clear 33 = .ok (.astore 6, 2) := by decide +kernel
theorem dX12_clear_35 : decode cX12_clear 35 = .ok (.aload 6, 2) := by decide +kernel
theorem dX12_clear_37 : decode cX12_clear 37 = .ok (.iconst 0, 1) := by decide +kernel
theorem dX12_clear_38 : decode cX12_clear 38 = .ok (.iconst 0, 1) := by decide +kernel
theorem dX12_clear_39 : decode cX12_clear 39 = .ok (.iastore, 1) := by decide +kernel
theorem dX12_clear_40 : decode cX12_clear 40 = .ok (.iinc 5 1, 3) := by decide +kernel
theorem dX12_clear_43 : decode cX12_clear 43 = .ok (.goto (-21), 3) := by decide +kernel
theorem dX12_clear_46 : decode cX12_clear 46 = .ok (.iload_n 2, 1) := by decide +kernel
theorem dX12_clear_47 : decode cX12_clear 47 = .ok (.ireturn, 1) := by decide +kernel
theorem dX12_entriesNow_0 : decode cX12_entriesNow 0 = .ok (.iconst 0, 1) := by decide +kernel
theorem dX12_entriesNow_1 : decode cX12_entriesNow 1 = .ok (.istore_n 1, 1) := by decide +kernel
theorem dX12_entriesNow_2 : decode cX12_entriesNow 2 = .ok (.aload_n 0, 1) := by decide +kernel
theorem dX12_entriesNow_3 : decode cX12_entriesNow 3 = .ok (.getfield 39, 3) := by decide +kernel
theorem dX12_entriesNow_6 : decode cX12_entriesNow 6 = .ok (.astore_n 2, 1) := by decide +kernel
theorem dX12_entriesNow_7 : decode cX12_entriesNow 7 = .ok (.aload_n 2, 1) := by decide +kernel
theorem dX12_entriesNow_8 : decode cX12_entriesNow 8 = .ok (.arraylength, 1) := by decide +kernel
theorem dX12_entriesNow_9 : decode cX12_entriesNow 9 = .ok (.istore_n 3, 1) := by decide +kernel
theorem dX12_entriesNow_10 : decode cX12_entriesNow 10 = .ok (.iconst 0, 1) := by decide +kernel
theorem dX12_entriesNow_11 : decode cX12_entriesNow 11 = .ok (.istore 4, 2) := by decide +kernel
theorem dX12_entriesNow_13 : decode cX12_entriesNow 13 = .ok (.iload 4, 2) := by decide +kernel
theorem dX12_entriesNow_15 : decode cX12_entriesNow 15 = .ok (.iload_n 3, 1) := by decide +kernel
theorem dX12_entriesNow_16 : decode cX12_entriesNow 16 = .ok (.if_icmp .ge 30, 3) := by decide +kernel
theorem dX12_entriesNow_19 : decode cX12_entriesNow 19 = .ok (.aload_n 2, 1) := by decide +kernel
theorem dX12_entriesNow_20 : decode cX12_entriesNow 20 = .ok (.iload 4, 2) := by decide +kernel
theorem dX12_entriesNow_22 : decode cX12_entriesNow 22 = .ok (.aaload, 1) := by decide +kernel
theorem dX12_entriesNow_23 : decode cX12_entriesNow 23 = .ok (.astore 5, 2) := by decide +kernel
theorem dX12_entriesNow_25 : decode cX12_entriesNow 25 = .ok (.iload_n 1, 1) := by decide +kernel
theorem dX12_entriesNow_26 : decode cX12_entriesNow 26 = .ok (.aload 5, 2) := by decide +kernel
theorem dX12_entriesNow_28 : decode cX12_entriesNow 28 = .ok (.iconst 0, 1) := by decide +kernel
theorem dX12_entriesNow_29 : decode cX12_entriesNow 29 = .ok (.iaload, 1) := by decide +kernel
theorem dX12_entriesNow_30 : decode cX12_entriesNow 30 = .ok (.ifCond .le 7, 3) := by decide +kernel
theorem dX12_entriesNow_33 : decode cX12_entriesNow 33 = .ok (.iconst 1, 1) := by decide +kernel
theorem dX12_entriesNow_34 : decode cX12_entriesNow 34 = .ok (.goto 4, 3) := by decide +kernel
theorem dX12_entriesNow_37 : decode cX12_entriesNow 37 = .ok (.iconst 0, 1) := by decide +kernel
theorem dX12_entriesNow_38 : decode cX12_entriesNow 38 = .ok (.iadd, 1) := by decide +kernel
theorem dX12_entriesNow_39 : decode cX12_entriesNow 39 = .ok (.istore_n 1, 1) := by decide +kernel
theorem dX12_entriesNow_40 : decode cX12_entriesNow 40 = .ok (.iinc 4 1, 3) := by decide +kernel
theorem dX12_entriesNow_43 : decode cX12_entriesNow 43 = .ok (.goto (-30), 3) := by decide +kernel
theorem dX12_entriesNow_46 : decode cX12_entriesNow 46 = .ok (.iload_n 1, 1) := by decide +kernel
theorem dX12_entriesNow_47 : decode cX12_entriesNow 47 = .ok (.ireturn, 1) := by decide +kernel
theorem dX12_slotOf_0 : decode cX12_slotOf 0 = .ok (.aload_n 0, 1) := by decide +kernel
theorem dX12_slotOf_1 : decode cX12_slotOf 1 = .ok (.getfield 32, 3) := by decide +kernel
theorem dX12_slotOf_4 : decode cX12_slotOf 4 = .ok (.ifCond .ne 5, 3) := by decide +kernel
theorem dX12_slotOf_7 : decode cX12_slotOf 7 = .ok (.iconst (-1), 1) := by decide +kernel
theorem dX12_slotOf_8 : decode cX12_slotOf 8 = .ok (.ireturn, 1) := by decide +kernel
theorem dX12_slotOf_9 : decode cX12_slotOf 9 = .ok (.lload_n 1, 1) := by decide +kernel
theorem dX12_slotOf_10 : decode cX12_slotOf 10 = .ok (.aload_n 0, 1) := by decide +kernel
theorem dX12_slotOf_11 : decode cX12_slotOf 11 = .ok (.getfield 32, 3) := by decide +kernel
theorem dX12_slotOf_14 : decode cX12_slotOf 14 = .ok (.i2l, 1) := by decide +kernel
theorem dX12_slotOf_15 : decode cX12_slotOf 15 = .ok (.lrem, 1) := by decide +kernel
theorem dX12_slotOf_16 : decode cX12_slotOf 16 = .ok (.l2i, 1) := by decide +kernel
theorem dX12_slotOf_17 : decode cX12_slotOf 17 = .ok (.istore_n 3, 1) := by decide +kernel
theorem dX12_slotOf_18 : decode cX12_slotOf 18 = .ok (.aload_n 0, 1) := by decide +kernel
theorem dX12_slotOf_19 : decode cX12_slotOf 19 = .ok (.getfield 39, 3) := by decide +kernel
theorem dX12_slotOf_22 : decode cX12_slotOf 22 = .ok (.iload_n 3, 1) := by decide +kernel
theorem dX12_slotOf_23 : decode cX12_slotOf 23 = .ok (.aaload, 1) := by decide +kernel
theorem dX12_slotOf_24 : decode cX12_slotOf 24 = .ok (.iconst 0, 1) := by decide +kernel
theorem dX12_slotOf_25 : decode cX12_slotOf 25 = .ok (.iaload, 1) := by decide +kernel
theorem dX12_slotOf_26 : decode cX12_slotOf 26 = .ok (.ifCond .le 18, 3) := by decide +kernel
theorem dX12_slotOf_29 : decode cX12_slotOf 29 = .ok (.aload_n 0, 1) := by decide +kernel
theorem dX12_slotOf_30 : decode cX12_slotOf 30 = .ok (.getfield 35, 3) := by decide +kernel
theorem dX12_slotOf_33 : decode cX12_slotOf 33 = .ok (.iload_n 3, 1) := by decide +kernel
theorem dX12_slotOf_34 : decode cX12_slotOf 34 = .ok (.laload, 1) := by decide +kernel
theorem dX12_slotOf_35 : decode cX12_slotOf 35 = .ok (.lload_n 1, 1) := by decide +kernel
theorem dX12_slotOf_36 : decode cX12_slotOf 36 = .ok (.lcmp, 1) := by decide +kernel
theorem dX12_slotOf_37 : decode cX12_slotOf 37 = .ok (.ifCond .ne 7, 3) := by decide +kernel
theorem dX12_slotOf_40 : decode cX12_slotOf 40 = .ok (.iload_n 3, 1) := by decide +kernel
theorem dX12_slotOf_41 : decode cX12_slotOf 41 = .ok (.goto 4, 3) := by decide +kernel
theorem dX12_slotOf_44 : decode cX12_slotOf 44 = .ok (.iconst (-1), 1) := by decide +kernel
theorem dX12_slotOf_45 : decode cX12_slotOf 45 = .ok (.ireturn, 1) := by decide +kernel
theorem dX12_keep_0 : decode cX12_keep 0 = .ok (.aload_n 0, 1) := by decide +kernel
theorem dX12_keep_1 : decode cX12_keep 1 = .ok (.getfield 32, 3) := by decide +kernel
theorem dX12_keep_4 : decode cX12_keep 4 = .ok (.ifCond .ne 4, 3) := by decide +kernel
theorem dX12_keep_7 : decode cX12_keep 7 = .ok (.return_, 1) := by decide +kernel
theorem dX12_keep_8 : decode cX12_keep 8 = .ok (.aload_n 0, 1) := by decide +kernel
theorem dX12_keep_9 : decode cX12_keep 9 = .ok (.invokevirtual 157, 3) := by decide +kernel
theorem dX12_keep_12 : decode cX12_keep 12 = .ok (.aload_n 0, 1) := by decide +kernel
theorem dX12_keep_13 : decode cX12_keep 13 = .ok (.getfield 32, 3) := by decide +kernel
theorem dX12_keep_16 : decode cX12_keep 16 = .ok (.i2l, 1) := by decide +kernel
theorem dX12_keep_17 : decode cX12_keep 17 = .ok (.lrem, 1) := by decide +kernel
theorem dX12_keep_18 : decode cX12_keep 18 = .ok (.l2i, 1) := by decide +kernel
theorem dX12_keep_19 : decode cX12_keep 19 = .ok (.istore 5, 2) := by decide +kernel
theorem dX12_keep_21 : decode cX12_keep 21 = .ok (.aload_n 0, 1) := by decide +kernel
theorem dX12_keep_22 : decode cX12_keep 22 = .ok (.getfield 35, 3) := by decide +kernel
theorem dX12_keep_25 : decode cX12_keep 25 = .ok (.iload 5, 2) := by decide +kernel
theorem dX12_keep_27 : decode cX12_keep 27 = .ok (.aload_n 0, 1) := by decide +kernel
theorem dX12_keep_28 : decode cX12_keep 28 = .ok (.invokevirtual 157, 3) := by decide +kernel
theorem dX12_keep_31 : decode cX12_keep 31 = .ok (.lastore, 1) := by decide +kernel
theorem dX12_keep_32 : decode cX12_keep 32 = .ok (.aload_n 0, 1) := by decide +kernel
theorem dX12_keep_33 : decode cX12_keep 33 = .ok (.getfield 39, 3) := by decide +kernel
theorem dX12_keep_36 : decode cX12_keep 36 = .ok (.iload 5, 2) := by decide +kernel
theorem dX12_keep_38 : decode cX12_keep 38 = .ok (.aaload, 1) := by decide +kernel
theorem dX12_keep_39 : decode cX12_keep 39 = .ok (.iconst 0, 1) := by decide +kernel
theorem dX12_keep_40 : decode cX12_keep 40 = .ok (.iload_n 1, 1) := by decide +kernel
theorem dX12_keep_41 : decode cX12_keep 41 = .ok (.iastore, 1) := by decide +kernel
theorem dX12_keep_42 : decode cX12_keep 42 = .ok (.aload_n 0, 1) := by decide +kernel
theorem dX12_keep_43 : decode cX12_keep 43 = .ok (.getfield 39, 3) := by decide +kernel
theorem dX12_keep_46 : decode cX12_keep 46 = .ok (.iload 5, 2) := by decide +kernel
theorem dX12_keep_48 : decode cX12_keep 48 = .ok (.aaload, 1) := by decide +kernel
theorem dX12_keep_49 : decode cX12_keep 49 = .ok (.iconst 1, 1) := by decide +kernel
theorem dX12_keep_50 : decode cX12_keep 50 = .ok (.iload_n 2, 1) := by decide +kernel
theorem dX12_keep_51 : decode cX12_keep 51 = .ok (.iastore, 1) := by decide +kernel
theorem dX12_keep_52 : decode cX12_keep 52 = .ok (.aload_n 0, 1) := by decide +kernel
theorem dX12_keep_53 : decode cX12_keep 53 = .ok (.getfield 39, 3) := by decide +kernel
theorem dX12_keep_56 : decode cX12_keep 56 = .ok (.iload 5, 2) := by decide +kernel
theorem dX12_keep_58 : decode cX12_keep 58 = .ok (.aaload, 1) := by decide +kernel
theorem dX12_keep_59 : decode cX12_keep 59 = .ok (.iconst 2, 1) := by decide +kernel
theorem dX12_keep_60 : decode cX12_keep 60 = .ok (.iload_n 3, 1) := by decide +kernel
theorem dX12_keep_61 : decode cX12_keep 61 = .ok (.iastore, 1) := by decide +kernel
theorem dX12_keep_62 : decode cX12_keep 62 = .ok (.aload_n 0, 1) := by decide +kernel
theorem dX12_keep_63 : decode cX12_keep 63 = .ok (.getfield 39, 3) := by decide +kernel
theorem dX12_keep_66 : decode cX12_keep 66 = .ok (.iload 5, 2) := by decide +kernel
theorem dX12_keep_68 : decode cX12_keep 68 = .ok (.aaload, 1) := by decide +kernel
theorem dX12_keep_69 : decode cX12_keep 69 = .ok (.iconst 3, 1) := by decide +kernel
theorem dX12_keep_70 : decode cX12_keep 70 = .ok (.iload 4, 2) := by decide +kernel
theorem dX12_keep_72 : decode cX12_keep 72 = .ok (.iastore, 1) := by decide +kernel
theorem dX12_keep_73 : decode cX12_keep 73 = .ok (.return_, 1) := by decide +kernel
theorem dX12_order_0 : decode cX12_order 0 = .ok (.aload_n 0, 1) := by decide +kernel
theorem dX12_order_1 : decode cX12_order 1 = .ok (.iload_n 1, 1) := by decide +kernel
theorem dX12_order_2 : decode cX12_order 2 = .ok (.invokevirtual 123, 3) := by decide +kernel
theorem dX12_order_5 : decode cX12_order 5 = .ok (.istore 4, 2) := by decide +kernel
theorem dX12_order_7 : decode cX12_order 7 = .ok (.aload_n 0, 1) := by decide +kernel
theorem dX12_order_8 : decode cX12_order 8 = .ok (.iload_n 1, 1) := by decide +kernel
theorem dX12_order_9 : decode cX12_order 9 = .ok (.iload 4, 2) := by decide +kernel
theorem dX12_order_11 : decode cX12_order 11 = .ok (.iconst 0, 1) := by decide +kernel
theorem dX12_order_12 : decode cX12_order 12 = .ok (.iload_n 3, 1) := by decide +kernel
theorem dX12_order_13 : decode cX12_order 13 = .ok (.invokevirtual 161, 3) := by decide +kernel
theorem dX12_order_16 : decode cX12_order 16 = .ok (.istore 5, 2) := by decide +kernel
theorem dX12_order_18 : decode cX12_order 18 = .ok (.iconst 0, 1) := by decide +kernel
theorem dX12_order_19 : decode cX12_order 19 = .ok (.istore 6, 2) := by decide +kernel
theorem dX12_order_21 : decode cX12_order 21 = .ok (.iload 6, 2) := by decide +kernel
theorem dX12_order_23 : decode cX12_order 23 = .ok (.iload 4, 2) := by decide +kernel
theorem dX12_order_25 : decode cX12_order 25 = .ok (.if_icmp .ge 45, 3) := by decide +kernel
theorem dX12_order_28 : decode cX12_order 28 = .ok (.aload_n 0, 1) := by decide +kernel
theorem dX12_order_29 : decode cX12_order 29 = .ok (.aload_n 0, 1) := by decide +kernel
theorem dX12_order_30 : decode cX12_order 30 = .ok (.getfield 29, 3) := by decide +kernel
theorem dX12_order_33 : decode cX12_order 33 = .ok (.iload_n 1, 1) := by decide +kernel
theorem dX12_order_34 : decode cX12_order 34 = .ok (.aaload, 1) := by decide +kernel
theorem dX12_order_35 : decode cX12_order 35 = .ok (.iload 6, 2) := by decide +kernel
theorem dX12_order_37 : decode cX12_order 37 = .ok (.iaload, 1) := by decide +kernel
theorem dX12_order_38 : decode cX12_order 38 = .ok (.invokevirtual 126, 3) := by decide +kernel
theorem dX12_order_41 : decode cX12_order 41 = .ok (.ifCond .eq 23, 3) := by decide +kernel
theorem dX12_order_44 : decode cX12_order 44 = .ok (.aload_n 0, 1) := by decide +kernel
theorem dX12_order_45 : decode cX12_order 45 = .ok (.iload_n 1, 1) := by decide +kernel
theorem dX12_order_46 : decode cX12_order 46 = .ok (.iload 4, 2) := by decide +kernel
theorem dX12_order_48 : decode cX12_order 48 = .ok (.iload 5, 2) := by decide +kernel
theorem dX12_order_50 : decode cX12_order 50 = .ok (.aload_n 0, 1) := by decide +kernel
theorem dX12_order_51 : decode cX12_order 51 = .ok (.getfield 29, 3) := by decide +kernel
theorem dX12_order_54 : decode cX12_order 54 = .ok (.iload_n 1, 1) := by decide +kernel
theorem dX12_order_55 : decode cX12_order 55 = .ok (.aaload, 1) := by decide +kernel
theorem dX12_order_56 : decode cX12_order 56 = .ok (.iload 6, 2) := by decide +kernel
theorem dX12_order_58 : decode cX12_order 58 = .ok (.iaload, 1) := by decide +kernel
theorem dX12_order_59 : decode cX12_order 59 = .ok (.invokevirtual 161, 3) := by decide +kernel
theorem dX12_order_62 : decode cX12_order 62 = .ok (.istore 5, 2) := by decide +kernel
theorem dX12_order_64 : decode cX12_order 64 = .ok (.iinc 6 1, 3) := by decide +kernel
theorem dX12_order_67 : decode cX12_order 67 = .ok (.goto (-46), 3) := by decide +kernel
theorem dX12_order_70 : decode cX12_order 70 = .ok (.aload_n 0, 1) := by decide +kernel
theorem dX12_order_71 : decode cX12_order 71 = .ok (.iload_n 1, 1) := by decide +kernel
theorem dX12_order_72 : decode cX12_order 72 = .ok (.iload 4, 2) := by decide +kernel
theorem dX12_order_74 : decode cX12_order 74 = .ok (.iload 5, 2) := by decide +kernel
theorem dX12_order_76 : decode cX12_order 76 = .ok (.aload_n 0, 1) := by decide +kernel
theorem dX12_order_77 : decode cX12_order 77 = .ok (.getfield 45, 3) := by decide +kernel
theorem dX12_order_80 : decode cX12_order 80 = .ok (.iload_n 2, 1) := by decide +kernel
theorem dX12_order_81 : decode cX12_order 81 = .ok (.aaload, 1) := by decide +kernel
theorem dX12_order_82 : decode cX12_order 82 = .ok (.iconst 0, 1) := by decide +kernel
theorem dX12_order_83 : decode cX12_order 83 = .ok (.iaload, 1) := by decide +kernel
theorem dX12_order_84 : decode cX12_order 84 = .ok (.invokevirtual 161, 3) := by decide +kernel
theorem dX12_order_87 : decode cX12_order 87 = .ok (.istore 5, 2) := by decide +kernel
theorem dX12_order_89 : decode cX12_order 89 = .ok (.aload_n 0, 1) := by decide +kernel
theorem dX12_order_90 : decode cX12_order 90 = .ok (.iload_n 1, 1) := by decide +kernel
theorem dX12_order_91 : decode cX12_order 91 = .ok (.iload 4, 2) := by decide +kernel
theorem dX12_order_93 : decode cX12_order 93 = .ok (.iload 5, 2) := by decide +kernel
theorem dX12_order_95 : decode cX12_order 95 = .ok (.aload_n 0, 1) := by decide +kernel
theorem dX12_order_96 : decode cX12_order 96 = .ok (.getfield 45, 3) := by decide +kernel
theorem dX12_order_99 : decode cX12_order 99 = .ok (.iload_n 2, 1) := by decide +kernel
theorem dX12_order_100 : decode cX12_order 100 = .ok (.aaload, 1) := by decide +kernel
theorem dX12_order_101 : decode cX12_order 101 = .ok (.iconst 1, 1) := by decide +kernel
theorem dX12_order_102 : decode cX12_order 102 = .ok (.iaload, 1) := by decide +kernel
theorem dX12_order_103 : decode cX12_order 103 = .ok (.invokevirtual 161, 3) := by decide +kernel
theorem dX12_order_106 : decode cX12_order 106 = .ok (.istore 5, 2) := by decide +kernel
theorem dX12_order_108 : decode cX12_order 108 = .ok (.iconst 0, 1) := by decide +kernel
theorem dX12_order_109 : decode cX12_order 109 = .ok (.istore 6, 2) := by decide +kernel
theorem dX12_order_111 : decode cX12_order 111 = .ok (.iload 6, 2) := by decide +kernel
theorem dX12_order_113 : decode cX12_order 113 = .ok (.iload 4, 2) := by decide +kernel
theorem dX12_order_115 : decode cX12_order 115 = .ok (.if_icmp .ge 29, 3) := by decide +kernel
theorem dX12_order_118 : decode cX12_order 118 = .ok (.aload_n 0, 1) := by decide +kernel
theorem dX12_order_119 : decode cX12_order 119 = .ok (.iload_n 1, 1) := by decide +kernel
theorem dX12_order_120 : decode cX12_order 120 = .ok (.iload 4, 2) := by decide +kernel
theorem dX12_order_122 : decode cX12_order 122 = .ok (.iload 5, 2) := by decide +kernel
theorem dX12_order_124 : decode cX12_order 124 = .ok (.aload_n 0, 1) := by decide +kernel
theorem dX12_order_125 : decode cX12_order 125 = .ok (.getfield 29, 3) := by decide +kernel
theorem dX12_order_128 : decode cX12_order 128 = .ok (.iload_n 1, 1) := by decide +kernel
theorem dX12_order_129 : decode cX12_order 129 = .ok (.aaload, 1) := by decide +kernel
theorem dX12_order_130 : decode cX12_order 130 = .ok (.iload 6, 2) := by decide +kernel
theorem dX12_order_132 : decode cX12_order 132 = .ok (.iaload, 1) := by decide +kernel
theorem dX12_order_133 : decode cX12_order 133 = .ok (.invokevirtual 161, 3) := by decide +kernel
theorem dX12_order_136 : decode cX12_order 136 = .ok (.istore 5, 2) := by decide +kernel
theorem dX12_order_138 : decode cX12_order 138 = .ok (.iinc 6 1, 3) := by decide +kernel
theorem dX12_order_141 : decode cX12_order 141 = .ok (.goto (-30), 3) := by decide +kernel
theorem dX12_order_144 : decode cX12_order 144 = .ok (.iload 4, 2) := by decide +kernel
theorem dX12_order_146 : decode cX12_order 146 = .ok (.ireturn, 1) := by decide +kernel
theorem dX12_want_0 : decode cX12_want 0 = .ok (.aload_n 0, 1) := by decide +kernel
theorem dX12_want_1 : decode cX12_want 1 = .ok (.getfield 29, 3) := by decide +kernel
theorem dX12_want_4 : decode cX12_want 4 = .ok (.iload_n 1, 1) := by decide +kernel
theorem dX12_want_5 : decode cX12_want 5 = .ok (.aaload, 1) := by decide +kernel
theorem dX12_want_6 : decode cX12_want 6 = .ok (.iload_n 2, 1) := by decide +kernel
theorem dX12_want_7 : decode cX12_want 7 = .ok (.iload 4, 2) := by decide +kernel
theorem dX12_want_9 : decode cX12_want 9 = .ok (.invokestatic 165, 3) := by decide +kernel
theorem dX12_want_12 : decode cX12_want 12 = .ok (.ifCond .eq 18, 3) := by decide +kernel
theorem dX12_want_15 : decode cX12_want 15 = .ok (.aload_n 0, 1) := by decide +kernel
theorem dX12_want_16 : decode cX12_want 16 = .ok (.getfield 42, 3) := by decide +kernel
theorem dX12_want_19 : decode cX12_want 19 = .ok (.iload_n 1, 1) := by decide +kernel
theorem dX12_want_20 : decode cX12_want 20 = .ok (.aaload, 1) := by decide +kernel
theorem dX12_want_21 : decode cX12_want 21 = .ok (.iload_n 3, 1) := by decide +kernel
theorem dX12_want_22 : decode cX12_want 22 = .ok (.iload 4, 2) := by decide +kernel
theorem dX12_want_24 : decode cX12_want 24 = .ok (.invokestatic 165, 3) := by decide +kernel
theorem dX12_want_27 : decode cX12_want 27 = .ok (.ifCond .eq 5, 3) := by decide +kernel
theorem dX12_want_30 : decode cX12_want 30 = .ok (.iload_n 3, 1) := by decide +kernel
theorem dX12_want_31 : decode cX12_want 31 = .ok (.ireturn, 1) := by decide +kernel
theorem dX12_want_32 : decode cX12_want 32 = .ok (.aload_n 0, 1) := by decide +kernel
theorem dX12_want_33 : decode cX12_want 33 = .ok (.getfield 42, 3) := by decide +kernel
theorem dX12_want_36 : decode cX12_want 36 = .ok (.iload_n 1, 1) := by decide +kernel
theorem dX12_want_37 : decode cX12_want 37 = .ok (.aaload, 1) := by decide +kernel
theorem dX12_want_38 : decode cX12_want 38 = .ok (.iload_n 3, 1) := by decide +kernel
theorem dX12_want_39 : decode cX12_want 39 = .ok (.iload 4, 2) := by decide +kernel
theorem dX12_want_41 : decode cX12_want 41 = .ok (.iastore, 1) := by decide +kernel
theorem dX12_want_42 : decode cX12_want 42 = .ok (.iload_n 3, 1) := by decide +kernel
theorem dX12_want_43 : decode cX12_want 43 = .ok (.iconst 1, 1) := by decide +kernel
theorem dX12_want_44 : decode cX12_want 44 = .ok (.iadd, 1) := by decide +kernel
theorem dX12_want_45 : decode cX12_want 45 = .ok (.ireturn, 1) := by decide +kernel
theorem dX12_has_0 : decode cX12_has 0 = .ok (.iconst 0, 1) := by decide +kernel
theorem dX12_has_1 : decode cX12_has 1 = .ok (.istore_n 3, 1) := by decide +kernel
theorem dX12_has_2 : decode cX12_has 2 = .ok (.iload_n 3, 1) := by decide +kernel
theorem dX12_has_3 : decode cX12_has 3 = .ok (.iload_n 1, 1) := by decide +kernel
theorem dX12_has_4 : decode cX12_has 4 = .ok (.if_icmp .ge 16, 3) := by decide +kernel
theorem dX12_has_7 : decode cX12_has 7 = .ok (.aload_n 0, 1) := by decide +kernel
theorem dX12_has_8 : decode cX12_has 8 = .ok (.iload_n 3, 1) := by decide +kernel
theorem dX12_has_9 : decode cX12_has 9 = .ok (.iaload, 1) := by decide +kernel
theorem dX12_has_10 : decode cX12_has 10 = .ok (.iload_n 2, 1) := by decide +kernel
theorem dX12_has_11 : decode cX12_has 11 = .ok (.if_icmp .eq 9, 3) := by decide +kernel
theorem dX12_has_14 : decode cX12_has 14 = .ok (.iinc 3 1, 3) := by decide +kernel
theorem dX12_has_17 : decode cX12_has 17 = .ok (.goto (-15), 3) := by decide +kernel
theorem dX12_has_20 : decode cX12_has 20 = .ok (.iload_n 3, 1) := by decide +kernel
theorem dX12_has_21 : decode cX12_has 21 = .ok (.iload_n 1, 1) := by decide +kernel
theorem dX12_has_22 : decode cX12_has 22 = .ok (.if_icmp .ge 7, 3) := by decide +kernel
theorem dX12_has_25 : decode cX12_has 25 = .ok (.iconst 1, 1) := by decide +kernel
theorem dX12_has_26 : decode cX12_has 26 = .ok (.goto 4, 3) := by decide +kernel
theorem dX12_has_29 : decode cX12_has 29 = .ok (.iconst 0, 1) := by decide +kernel
theorem dX12_has_30 : decode cX12_has 30 = .ok (.ireturn, 1) := by decide +kernel
