theorem dX12_pawns_0 : decode cX12_pawns 0 = .ok (.iconst 0, 1) := by decide +kernel
theorem dX12_pawns_1 : decode cX12_pawns 1 = .ok (.istore_n 2, 1) := by decide +kernel
theorem dX12_pawns_2 : decode cX12_pawns 2 = .ok (.iconst 0, 1) := by decide +kernel
theorem dX12_pawns_3 : decode cX12_pawns 3 = .ok (.istore_n 3, 1) := by decide +kernel
theorem dX12_pawns_4 : decode cX12_pawns 4 = .ok (.iload_n 3, 1) := by decide +kernel
theorem dX12_pawns_5 : decode cX12_pawns 5 = .ok (.aload_n 0, 1) := by decide +kernel
theorem dX12_pawns_6 : decode cX12_pawns 6 = .ok (.getfield 67, 3) := by decide +kernel
theorem dX12_pawns_9 : decode cX12_pawns 9 = .ok (.aload_n 0, 1) := by decide +kernel
theorem dX12_pawns_10 : decode cX12_pawns 10 = .ok (.getfield 70, 3) := by decide +kernel
theorem dX12_pawns_13 : decode cX12_pawns 13 = .ok (.imul, 1) := by decide +kernel
theorem dX12_pawns_14 : decode cX12_pawns 14 = .ok (.if_icmp .ge 27, 3) := by decide +kernel
theorem dX12_pawns_17 : decode cX12_pawns 17 = .ok (.iload_n 2, 1) := by decide +kernel
theorem dX12_pawns_18 : decode cX12_pawns 18 = .ok (.aload_n 0, 1) := by decide +kernel
theorem dX12_pawns_19 : decode cX12_pawns 19 = .ok (.getfield 73, 3) := by decide +kernel
theorem dX12_pawns_22 : decode cX12_pawns 22 = .ok (.iload_n 3, 1) := by decide +kernel
theorem dX12_pawns_23 : decode cX12_pawns 23 = .ok (.iaload, 1) := by decide +kernel
theorem dX12_pawns_24 : decode cX12_pawns 24 = .ok (.iload_n 1, 1) := by decide +kernel
theorem dX12_pawns_25 : decode cX12_pawns 25 = .ok (.if_icmp .ne 7, 3) := by decide +kernel
theorem dX12_pawns_28 : decode cX12_pawns 28 = .ok (.iconst 1, 1) := by decide +kernel
theorem dX12_pawns_29 : decode cX12_pawns 29 = .ok (.goto 4, 3) := by decide +kernel
theorem dX12_pawns_32 : decode cX12_pawns 32 = .ok (.iconst 0, 1) := by decide +kernel
theorem dX12_pawns_33 : decode cX12_pawns 33 = .ok (.iadd, 1) := by decide +kernel
theorem dX12_pawns_34 : decode cX12_pawns 34 = .ok (.istore_n 2, 1) := by decide +kernel
theorem dX12_pawns_35 : decode cX12_pawns 35 = .ok (.iinc 3 1, 3) := by decide +kernel
theorem dX12_pawns_38 : decode cX12_pawns 38 = .ok (.goto (-34), 3) := by decide +kernel
theorem dX12_pawns_41 : decode cX12_pawns 41 = .ok (.iload_n 2, 1) := by decide +kernel
theorem dX12_pawns_42 : decode cX12_pawns 42 = .ok (.ireturn, 1) := by decide +kernel
theorem dX12_isField_0 : decode cX12_isField 0 = .ok (.iload_n 1, 1) := by decide +kernel
theorem dX12_isField_1 : decode cX12_isField 1 = .ok (.iconst 0, 1) := by decide +kernel
theorem dX12_isField_2 : decode cX12_isField 2 = .ok (.aload_n 0, 1) := by decide +kernel
theorem dX12_isField_3 : decode cX12_isField 3 = .ok (.getfield 67, 3) := by decide +kernel
theorem dX12_isField_6 : decode cX12_isField 6 = .ok (.aload_n 0, 1) := by decide +kernel
theorem dX12_isField_7 : decode cX12_isField 7 = .ok (.getfield 70, 3) := by decide +kernel
theorem dX12_isField_10 : decode cX12_isField 10 = .ok (.imul, 1) := by decide +kernel
theorem dX12_isField_11 : decode cX12_isField 11 = .ok (.iconst 1, 1) := by decide +kernel
theorem dX12_isField_12 : decode cX12_isField 12 = .ok (.isub, 1) := by decide +kernel
theorem dX12_isField_13 : decode cX12_isField 13 = .ok (.invokestatic 83, 3) := by decide +kernel
theorem dX12_isField_16 : decode cX12_isField 16 = .ok (.ireturn, 1) := by decide +kernel
theorem dX12_put_0 : decode cX12_put 0 = .ok (.aload_n 0, 1) := by decide +kernel
theorem dX12_put_1 : decode cX12_put 1 = .ok (.iconst 0, 1) := by decide +kernel
theorem dX12_put_2 : decode cX12_put 2 = .ok (.putfield 64, 3) := by decide +kernel
theorem dX12_put_5 : decode cX12_put 5 = .ok (.aload_n 0, 1) := by decide +kernel
theorem dX12_put_6 : decode cX12_put 6 = .ok (.iload_n 1, 1) := by decide +kernel
theorem dX12_put_7 : decode cX12_put 7 = .ok (.invokevirtual 220, 3) := by decide +kernel
theorem dX12_put_10 : decode cX12_put 10 = .ok (.ifCond .ne 9, 3) := by decide +kernel
theorem dX12_put_13 : decode cX12_put 13 = .ok (.aload_n 0, 1) := by decide +kernel
theorem dX12_put_14 : decode cX12_put 14 = .ok (.iconst 1, 1) := by decide +kernel
theorem dX12_put_15 : decode cX12_put 15 = .ok (.invokevirtual 217, 3) := by decide +kernel
theorem dX12_put_18 : decode cX12_put 18 = .ok (.ireturn, 1) := by decide +kernel
theorem dX12_put_19 : decode cX12_put 19 = .ok (.iload_n 2, 1) := by decide +kernel
theorem dX12_put_20 : decode cX12_put 20 = .ok (.iconst 0, 1) := by decide +kernel
theorem dX12_put_21 : decode cX12_put 21 = .ok (.iconst 2, 1) := by decide +kernel
theorem dX12_put_22 : decode cX12_put 22 = .ok (.invokestatic 83, 3) := by decide +kernel
theorem dX12_put_25 : decode cX12_put 25 = .ok (.ifCond .ne 9, 3) := by decide +kernel
theorem dX12_put_28 : decode cX12_put 28 = .ok (.aload_n 0, 1) := by decide +kernel
theorem dX12_put_29 : decode cX12_put 29 = .ok (.iconst 2, 1) := by decide +kernel
theorem dX12_put_30 : decode cX12_put 30 = .ok (.invokevirtual 217, 3) := by decide +kernel
theorem dX12_put_33 : decode cX12_put 33 = .ok (.ireturn, 1) := by decide +kernel
theorem dX12_put_34 : decode cX12_put 34 = .ok (.aload_n 0, 1) := by decide +kernel
theorem dX12_put_35 : decode cX12_put 35 = .ok (.getfield 73, 3) := by decide +kernel
theorem dX12_put_38 : decode cX12_put 38 = .ok (.iload_n 1, 1) := by decide +kernel
theorem dX12_put_39 : decode cX12_put 39 = .ok (.iaload, 1) := by decide +kernel
theorem dX12_put_40 : decode cX12_put 40 = .ok (.istore_n 3, 1) := by decide +kernel
theorem dX12_put_41 : decode cX12_put 41 = .ok (.iload_n 2, 1) := by decide +kernel
theorem dX12_put_42 : decode cX12_put 42 = .ok (.ifCond .eq 24, 3) := by decide +kernel
theorem dX12_put_45 : decode cX12_put 45 = .ok (.iload_n 3, 1) := by decide +kernel
theorem dX12_put_46 : decode cX12_put 46 = .ok (.iload_n 2, 1) := by decide +kernel
theorem dX12_put_47 : decode cX12_put 47 = .ok (.if_icmp .eq 19, 3) := by decide +kernel
theorem dX12_put_50 : decode cX12_put 50 = .ok (.aload_n 0, 1) := by decide +kernel
theorem dX12_put_51 : decode cX12_put 51 = .ok (.iload_n 2, 1) := by decide +kernel
theorem dX12_put_52 : decode cX12_put 52 = .ok (.invokevirtual 223, 3) := by decide +kernel
theorem dX12_put_55 : decode cX12_put 55 = .ok (.bipush 6, 2) := by decide +kernel
theorem dX12_put_57 : decode cX12_put 57 = .ok (.if_icmp .ne 9, 3) := by decide +kernel
theorem dX12_put_60 : decode cX12_put 60 = .ok (.aload_n 0, 1) := by decide +kernel
theorem dX12_put_61 : decode cX12_put 61 = .ok (.iconst 3, 1) := by decide +kernel
theorem dX12_put_62 : decode cX12_put 62 = .ok (.invokevirtual 217, 3) := by decide +kernel
theorem dX12_put_65 : decode cX12_put 65 = .ok (.ireturn, 1) := by decide +kernel
theorem dX12_put_66 : decode cX12_put 66 = .ok (.aload_n 0, 1) := by decide +kernel
theorem dX12_put_67 : decode cX12_put 67 = .ok (.getfield 73, 3) := by decide +kernel
theorem dX12_put_70 : decode cX12_put 70 = .ok (.iload_n 1, 1) := by decide +kernel
theorem dX12_put_71 : decode cX12_put 71 = .ok (.iload_n 2, 1) := by decide +kernel
theorem dX12_put_72 : decode cX12_put 72 = .ok (.iastore, 1) := by decide +kernel
theorem dX12_put_73 : decode cX12_put 73 = .ok (.aload_n 0, 1) := by decide +kernel
theorem dX12_put_74 : decode cX12_put 74 = .ok (.iconst 0, 1) := by decide +kernel
theorem dX12_put_75 : decode cX12_put 75 = .ok (.putfield 76, 3) := by decide +kernel
theorem dX12_put_78 : decode cX12_put 78 = .ok (.iload_n 3, 1) := by decide +kernel
theorem dX12_put_79 : decode cX12_put 79 = .ok (.ireturn, 1) := by decide +kernel
theorem dX12_setSide_0 : decode cX12_setSide 0 = .ok (.aload_n 0, 1) := by decide +kernel
theorem dX12_setSide_1 : decode cX12_setSide 1 = .ok (.iconst 0, 1) := by decide +kernel
theorem dX12_setSide_2 : decode cX12_setSide 2 = .ok (.putfield 64, 3) := by decide +kernel
theorem dX12_setSide_5 : decode cX12_setSide 5 = .ok (.iload_n 1, 1) := by decide +kernel
theorem dX12_setSide_6 : decode cX12_setSide 6 = .ok (.iconst 0, 1) := by decide +kernel
theorem dX12_setSide_7 : decode cX12_setSide 7 = .ok (.iconst 1, 1) := by decide +kernel
theorem dX12_setSide_8 : decode cX12_setSide 8 = .ok (.invokestatic 83, 3) := by decide +kernel
theorem dX12_setSide_11 : decode cX12_setSide 11 = .ok (.ifCond .ne 9, 3) := by decide +kernel
theorem dX12_setSide_14 : decode cX12_setSide 14 = .ok (.aload_n 0, 1) := by decide +kernel
theorem dX12_setSide_15 : decode cX12_setSide 15 = .ok (.iconst 1, 1) := by decide +kernel
theorem dX12_setSide_16 : decode cX12_setSide 16 = .ok (.invokevirtual 217, 3) := by decide +kernel
theorem dX12_setSide_19 : decode cX12_setSide 19 = .ok (.ireturn, 1) := by decide +kernel
theorem dX12_setSide_20 : decode cX12_setSide 20 = .ok (.aload_n 0, 1) := by decide +kernel
theorem dX12_setSide_21 : decode cX12_setSide 21 = .ok (.invokevirtual 94, 3) := by decide +kernel
theorem dX12_setSide_24 : decode cX12_setSide 24 = .ok (.istore_n 2, 1) := by decide +kernel
theorem dX12_setSide_25 : decode cX12_setSide 25 = .ok (.aload_n 0, 1) := by decide +kernel
theorem dX12_setSide_26 : decode cX12_setSide 26 = .ok (.getfield 73, 3) := by decide +kernel
theorem dX12_setSide_29 : decode cX12_setSide 29 = .ok (.aload_n 0, 1) := by decide +kernel
theorem dX12_setSide_30 : decode cX12_setSide 30 = .ok (.getfield 73, 3) := by decide +kernel
theorem dX12_setSide_33 : decode cX12_setSide 33 = .ok (.arraylength, 1) := by decide +kernel
theorem dX12_setSide_34 : decode cX12_setSide 34 = .ok (.iconst 1, 1) := by decide +kernel
theorem dX12_setSide_35 : decode cX12_setSide 35 = .ok (.isub, 1) := by decide +kernel
theorem dX12_setSide_36 : decode cX12_setSide 36 = .ok (.iload_n 1, 1) := by decide +kernel
theorem dX12_setSide_37 : decode cX12_setSide 37 = .ok (.iastore, 1) := by decide +kernel
theorem dX12_setSide_38 : decode cX12_setSide 38 = .ok (.aload_n 0, 1) := by decide +kernel
theorem dX12_setSide_39 : decode cX12_setSide 39 = .ok (.iconst 0, 1) := by decide +kernel
theorem dX12_setSide_40 : decode cX12_setSide 40 = .ok (.putfield 76, 3) := by decide +kernel
theorem dX12_setSide_43 : decode cX12_setSide 43 = .ok (.iload_n 2, 1) := by decide +kernel
theorem dX12_setSide_44 : decode cX12_setSide 44 = .ok (.ireturn, 1) := by decide +kernel
theorem dX12_isMove_0 : decode cX12_isMove 0 = .ok (.iload_n 1, 1) := by decide +kernel
theorem dX12_isMove_1 : decode cX12_isMove 1 = .ok (.iconst 0, 1) := by decide +kernel
theorem dX12_isMove_2 : decode cX12_isMove 2 = .ok (.aload_n 0, 1) := by decide +kernel
theorem dX12_isMove_3 : decode cX12_isMove 3 = .ok (.iconst 0, 1) := by decide +kernel
theorem dX12_isMove_4 : decode cX12_isMove 4 = .ok (.invokevirtual 123, 3) := by decide +kernel
theorem dX12_isMove_7 : decode cX12_isMove 7 = .ok (.iconst 1, 1) := by decide +kernel
theorem dX12_isMove_8 : decode cX12_isMove 8 = .ok (.isub, 1) := by decide +kernel
theorem dX12_isMove_9 : decode cX12_isMove 9 = .ok (.invokestatic 83, 3) := by decide +kernel
theorem dX12_isMove_12 : decode cX12_isMove 12 = .ok (.ireturn, 1) := by decide +kernel
theorem dX12_playNow_0 : decode cX12_playNow 0 = .ok (.aload_n 0, 1) := by decide +kernel
theorem dX12_playNow_1 : decode cX12_playNow 1 = .ok (.getfield 76, 3) := by decide +kernel
theorem dX12_playNow_4 : decode cX12_playNow 4 = .ok (.bipush 40, 2) := by decide +kernel
theorem dX12_playNow_6 : decode cX12_playNow 6 = .ok (.if_icmp .ne 28, 3) := by decide +kernel
theorem dX12_playNow_9 : decode cX12_playNow 9 = .ok (.aload_n 0, 1) := by decide +kernel
theorem dX12_playNow_10 : decode cX12_playNow 10 = .ok (.getfield 9, 3) := by decide +kernel
theorem dX12_playNow_13 : decode cX12_playNow 13 = .ok (.iconst 2, 1) := by decide +kernel
theorem dX12_playNow_14 : decode cX12_playNow 14 = .ok (.aload_n 0, 1) := by decide +kernel
theorem dX12_playNow_15 : decode cX12_playNow 15 = .ok (.getfield 9, 3) := by decide +kernel
theorem dX12_playNow_18 : decode cX12_playNow 18 = .ok (.iconst 0, 1) := by decide +kernel
theorem dX12_playNow_19 : decode cX12_playNow 19 = .ok (.bipush 78, 2) := by decide +kernel
theorem dX12_playNow_21 : decode cX12_playNow 21 = .ok (.invokestatic 226, 3) := by decide +kernel
theorem dX12_playNow_24 : decode cX12_playNow 24 = .ok (.aload_n 0, 1) := by decide +kernel
theorem dX12_playNow_25 : decode cX12_playNow 25 = .ok (.dup, 1) := by decide +kernel
theorem dX12_playNow_26 : decode cX12_playNow 26 = .ok (.getfield 76, 3) := by decide +kernel
theorem dX12_playNow_29 : decode cX12_playNow 29 = .ok (.iconst 1, 1) := by decide +kernel
theorem dX12_playNow_30 : decode cX12_playNow 30 = .ok (.isub, 1) := by decide +kernel
theorem dX12_playNow_31 : decode cX12_playNow 31 = .ok (.putfield 76, 3) := by decide +kernel
theorem dX12_playNow_34 : decode cX12_playNow 34 = .ok (.aload_n 0, 1) := by decide +kernel
theorem dX12_playNow_35 : decode cX12_playNow 35 = .ok (.iload_n 1, 1) := by decide +kernel
theorem dX12_playNow_36 : decode cX12_playNow 36 = .ok (.invokevirtual 130, 3) := by decide +kernel
theorem dX12_playNow_39 : decode cX12_playNow 39 = .ok (.istore_n 2, 1) := by decide +kernel
theorem dX12_playNow_40 : decode cX12_playNow 40 = .ok (.aload_n 0, 1) := by decide +kernel
theorem dX12_playNow_41 : decode cX12_playNow 41 = .ok (.getfield 9, 3) := by decide +kernel
theorem dX12_playNow_44 : decode cX12_playNow 44 = .ok (.iconst 2, 1) := by decide +kernel
theorem dX12_playNow_45 : decode cX12_playNow 45 = .ok (.aload_n 0, 1) := by decide +kernel
theorem dX12_playNow_46 : decode cX12_playNow 46 = .ok (.getfield 76, 3) := by decide +kernel
theorem dX12_playNow_49 : decode cX12_playNow 49 = .ok (.imul, 1) := by decide +kernel
theorem dX12_playNow_50 : decode cX12_playNow 50 = .ok (.iload_n 1, 1) := by decide +kernel
theorem dX12_playNow_51 : decode cX12_playNow 51 = .ok (.iastore, 1) := by decide +kernel
theorem dX12_playNow_52 : decode cX12_playNow 52 = .ok (.aload_n 0, 1) := by decide +kernel
theorem dX12_playNow_53 : decode cX12_playNow 53 = .ok (.getfield 9, 3) := by decide +kernel
theorem dX12_playNow_56 : decode cX12_playNow 56 = .ok (.iconst 2, 1) := by decide +kernel
theorem dX12_playNow_57 : decode cX12_playNow 57 = .ok (.aload_n 0, 1) := by decide +kernel
theorem dX12_playNow_58 : decode cX12_playNow 58 = .ok (.getfield 76, 3) := by decide +kernel
theorem dX12_playNow_61 : decode cX12_playNow 61 = .ok (.imul, 1) := by decide +kernel
theorem dX12_playNow_62 : decode cX12_playNow 62 = .ok (.iconst 1, 1) := by decide +kernel
theorem dX12_playNow_63 : decode cX12_playNow 63 = .ok (.iadd, 1) := by decide +kernel
theorem dX12_playNow_64 : decode cX12_playNow 64 = .ok (.iload_n 2, 1) := by decide +kernel
theorem dX12_playNow_65 : decode cX12_playNow 65 = .ok (.iastore, 1) := by decide +kernel
theorem dX12_playNow_66 : decode cX12_playNow 66 = .ok (.aload_n 0, 1) := by decide +kernel
theorem dX12_playNow_67 : decode cX12_playNow 67 = .ok (.dup, 1) := by decide +kernel
theorem dX12_playNow_68 : decode cX12_playNow 68 = .ok (.getfield 76, 3) := by decide +kernel
theorem dX12_playNow_71 : decode cX12_playNow 71 = .ok (.iconst 1, 1) := by decide +kernel
theorem dX12_playNow_72 : decode cX12_playNow 72 = .ok (.iadd, 1) := by decide +kernel
theorem dX12_playNow_73 : decode cX12_playNow 73 = .ok (.putfield 76, 3) := by decide +kernel
theorem dX12_playNow_76 : decode cX12_playNow 76 = .ok (.iload_n 2, 1) := by decide +kernel
theorem dX12_playNow_77 : decode cX12_playNow 77 = .ok (.ireturn, 1) := by decide +kernel
theorem dX12_play_0 : decode cX12_play 0 = .ok (.aload_n 0, 1) := by decide +kernel
theorem dX12_play_1 : decode cX12_play 1 = .ok (.iconst 0, 1) := by decide +kernel
theorem dX12_play_2 : decode cX12_play 2 = .ok (.putfield 64, 3) := by decide +kernel
theorem dX12_play_5 : decode cX12_play 5 = .ok (.aload_n 0, 1) := by decide +kernel
theorem dX12_play_6 : decode cX12_play 6 = .ok (.iload_n 1, 1) := by decide +kernel
theorem dX12_play_7 : decode cX12_play 7 = .ok (.invokevirtual 232, 3) := by decide +kernel
theorem dX12_play_10 : decode cX12_play 10 = .ok (.ifCond .eq 18, 3) := by decide +kernel
theorem dX12_play_13 : decode cX12_play 13 = .ok (.aload_n 0, 1) := by decide +kernel
theorem dX12_play_14 : decode cX12_play 14 = .ok (.aload_n 0, 1) := by decide +kernel
theorem dX12_play_15 : decode cX12_play 15 = .ok (.getfield 29, 3) := by decide +kernel
theorem dX12_play_18 : decode cX12_play 18 = .ok (.iconst 0, 1) := by decide +kernel
theorem dX12_play_19 : decode cX12_play 19 = .ok (.aaload, 1) := by decide +kernel
theorem dX12_play_20 : decode cX12_play 20 = .ok (.iload_n 1, 1) := by decide +kernel
theorem dX12_play_21 : decode cX12_play 21 = .ok (.iaload, 1) := by decide +kernel
theorem dX12_play_22 : decode cX12_play 22 = .ok (.invokevirtual 235, 3) := by decide +kernel
theorem dX12_play_25 : decode cX12_play 25 = .ok (.goto 8, 3) := by decide +kernel
theorem dX12_play_28 : decode cX12_play 28 = .ok (.aload_n 0, 1) := by decide +kernel
theorem dX12_play_29 : decode cX12_play 29 = .ok (.iconst 1, 1) := by decide +kernel
theorem dX12_play_30 : decode cX12_play 30 = .ok (.invokevirtual 217, 3) := by decide +kernel
theorem dX12_play_33 : decode cX12_play 33 = .ok (.ireturn, 1) := by decide +kernel
theorem dX12_back_0 : decode cX12_back 0 = .ok (.aload_n 0, 1) := by decide +kernel
theorem dX12_back_1 : decode cX12_back 1 = .ok (.iconst 0, 1) := by decide +kernel
theorem dX12_back_2 : decode cX12_back 2 = .ok (.putfield 64, 3) := by decide +kernel
theorem dX12_back_5 : decode cX12_back 5 = .ok (.aload_n 0, 1) := by decide +kernel
theorem dX12_back_6 : decode cX12_back 6 = .ok (.getfield 76, 3) := by decide +kernel
theorem dX12_back_9 : decode cX12_back 9 = .ok (.ifCond .ne 9, 3) := by decide +kernel
theorem dX12_back_12 : decode cX12_back 12 = .ok (.aload_n 0, 1) := by decide +kernel
theorem dX12_back_13 : decode cX12_back 13 = .ok (.iconst 1, 1) := by decide +kernel
theorem dX12_back_14 : decode cX12_back 14 = .ok (.invokevirtual 217, 3) := by decide +kernel
theorem dX12_back_17 : decode cX12_back 17 = .ok (.ireturn, 1) := by decide +kernel
theorem dX12_back_18 : decode cX12_back 18 = .ok (.aload_n 0, 1) := by decide +kernel
theorem dX12_back_19 : decode cX12_back 19 = .ok (.dup, 1) := by decide +kernel
theorem dX12_back_20 : decode cX12_back 20 = .ok (.getfield 76, 3) := by decide +kernel
theorem dX12_back_23 : decode cX12_back 23 = .ok (.iconst 1, 1) := by decide +kernel
theorem dX12_back_24 : decode cX12_back 24 = .ok (.isub, 1) := by decide +kernel
theorem dX12_back_25 : decode cX12_back 25 = .ok (.putfield 76, 3) := by decide +kernel
theorem dX12_back_28 : decode cX12_back 28 = .ok (.aload_n 0, 1) := by decide +kernel
theorem dX12_back_29 : decode cX12_back 29 = .ok (.aload_n 0, 1) := by decide +kernel
theorem dX12_back_30 : decode cX12_back 30 = .ok (.getfield 9, 3) := by decide +kernel
theorem dX12_back_33 : decode cX12_back 33 = .ok (.iconst 2, 1) := by decide +kernel
theorem dX12_back_34 : decode cX12_back 34 = .ok (.aload_n 0, 1) := by decide +kernel
theorem dX12_back_35 : decode cX12_back 35 = .ok (.getfield 76, 3) := by decide +kernel
theorem dX12_back_38 : decode cX12_back 38 = .ok (.imul, 1) := by decide +kernel
theorem dX12_back_39 : decode cX12_back 39 = .ok (.iaload, 1) := by decide +kernel
theorem dX12_back_40 : decode cX12_back 40 = .ok (.aload_n 0, 1) := by decide +kernel
theorem dX12_back_41 : decode cX12_back 41 = .ok (.getfield 9, 3) := by decide +kernel
theorem dX12_back_44 : decode cX12_back 44 = .ok (.iconst 2, 1) := by decide +kernel
theorem dX12_back_45 : decode cX12_back 45 = .ok (.aload_n 0, 1) := by decide +kernel
theorem dX12_back_46 : decode cX12_back 46 = .ok (.getfield 76, 3) := by decide +kernel
theorem dX12_back_49 : decode cX12_back 49 = .ok (.imul, 1) := by decide +kernel
theorem dX12_back_50 : decode cX12_back 50 = .ok (.iconst 1, 1) := by decide +kernel
theorem dX12_back_51 : decode cX12_back 51 = .ok (.iadd, 1) := by decide +kernel
theorem dX12_back_52 : decode cX12_back 52 = .ok (.iaload, 1) := by decide +kernel
theorem dX12_back_53 : decode cX12_back 53 = .ok (.invokevirtual 140, 3) := by decide +kernel
theorem dX12_back_56 : decode cX12_back 56 = .ok (.aload_n 0, 1) := by decide +kernel
theorem dX12_back_57 : decode cX12_back 57 = .ok (.getfield 76, 3) := by decide +kernel
theorem dX12_back_60 : decode cX12_back 60 = .ok (.ireturn, 1) := by decide +kernel
theorem dX12_weigh_0 : decode cX12_weigh 0 = .ok (.aload_n 0, 1) := by decide +kernel
theorem dX12_weigh_1 : decode cX12_weigh 1 = .ok (.iconst 0, 1) := by decide +kernel
theorem dX12_weigh_2 : decode cX12_weigh 2 = .ok (.putfield 64, 3) := by decide +kernel
theorem dX12_weigh_5 : decode cX12_weigh 5 = .ok (.iload_n 1, 1) := by decide +kernel
theorem dX12_weigh_6 : decode cX12_weigh 6 = .ok (.iconst 0, 1) := by decide +kernel
theorem dX12_weigh_7 : decode cX12_weigh 7 = .ok (.bipush 50, 2) := by decide +kernel
theorem dX12_weigh_9 : decode cX12_weigh 9 = .ok (.invokestatic 83, 3) := by decide +kernel
theorem dX12_weigh_12 : decode cX12_weigh 12 = .ok (.ifCond .eq 23, 3) := by decide +kernel
theorem dX12_weigh_15 : decode cX12_weigh 15 = .ok (.iload_n 2, 1) := by decide +kernel
theorem dX12_weigh_16 : decode cX12_weigh 16 = .ok (.iconst 0, 1) := by decide +kernel
theorem dX12_weigh_17 : decode cX12_weigh 17 = .ok (.bipush 20, 2) := by decide +kernel
theorem dX12_weigh_19 : decode cX12_weigh 19 = .ok (.invokestatic 83, 3) := by decide +kernel
theorem dX12_weigh_22 : decode cX12_weigh 22 = .ok (.ifCond .eq 13, 3) := by decide +kernel
theorem dX12_weigh_25 : decode cX12_weigh 25 = .ok (.iload_n 3, 1) := by decide +kernel
theorem dX12_weigh_26 : decode cX12_weigh 26 = .ok (.iconst 0, 1) := by decide +kernel
theorem dX12_weigh_27 : decode cX12_weigh 27 = .ok (.bipush 10, 2) := by decide +kernel
theorem dX12_weigh_29 : decode cX12_weigh 29 = .ok (.invokestatic 83, 3) := by decide +kernel
theorem dX12_weigh_32 : decode cX12_weigh 32 = .ok (.ifCond .ne 9, 3) := by decide +kernel
theorem dX12_weigh_35 : decode cX12_weigh 35 = .ok (.aload_n 0, 1) := by decide +kernel
theorem dX12_weigh_36 : decode cX12_weigh 36 = .ok (.iconst 1, 1) := by decide +kernel
theorem dX12_weigh_37 : decode cX12_weigh 37 = .ok (.invokevirtual 217, 3) := by decide +kernel
theorem dX12_weigh_40 : decode cX12_weigh 40 = .ok (.ireturn, 1) := by decide +kernel
theorem dX12_weigh_41 : decode cX12_weigh 41 = .ok (.aload_n 0, 1) := by decide +kernel
theorem dX12_weigh_42 : decode cX12_weigh 42 = .ok (.iload_n 1, 1) := by decide +kernel
theorem dX12_weigh_43 : decode cX12_weigh 43 = .ok (.putfield 13, 3) := by decide +kernel
theorem dX12_weigh_46 : decode cX12_weigh 46 = .ok (.aload_n 0, 1) := by decide +kernel
theorem dX12_weigh_47 : decode cX12_weigh 47 = .ok (.iload_n 2, 1) := by decide +kernel
theorem dX12_weigh_48 : decode cX12_weigh 48 = .ok (.putfield 17, 3) := by decide +kernel
theorem dX12_weigh_51 : decode cX12_weigh 51 = .ok (.aload_n 0, 1) := by decide +kernel
theorem dX12_weigh_52 : decode cX12_weigh 52 = .ok (.iload_n 3, 1) := by decide +kernel
theorem dX12_weigh_53 : decode cX12_weigh 53 = .ok (.putfield 20, 3) := by decide +kernel
theorem dX12_weigh_56 : decode cX12_weigh 56 = .ok (.aload_n 0, 1) := by decide +kernel
theorem dX12_weigh_57 : decode cX12_weigh 57 = .ok (.aload_n 0, 1) := by decide +kernel
theorem dX12_weigh_58 : decode cX12_weigh 58 = .ok (.getfield 32, 3) := by decide +kernel
theorem dX12_weigh_61 : decode cX12_weigh 61 = .ok (.invokevirtual 79, 3) := by decide +kernel
theorem dX12_weigh_64 : decode cX12_weigh 64 = .ok (.pop, 1) := by decide +kernel
theorem dX12_weigh_65 : decode cX12_weigh 65 = .ok (.aload_n 0, 1) := by decide +kernel
theorem dX12_weigh_66 : decode cX12_weigh 66 = .ok (.invokevirtual 120, 3) := by decide +kernel
theorem dX12_weigh_69 : decode cX12_weigh 69 = .ok (.ireturn, 1) := by decide +kernel
theorem dX12_setQuiet_0 : decode cX12_setQuiet 0 = .ok (.aload_n 0, 1) := by decide +kernel
theorem dX12_setQuiet_1 : decode cX12_setQuiet 1 = .ok (.iconst 0, 1) := by decide +kernel
theorem dX12_setQuiet_2 : decode cX12_setQuiet 2 = .ok (.putfield 64, 3) := by decide +kernel
theorem dX12_setQuiet_5 : decode cX12_setQuiet 5 = .ok (.aload_n 0, 1) := by decide +kernel
theorem dX12_setQuiet_6 : decode cX12_setQuiet 6 = .ok (.getfield 23, 3) := by decide +kernel
theorem dX12_setQuiet_9 : decode cX12_setQuiet 9 = .ok (.istore_n 2, 1) := by decide +kernel
theorem dX12_setQuiet_10 : decode cX12_setQuiet 10 = .ok (.aload_n 0, 1) := by decide +kernel
theorem dX12_setQuiet_11 : decode cX12_setQuiet 11 = .ok (.iload_n 1, 1) := by decide +kernel
theorem dX12_setQuiet_12 : decode cX12_setQuiet 12 = .ok (.putfield 23, 3) := by decide +kernel
theorem dX12_setQuiet_15 : decode cX12_setQuiet 15 = .ok (.iload_n 2, 1) := by decide +kernel
theorem dX12_setQuiet_16 : decode cX12_setQuiet 16 = .ok (.iload_n 1, 1) := by decide +kernel
theorem dX12_setQuiet_17 : decode cX12_setQuiet 17 = .ok (.if_icmp .eq 12, 3) := by decide +kernel
theorem dX12_setQuiet_20 : decode cX12_setQuiet 20 = .ok (.aload_n 0, 1) := by decide +kernel
theorem dX12_setQuiet_21 : decode cX12_setQuiet 21 = .ok (.aload_n 0, 1) := by decide +kernel
theorem dX12_setQuiet_22 : decode cX12_setQuiet 22 = .ok (.getfield 32, 3) := by decide +kernel
theorem dX12_setQuiet_25 : decode cX12_setQuiet 25 = .ok (.invokevirtual 79, 3) := by decide +kernel
theorem dX12_setQuiet_28 : decode cX12_setQuiet 28 = .ok (.pop, 1) := by decide +kernel
theorem dX12_setQuiet_29 : decode cX12_setQuiet 29 = .ok (.iload_n 2, 1) := by decide +kernel
theorem dX12_setQuiet_30 : decode cX12_setQuiet 30 = .ok (.ireturn, 1) := by decide +kernel
theorem dX12_setSlots_0 : decode cX12_setSlots 0 = .ok (.aload_n 0, 1) := by decide +kernel
theorem dX12_setSlots_1 : decode cX12_setSlots 1 = .ok (.iconst 0, 1) := by decide +kernel
theorem dX12_setSlots_2 : decode cX12_setSlots 2 = .ok (.putfield 64, 3) := by decide +kernel
theorem dX12_setSlots_5 : decode cX12_setSlots 5 = .ok (.iload_n 1, 1) := by decide +kernel
theorem dX12_setSlots_6 : decode cX12_setSlots 6 = .ok (.iconst 0, 1) := by decide +kernel
theorem dX12_setSlots_7 : decode cX12_setSlots 7 = .ok (.bipush 64, 2) := by decide +kernel
theorem dX12_setSlots_9 : decode cX12_setSlots 9 = .ok (.invokestatic 83, 3) := by decide +kernel
theorem dX12_setSlots_12 : decode cX12_setSlots 12 = .ok (.ifCond .ne 9, 3) := by decide +kernel
theorem dX12_setSlots_15 : decode cX12_setSlots 15 = .ok (.aload_n 0, 1) := by decide +kernel
theorem dX12_setSlots_16 : decode cX12_setSlots 16 = .ok (.iconst 1, 1) := by decide +kernel
theorem dX12_setSlots_17 : decode cX12_setSlots 17 = .ok (.invokevirtual 217, 3) := by decide +kernel
theorem dX12_setSlots_20 : decode cX12_setSlots 20 = .ok (.ireturn, 1) := by decide +kernel
theorem dX12_setSlots_21 : decode cX12_setSlots 21 = .ok (.aload_n 0, 1) := by decide +kernel
theorem dX12_setSlots_22 : decode cX12_setSlots 22 = .ok (.getfield 32, 3) := by decide +kernel
theorem dX12_setSlots_25 : decode cX12_setSlots 25 = .ok (.istore_n 2, 1) := by decide +kernel
theorem dX12_setSlots_26 : decode cX12_setSlots 26 = .ok (.aload_n 0, 1) := by decide +kernel
theorem dX12_setSlots_27 : decode cX12_setSlots 27 = .ok (.iload_n 1, 1) := by decide +kernel
theorem dX12_setSlots_28 : decode cX12_setSlots 28 = .ok (.invokevirtual 79, 3) := by decide +kernel
theorem dX12_setSlots_31 : decode cX12_setSlots 31 = .ok (.pop, 1) := by decide +kernel
theorem dX12_setSlots_32 : decode cX12_setSlots 32 = .ok (.iload_n 2, 1) := by decide +kernel
theorem dX12_setSlots_33 : decode cX12_setSlots 33 = .ok (.ireturn, 1) := by decide +kernel
theorem dX12_empty_0 : decode cX12_empty 0 = .ok (.aload_n 0, 1) := by decide +kernel
theorem dX12_empty_1 : decode cX12_empty 1 = .ok (.iconst 0, 1) := by decide +kernel
theorem dX12_empty_2 : decode cX12_empty 2 = .ok (.putfield 64, 3) := by decide +kernel
theorem dX12_empty_5 : decode cX12_empty 5 = .ok (.aload_n 0, 1) := by decide +kernel
theorem dX12_empty_6 : decode cX12_empty 6 = .ok (.aload_n 0, 1) := by decide +kernel
theorem dX12_empty_7 : decode cX12_empty 7 = .ok (.getfield 32, 3) := by decide +kernel
theorem dX12_empty_10 : decode cX12_empty 10 = .ok (.invokevirtual 79, 3) := by decide +kernel
theorem dX12_empty_13 : decode cX12_empty 13 = .ok (.ireturn, 1) := by decide +kernel
theorem dX12_columns_0 : decode cX12_columns 0 = .ok (.aload_n 0, 1) := by decide +kernel
theorem dX12_columns_1 : decode cX12_columns 1 = .ok (.iconst 0, 1) := by decide +kernel
theorem dX12_columns_2 : decode cX12_columns 2 = .ok (.putfield 64, 3) := by decide +kernel
theorem dX12_columns_5 : decode cX12_columns 5 = .ok (.aload_n 0, 1) := by decide +kernel
theorem dX12_columns_6 : decode cX12_columns 6 = .ok (.getfield 67, 3) := by decide +kernel
theorem dX12_columns_9 : decode cX12_columns 9 = .ok (.ireturn, 1) := by decide +kernel
theorem dX12_rows_0 : decode cX12_rows 0 = .ok (.aload_n 0, 1) := by decide +kernel
theorem dX12_rows_1 : decode cX12_rows 1 = .ok (.iconst 0, 1) := by decide +kernel
theorem dX12_rows_2 : decode cX12_rows 2 = .ok (.putfield 64, 3) := by decide +kernel
theorem dX12_rows_5 : decode cX12_rows 5 = .ok (.aload_n 0, 1) := by decide +kernel
theorem dX12_rows_6 : decode cX12_rows 6 = .ok (.getfield 70, 3) := by decide +kernel
theorem dX12_rows_9 : decode cX12_rows 9 = .ok (.ireturn, 1) := by decide +kernel
theorem dX12_at_0 : decode cX12_at 0 = .ok (.aload_n 0, 1) := by decide +kernel
theorem dX12_at_1 : decode cX12_at 1 = .ok (.iconst 0, 1) := by decide +kernel
theorem dX12_at_2 : decode cX12_at 2 = .ok (.putfield 64, 3) := by decide +kernel
theorem dX12_at_5 : decode cX12_at 5 = .ok (.aload_n 0, 1) := by decide +kernel
theorem dX12_at_6 : decode cX12_at 6 = .ok (.iload_n 1, 1) := by decide +kernel
theorem dX12_at_7 : decode cX12_at 7 = .ok (.invokevirtual 220, 3) := by decide +kernel
theorem dX12_at_10 : decode cX12_at 10 = .ok (.ifCond .eq 12, 3) := by decide +kernel
theorem dX12_at_13 : decode cX12_at 13 = .ok (.aload_n 0, 1) := by decide +kernel
theorem dX12_at_14 : decode cX12_at 14 = .ok (.getfield 73, 3) := by decide +kernel
theorem dX12_at_17 : decode cX12_at 17 = .ok (.iload_n 1, 1) := by decide +kernel
theorem dX12_at_18 : decode cX12_at 18 = .ok (.iaload, 1) := by decide +kernel
theorem dX12_at_19 : decode cX12_at 19 = .ok (.goto 8, 3) := by decide +kernel
theorem dX12_at_22 : decode cX12_at 22 = .ok (.aload_n 0, 1) := by decide +kernel
theorem dX12_at_23 : decode cX12_at 23 = .ok (.iconst 1, 1) := by decide +kernel
theorem dX12_at_24 : decode cX12_at 24 = .ok (.invokevirtual 217, 3) := by decide +kernel
theorem dX12_at_27 : decode cX12_at 27 = .ok (.ireturn, 1) := by decide +kernel
theorem dX12_side_0 : decode cX12_side 0 = .ok (.aload_n 0, 1) := by decide +kernel
theorem dX12_side_1 : decode cX12_side 1 = .ok (.iconst 0, 1) := by decide +kernel
theorem dX12_side_2 : decode cX12_side 2 = .ok (.putfield 64, 3) := by decide +kernel
theorem dX12_side_5 : decode cX12_side 5 = .ok (.aload_n 0, 1) := by decide +kernel
theorem dX12_side_6 : decode cX12_side 6 = .ok (.invokevirtual 94, 3) := by decide +kernel
theorem dX12_side_9 : decode cX12_side 9 = .ok (.ireturn, 1) := by decide +kernel
theorem dX12_played_0 : decode cX12_played 0 = .ok (.aload_n 0, 1) := by decide +kernel
theorem dX12_played_1 : decode cX12_played 1 = .ok (.iconst 0, 1) := by decide +kernel
theorem dX12_played_2 : decode cX12_played 2 = .ok (.putfield 64, 3) := by decide +kernel
theorem dX12_played_5 : decode cX12_played 5 = .ok (.aload_n 0, 1) := by decide +kernel
theorem dX12_played_6 : decode cX12_played 6 = .ok (.getfield 76, 3) := by decide +kernel
theorem dX12_played_9 : decode cX12_played 9 = .ok (.ireturn, 1) := by decide +kernel
theorem dX12_moves_0 : decode cX12_moves 0 = .ok (.aload_n 0, 1) := by decide +kernel
theorem dX12_moves_1 : decode cX12_moves 1 = .ok (.iconst 0, 1) := by decide +kernel
theorem dX12_moves_2 : decode cX12_moves 2 = .ok (.putfield 64, 3) := by decide +kernel
theorem dX12_moves_5 : decode cX12_moves 5 = .ok (.aload_n 0, 1) := by decide +kernel
theorem dX12_moves_6 : decode cX12_moves 6 = .ok (.iconst 0, 1) := by decide +kernel
theorem dX12_moves_7 : decode cX12_moves 7 = .ok (.invokevirtual 123, 3) := by decide +kernel
theorem dX12_moves_10 : decode cX12_moves 10 = .ok (.ireturn, 1) := by decide +kernel
theorem dX12_from_0 : decode cX12_from 0 = .ok (.aload_n 0, 1) := by decide +kernel
theorem dX12_from_1 : decode cX12_from 1 = .ok (.iconst 0, 1) := by decide +kernel
theorem dX12_from_2 : decode cX12_from 2 = .ok (.putfield 64, 3) := by decide +kernel
theorem dX12_from_5 : decode cX12_from 5 = .ok (.aload_n 0, 1) := by decide +kernel
theorem dX12_from_6 : decode cX12_from 6 = .ok (.iload_n 1, 1) := by decide +kernel
theorem dX12_from_7 : decode cX12_from 7 = .ok (.invokevirtual 232, 3) := by decide +kernel
theorem dX12_from_10 : decode cX12_from 10 = .ok (.ifCond .eq 17, 3) := by decide +kernel
theorem dX12_from_13 : decode cX12_from 13 = .ok (.aload_n 0, 1) := by decide +kernel
theorem dX12_from_14 : decode cX12_from 14 = .ok (.getfield 29, 3) := by decide +kernel
theorem dX12_from_17 : decode cX12_from 17 = .ok (.iconst 0, 1) := by decide +kernel
theorem dX12_from_18 : decode cX12_from 18 = .ok (.aaload, 1) := by decide +kernel
theorem dX12_from_19 : decode cX12_from 19 = .ok (.iload_n 1, 1) := by decide +kernel
theorem dX12_from_20 : decode cX12_from 20 = .ok (.iaload, 1) := by decide +kernel
theorem dX12_from_21 : decode cX12_from 21 = .ok (.bipush 100, 2) := by decide +kernel
theorem dX12_from_23 : decode cX12_from 23 = .ok (.idiv, 1) := by decide +kernel
theorem dX12_from_24 : decode cX12_from 24 = .ok (.goto 8, 3) := by decide +kernel
theorem dX12_from_27 : decode cX12_from 27 = .ok (.aload_n 0, 1) := by decide +kernel
theorem dX12_from_28 : decode cX12_from 28 = .ok (.iconst 1, 1) := by decide +kernel
theorem dX12_from_29 : decode cX12_from 29 = .ok (.invokevirtual 217, 3) := by decide +kernel
theorem dX12_from_32 : decode cX12_from 32 = .ok (.ireturn, 1) := by decide +kernel
theorem dX12_to_0 : decode cX12_to 0 = .ok (.aload_n 0, 1) := by decide +kernel
theorem dX12_to_1 : decode cX12_to 1 = .ok (.iconst 0, 1) := by decide +kernel
theorem dX12_to_2 : decode cX12_to 2 = .ok (.putfield 64, 3) := by decide +kernel
theorem dX12_to_5 : decode cX12_to 5 = .ok (.aload_n 0, 1) := by decide +kernel
theorem dX12_to_6 : decode cX12_to 6 = .ok (.iload_n 1, 1) := by decide +kernel
theorem dX12_to_7 : decode cX12_to 7 = .ok (.invokevirtual 232, 3) := by decide +kernel
theorem dX12_to_10 : decode cX12_to 10 = .ok (.ifCond .eq 17, 3) := by decide +kernel
theorem dX12_to_13 : decode cX12_to 13 = .ok (.aload_n 0, 1) := by decide +kernel
theorem dX12_to_14 : decode cX12_to 14 = .ok (.getfield 29, 3) := by decide +kernel
theorem dX12_to_17 : decode cX12_to 17 = .ok (.iconst 0, 1) := by decide +kernel
theorem dX12_to_18 : decode cX12_to 18 = .ok (.aaload, 1) := by decide +kernel
theorem dX12_to_19 : decode cX12_to 19 = .ok (.iload_n 1, 1) := by decide +kernel
theorem dX12_to_20 : decode cX12_to 20 = .ok (.iaload, 1) := by decide +kernel
theorem dX12_to_21 : decode cX12_to 21 = .ok (.bipush 100, 2) := by decide +kernel
theorem dX12_to_23 : decode cX12_to 23 = .ok (.irem, 1) := by decide +kernel
theorem dX12_to_24 : decode cX12_to 24 = .ok (.goto 8, 3) := by decide +kernel
theorem dX12_to_27 : decode cX12_to 27 = .ok (.aload_n 0, 1) := by decide +kernel
theorem dX12_to_28 : decode cX12_to 28 = .ok (.iconst 1, 1) := by decide +kernel
theorem dX12_to_29 : decode cX12_to 29 = .ok (.invokevirtual 217, 3) := by decide +kernel
theorem dX12_to_32 : decode cX12_to 32 = .ok (.ireturn, 1) := by decide +kernel
theorem dX12_takes_0 : decode cX12_takes 0 = .ok (.aload_n 0, 1) := by decide +kernel
theorem dX12_takes_1 : decode cX12_takes 1 = .ok (.aload_n 0, 1) := by decide +kernel
theorem dX12_takes_2 : decode cX12_takes 2 = .ok (.iload_n 1, 1) := by decide +kernel
theorem dX12_takes_3 : decode cX12_takes 3 = .ok (.invokevirtual 232, 3) := by decide +kernel
theorem dX12_takes_6 : decode cX12_takes 6 = .ok (.ifCond .eq 7, 3) := by decide +kernel
theorem dX12_takes_9 : decode cX12_takes 9 = .ok (.iconst 0, 1) := by decide +kernel
theorem dX12_takes_10 : decode cX12_takes 10 = .ok (.goto 4, 3) := by decide +kernel
theorem dX12_takes_13 : decode cX12_takes 13 = .ok (.iconst 1, 1) := by decide +kernel
theorem dX12_takes_14 : decode cX12_takes 14 = .ok (.putfield 64, 3) := by decide +kernel
theorem dX12_takes_17 : decode cX12_takes 17 = .ok (.aload_n 0, 1) := by decide +kernel
theorem dX12_takes_18 : decode cX12_takes 18 = .ok (.getfield 64, 3) := by decide +kernel
theorem dX12_takes_21 : decode cX12_takes 21 = .ok (.ifCond .ne 22, 3) := by decide +kernel
theorem dX12_takes_24 : decode cX12_takes 24 = .ok (.aload_n 0, 1) := by decide +kernel
theorem dX12_takes_25 : decode cX12_takes 25 = .ok (.aload_n 0, 1) := by decide +kernel
theorem dX12_takes_26 : decode cX12_takes 26 = .ok (.getfield 29, 3) := by decide +kernel
theorem dX12_takes_29 : decode cX12_takes 29 = .ok (.iconst 0, 1) := by decide +kernel
theorem dX12_takes_30 : decode cX12_takes 30 = .ok (.aaload, 1) := by decide +kernel
theorem dX12_takes_31 : decode cX12_takes 31 = .ok (.iload_n 1, 1) := by decide +kernel
theorem dX12_takes_32 : decode cX12_takes 32 = .ok (.iaload, 1) := by decide +kernel
theorem dX12_takes_33 : decode cX12_takes 33 = .ok (.invokevirtual 126, 3) := by decide +kernel
theorem dX12_takes_36 : decode cX12_takes 36 = .ok (.ifCond .eq 7, 3) := by decide +kernel
theorem dX12_takes_39 : decode cX12_takes 39 = .ok (.iconst 1, 1) := by decide +kernel
theorem dX12_takes_40 : decode cX12_takes 40 = .ok (.goto 4, 3) := by decide +kernel
theorem dX12_takes_43 : decode cX12_takes 43 = .ok (.iconst 0, 1) := by decide +kernel
theorem dX12_takes_44 : decode cX12_takes 44 = .ok (.ireturn, 1) := by decide +kernel
theorem dX12_isLost_0 : decode cX12_isLost 0 = .ok (.aload_n 0, 1) := by decide +kernel
theorem dX12_isLost_1 : decode cX12_isLost 1 = .ok (.iconst 0, 1) := by decide +kernel
theorem dX12_isLost_2 : decode cX12_isLost 2 = .ok (.putfield 64, 3) := by decide +kernel
theorem dX12_isLost_5 : decode cX12_isLost 5 = .ok (.aload_n 0, 1) := by decide +kernel
theorem dX12_isLost_6 : decode cX12_isLost 6 = .ok (.invokevirtual 104, 3) := by decide +kernel
theorem dX12_isLost_9 : decode cX12_isLost 9 = .ok (.ireturn, 1) := by decide +kernel
theorem dX12_key_0 : decode cX12_key 0 = .ok (.aload_n 0, 1) := by decide +kernel
theorem dX12_key_1 : decode cX12_key 1 = .ok (.iconst 0, 1) := by decide +kernel
theorem dX12_key_2 : decode cX12_key 2 = .ok (.putfield 64, 3) := by decide +kernel
theorem dX12_key_5 : decode cX12_key 5 = .ok (.aload_n 0, 1) := by decide +kernel
theorem dX12_key_6 : decode cX12_key 6 = .ok (.invokevirtual 157, 3) := by decide +kernel
theorem dX12_key_9 : decode cX12_key 9 = .ok (.lreturn, 1) := by decide +kernel
theorem dX12_evaluation_0 : decode cX12_evaluation 0 = .ok (.aload_n 0, 1) := by decide +kernel
theorem dX12_evaluation_1 : decode cX12_evaluation 1 = .ok (.iconst 0, 1) := by decide +kernel
theorem dX12_evaluation_2 : decode cX12_evaluation 2 = .ok (.putfield 64, 3) := by decide +kernel
theorem dX12_evaluation_5 : decode cX12_evaluation 5 = .ok (.aload_n 0, 1) := by decide +kernel
theorem dX12_evaluation_6 : decode cX12_evaluation 6 = .ok (.invokevirtual 120, 3) := by decide +kernel
theorem dX12_evaluation_9 : decode cX12_evaluation 9 = .ok (.ireturn, 1) := by decide +kernel
theorem dX12_ways_0 : decode cX12_ways 0 = .ok (.aload_n 0, 1) := by decide +kernel
theorem dX12_ways_1 : decode cX12_ways 1 = .ok (.iconst 0, 1) := by decide +kernel
theorem dX12_ways_2 : decode cX12_ways 2 = .ok (.putfield 64, 3) := by decide +kernel
theorem dX12_ways_5 : decode cX12_ways 5 = .ok (.iload_n 1, 1) := by decide +kernel
theorem dX12_ways_6 : decode cX12_ways 6 = .ok (.iconst 0, 1) := by decide +kernel
theorem dX12_ways_7 : decode cX12_ways 7 = .ok (.iconst 3, 1) := by decide +kernel
theorem dX12_ways_8 : decode cX12_ways 8 = .ok (.invokestatic 83, 3) := by decide +kernel
theorem dX12_ways_11 : decode cX12_ways 11 = .ok (.ifCond .eq 12, 3) := by decide +kernel
theorem dX12_ways_14 : decode cX12_ways 14 = .ok (.aload_n 0, 1) := by decide +kernel
theorem dX12_ways_15 : decode cX12_ways 15 = .ok (.iconst 0, 1) := by decide +kernel
theorem dX12_ways_16 : decode cX12_ways 16 = .ok (.iload_n 1, 1) := by decide +kernel
theorem dX12_ways_17 : decode cX12_ways 17 = .ok (.invokevirtual 151, 3) := by decide +kernel
theorem dX12_ways_20 : decode cX12_ways 20 = .ok (.goto 8, 3) := by decide +kernel
theorem dX12_ways_23 : decode cX12_ways 23 = .ok (.aload_n 0, 1) := by decide +kernel
theorem dX12_ways_24 : decode cX12_ways 24 = .ok (.iconst 1, 1) := by decide +kernel
theorem dX12_ways_25 : decode cX12_ways 25 = .ok (.invokevirtual 217, 3) := by decide +kernel
theorem dX12_ways_28 : decode cX12_ways 28 = .ok (.ireturn, 1) := by decide +kernel
theorem dX12_value_0 : decode cX12_value 0 = .ok (.aload_n 0, 1) := by decide +kernel
theorem dX12_value_1 : decode cX12_value 1 = .ok (.iconst 0, 1) := by decide +kernel
theorem dX12_value_2 : decode cX12_value 2 = .ok (.putfield 64, 3) := by decide +kernel
theorem dX12_value_5 : decode cX12_value 5 = .ok (.iload_n 1, 1) := by decide +kernel
theorem dX12_value_6 : decode cX12_value 6 = .ok (.iconst 0, 1) := by decide +kernel
theorem dX12_value_7 : decode cX12_value 7 = .ok (.iconst 3, 1) := by decide +kernel
theorem dX12_value_8 : decode cX12_value 8 = .ok (.invokestatic 83, 3) := by decide +kernel
theorem dX12_value_11 : decode cX12_value 11 = .ok (.ifCond .eq 12, 3) := by decide +kernel
theorem dX12_value_14 : decode cX12_value 14 = .ok (.aload_n 0, 1) := by decide +kernel
theorem dX12_value_15 : decode cX12_value 15 = .ok (.iconst 0, 1) := by decide +kernel
theorem dX12_value_16 : decode cX12_value 16 = .ok (.iload_n 1, 1) := by decide +kernel
theorem dX12_value_17 : decode cX12_value 17 = .ok (.invokevirtual 148, 3) := by decide +kernel
theorem dX12_value_20 : decode cX12_value 20 = .ok (.goto 8, 3) := by decide +kernel
theorem dX12_value_23 : decode cX12_value 23 = .ok (.aload_n 0, 1) := by decide +kernel
theorem dX12_value_24 : decode cX12_value 24 = .ok (.iconst 1, 1) := by decide +kernel
theorem dX12_value_25 : decode cX12_value 25 = .ok (.invokevirtual 217, 3) := by decide +kernel
theorem dX12_value_28 : decode cX12_value 28 = .ok (.ireturn, 1) := by decide +kernel
