theorem dX11_weigh_0 : decode cX11_weigh 0 = .ok (.iload_n 1, 1) := by decide +kernel
theorem dX11_weigh_1 : decode cX11_weigh 1 = .ok (.iconst 0, 1) := by decide +kernel
theorem dX11_weigh_2 : decode cX11_weigh 2 = .ok (.bipush 50, 2) := by decide +kernel
theorem dX11_weigh_4 : decode cX11_weigh 4 = .ok (.invokestatic 81, 3) := by decide +kernel
theorem dX11_weigh_7 : decode cX11_weigh 7 = .ok (.ifCond .eq 23, 3) := by decide +kernel
theorem dX11_weigh_10 : decode cX11_weigh 10 = .ok (.iload_n 2, 1) := by decide +kernel
theorem dX11_weigh_11 : decode cX11_weigh 11 = .ok (.iconst 0, 1) := by decide +kernel
theorem dX11_weigh_12 : decode cX11_weigh 12 = .ok (.bipush 20, 2) := by decide +kernel
theorem dX11_weigh_14 : decode cX11_weigh 14 = .ok (.invokestatic 81, 3) := by decide +kernel
theorem dX11_weigh_17 : decode cX11_weigh 17 = .ok (.ifCond .eq 13, 3) := by decide +kernel
theorem dX11_weigh_20 : decode cX11_weigh 20 = .ok (.iload_n 3, 1) := by decide +kernel
theorem dX11_weigh_21 : decode cX11_weigh 21 = .ok (.iconst 0, 1) := by decide +kernel
theorem dX11_weigh_22 : decode cX11_weigh 22 = .ok (.bipush 10, 2) := by decide +kernel
theorem dX11_weigh_24 : decode cX11_weigh 24 = .ok (.invokestatic 81, 3) := by decide +kernel
theorem dX11_weigh_27 : decode cX11_weigh 27 = .ok (.ifCond .ne 13, 3) := by decide +kernel
theorem dX11_weigh_30 : decode cX11_weigh 30 = .ok (.new 85, 3) := by decide +kernel
theorem dX11_weigh_33 : decode cX11_weigh 33 = .ok (.dup, 1) := by decide +kernel
theorem dX11_weigh_34 : decode cX11_weigh 34 = .ok (.ldc 170, 2) := by decide +kernel
theorem dX11_weigh_36 : decode cX11_weigh 36 = .ok (.invokespecial 89, 3) := by decide +kernel
theorem dX11_weigh_39 : decode cX11_weigh 39 = .ok (.athrow, 1) := by decide +kernel
theorem dX11_weigh_40 : decode cX11_weigh 40 = .ok (.aload_n 0, 1) := by decide +kernel
theorem dX11_weigh_41 : decode cX11_weigh 41 = .ok (.getfield 36, 3) := by decide +kernel
theorem dX11_weigh_44 : decode cX11_weigh 44 = .ok (.iload_n 1, 1) := by decide +kernel
theorem dX11_weigh_45 : decode cX11_weigh 45 = .ok (.iload_n 2, 1) := by decide +kernel
theorem dX11_weigh_46 : decode cX11_weigh 46 = .ok (.iload_n 3, 1) := by decide +kernel
theorem dX11_weigh_47 : decode cX11_weigh 47 = .ok (.invokevirtual 172, 3) := by decide +kernel
theorem dX11_weigh_50 : decode cX11_weigh 50 = .ok (.aload_n 0, 1) := by decide +kernel
theorem dX11_weigh_51 : decode cX11_weigh 51 = .ok (.getfield 43, 3) := by decide +kernel
theorem dX11_weigh_54 : decode cX11_weigh 54 = .ok (.invokevirtual 102, 3) := by decide +kernel
theorem dX11_weigh_57 : decode cX11_weigh 57 = .ok (.aload_n 0, 1) := by decide +kernel
theorem dX11_weigh_58 : decode cX11_weigh 58 = .ok (.getfield 36, 3) := by decide +kernel
theorem dX11_weigh_61 : decode cX11_weigh 61 = .ok (.aload_n 0, 1) := by decide +kernel
theorem dX11_weigh_62 : decode cX11_weigh 62 = .ok (.getfield 13, 3) := by decide +kernel
theorem dX11_weigh_65 : decode cX11_weigh 65 = .ok (.invokevirtual 175, 3) := by decide +kernel
theorem dX11_weigh_68 : decode cX11_weigh 68 = .ok (.ireturn, 1) := by decide +kernel
theorem dX11_setQuiet_0 : decode cX11_setQuiet 0 = .ok (.aload_n 0, 1) := by decide +kernel
theorem dX11_setQuiet_1 : decode cX11_setQuiet 1 = .ok (.getfield 36, 3) := by decide +kernel
theorem dX11_setQuiet_4 : decode cX11_setQuiet 4 = .ok (.invokevirtual 179, 3) := by decide +kernel
theorem dX11_setQuiet_7 : decode cX11_setQuiet 7 = .ok (.istore_n 2, 1) := by decide +kernel
theorem dX11_setQuiet_8 : decode cX11_setQuiet 8 = .ok (.iload_n 2, 1) := by decide +kernel
theorem dX11_setQuiet_9 : decode cX11_setQuiet 9 = .ok (.iload_n 1, 1) := by decide +kernel
theorem dX11_setQuiet_10 : decode cX11_setQuiet 10 = .ok (.if_icmp .eq 18, 3) := by decide +kernel
theorem dX11_setQuiet_13 : decode cX11_setQuiet 13 = .ok (.aload_n 0, 1) := by decide +kernel
theorem dX11_setQuiet_14 : decode cX11_setQuiet 14 = .ok (.getfield 36, 3) := by decide +kernel
theorem dX11_setQuiet_17 : decode cX11_setQuiet 17 = .ok (.iload_n 1, 1) := by decide +kernel
theorem dX11_setQuiet_18 : decode cX11_setQuiet 18 = .ok (.invokevirtual 183, 3) := by decide +kernel
theorem dX11_setQuiet_21 : decode cX11_setQuiet 21 = .ok (.aload_n 0, 1) := by decide +kernel
theorem dX11_setQuiet_22 : decode cX11_setQuiet 22 = .ok (.getfield 43, 3) := by decide +kernel
theorem dX11_setQuiet_25 : decode cX11_setQuiet 25 = .ok (.invokevirtual 102, 3) := by decide +kernel
theorem dX11_setQuiet_28 : decode cX11_setQuiet 28 = .ok (.iload_n 2, 1) := by decide +kernel
theorem dX11_setQuiet_29 : decode cX11_setQuiet 29 = .ok (.ireturn, 1) := by decide +kernel
theorem dX11_setSlots_0 : decode cX11_setSlots 0 = .ok (.iload_n 1, 1) := by decide +kernel
theorem dX11_setSlots_1 : decode cX11_setSlots 1 = .ok (.iconst 0, 1) := by decide +kernel
theorem dX11_setSlots_2 : decode cX11_setSlots 2 = .ok (.bipush 64, 2) := by decide +kernel
theorem dX11_setSlots_4 : decode cX11_setSlots 4 = .ok (.invokestatic 81, 3) := by decide +kernel
theorem dX11_setSlots_7 : decode cX11_setSlots 7 = .ok (.ifCond .ne 13, 3) := by decide +kernel
theorem dX11_setSlots_10 : decode cX11_setSlots 10 = .ok (.new 85, 3) := by decide +kernel
theorem dX11_setSlots_13 : decode cX11_setSlots 13 = .ok (.dup, 1) := by decide +kernel
theorem dX11_setSlots_14 : decode cX11_setSlots 14 = .ok (.ldc 187, 2) := by decide +kernel
theorem dX11_setSlots_16 : decode cX11_setSlots 16 = .ok (.invokespecial 89, 3) := by decide +kernel
theorem dX11_setSlots_19 : decode cX11_setSlots 19 = .ok (.athrow, 1) := by decide +kernel
theorem dX11_setSlots_20 : decode cX11_setSlots 20 = .ok (.aload_n 0, 1) := by decide +kernel
theorem dX11_setSlots_21 : decode cX11_setSlots 21 = .ok (.getfield 43, 3) := by decide +kernel
theorem dX11_setSlots_24 : decode cX11_setSlots 24 = .ok (.invokevirtual 189, 3) := by decide +kernel
theorem dX11_setSlots_27 : decode cX11_setSlots 27 = .ok (.istore_n 2, 1) := by decide +kernel
theorem dX11_setSlots_28 : decode cX11_setSlots 28 = .ok (.aload_n 0, 1) := by decide +kernel
theorem dX11_setSlots_29 : decode cX11_setSlots 29 = .ok (.getfield 43, 3) := by decide +kernel
theorem dX11_setSlots_32 : decode cX11_setSlots 32 = .ok (.iload_n 1, 1) := by decide +kernel
theorem dX11_setSlots_33 : decode cX11_setSlots 33 = .ok (.invokevirtual 192, 3) := by decide +kernel
theorem dX11_setSlots_36 : decode cX11_setSlots 36 = .ok (.iload_n 2, 1) := by decide +kernel
theorem dX11_setSlots_37 : decode cX11_setSlots 37 = .ok (.ireturn, 1) := by decide +kernel
theorem dX11_columns_0 : decode cX11_columns 0 = .ok (.aload_n 0, 1) := by decide +kernel
theorem dX11_columns_1 : decode cX11_columns 1 = .ok (.getfield 13, 3) := by decide +kernel
theorem dX11_columns_4 : decode cX11_columns 4 = .ok (.invokevirtual 198, 3) := by decide +kernel
theorem dX11_columns_7 : decode cX11_columns 7 = .ok (.ireturn, 1) := by decide +kernel
theorem dX11_rows_0 : decode cX11_rows 0 = .ok (.aload_n 0, 1) := by decide +kernel
theorem dX11_rows_1 : decode cX11_rows 1 = .ok (.getfield 13, 3) := by decide +kernel
theorem dX11_rows_4 : decode cX11_rows 4 = .ok (.invokevirtual 201, 3) := by decide +kernel
theorem dX11_rows_7 : decode cX11_rows 7 = .ok (.ireturn, 1) := by decide +kernel
theorem dX11_at_0 : decode cX11_at 0 = .ok (.aload_n 0, 1) := by decide +kernel
theorem dX11_at_1 : decode cX11_at 1 = .ok (.getfield 13, 3) := by decide +kernel
theorem dX11_at_4 : decode cX11_at 4 = .ok (.iload_n 1, 1) := by decide +kernel
theorem dX11_at_5 : decode cX11_at 5 = .ok (.invokevirtual 108, 3) := by decide +kernel
theorem dX11_at_8 : decode cX11_at 8 = .ok (.ifCond .ne 13, 3) := by decide +kernel
theorem dX11_at_11 : decode cX11_at 11 = .ok (.new 112, 3) := by decide +kernel
theorem dX11_at_14 : decode cX11_at 14 = .ok (.dup, 1) := by decide +kernel
theorem dX11_at_15 : decode cX11_at 15 = .ok (.ldc 114, 2) := by decide +kernel
theorem dX11_at_17 : decode cX11_at 17 = .ok (.invokespecial 116, 3) := by decide +kernel
theorem dX11_at_20 : decode cX11_at 20 = .ok (.athrow, 1) := by decide +kernel
theorem dX11_at_21 : decode cX11_at 21 = .ok (.aload_n 0, 1) := by decide +kernel
theorem dX11_at_22 : decode cX11_at 22 = .ok (.getfield 13, 3) := by decide +kernel
theorem dX11_at_25 : decode cX11_at 25 = .ok (.iload_n 1, 1) := by decide +kernel
theorem dX11_at_26 : decode cX11_at 26 = .ok (.invokevirtual 119, 3) := by decide +kernel
theorem dX11_at_29 : decode cX11_at 29 = .ok (.ireturn, 1) := by decide +kernel
theorem dX11_side_0 : decode cX11_side 0 = .ok (.aload_n 0, 1) := by decide +kernel
theorem dX11_side_1 : decode cX11_side 1 = .ok (.getfield 13, 3) := by decide +kernel
theorem dX11_side_4 : decode cX11_side 4 = .ok (.invokevirtual 137, 3) := by decide +kernel
theorem dX11_side_7 : decode cX11_side 7 = .ok (.ireturn, 1) := by decide +kernel
theorem dX11_played_0 : decode cX11_played 0 = .ok (.aload_n 0, 1) := by decide +kernel
theorem dX11_played_1 : decode cX11_played 1 = .ok (.getfield 29, 3) := by decide +kernel
theorem dX11_played_4 : decode cX11_played 4 = .ok (.invokevirtual 153, 3) := by decide +kernel
theorem dX11_played_7 : decode cX11_played 7 = .ok (.ireturn, 1) := by decide +kernel
theorem dX11_moves_0 : decode cX11_moves 0 = .ok (.aload_n 0, 1) := by decide +kernel
theorem dX11_moves_1 : decode cX11_moves 1 = .ok (.getfield 22, 3) := by decide +kernel
theorem dX11_moves_4 : decode cX11_moves 4 = .ok (.invokevirtual 204, 3) := by decide +kernel
theorem dX11_moves_7 : decode cX11_moves 7 = .ok (.ireturn, 1) := by decide +kernel
theorem dX11_from_0 : decode cX11_from 0 = .ok (.aload_n 0, 1) := by decide +kernel
theorem dX11_from_1 : decode cX11_from 1 = .ok (.getfield 22, 3) := by decide +kernel
theorem dX11_from_4 : decode cX11_from 4 = .ok (.iload_n 1, 1) := by decide +kernel
theorem dX11_from_5 : decode cX11_from 5 = .ok (.invokevirtual 145, 3) := by decide +kernel
theorem dX11_from_8 : decode cX11_from 8 = .ok (.ifCond .ne 13, 3) := by decide +kernel
theorem dX11_from_11 : decode cX11_from 11 = .ok (.new 112, 3) := by decide +kernel
theorem dX11_from_14 : decode cX11_from 14 = .ok (.dup, 1) := by decide +kernel
theorem dX11_from_15 : decode cX11_from 15 = .ok (.ldc 148, 2) := by decide +kernel
theorem dX11_from_17 : decode cX11_from 17 = .ok (.invokespecial 116, 3) := by decide +kernel
theorem dX11_from_20 : decode cX11_from 20 = .ok (.athrow, 1) := by decide +kernel
theorem dX11_from_21 : decode cX11_from 21 = .ok (.aload_n 0, 1) := by decide +kernel
theorem dX11_from_22 : decode cX11_from 22 = .ok (.getfield 22, 3) := by decide +kernel
theorem dX11_from_25 : decode cX11_from 25 = .ok (.iload_n 1, 1) := by decide +kernel
theorem dX11_from_26 : decode cX11_from 26 = .ok (.invokevirtual 205, 3) := by decide +kernel
theorem dX11_from_29 : decode cX11_from 29 = .ok (.invokestatic 208, 3) := by decide +kernel
theorem dX11_from_32 : decode cX11_from 32 = .ok (.ireturn, 1) := by decide +kernel
theorem dX11_to_0 : decode cX11_to 0 = .ok (.aload_n 0, 1) := by decide +kernel
theorem dX11_to_1 : decode cX11_to 1 = .ok (.getfield 22, 3) := by decide +kernel
theorem dX11_to_4 : decode cX11_to 4 = .ok (.iload_n 1, 1) := by decide +kernel
theorem dX11_to_5 : decode cX11_to 5 = .ok (.invokevirtual 145, 3) := by decide +kernel
theorem dX11_to_8 : decode cX11_to 8 = .ok (.ifCond .ne 13, 3) := by decide +kernel
theorem dX11_to_11 : decode cX11_to 11 = .ok (.new 112, 3) := by decide +kernel
theorem dX11_to_14 : decode cX11_to 14 = .ok (.dup, 1) := by decide +kernel
theorem dX11_to_15 : decode cX11_to 15 = .ok (.ldc 148, 2) := by decide +kernel
theorem dX11_to_17 : decode cX11_to 17 = .ok (.invokespecial 116, 3) := by decide +kernel
theorem dX11_to_20 : decode cX11_to 20 = .ok (.athrow, 1) := by decide +kernel
theorem dX11_to_21 : decode cX11_to 21 = .ok (.aload_n 0, 1) := by decide +kernel
theorem dX11_to_22 : decode cX11_to 22 = .ok (.getfield 22, 3) := by decide +kernel
theorem dX11_to_25 : decode cX11_to 25 = .ok (.iload_n 1, 1) := by decide +kernel
theorem dX11_to_26 : decode cX11_to 26 = .ok (.invokevirtual 205, 3) := by decide +kernel
theorem dX11_to_29 : decode cX11_to 29 = .ok (.invokestatic 211, 3) := by decide +kernel
theorem dX11_to_32 : decode cX11_to 32 = .ok (.ireturn, 1) := by decide +kernel
theorem dX11_takes_0 : decode cX11_takes 0 = .ok (.aload_n 0, 1) := by decide +kernel
theorem dX11_takes_1 : decode cX11_takes 1 = .ok (.getfield 22, 3) := by decide +kernel
theorem dX11_takes_4 : decode cX11_takes 4 = .ok (.iload_n 1, 1) := by decide +kernel
theorem dX11_takes_5 : decode cX11_takes 5 = .ok (.invokevirtual 145, 3) := by decide +kernel
theorem dX11_takes_8 : decode cX11_takes 8 = .ok (.ifCond .ne 13, 3) := by decide +kernel
theorem dX11_takes_11 : decode cX11_takes 11 = .ok (.new 112, 3) := by decide +kernel
theorem dX11_takes_14 : decode cX11_takes 14 = .ok (.dup, 1) := by decide +kernel
theorem dX11_takes_15 : decode cX11_takes 15 = .ok (.ldc 148, 2) := by decide +kernel
theorem dX11_takes_17 : decode cX11_takes 17 = .ok (.invokespecial 116, 3) := by decide +kernel
theorem dX11_takes_20 : decode cX11_takes 20 = .ok (.athrow, 1) := by decide +kernel
theorem dX11_takes_21 : decode cX11_takes 21 = .ok (.aload_n 0, 1) := by decide +kernel
theorem dX11_takes_22 : decode cX11_takes 22 = .ok (.getfield 22, 3) := by decide +kernel
theorem dX11_takes_25 : decode cX11_takes 25 = .ok (.iload_n 1, 1) := by decide +kernel
theorem dX11_takes_26 : decode cX11_takes 26 = .ok (.invokevirtual 214, 3) := by decide +kernel
theorem dX11_takes_29 : decode cX11_takes 29 = .ok (.ireturn, 1) := by decide +kernel
theorem dX11_isLost_0 : decode cX11_isLost 0 = .ok (.aload_n 0, 1) := by decide +kernel
theorem dX11_isLost_1 : decode cX11_isLost 1 = .ok (.invokevirtual 217, 3) := by decide +kernel
theorem dX11_isLost_4 : decode cX11_isLost 4 = .ok (.ireturn, 1) := by decide +kernel
theorem dX11_key_0 : decode cX11_key 0 = .ok (.aload_n 0, 1) := by decide +kernel
theorem dX11_key_1 : decode cX11_key 1 = .ok (.getfield 13, 3) := by decide +kernel
theorem dX11_key_4 : decode cX11_key 4 = .ok (.invokevirtual 220, 3) := by decide +kernel
theorem dX11_key_7 : decode cX11_key 7 = .ok (.lreturn, 1) := by decide +kernel
theorem dX11_evaluation_0 : decode cX11_evaluation 0 = .ok (.aload_n 0, 1) := by decide +kernel
theorem dX11_evaluation_1 : decode cX11_evaluation 1 = .ok (.getfield 36, 3) := by decide +kernel
theorem dX11_evaluation_4 : decode cX11_evaluation 4 = .ok (.aload_n 0, 1) := by decide +kernel
theorem dX11_evaluation_5 : decode cX11_evaluation 5 = .ok (.getfield 13, 3) := by decide +kernel
theorem dX11_evaluation_8 : decode cX11_evaluation 8 = .ok (.invokevirtual 175, 3) := by decide +kernel
theorem dX11_evaluation_11 : decode cX11_evaluation 11 = .ok (.ireturn, 1) := by decide +kernel
theorem dX11_ways_0 : decode cX11_ways 0 = .ok (.iload_n 1, 1) := by decide +kernel
theorem dX11_ways_1 : decode cX11_ways 1 = .ok (.iconst 0, 1) := by decide +kernel
theorem dX11_ways_2 : decode cX11_ways 2 = .ok (.iconst 3, 1) := by decide +kernel
theorem dX11_ways_3 : decode cX11_ways 3 = .ok (.invokestatic 81, 3) := by decide +kernel
theorem dX11_ways_6 : decode cX11_ways 6 = .ok (.ifCond .ne 13, 3) := by decide +kernel
theorem dX11_ways_9 : decode cX11_ways 9 = .ok (.new 85, 3) := by decide +kernel
theorem dX11_ways_12 : decode cX11_ways 12 = .ok (.dup, 1) := by decide +kernel
theorem dX11_ways_13 : decode cX11_ways 13 = .ok (.ldc 224, 2) := by decide +kernel
theorem dX11_ways_15 : decode cX11_ways 15 = .ok (.invokespecial 89, 3) := by decide +kernel
theorem dX11_ways_18 : decode cX11_ways 18 = .ok (.athrow, 1) := by decide +kernel
theorem dX11_ways_19 : decode cX11_ways 19 = .ok (.aload_n 0, 1) := by decide +kernel
theorem dX11_ways_20 : decode cX11_ways 20 = .ok (.getfield 57, 3) := by decide +kernel
theorem dX11_ways_23 : decode cX11_ways 23 = .ok (.iload_n 1, 1) := by decide +kernel
theorem dX11_ways_24 : decode cX11_ways 24 = .ok (.invokevirtual 226, 3) := by decide +kernel
theorem dX11_ways_27 : decode cX11_ways 27 = .ok (.ireturn, 1) := by decide +kernel
theorem dX11_value_0 : decode cX11_value 0 = .ok (.iload_n 1, 1) := by decide +kernel
theorem dX11_value_1 : decode cX11_value 1 = .ok (.iconst 0, 1) := by decide +kernel
theorem dX11_value_2 : decode cX11_value 2 = .ok (.iconst 3, 1) := by decide +kernel
theorem dX11_value_3 : decode cX11_value 3 = .ok (.invokestatic 81, 3) := by decide +kernel
theorem dX11_value_6 : decode cX11_value 6 = .ok (.ifCond .ne 13, 3) := by decide +kernel
theorem dX11_value_9 : decode cX11_value 9 = .ok (.new 85, 3) := by decide +kernel
theorem dX11_value_12 : decode cX11_value 12 = .ok (.dup, 1) := by decide +kernel
theorem dX11_value_13 : decode cX11_value 13 = .ok (.ldc 224, 2) := by decide +kernel
theorem dX11_value_15 : decode cX11_value 15 = .ok (.invokespecial 89, 3) := by decide +kernel
theorem dX11_value_18 : decode cX11_value 18 = .ok (.athrow, 1) := by decide +kernel
theorem dX11_value_19 : decode cX11_value 19 = .ok (.aload_n 0, 1) := by decide +kernel
theorem dX11_value_20 : decode cX11_value 20 = .ok (.getfield 57, 3) := by decide +kernel
theorem dX11_value_23 : decode cX11_value 23 = .ok (.iload_n 1, 1) := by decide +kernel
theorem dX11_value_24 : decode cX11_value 24 = .ok (.sipush (-9999), 3) := by decide +kernel
theorem dX11_value_27 : decode cX11_value 27 = .ok (.sipush 9999, 3) := by decide +kernel
theorem dX11_value_30 : decode cX11_value 30 = .ok (.invokevirtual 229, 3) := by decide +kernel
theorem dX11_value_33 : decode cX11_value 33 = .ok (.ireturn, 1) := by decide +kernel
theorem dX11_valueOf_0 : decode cX11_valueOf 0 = .ok (.aload_n 0, 1) := by decide +kernel
theorem dX11_valueOf_1 : decode cX11_valueOf 1 = .ok (.getfield 22, 3) := by decide +kernel
theorem dX11_valueOf_4 : decode cX11_valueOf 4 = .ok (.iload_n 1, 1) := by decide +kernel
theorem dX11_valueOf_5 : decode cX11_valueOf 5 = .ok (.invokevirtual 145, 3) := by decide +kernel
theorem dX11_valueOf_8 : decode cX11_valueOf 8 = .ok (.ifCond .ne 13, 3) := by decide +kernel
theorem dX11_valueOf_11 : decode cX11_valueOf 11 = .ok (.new 112, 3) := by decide +kernel
theorem dX11_valueOf_14 : decode cX11_valueOf 14 = .ok (.dup, 1) := by decide +kernel
theorem dX11_valueOf_15 : decode cX11_valueOf 15 = .ok (.ldc 148, 2) := by decide +kernel
theorem dX11_valueOf_17 : decode cX11_valueOf 17 = .ok (.invokespecial 116, 3) := by decide +kernel
theorem dX11_valueOf_20 : decode cX11_valueOf 20 = .ok (.athrow, 1) := by decide +kernel
theorem dX11_valueOf_21 : decode cX11_valueOf 21 = .ok (.iload_n 2, 1) := by decide +kernel
theorem dX11_valueOf_22 : decode cX11_valueOf 22 = .ok (.iconst 1, 1) := by decide +kernel
theorem dX11_valueOf_23 : decode cX11_valueOf 23 = .ok (.iconst 3, 1) := by decide +kernel
theorem dX11_valueOf_24 : decode cX11_valueOf 24 = .ok (.invokestatic 81, 3) := by decide +kernel
theorem dX11_valueOf_27 : decode cX11_valueOf 27 = .ok (.ifCond .ne 13, 3) := by decide +kernel
theorem dX11_valueOf_30 : decode cX11_valueOf 30 = .ok (.new 85, 3) := by decide +kernel
theorem dX11_valueOf_33 : decode cX11_valueOf 33 = .ok (.dup, 1) := by decide +kernel
theorem dX11_valueOf_34 : decode cX11_valueOf 34 = .ok (.ldc 233, 2) := by decide +kernel
theorem dX11_valueOf_36 : decode cX11_valueOf 36 = .ok (.invokespecial 89, 3) := by decide +kernel
theorem dX11_valueOf_39 : decode cX11_valueOf 39 = .ok (.athrow, 1) := by decide +kernel
theorem dX11_valueOf_40 : decode cX11_valueOf 40 = .ok (.aload_n 0, 1) := by decide +kernel
theorem dX11_valueOf_41 : decode cX11_valueOf 41 = .ok (.getfield 57, 3) := by decide +kernel
theorem dX11_valueOf_44 : decode cX11_valueOf 44 = .ok (.aload_n 0, 1) := by decide +kernel
theorem dX11_valueOf_45 : decode cX11_valueOf 45 = .ok (.getfield 22, 3) := by decide +kernel
theorem dX11_valueOf_48 : decode cX11_valueOf 48 = .ok (.iload_n 1, 1) := by decide +kernel
theorem dX11_valueOf_49 : decode cX11_valueOf 49 = .ok (.invokevirtual 205, 3) := by decide +kernel
theorem dX11_valueOf_52 : decode cX11_valueOf 52 = .ok (.iload_n 2, 1) := by decide +kernel
theorem dX11_valueOf_53 : decode cX11_valueOf 53 = .ok (.sipush (-9999), 3) := by decide +kernel
theorem dX11_valueOf_56 : decode cX11_valueOf 56 = .ok (.sipush 9999, 3) := by decide +kernel
theorem dX11_valueOf_59 : decode cX11_valueOf 59 = .ok (.invokevirtual 235, 3) := by decide +kernel
theorem dX11_valueOf_62 : decode cX11_valueOf 62 = .ok (.ireturn, 1) := by decide +kernel
theorem dX11_search_0 : decode cX11_search 0 = .ok (.iload_n 1, 1) := by decide +kernel
theorem dX11_search_1 : decode cX11_search 1 = .ok (.iconst 1, 1) := by decide +kernel
theorem dX11_search_2 : decode cX11_search 2 = .ok (.iconst 4, 1) := by decide +kernel
theorem dX11_search_3 : decode cX11_search 3 = .ok (.invokestatic 81, 3) := by decide +kernel
theorem dX11_search_6 : decode cX11_search 6 = .ok (.ifCond .ne 13, 3) := by decide +kernel
theorem dX11_search_9 : decode cX11_search 9 = .ok (.new 85, 3) := by decide +kernel
theorem dX11_search_12 : decode cX11_search 12 = .ok (.dup, 1) := by decide +kernel
theorem dX11_search_13 : decode cX11_search 13 = .ok (.ldc 239, 2) := by decide +kernel
theorem dX11_search_15 : decode cX11_search 15 = .ok (.invokespecial 89, 3) := by decide +kernel
theorem dX11_search_18 : decode cX11_search 18 = .ok (.athrow, 1) := by decide +kernel
theorem dX11_search_19 : decode cX11_search 19 = .ok (.aload_n 0, 1) := by decide +kernel
theorem dX11_search_20 : decode cX11_search 20 = .ok (.invokevirtual 217, 3) := by decide +kernel
theorem dX11_search_23 : decode cX11_search 23 = .ok (.ifCond .eq 13, 3) := by decide +kernel
theorem dX11_search_26 : decode cX11_search 26 = .ok (.new 126, 3) := by decide +kernel
theorem dX11_search_29 : decode cX11_search 29 = .ok (.dup, 1) := by decide +kernel
theorem dX11_search_30 : decode cX11_search 30 = .ok (.ldc 241, 2) := by decide +kernel
theorem dX11_search_32 : decode cX11_search 32 = .ok (.invokespecial 130, 3) := by decide +kernel
theorem dX11_search_35 : decode cX11_search 35 = .ok (.athrow, 1) := by decide +kernel
theorem dX11_search_36 : decode cX11_search 36 = .ok (.aload_n 0, 1) := by decide +kernel
theorem dX11_search_37 : decode cX11_search 37 = .ok (.getfield 66, 3) := by decide +kernel
theorem dX11_search_40 : decode cX11_search 40 = .ok (.iload_n 1, 1) := by decide +kernel
theorem dX11_search_41 : decode cX11_search 41 = .ok (.invokevirtual 243, 3) := by decide +kernel
theorem dX11_search_44 : decode cX11_search 44 = .ok (.ireturn, 1) := by decide +kernel
theorem dX11_reached_0 : decode cX11_reached 0 = .ok (.aload_n 0, 1) := by decide +kernel
theorem dX11_reached_1 : decode cX11_reached 1 = .ok (.getfield 66, 3) := by decide +kernel
theorem dX11_reached_4 : decode cX11_reached 4 = .ok (.invokevirtual 249, 3) := by decide +kernel
theorem dX11_reached_7 : decode cX11_reached 7 = .ok (.ireturn, 1) := by decide +kernel
theorem dX11_nodes_0 : decode cX11_nodes 0 = .ok (.aload_n 0, 1) := by decide +kernel
theorem dX11_nodes_1 : decode cX11_nodes 1 = .ok (.getfield 66, 3) := by decide +kernel
theorem dX11_nodes_4 : decode cX11_nodes 4 = .ok (.invokevirtual 252, 3) := by decide +kernel
theorem dX11_nodes_7 : decode cX11_nodes 7 = .ok (.ireturn, 1) := by decide +kernel
theorem dX11_hits_0 : decode cX11_hits 0 = .ok (.aload_n 0, 1) := by decide +kernel
theorem dX11_hits_1 : decode cX11_hits 1 = .ok (.getfield 66, 3) := by decide +kernel
theorem dX11_hits_4 : decode cX11_hits 4 = .ok (.invokevirtual 255, 3) := by decide +kernel
theorem dX11_hits_7 : decode cX11_hits 7 = .ok (.ireturn, 1) := by decide +kernel
theorem dX11_cuts_0 : decode cX11_cuts 0 = .ok (.aload_n 0, 1) := by decide +kernel
theorem dX11_cuts_1 : decode cX11_cuts 1 = .ok (.getfield 66, 3) := by decide +kernel
theorem dX11_cuts_4 : decode cX11_cuts 4 = .ok (.invokevirtual 258, 3) := by decide +kernel
theorem dX11_cuts_7 : decode cX11_cuts 7 = .ok (.ireturn, 1) := by decide +kernel
theorem dX11_slots_0 : decode cX11_slots 0 = .ok (.aload_n 0, 1) := by decide +kernel
theorem dX11_slots_1 : decode cX11_slots 1 = .ok (.getfield 43, 3) := by decide +kernel
theorem dX11_slots_4 : decode cX11_slots 4 = .ok (.invokevirtual 189, 3) := by decide +kernel
theorem dX11_slots_7 : decode cX11_slots 7 = .ok (.ireturn, 1) := by decide +kernel
theorem dX11_entries_0 : decode cX11_entries 0 = .ok (.aload_n 0, 1) := by decide +kernel
theorem dX11_entries_1 : decode cX11_entries 1 = .ok (.getfield 43, 3) := by decide +kernel
theorem dX11_entries_4 : decode cX11_entries 4 = .ok (.invokevirtual 195, 3) := by decide +kernel
theorem dX11_entries_7 : decode cX11_entries 7 = .ok (.ireturn, 1) := by decide +kernel
theorem dX11_ofSlot_0 : decode cX11_ofSlot 0 = .ok (.aload_n 0, 1) := by decide +kernel
theorem dX11_ofSlot_1 : decode cX11_ofSlot 1 = .ok (.getfield 43, 3) := by decide +kernel
theorem dX11_ofSlot_4 : decode cX11_ofSlot 4 = .ok (.iload_n 1, 1) := by decide +kernel
theorem dX11_ofSlot_5 : decode cX11_ofSlot 5 = .ok (.invokevirtual 265, 3) := by decide +kernel
theorem dX11_ofSlot_8 : decode cX11_ofSlot 8 = .ok (.ifCond .ne 14, 3) := by decide +kernel
theorem dX11_ofSlot_11 : decode cX11_ofSlot 11 = .ok (.new 112, 3) := by decide +kernel
theorem dX11_ofSlot_14 : decode cX11_ofSlot 14 = .ok (.dup, 1) := by decide +kernel
theorem dX11_ofSlot_15 : decode cX11_ofSlot 15 = .ok (.ldc_w 268, 3) := by decide +kernel
theorem dX11_ofSlot_18 : decode cX11_ofSlot 18 = .ok (.invokespecial 116, 3) := by decide +kernel
theorem dX11_ofSlot_21 : decode cX11_ofSlot 21 = .ok (.athrow, 1) := by decide +kernel
theorem dX11_ofSlot_22 : decode cX11_ofSlot 22 = .ok (.iload_n 2, 1) := by decide +kernel
theorem dX11_ofSlot_23 : decode cX11_ofSlot 23 = .ok (.iconst 0, 1) := by decide +kernel
theorem dX11_ofSlot_24 : decode cX11_ofSlot 24 = .ok (.iconst 3, 1) := by decide +kernel
theorem dX11_ofSlot_25 : decode cX11_ofSlot 25 = .ok (.invokestatic 81, 3) := by decide +kernel
theorem dX11_ofSlot_28 : decode cX11_ofSlot 28 = .ok (.ifCond .ne 14, 3) := by decide +kernel
theorem dX11_ofSlot_31 : decode cX11_ofSlot 31 = .ok (.new 85, 3) := by decide +kernel
theorem dX11_ofSlot_34 : decode cX11_ofSlot 34 = .ok (.dup, 1) := by decide +kernel
theorem dX11_ofSlot_35 : decode cX11_ofSlot 35 = .ok (.ldc_w 270, 3) := by decide +kernel
theorem dX11_ofSlot_38 : decode cX11_ofSlot 38 = .ok (.invokespecial 89, 3) := by decide +kernel
theorem dX11_ofSlot_41 : decode cX11_ofSlot 41 = .ok (.athrow, 1) := by decide +kernel
theorem dX11_ofSlot_42 : decode cX11_ofSlot 42 = .ok (.aload_n 0, 1) := by decide +kernel
theorem dX11_ofSlot_43 : decode cX11_ofSlot 43 = .ok (.getfield 43, 3) := by decide +kernel
theorem dX11_ofSlot_46 : decode cX11_ofSlot 46 = .ok (.iload_n 1, 1) := by decide +kernel
theorem dX11_ofSlot_47 : decode cX11_ofSlot 47 = .ok (.iload_n 2, 1) := by decide +kernel
theorem dX11_ofSlot_48 : decode cX11_ofSlot 48 = .ok (.invokevirtual 272, 3) := by decide +kernel
theorem dX11_ofSlot_51 : decode cX11_ofSlot 51 = .ok (.ireturn, 1) := by decide +kernel
theorem dX11_known_0 : decode cX11_known 0 = .ok (.aload_n 0, 1) := by decide +kernel
theorem dX11_known_1 : decode cX11_known 1 = .ok (.getfield 43, 3) := by decide +kernel
theorem dX11_known_4 : decode cX11_known 4 = .ok (.aload_n 0, 1) := by decide +kernel
theorem dX11_known_5 : decode cX11_known 5 = .ok (.getfield 43, 3) := by decide +kernel
theorem dX11_known_8 : decode cX11_known 8 = .ok (.aload_n 0, 1) := by decide +kernel
theorem dX11_known_9 : decode cX11_known 9 = .ok (.getfield 13, 3) := by decide +kernel
theorem dX11_known_12 : decode cX11_known 12 = .ok (.invokevirtual 220, 3) := by decide +kernel
theorem dX11_known_15 : decode cX11_known 15 = .ok (.invokevirtual 276, 3) := by decide +kernel
theorem dX11_known_18 : decode cX11_known 18 = .ok (.invokevirtual 280, 3) := by decide +kernel
theorem dX11_known_21 : decode cX11_known 21 = .ok (.ireturn, 1) := by decide +kernel
theorem dX11_teach_0 : decode cX11_teach 0 = .ok (.aload_n 0, 1) := by decide +kernel
theorem dX11_teach_1 : decode cX11_teach 1 = .ok (.getfield 22, 3) := by decide +kernel
theorem dX11_teach_4 : decode cX11_teach 4 = .ok (.iload_n 1, 1) := by decide +kernel
theorem dX11_teach_5 : decode cX11_teach 5 = .ok (.invokevirtual 145, 3) := by decide +kernel
theorem dX11_teach_8 : decode cX11_teach 8 = .ok (.ifCond .ne 13, 3) := by decide +kernel
theorem dX11_teach_11 : decode cX11_teach 11 = .ok (.new 112, 3) := by decide +kernel
theorem dX11_teach_14 : decode cX11_teach 14 = .ok (.dup, 1) := by decide +kernel
theorem dX11_teach_15 : decode cX11_teach 15 = .ok (.ldc 148, 2) := by decide +kernel
theorem dX11_teach_17 : decode cX11_teach 17 = .ok (.invokespecial 116, 3) := by decide +kernel
theorem dX11_teach_20 : decode cX11_teach 20 = .ok (.athrow, 1) := by decide +kernel
theorem dX11_teach_21 : decode cX11_teach 21 = .ok (.iload_n 2, 1) := by decide +kernel
theorem dX11_teach_22 : decode cX11_teach 22 = .ok (.iconst 1, 1) := by decide +kernel
theorem dX11_teach_23 : decode cX11_teach 23 = .ok (.bipush 99, 2) := by decide +kernel
theorem dX11_teach_25 : decode cX11_teach 25 = .ok (.invokestatic 81, 3) := by decide +kernel
theorem dX11_teach_28 : decode cX11_teach 28 = .ok (.ifCond .ne 14, 3) := by decide +kernel
theorem dX11_teach_31 : decode cX11_teach 31 = .ok (.new 85, 3) := by decide +kernel
theorem dX11_teach_34 : decode cX11_teach 34 = .ok (.dup, 1) := by decide +kernel
theorem dX11_teach_35 : decode cX11_teach 35 = .ok (.ldc_w 283, 3) := by decide +kernel
theorem dX11_teach_38 : decode cX11_teach 38 = .ok (.invokespecial 89, 3) := by decide +kernel
theorem dX11_teach_41 : decode cX11_teach 41 = .ok (.athrow, 1) := by decide +kernel
theorem dX11_teach_42 : decode cX11_teach 42 = .ok (.aload_n 0, 1) := by decide +kernel
theorem dX11_teach_43 : decode cX11_teach 43 = .ok (.getfield 13, 3) := by decide +kernel
theorem dX11_teach_46 : decode cX11_teach 46 = .ok (.invokevirtual 220, 3) := by decide +kernel
theorem dX11_teach_49 : decode cX11_teach 49 = .ok (.lstore_n 3, 1) := by decide +kernel
theorem dX11_teach_50 : decode cX11_teach 50 = .ok (.aload_n 0, 1) := by decide +kernel
theorem dX11_teach_51 : decode cX11_teach 51 = .ok (.getfield 22, 3) := by decide +kernel
theorem dX11_teach_54 : decode cX11_teach 54 = .ok (.iload_n 1, 1) := by decide +kernel
theorem dX11_teach_55 : decode cX11_teach 55 = .ok (.invokevirtual 205, 3) := by decide +kernel
theorem dX11_teach_58 : decode cX11_teach 58 = .ok (.istore 5, 2) := by decide +kernel
theorem dX11_teach_60 : decode cX11_teach 60 = .ok (.aload_n 0, 1) := by decide +kernel
theorem dX11_teach_61 : decode cX11_teach 61 = .ok (.getfield 73, 3) := by decide +kernel
theorem dX11_teach_64 : decode cX11_teach 64 = .ok (.invokevirtual 285, 3) := by decide +kernel
theorem dX11_teach_67 : decode cX11_teach 67 = .ok (.ifCond .eq 28, 3) := by decide +kernel
theorem dX11_teach_70 : decode cX11_teach 70 = .ok (.aload_n 0, 1) := by decide +kernel
theorem dX11_teach_71 : decode cX11_teach 71 = .ok (.getfield 73, 3) := by decide +kernel
theorem dX11_teach_74 : decode cX11_teach 74 = .ok (.lload_n 3, 1) := by decide +kernel
theorem dX11_teach_75 : decode cX11_teach 75 = .ok (.iload 5, 2) := by decide +kernel
theorem dX11_teach_77 : decode cX11_teach 77 = .ok (.invokevirtual 288, 3) := by decide +kernel
theorem dX11_teach_80 : decode cX11_teach 80 = .ok (.iconst (-1), 1) := by decide +kernel
theorem dX11_teach_81 : decode cX11_teach 81 = .ok (.if_icmp .ne 14, 3) := by decide +kernel
theorem dX11_teach_84 : decode cX11_teach 84 = .ok (.new 126, 3) := by decide +kernel
theorem dX11_teach_87 : decode cX11_teach 87 = .ok (.dup, 1) := by decide +kernel
theorem dX11_teach_88 : decode cX11_teach 88 = .ok (.ldc_w 291, 3) := by decide +kernel
theorem dX11_teach_91 : decode cX11_teach 91 = .ok (.invokespecial 130, 3) := by decide +kernel
theorem dX11_teach_94 : decode cX11_teach 94 = .ok (.athrow, 1) := by decide +kernel
theorem dX11_teach_95 : decode cX11_teach 95 = .ok (.aload_n 0, 1) := by decide +kernel
theorem dX11_teach_96 : decode cX11_teach 96 = .ok (.getfield 73, 3) := by decide +kernel
theorem dX11_teach_99 : decode cX11_teach 99 = .ok (.lload_n 3, 1) := by decide +kernel
theorem dX11_teach_100 : decode cX11_teach 100 = .ok (.iload 5, 2) := by decide +kernel
theorem dX11_teach_102 : decode cX11_teach 102 = .ok (.iload_n 2, 1) := by decide +kernel
theorem dX11_teach_103 : decode cX11_teach 103 = .ok (.invokevirtual 293, 3) := by decide +kernel
theorem dX11_teach_106 : decode cX11_teach 106 = .ok (.aload_n 0, 1) := by decide +kernel
theorem dX11_teach_107 : decode cX11_teach 107 = .ok (.getfield 73, 3) := by decide +kernel
theorem dX11_teach_110 : decode cX11_teach 110 = .ok (.invokevirtual 297, 3) := by decide +kernel
theorem dX11_teach_113 : decode cX11_teach 113 = .ok (.ireturn, 1) := by decide +kernel
theorem dX11_told_0 : decode cX11_told 0 = .ok (.aload_n 0, 1) := by decide +kernel
theorem dX11_told_1 : decode cX11_told 1 = .ok (.getfield 73, 3) := by decide +kernel
theorem dX11_told_4 : decode cX11_told 4 = .ok (.aload_n 0, 1) := by decide +kernel
theorem dX11_told_5 : decode cX11_told 5 = .ok (.getfield 13, 3) := by decide +kernel
theorem dX11_told_8 : decode cX11_told 8 = .ok (.invokevirtual 220, 3) := by decide +kernel
theorem dX11_told_11 : decode cX11_told 11 = .ok (.aload_n 0, 1) := by decide +kernel
theorem dX11_told_12 : decode cX11_told 12 = .ok (.getfield 22, 3) := by decide +kernel
theorem dX11_told_15 : decode cX11_told 15 = .ok (.invokevirtual 298, 3) := by decide +kernel
theorem dX11_told_18 : decode cX11_told 18 = .ok (.ireturn, 1) := by decide +kernel
theorem dX11_playOut_0 : decode cX11_playOut 0 = .ok (.iload_n 1, 1) := by decide +kernel
theorem dX11_playOut_1 : decode cX11_playOut 1 = .ok (.iconst 1, 1) := by decide +kernel
theorem dX11_playOut_2 : decode cX11_playOut 2 = .ok (.iconst 3, 1) := by decide +kernel
theorem dX11_playOut_3 : decode cX11_playOut 3 = .ok (.invokestatic 81, 3) := by decide +kernel
theorem dX11_playOut_6 : decode cX11_playOut 6 = .ok (.ifCond .ne 13, 3) := by decide +kernel
theorem dX11_playOut_9 : decode cX11_playOut 9 = .ok (.new 85, 3) := by decide +kernel
theorem dX11_playOut_12 : decode cX11_playOut 12 = .ok (.dup, 1) := by decide +kernel
theorem dX11_playOut_13 : decode cX11_playOut 13 = .ok (.ldc 233, 2) := by decide +kernel
theorem dX11_playOut_15 : decode cX11_playOut 15 = .ok (.invokespecial 89, 3) := by decide +kernel
theorem dX11_playOut_18 : decode cX11_playOut 18 = .ok (.athrow, 1) := by decide +kernel
theorem dX11_playOut_19 : decode cX11_playOut 19 = .ok (.iload_n 2, 1) := by decide +kernel
theorem dX11_playOut_20 : decode cX11_playOut 20 = .ok (.iconst 1, 1) := by decide +kernel
theorem dX11_playOut_21 : decode cX11_playOut 21 = .ok (.bipush 10, 2) := by decide +kernel
theorem dX11_playOut_23 : decode cX11_playOut 23 = .ok (.invokestatic 81, 3) := by decide +kernel
theorem dX11_playOut_26 : decode cX11_playOut 26 = .ok (.ifCond .ne 14, 3) := by decide +kernel
theorem dX11_playOut_29 : decode cX11_playOut 29 = .ok (.new 85, 3) := by decide +kernel
theorem dX11_playOut_32 : decode cX11_playOut 32 = .ok (.dup, 1) := by decide +kernel
theorem dX11_playOut_33 : decode cX11_playOut 33 = .ok (.ldc_w 305, 3) := by decide +kernel
theorem dX11_playOut_36 : decode cX11_playOut 36 = .ok (.invokespecial 89, 3) := by decide +kernel
theorem dX11_playOut_39 : decode cX11_playOut 39 = .ok (.athrow, 1) := by decide +kernel
theorem dX11_playOut_40 : decode cX11_playOut 40 = .ok (.iconst 0, 1) := by decide +kernel
theorem dX11_playOut_41 : decode cX11_playOut 41 = .ok (.istore_n 3, 1) := by decide +kernel
theorem dX11_playOut_42 : decode cX11_playOut 42 = .ok (.iload_n 3, 1) := by decide +kernel
theorem dX11_playOut_43 : decode cX11_playOut 43 = .ok (.iload_n 2, 1) := by decide +kernel
theorem dX11_playOut_44 : decode cX11_playOut 44 = .ok (.if_icmp .ge 22, 3) := by decide +kernel
theorem dX11_playOut_47 : decode cX11_playOut 47 = .ok (.aload_n 0, 1) := by decide +kernel
theorem dX11_playOut_48 : decode cX11_playOut 48 = .ok (.invokevirtual 217, 3) := by decide +kernel
theorem dX11_playOut_51 : decode cX11_playOut 51 = .ok (.ifCond .ne 15, 3) := by decide +kernel
theorem dX11_playOut_54 : decode cX11_playOut 54 = .ok (.aload_n 0, 1) := by decide +kernel
theorem dX11_playOut_55 : decode cX11_playOut 55 = .ok (.iload_n 1, 1) := by decide +kernel
theorem dX11_playOut_56 : decode cX11_playOut 56 = .ok (.invokevirtual 302, 3) := by decide +kernel
theorem dX11_playOut_59 : decode cX11_playOut 59 = .ok (.pop, 1) := by decide +kernel
theorem dX11_playOut_60 : decode cX11_playOut 60 = .ok (.iinc 3 1, 3) := by decide +kernel
theorem dX11_playOut_63 : decode cX11_playOut 63 = .ok (.goto (-21), 3) := by decide +kernel
theorem dX11_playOut_66 : decode cX11_playOut 66 = .ok (.iload_n 3, 1) := by decide +kernel
theorem dX11_playOut_67 : decode cX11_playOut 67 = .ok (.ireturn, 1) := by decide +kernel
theorem dX11_pages_0 : decode cX11_pages 0 = .ok (.aload_n 0, 1) := by decide +kernel
theorem dX11_pages_1 : decode cX11_pages 1 = .ok (.getfield 73, 3) := by decide +kernel
theorem dX11_pages_4 : decode cX11_pages 4 = .ok (.invokevirtual 297, 3) := by decide +kernel
theorem dX11_pages_7 : decode cX11_pages 7 = .ok (.ireturn, 1) := by decide +kernel
theorem dX11_digest_0 : decode cX11_digest 0 = .ok (.aload_n 0, 1) := by decide +kernel
theorem dX11_digest_1 : decode cX11_digest 1 = .ok (.ldc2_w 307, 3) := by decide +kernel
theorem dX11_digest_4 : decode cX11_digest 4 = .ok (.invokevirtual 309, 3) := by decide +kernel
theorem dX11_digest_7 : decode cX11_digest 7 = .ok (.lstore_n 1, 1) := by decide +kernel
theorem dX11_digest_8 : decode cX11_digest 8 = .ok (.aload_n 0, 1) := by decide +kernel
theorem dX11_digest_9 : decode cX11_digest 9 = .ok (.lload_n 1, 1) := by decide +kernel
theorem dX11_digest_10 : decode cX11_digest 10 = .ok (.invokevirtual 313, 3) := by decide +kernel
theorem dX11_digest_13 : decode cX11_digest 13 = .ok (.lstore_n 1, 1) := by decide +kernel
theorem dX11_digest_14 : decode cX11_digest 14 = .ok (.aload_n 0, 1) := by decide +kernel
theorem dX11_digest_15 : decode cX11_digest 15 = .ok (.lload_n 1, 1) := by decide +kernel
theorem dX11_digest_16 : decode cX11_digest 16 = .ok (.invokevirtual 316, 3) := by decide +kernel
theorem dX11_digest_19 : decode cX11_digest 19 = .ok (.lstore_n 1, 1) := by decide +kernel
theorem dX11_digest_20 : decode cX11_digest 20 = .ok (.aload_n 0, 1) := by decide +kernel
theorem dX11_digest_21 : decode cX11_digest 21 = .ok (.lload_n 1, 1) := by decide +kernel
theorem dX11_digest_22 : decode cX11_digest 22 = .ok (.invokevirtual 319, 3) := by decide +kernel
theorem dX11_digest_25 : decode cX11_digest 25 = .ok (.lstore_n 1, 1) := by decide +kernel
theorem dX11_digest_26 : decode cX11_digest 26 = .ok (.lload_n 1, 1) := by decide +kernel
theorem dX11_digest_27 : decode cX11_digest 27 = .ok (.aload_n 0, 1) := by decide +kernel
theorem dX11_digest_28 : decode cX11_digest 28 = .ok (.invokevirtual 322, 3) := by decide +kernel
theorem dX11_digest_31 : decode cX11_digest 31 = .ok (.i2l, 1) := by decide +kernel
theorem dX11_digest_32 : decode cX11_digest 32 = .ok (.invokestatic 325, 3) := by decide +kernel
theorem dX11_digest_35 : decode cX11_digest 35 = .ok (.lstore_n 1, 1) := by decide +kernel
theorem dX11_digest_36 : decode cX11_digest 36 = .ok (.lload_n 1, 1) := by decide +kernel
theorem dX11_digest_37 : decode cX11_digest 37 = .ok (.aload_n 0, 1) := by decide +kernel
theorem dX11_digest_38 : decode cX11_digest 38 = .ok (.invokevirtual 329, 3) := by decide +kernel
theorem dX11_digest_41 : decode cX11_digest 41 = .ok (.i2l, 1) := by decide +kernel
theorem dX11_digest_42 : decode cX11_digest 42 = .ok (.invokestatic 325, 3) := by decide +kernel
theorem dX11_digest_45 : decode cX11_digest 45 = .ok (.lstore_n 1, 1) := by decide +kernel
theorem dX11_digest_46 : decode cX11_digest 46 = .ok (.lload_n 1, 1) := by decide +kernel
theorem dX11_digest_47 : decode cX11_digest 47 = .ok (.aload_n 0, 1) := by decide +kernel
theorem dX11_digest_48 : decode cX11_digest 48 = .ok (.getfield 73, 3) := by decide +kernel
theorem dX11_digest_51 : decode cX11_digest 51 = .ok (.invokevirtual 297, 3) := by decide +kernel
theorem dX11_digest_54 : decode cX11_digest 54 = .ok (.i2l, 1) := by decide +kernel
theorem dX11_digest_55 : decode cX11_digest 55 = .ok (.invokestatic 325, 3) := by decide +kernel
theorem dX11_digest_58 : decode cX11_digest 58 = .ok (.lreturn, 1) := by decide +kernel
