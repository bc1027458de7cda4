theorem dX12_valueOf_0 : decode cX12_valueOf 0 = .ok (.aload_n 0, 1) := by decide +kernel
theorem dX12_valueOf_1 : decode cX12_valueOf 1 = .ok (.iconst 0, 1) := by decide +kernel
theorem dX12_valueOf_2 : decode cX12_valueOf 2 = .ok (.putfield 64, 3) := by decide +kernel
theorem dX12_valueOf_5 : decode cX12_valueOf 5 = .ok (.aload_n 0, 1) := by decide +kernel
theorem dX12_valueOf_6 : decode cX12_valueOf 6 = .ok (.iload_n 1, 1) := by decide +kernel
theorem dX12_valueOf_7 : decode cX12_valueOf 7 = .ok (.invokevirtual 232, 3) := by decide +kernel
theorem dX12_valueOf_10 : decode cX12_valueOf 10 = .ok (.ifCond .ne 9, 3) := by decide +kernel
theorem dX12_valueOf_13 : decode cX12_valueOf 13 = .ok (.aload_n 0, 1) := by decide +kernel
theorem dX12_valueOf_14 : decode cX12_valueOf 14 = .ok (.iconst 1, 1) := by decide +kernel
theorem dX12_valueOf_15 : decode cX12_valueOf 15 = .ok (.invokevirtual 217, 3) := by decide +kernel
theorem dX12_valueOf_18 : decode cX12_valueOf 18 = .ok (.ireturn, 1) := by decide +kernel
theorem dX12_valueOf_19 : decode cX12_valueOf 19 = .ok (.iload_n 2, 1) := by decide +kernel
theorem dX12_valueOf_20 : decode cX12_valueOf 20 = .ok (.iconst 1, 1) := by decide +kernel
theorem dX12_valueOf_21 : decode cX12_valueOf 21 = .ok (.iconst 3, 1) := by decide +kernel
theorem dX12_valueOf_22 : decode cX12_valueOf 22 = .ok (.invokestatic 83, 3) := by decide +kernel
theorem dX12_valueOf_25 : decode cX12_valueOf 25 = .ok (.ifCond .eq 16, 3) := by decide +kernel
theorem dX12_valueOf_28 : decode cX12_valueOf 28 = .ok (.aload_n 0, 1) := by decide +kernel
theorem dX12_valueOf_29 : decode cX12_valueOf 29 = .ok (.iconst 0, 1) := by decide +kernel
theorem dX12_valueOf_30 : decode cX12_valueOf 30 = .ok (.iload_n 1, 1) := by decide +kernel
theorem dX12_valueOf_31 : decode cX12_valueOf 31 = .ok (.iload_n 2, 1) := by decide +kernel
theorem dX12_valueOf_32 : decode cX12_valueOf 32 = .ok (.iconst 1, 1) := by decide +kernel
theorem dX12_valueOf_33 : decode cX12_valueOf 33 = .ok (.isub, 1) := by decide +kernel
theorem dX12_valueOf_34 : decode cX12_valueOf 34 = .ok (.invokevirtual 145, 3) := by decide +kernel
theorem dX12_valueOf_37 : decode cX12_valueOf 37 = .ok (.ineg, 1) := by decide +kernel
theorem dX12_valueOf_38 : decode cX12_valueOf 38 = .ok (.goto 8, 3) := by decide +kernel
theorem dX12_valueOf_41 : decode cX12_valueOf 41 = .ok (.aload_n 0, 1) := by decide +kernel
theorem dX12_valueOf_42 : decode cX12_valueOf 42 = .ok (.iconst 2, 1) := by decide +kernel
theorem dX12_valueOf_43 : decode cX12_valueOf 43 = .ok (.invokevirtual 217, 3) := by decide +kernel
theorem dX12_valueOf_46 : decode cX12_valueOf 46 = .ok (.ireturn, 1) := by decide +kernel
theorem dX12_search_0 : decode cX12_search 0 = .ok (.aload_n 0, 1) := by decide +kernel
theorem dX12_search_1 : decode cX12_search 1 = .ok (.iconst 0, 1) := by decide +kernel
theorem dX12_search_2 : decode cX12_search 2 = .ok (.putfield 64, 3) := by decide +kernel
theorem dX12_search_5 : decode cX12_search 5 = .ok (.iload_n 1, 1) := by decide +kernel
theorem dX12_search_6 : decode cX12_search 6 = .ok (.iconst 1, 1) := by decide +kernel
theorem dX12_search_7 : decode cX12_search 7 = .ok (.iconst 4, 1) := by decide +kernel
theorem dX12_search_8 : decode cX12_search 8 = .ok (.invokestatic 83, 3) := by decide +kernel
theorem dX12_search_11 : decode cX12_search 11 = .ok (.ifCond .ne 9, 3) := by decide +kernel
theorem dX12_search_14 : decode cX12_search 14 = .ok (.aload_n 0, 1) := by decide +kernel
theorem dX12_search_15 : decode cX12_search 15 = .ok (.iconst 1, 1) := by decide +kernel
theorem dX12_search_16 : decode cX12_search 16 = .ok (.invokevirtual 217, 3) := by decide +kernel
theorem dX12_search_19 : decode cX12_search 19 = .ok (.ireturn, 1) := by decide +kernel
theorem dX12_search_20 : decode cX12_search 20 = .ok (.aload_n 0, 1) := by decide +kernel
theorem dX12_search_21 : decode cX12_search 21 = .ok (.invokevirtual 104, 3) := by decide +kernel
theorem dX12_search_24 : decode cX12_search 24 = .ok (.ifCond .eq 11, 3) := by decide +kernel
theorem dX12_search_27 : decode cX12_search 27 = .ok (.aload_n 0, 1) := by decide +kernel
theorem dX12_search_28 : decode cX12_search 28 = .ok (.iconst 2, 1) := by decide +kernel
theorem dX12_search_29 : decode cX12_search 29 = .ok (.invokevirtual 217, 3) := by decide +kernel
theorem dX12_search_32 : decode cX12_search 32 = .ok (.goto 8, 3) := by decide +kernel
theorem dX12_search_35 : decode cX12_search 35 = .ok (.aload_n 0, 1) := by decide +kernel
theorem dX12_search_36 : decode cX12_search 36 = .ok (.iload_n 1, 1) := by decide +kernel
theorem dX12_search_37 : decode cX12_search 37 = .ok (.invokevirtual 238, 3) := by decide +kernel
theorem dX12_search_40 : decode cX12_search 40 = .ok (.ireturn, 1) := by decide +kernel
theorem dX12_bestFrom_0 : decode cX12_bestFrom 0 = .ok (.aload_n 0, 1) := by decide +kernel
theorem dX12_bestFrom_1 : decode cX12_bestFrom 1 = .ok (.iconst 0, 1) := by decide +kernel
theorem dX12_bestFrom_2 : decode cX12_bestFrom 2 = .ok (.putfield 64, 3) := by decide +kernel
theorem dX12_bestFrom_5 : decode cX12_bestFrom 5 = .ok (.aload_n 0, 1) := by decide +kernel
theorem dX12_bestFrom_6 : decode cX12_bestFrom 6 = .ok (.getfield 51, 3) := by decide +kernel
theorem dX12_bestFrom_9 : decode cX12_bestFrom 9 = .ok (.iconst (-1), 1) := by decide +kernel
theorem dX12_bestFrom_10 : decode cX12_bestFrom 10 = .ok (.if_icmp .ne 7, 3) := by decide +kernel
theorem dX12_bestFrom_13 : decode cX12_bestFrom 13 = .ok (.iconst (-1), 1) := by decide +kernel
theorem dX12_bestFrom_14 : decode cX12_bestFrom 14 = .ok (.goto 10, 3) := by decide +kernel
theorem dX12_bestFrom_17 : decode cX12_bestFrom 17 = .ok (.aload_n 0, 1) := by decide +kernel
theorem dX12_bestFrom_18 : decode cX12_bestFrom 18 = .ok (.getfield 51, 3) := by decide +kernel
theorem dX12_bestFrom_21 : decode cX12_bestFrom 21 = .ok (.bipush 100, 2) := by decide +kernel
theorem dX12_bestFrom_23 : decode cX12_bestFrom 23 = .ok (.idiv, 1) := by decide +kernel
theorem dX12_bestFrom_24 : decode cX12_bestFrom 24 = .ok (.ireturn, 1) := by decide +kernel
theorem dX12_bestTo_0 : decode cX12_bestTo 0 = .ok (.aload_n 0, 1) := by decide +kernel
theorem dX12_bestTo_1 : decode cX12_bestTo 1 = .ok (.iconst 0, 1) := by decide +kernel
theorem dX12_bestTo_2 : decode cX12_bestTo 2 = .ok (.putfield 64, 3) := by decide +kernel
theorem dX12_bestTo_5 : decode cX12_bestTo 5 = .ok (.aload_n 0, 1) := by decide +kernel
theorem dX12_bestTo_6 : decode cX12_bestTo 6 = .ok (.getfield 51, 3) := by decide +kernel
theorem dX12_bestTo_9 : decode cX12_bestTo 9 = .ok (.iconst (-1), 1) := by decide +kernel
theorem dX12_bestTo_10 : decode cX12_bestTo 10 = .ok (.if_icmp .ne 7, 3) := by decide +kernel
theorem dX12_bestTo_13 : decode cX12_bestTo 13 = .ok (.iconst (-1), 1) := by decide +kernel
theorem dX12_bestTo_14 : decode cX12_bestTo 14 = .ok (.goto 10, 3) := by decide +kernel
theorem dX12_bestTo_17 : decode cX12_bestTo 17 = .ok (.aload_n 0, 1) := by decide +kernel
theorem dX12_bestTo_18 : decode cX12_bestTo 18 = .ok (.getfield 51, 3) := by decide +kernel
theorem dX12_bestTo_21 : decode cX12_bestTo 21 = .ok (.bipush 100, 2) := by decide +kernel
theorem dX12_bestTo_23 : decode cX12_bestTo 23 = .ok (.irem, 1) := by decide +kernel
theorem dX12_bestTo_24 : decode cX12_bestTo 24 = .ok (.ireturn, 1) := by decide +kernel
theorem dX12_reached_0 : decode cX12_reached 0 = .ok (.aload_n 0, 1) := by decide +kernel
theorem dX12_reached_1 : decode cX12_reached 1 = .ok (.iconst 0, 1) := by decide +kernel
theorem dX12_reached_2 : decode cX12_reached 2 = .ok (.putfield 64, 3) := by decide +kernel
theorem dX12_reached_5 : decode cX12_reached 5 = .ok (.aload_n 0, 1) := by decide +kernel
theorem dX12_reached_6 : decode cX12_reached 6 = .ok (.getfield 207, 3) := by decide +kernel
theorem dX12_reached_9 : decode cX12_reached 9 = .ok (.ireturn, 1) := by decide +kernel
theorem dX12_nodes_0 : decode cX12_nodes 0 = .ok (.aload_n 0, 1) := by decide +kernel
theorem dX12_nodes_1 : decode cX12_nodes 1 = .ok (.iconst 0, 1) := by decide +kernel
theorem dX12_nodes_2 : decode cX12_nodes 2 = .ok (.putfield 64, 3) := by decide +kernel
theorem dX12_nodes_5 : decode cX12_nodes 5 = .ok (.aload_n 0, 1) := by decide +kernel
theorem dX12_nodes_6 : decode cX12_nodes 6 = .ok (.getfield 169, 3) := by decide +kernel
theorem dX12_nodes_9 : decode cX12_nodes 9 = .ok (.ireturn, 1) := by decide +kernel
theorem dX12_hits_0 : decode cX12_hits 0 = .ok (.aload_n 0, 1) := by decide +kernel
theorem dX12_hits_1 : decode cX12_hits 1 = .ok (.iconst 0, 1) := by decide +kernel
theorem dX12_hits_2 : decode cX12_hits 2 = .ok (.putfield 64, 3) := by decide +kernel
theorem dX12_hits_5 : decode cX12_hits 5 = .ok (.aload_n 0, 1) := by decide +kernel
theorem dX12_hits_6 : decode cX12_hits 6 = .ok (.getfield 182, 3) := by decide +kernel
theorem dX12_hits_9 : decode cX12_hits 9 = .ok (.ireturn, 1) := by decide +kernel
theorem dX12_cuts_0 : decode cX12_cuts 0 = .ok (.aload_n 0, 1) := by decide +kernel
theorem dX12_cuts_1 : decode cX12_cuts 1 = .ok (.iconst 0, 1) := by decide +kernel
theorem dX12_cuts_2 : decode cX12_cuts 2 = .ok (.putfield 64, 3) := by decide +kernel
theorem dX12_cuts_5 : decode cX12_cuts 5 = .ok (.aload_n 0, 1) := by decide +kernel
theorem dX12_cuts_6 : decode cX12_cuts 6 = .ok (.getfield 198, 3) := by decide +kernel
theorem dX12_cuts_9 : decode cX12_cuts 9 = .ok (.ireturn, 1) := by decide +kernel
theorem dX12_killerAt_0 : decode cX12_killerAt 0 = .ok (.iload_n 1, 1) := by decide +kernel
theorem dX12_killerAt_1 : decode cX12_killerAt 1 = .ok (.iconst 1, 1) := by decide +kernel
theorem dX12_killerAt_2 : decode cX12_killerAt 2 = .ok (.iconst 4, 1) := by decide +kernel
theorem dX12_killerAt_3 : decode cX12_killerAt 3 = .ok (.invokestatic 83, 3) := by decide +kernel
theorem dX12_killerAt_6 : decode cX12_killerAt 6 = .ok (.ifCond .eq 21, 3) := by decide +kernel
theorem dX12_killerAt_9 : decode cX12_killerAt 9 = .ok (.aload_n 0, 1) := by decide +kernel
theorem dX12_killerAt_10 : decode cX12_killerAt 10 = .ok (.getfield 207, 3) := by decide +kernel
theorem dX12_killerAt_13 : decode cX12_killerAt 13 = .ok (.ifCond .le 14, 3) := by decide +kernel
theorem dX12_killerAt_16 : decode cX12_killerAt 16 = .ok (.aload_n 0, 1) := by decide +kernel
theorem dX12_killerAt_17 : decode cX12_killerAt 17 = .ok (.getfield 45, 3) := by decide +kernel
theorem dX12_killerAt_20 : decode cX12_killerAt 20 = .ok (.iload_n 1, 1) := by decide +kernel
theorem dX12_killerAt_21 : decode cX12_killerAt 21 = .ok (.aaload, 1) := by decide +kernel
theorem dX12_killerAt_22 : decode cX12_killerAt 22 = .ok (.iload_n 2, 1) := by decide +kernel
theorem dX12_killerAt_23 : decode cX12_killerAt 23 = .ok (.iaload, 1) := by decide +kernel
theorem dX12_killerAt_24 : decode cX12_killerAt 24 = .ok (.goto 4, 3) := by decide +kernel
theorem dX12_killerAt_27 : decode cX12_killerAt 27 = .ok (.iconst (-1), 1) := by decide +kernel
theorem dX12_killerAt_28 : decode cX12_killerAt 28 = .ok (.ireturn, 1) := by decide +kernel
theorem dX12_killer_0 : decode cX12_killer 0 = .ok (.aload_n 0, 1) := by decide +kernel
theorem dX12_killer_1 : decode cX12_killer 1 = .ok (.iconst 0, 1) := by decide +kernel
theorem dX12_killer_2 : decode cX12_killer 2 = .ok (.putfield 64, 3) := by decide +kernel
theorem dX12_killer_5 : decode cX12_killer 5 = .ok (.aload_n 0, 1) := by decide +kernel
theorem dX12_killer_6 : decode cX12_killer 6 = .ok (.iload_n 1, 1) := by decide +kernel
theorem dX12_killer_7 : decode cX12_killer 7 = .ok (.iload_n 2, 1) := by decide +kernel
theorem dX12_killer_8 : decode cX12_killer 8 = .ok (.ifCond .eq 7, 3) := by decide +kernel
theorem dX12_killer_11 : decode cX12_killer 11 = .ok (.iconst 1, 1) := by decide +kernel
theorem dX12_killer_12 : decode cX12_killer 12 = .ok (.goto 4, 3) := by decide +kernel
theorem dX12_killer_15 : decode cX12_killer 15 = .ok (.iconst 0, 1) := by decide +kernel
theorem dX12_killer_16 : decode cX12_killer 16 = .ok (.invokevirtual 241, 3) := by decide +kernel
theorem dX12_killer_19 : decode cX12_killer 19 = .ok (.ireturn, 1) := by decide +kernel
theorem dX12_slots_0 : decode cX12_slots 0 = .ok (.aload_n 0, 1) := by decide +kernel
theorem dX12_slots_1 : decode cX12_slots 1 = .ok (.iconst 0, 1) := by decide +kernel
theorem dX12_slots_2 : decode cX12_slots 2 = .ok (.putfield 64, 3) := by decide +kernel
theorem dX12_slots_5 : decode cX12_slots 5 = .ok (.aload_n 0, 1) := by decide +kernel
theorem dX12_slots_6 : decode cX12_slots 6 = .ok (.getfield 32, 3) := by decide +kernel
theorem dX12_slots_9 : decode cX12_slots 9 = .ok (.ireturn, 1) := by decide +kernel
theorem dX12_entries_0 : decode cX12_entries 0 = .ok (.aload_n 0, 1) := by decide +kernel
theorem dX12_entries_1 : decode cX12_entries 1 = .ok (.iconst 0, 1) := by decide +kernel
theorem dX12_entries_2 : decode cX12_entries 2 = .ok (.putfield 64, 3) := by decide +kernel
theorem dX12_entries_5 : decode cX12_entries 5 = .ok (.aload_n 0, 1) := by decide +kernel
theorem dX12_entries_6 : decode cX12_entries 6 = .ok (.invokevirtual 154, 3) := by decide +kernel
theorem dX12_entries_9 : decode cX12_entries 9 = .ok (.ireturn, 1) := by decide +kernel
theorem dX12_toldOf_0 : decode cX12_toldOf 0 = .ok (.aload_n 0, 1) := by decide +kernel
theorem dX12_toldOf_1 : decode cX12_toldOf 1 = .ok (.getfield 39, 3) := by decide +kernel
theorem dX12_toldOf_4 : decode cX12_toldOf 4 = .ok (.iload_n 1, 1) := by decide +kernel
theorem dX12_toldOf_5 : decode cX12_toldOf 5 = .ok (.aaload, 1) := by decide +kernel
theorem dX12_toldOf_6 : decode cX12_toldOf 6 = .ok (.iconst 0, 1) := by decide +kernel
theorem dX12_toldOf_7 : decode cX12_toldOf 7 = .ok (.iaload, 1) := by decide +kernel
theorem dX12_toldOf_8 : decode cX12_toldOf 8 = .ok (.ifCond .ne 7, 3) := by decide +kernel
theorem dX12_toldOf_11 : decode cX12_toldOf 11 = .ok (.iconst (-1), 1) := by decide +kernel
theorem dX12_toldOf_12 : decode cX12_toldOf 12 = .ok (.goto 11, 3) := by decide +kernel
theorem dX12_toldOf_15 : decode cX12_toldOf 15 = .ok (.aload_n 0, 1) := by decide +kernel
theorem dX12_toldOf_16 : decode cX12_toldOf 16 = .ok (.getfield 39, 3) := by decide +kernel
theorem dX12_toldOf_19 : decode cX12_toldOf 19 = .ok (.iload_n 1, 1) := by decide +kernel
theorem dX12_toldOf_20 : decode cX12_toldOf 20 = .ok (.aaload, 1) := by decide +kernel
theorem dX12_toldOf_21 : decode cX12_toldOf 21 = .ok (.iload_n 2, 1) := by decide +kernel
theorem dX12_toldOf_22 : decode cX12_toldOf 22 = .ok (.iaload, 1) := by decide +kernel
theorem dX12_toldOf_23 : decode cX12_toldOf 23 = .ok (.ireturn, 1) := by decide +kernel
theorem dX12_ofSlot_0 : decode cX12_ofSlot 0 = .ok (.aload_n 0, 1) := by decide +kernel
theorem dX12_ofSlot_1 : decode cX12_ofSlot 1 = .ok (.iconst 0, 1) := by decide +kernel
theorem dX12_ofSlot_2 : decode cX12_ofSlot 2 = .ok (.putfield 64, 3) := by decide +kernel
theorem dX12_ofSlot_5 : decode cX12_ofSlot 5 = .ok (.iload_n 1, 1) := by decide +kernel
theorem dX12_ofSlot_6 : decode cX12_ofSlot 6 = .ok (.iconst 0, 1) := by decide +kernel
theorem dX12_ofSlot_7 : decode cX12_ofSlot 7 = .ok (.aload_n 0, 1) := by decide +kernel
theorem dX12_ofSlot_8 : decode cX12_ofSlot 8 = .ok (.getfield 32, 3) := by decide +kernel
theorem dX12_ofSlot_11 : decode cX12_ofSlot 11 = .ok (.iconst 1, 1) := by decide +kernel
theorem dX12_ofSlot_12 : decode cX12_ofSlot 12 = .ok (.isub, 1) := by decide +kernel
theorem dX12_ofSlot_13 : decode cX12_ofSlot 13 = .ok (.invokestatic 83, 3) := by decide +kernel
theorem dX12_ofSlot_16 : decode cX12_ofSlot 16 = .ok (.ifCond .ne 9, 3) := by decide +kernel
theorem dX12_ofSlot_19 : decode cX12_ofSlot 19 = .ok (.aload_n 0, 1) := by decide +kernel
theorem dX12_ofSlot_20 : decode cX12_ofSlot 20 = .ok (.iconst 1, 1) := by decide +kernel
theorem dX12_ofSlot_21 : decode cX12_ofSlot 21 = .ok (.invokevirtual 217, 3) := by decide +kernel
theorem dX12_ofSlot_24 : decode cX12_ofSlot 24 = .ok (.ireturn, 1) := by decide +kernel
theorem dX12_ofSlot_25 : decode cX12_ofSlot 25 = .ok (.iload_n 2, 1) := by decide +kernel
theorem dX12_ofSlot_26 : decode cX12_ofSlot 26 = .ok (.iconst 0, 1) := by decide +kernel
theorem dX12_ofSlot_27 : decode cX12_ofSlot 27 = .ok (.iconst 3, 1) := by decide +kernel
theorem dX12_ofSlot_28 : decode cX12_ofSlot 28 = .ok (.invokestatic 83, 3) := by decide +kernel
theorem dX12_ofSlot_31 : decode cX12_ofSlot 31 = .ok (.ifCond .eq 12, 3) := by decide +kernel
theorem dX12_ofSlot_34 : decode cX12_ofSlot 34 = .ok (.aload_n 0, 1) := by decide +kernel
theorem dX12_ofSlot_35 : decode cX12_ofSlot 35 = .ok (.iload_n 1, 1) := by decide +kernel
theorem dX12_ofSlot_36 : decode cX12_ofSlot 36 = .ok (.iload_n 2, 1) := by decide +kernel
theorem dX12_ofSlot_37 : decode cX12_ofSlot 37 = .ok (.invokevirtual 244, 3) := by decide +kernel
theorem dX12_ofSlot_40 : decode cX12_ofSlot 40 = .ok (.goto 8, 3) := by decide +kernel
theorem dX12_ofSlot_43 : decode cX12_ofSlot 43 = .ok (.aload_n 0, 1) := by decide +kernel
theorem dX12_ofSlot_44 : decode cX12_ofSlot 44 = .ok (.iconst 2, 1) := by decide +kernel
theorem dX12_ofSlot_45 : decode cX12_ofSlot 45 = .ok (.invokevirtual 217, 3) := by decide +kernel
theorem dX12_ofSlot_48 : decode cX12_ofSlot 48 = .ok (.ireturn, 1) := by decide +kernel
theorem dX12_knownNow_0 : decode cX12_knownNow 0 = .ok (.aload_n 0, 1) := by decide +kernel
theorem dX12_knownNow_1 : decode cX12_knownNow 1 = .ok (.aload_n 0, 1) := by decide +kernel
theorem dX12_knownNow_2 : decode cX12_knownNow 2 = .ok (.invokevirtual 157, 3) := by decide +kernel
theorem dX12_knownNow_5 : decode cX12_knownNow 5 = .ok (.invokevirtual 175, 3) := by decide +kernel
theorem dX12_knownNow_8 : decode cX12_knownNow 8 = .ok (.istore_n 1, 1) := by decide +kernel
theorem dX12_knownNow_9 : decode cX12_knownNow 9 = .ok (.iload_n 1, 1) := by decide +kernel
theorem dX12_knownNow_10 : decode cX12_knownNow 10 = .ok (.iconst (-1), 1) := by decide +kernel
theorem dX12_knownNow_11 : decode cX12_knownNow 11 = .ok (.if_icmp .ne 7, 3) := by decide +kernel
theorem dX12_knownNow_14 : decode cX12_knownNow 14 = .ok (.iconst 0, 1) := by decide +kernel
theorem dX12_knownNow_15 : decode cX12_knownNow 15 = .ok (.goto 11, 3) := by decide +kernel
theorem dX12_knownNow_18 : decode cX12_knownNow 18 = .ok (.aload_n 0, 1) := by decide +kernel
theorem dX12_knownNow_19 : decode cX12_knownNow 19 = .ok (.getfield 39, 3) := by decide +kernel
theorem dX12_knownNow_22 : decode cX12_knownNow 22 = .ok (.iload_n 1, 1) := by decide +kernel
theorem dX12_knownNow_23 : decode cX12_knownNow 23 = .ok (.aaload, 1) := by decide +kernel
theorem dX12_knownNow_24 : decode cX12_knownNow 24 = .ok (.iconst 0, 1) := by decide +kernel
theorem dX12_knownNow_25 : decode cX12_knownNow 25 = .ok (.iaload, 1) := by decide +kernel
theorem dX12_knownNow_26 : decode cX12_knownNow 26 = .ok (.ireturn, 1) := by decide +kernel
theorem dX12_known_0 : decode cX12_known 0 = .ok (.aload_n 0, 1) := by decide +kernel
theorem dX12_known_1 : decode cX12_known 1 = .ok (.iconst 0, 1) := by decide +kernel
theorem dX12_known_2 : decode cX12_known 2 = .ok (.putfield 64, 3) := by decide +kernel
theorem dX12_known_5 : decode cX12_known 5 = .ok (.aload_n 0, 1) := by decide +kernel
theorem dX12_known_6 : decode cX12_known 6 = .ok (.invokevirtual 247, 3) := by decide +kernel
theorem dX12_known_9 : decode cX12_known 9 = .ok (.ireturn, 1) := by decide +kernel
theorem dX12_teach_0 : decode cX12_teach 0 = .ok (.aload_n 0, 1) := by decide +kernel
theorem dX12_teach_1 : decode cX12_teach 1 = .ok (.iconst 0, 1) := by decide +kernel
theorem dX12_teach_2 : decode cX12_teach 2 = .ok (.putfield 64, 3) := by decide +kernel
theorem dX12_teach_5 : decode cX12_teach 5 = .ok (.aload_n 0, 1) := by decide +kernel
theorem dX12_teach_6 : decode cX12_teach 6 = .ok (.iload_n 1, 1) := by decide +kernel
theorem dX12_teach_7 : decode cX12_teach 7 = .ok (.invokevirtual 232, 3) := by decide +kernel
theorem dX12_teach_10 : decode cX12_teach 10 = .ok (.ifCond .ne 9, 3) := by decide +kernel
theorem dX12_teach_13 : decode cX12_teach 13 = .ok (.aload_n 0, 1) := by decide +kernel
theorem dX12_teach_14 : decode cX12_teach 14 = .ok (.iconst 1, 1) := by decide +kernel
theorem dX12_teach_15 : decode cX12_teach 15 = .ok (.invokevirtual 217, 3) := by decide +kernel
theorem dX12_teach_18 : decode cX12_teach 18 = .ok (.ireturn, 1) := by decide +kernel
theorem dX12_teach_19 : decode cX12_teach 19 = .ok (.iload_n 2, 1) := by decide +kernel
theorem dX12_teach_20 : decode cX12_teach 20 = .ok (.iconst 1, 1) := by decide +kernel
theorem dX12_teach_21 : decode cX12_teach 21 = .ok (.bipush 99, 2) := by decide +kernel
theorem dX12_teach_23 : decode cX12_teach 23 = .ok (.invokestatic 83, 3) := by decide +kernel
theorem dX12_teach_26 : decode cX12_teach 26 = .ok (.ifCond .ne 9, 3) := by decide +kernel
theorem dX12_teach_29 : decode cX12_teach 29 = .ok (.aload_n 0, 1) := by decide +kernel
theorem dX12_teach_30 : decode cX12_teach 30 = .ok (.iconst 2, 1) := by decide +kernel
theorem dX12_teach_31 : decode cX12_teach 31 = .ok (.invokevirtual 217, 3) := by decide +kernel
theorem dX12_teach_34 : decode cX12_teach 34 = .ok (.ireturn, 1) := by decide +kernel
theorem dX12_teach_35 : decode cX12_teach 35 = .ok (.aload_n 0, 1) := by decide +kernel
theorem dX12_teach_36 : decode cX12_teach 36 = .ok (.getfield 29, 3) := by decide +kernel
theorem dX12_teach_39 : decode cX12_teach 39 = .ok (.iconst 0, 1) := by decide +kernel
theorem dX12_teach_40 : decode cX12_teach 40 = .ok (.aaload, 1) := by decide +kernel
theorem dX12_teach_41 : decode cX12_teach 41 = .ok (.iload_n 1, 1) := by decide +kernel
theorem dX12_teach_42 : decode cX12_teach 42 = .ok (.iaload, 1) := by decide +kernel
theorem dX12_teach_43 : decode cX12_teach 43 = .ok (.istore_n 3, 1) := by decide +kernel
theorem dX12_teach_44 : decode cX12_teach 44 = .ok (.aload_n 0, 1) := by decide +kernel
theorem dX12_teach_45 : decode cX12_teach 45 = .ok (.aload_n 0, 1) := by decide +kernel
theorem dX12_teach_46 : decode cX12_teach 46 = .ok (.invokevirtual 157, 3) := by decide +kernel
theorem dX12_teach_49 : decode cX12_teach 49 = .ok (.iload_n 3, 1) := by decide +kernel
theorem dX12_teach_50 : decode cX12_teach 50 = .ok (.invokevirtual 213, 3) := by decide +kernel
theorem dX12_teach_53 : decode cX12_teach 53 = .ok (.istore 4, 2) := by decide +kernel
theorem dX12_teach_55 : decode cX12_teach 55 = .ok (.iload 4, 2) := by decide +kernel
theorem dX12_teach_57 : decode cX12_teach 57 = .ok (.iconst (-1), 1) := by decide +kernel
theorem dX12_teach_58 : decode cX12_teach 58 = .ok (.if_icmp .ne 18, 3) := by decide +kernel
theorem dX12_teach_61 : decode cX12_teach 61 = .ok (.aload_n 0, 1) := by decide +kernel
theorem dX12_teach_62 : decode cX12_teach 62 = .ok (.getfield 210, 3) := by decide +kernel
theorem dX12_teach_65 : decode cX12_teach 65 = .ok (.bipush 30, 2) := by decide +kernel
theorem dX12_teach_67 : decode cX12_teach 67 = .ok (.if_icmp .ne 9, 3) := by decide +kernel
theorem dX12_teach_70 : decode cX12_teach 70 = .ok (.aload_n 0, 1) := by decide +kernel
theorem dX12_teach_71 : decode cX12_teach 71 = .ok (.iconst 3, 1) := by decide +kernel
theorem dX12_teach_72 : decode cX12_teach 72 = .ok (.invokevirtual 217, 3) := by decide +kernel
theorem dX12_teach_75 : decode cX12_teach 75 = .ok (.ireturn, 1) := by decide +kernel
theorem dX12_teach_76 : decode cX12_teach 76 = .ok (.iload 4, 2) := by decide +kernel
theorem dX12_teach_78 : decode cX12_teach 78 = .ok (.iconst (-1), 1) := by decide +kernel
theorem dX12_teach_79 : decode cX12_teach 79 = .ok (.if_icmp .ne 19, 3) := by decide +kernel
theorem dX12_teach_82 : decode cX12_teach 82 = .ok (.aload_n 0, 1) := by decide +kernel
theorem dX12_teach_83 : decode cX12_teach 83 = .ok (.getfield 210, 3) := by decide +kernel
theorem dX12_teach_86 : decode cX12_teach 86 = .ok (.istore 4, 2) := by decide +kernel
theorem dX12_teach_88 : decode cX12_teach 88 = .ok (.aload_n 0, 1) := by decide +kernel
theorem dX12_teach_89 : decode cX12_teach 89 = .ok (.dup, 1) := by decide +kernel
theorem dX12_teach_90 : decode cX12_teach 90 = .ok (.getfield 210, 3) := by decide +kernel
theorem dX12_teach_93 : decode cX12_teach 93 = .ok (.iconst 1, 1) := by decide +kernel
theorem dX12_teach_94 : decode cX12_teach 94 = .ok (.iadd, 1) := by decide +kernel
theorem dX12_teach_95 : decode cX12_teach 95 = .ok (.putfield 210, 3) := by decide +kernel
theorem dX12_teach_98 : decode cX12_teach 98 = .ok (.aload_n 0, 1) := by decide +kernel
theorem dX12_teach_99 : decode cX12_teach 99 = .ok (.getfield 54, 3) := by decide +kernel
theorem dX12_teach_102 : decode cX12_teach 102 = .ok (.iload 4, 2) := by decide +kernel
theorem dX12_teach_104 : decode cX12_teach 104 = .ok (.aload_n 0, 1) := by decide +kernel
theorem dX12_teach_105 : decode cX12_teach 105 = .ok (.invokevirtual 157, 3) := by decide +kernel
theorem dX12_teach_108 : decode cX12_teach 108 = .ok (.lastore, 1) := by decide +kernel
theorem dX12_teach_109 : decode cX12_teach 109 = .ok (.aload_n 0, 1) := by decide +kernel
theorem dX12_teach_110 : decode cX12_teach 110 = .ok (.getfield 57, 3) := by decide +kernel
theorem dX12_teach_113 : decode cX12_teach 113 = .ok (.iload 4, 2) := by decide +kernel
theorem dX12_teach_115 : decode cX12_teach 115 = .ok (.aaload, 1) := by decide +kernel
theorem dX12_teach_116 : decode cX12_teach 116 = .ok (.iconst 0, 1) := by decide +kernel
theorem dX12_teach_117 : decode cX12_teach 117 = .ok (.iload_n 3, 1) := by decide +kernel
theorem dX12_teach_118 : decode cX12_teach 118 = .ok (.iastore, 1) := by decide +kernel
theorem dX12_teach_119 : decode cX12_teach 119 = .ok (.aload_n 0, 1) := by decide +kernel
theorem dX12_teach_120 : decode cX12_teach 120 = .ok (.getfield 57, 3) := by decide +kernel
theorem dX12_teach_123 : decode cX12_teach 123 = .ok (.iload 4, 2) := by decide +kernel
theorem dX12_teach_125 : decode cX12_teach 125 = .ok (.aaload, 1) := by decide +kernel
theorem dX12_teach_126 : decode cX12_teach 126 = .ok (.iconst 1, 1) := by decide +kernel
theorem dX12_teach_127 : decode cX12_teach 127 = .ok (.iload_n 2, 1) := by decide +kernel
theorem dX12_teach_128 : decode cX12_teach 128 = .ok (.iastore, 1) := by decide +kernel
theorem dX12_teach_129 : decode cX12_teach 129 = .ok (.aload_n 0, 1) := by decide +kernel
theorem dX12_teach_130 : decode cX12_teach 130 = .ok (.getfield 210, 3) := by decide +kernel
theorem dX12_teach_133 : decode cX12_teach 133 = .ok (.ireturn, 1) := by decide +kernel
theorem dX12_told_0 : decode cX12_told 0 = .ok (.aload_n 0, 1) := by decide +kernel
theorem dX12_told_1 : decode cX12_told 1 = .ok (.iconst 0, 1) := by decide +kernel
theorem dX12_told_2 : decode cX12_told 2 = .ok (.putfield 64, 3) := by decide +kernel
theorem dX12_told_5 : decode cX12_told 5 = .ok (.aload_n 0, 1) := by decide +kernel
theorem dX12_told_6 : decode cX12_told 6 = .ok (.invokevirtual 250, 3) := by decide +kernel
theorem dX12_told_9 : decode cX12_told 9 = .ok (.ireturn, 1) := by decide +kernel
theorem dX12_goNow_0 : decode cX12_goNow 0 = .ok (.aload_n 0, 1) := by decide +kernel
theorem dX12_goNow_1 : decode cX12_goNow 1 = .ok (.invokevirtual 250, 3) := by decide +kernel
theorem dX12_goNow_4 : decode cX12_goNow 4 = .ok (.istore_n 2, 1) := by decide +kernel
theorem dX12_goNow_5 : decode cX12_goNow 5 = .ok (.iload_n 2, 1) := by decide +kernel
theorem dX12_goNow_6 : decode cX12_goNow 6 = .ok (.iconst (-1), 1) := by decide +kernel
theorem dX12_goNow_7 : decode cX12_goNow 7 = .ok (.if_icmp .ne 38, 3) := by decide +kernel
theorem dX12_goNow_10 : decode cX12_goNow 10 = .ok (.aload_n 0, 1) := by decide +kernel
theorem dX12_goNow_11 : decode cX12_goNow 11 = .ok (.iload_n 1, 1) := by decide +kernel
theorem dX12_goNow_12 : decode cX12_goNow 12 = .ok (.invokevirtual 238, 3) := by decide +kernel
theorem dX12_goNow_15 : decode cX12_goNow 15 = .ok (.pop, 1) := by decide +kernel
theorem dX12_goNow_16 : decode cX12_goNow 16 = .ok (.aload_n 0, 1) := by decide +kernel
theorem dX12_goNow_17 : decode cX12_goNow 17 = .ok (.iconst 0, 1) := by decide +kernel
theorem dX12_goNow_18 : decode cX12_goNow 18 = .ok (.invokevirtual 123, 3) := by decide +kernel
theorem dX12_goNow_21 : decode cX12_goNow 21 = .ok (.pop, 1) := by decide +kernel
theorem dX12_goNow_22 : decode cX12_goNow 22 = .ok (.iconst 0, 1) := by decide +kernel
theorem dX12_goNow_23 : decode cX12_goNow 23 = .ok (.istore_n 2, 1) := by decide +kernel
theorem dX12_goNow_24 : decode cX12_goNow 24 = .ok (.aload_n 0, 1) := by decide +kernel
theorem dX12_goNow_25 : decode cX12_goNow 25 = .ok (.getfield 29, 3) := by decide +kernel
theorem dX12_goNow_28 : decode cX12_goNow 28 = .ok (.iconst 0, 1) := by decide +kernel
theorem dX12_goNow_29 : decode cX12_goNow 29 = .ok (.aaload, 1) := by decide +kernel
theorem dX12_goNow_30 : decode cX12_goNow 30 = .ok (.iload_n 2, 1) := by decide +kernel
theorem dX12_goNow_31 : decode cX12_goNow 31 = .ok (.iaload, 1) := by decide +kernel
theorem dX12_goNow_32 : decode cX12_goNow 32 = .ok (.aload_n 0, 1) := by decide +kernel
theorem dX12_goNow_33 : decode cX12_goNow 33 = .ok (.getfield 51, 3) := by decide +kernel
theorem dX12_goNow_36 : decode cX12_goNow 36 = .ok (.if_icmp .eq 9, 3) := by decide +kernel
theorem dX12_goNow_39 : decode cX12_goNow 39 = .ok (.iinc 2 1, 3) := by decide +kernel
theorem dX12_goNow_42 : decode cX12_goNow 42 = .ok (.goto (-18), 3) := by decide +kernel
theorem dX12_goNow_45 : decode cX12_goNow 45 = .ok (.aload_n 0, 1) := by decide +kernel
theorem dX12_goNow_46 : decode cX12_goNow 46 = .ok (.aload_n 0, 1) := by decide +kernel
theorem dX12_goNow_47 : decode cX12_goNow 47 = .ok (.getfield 29, 3) := by decide +kernel
theorem dX12_goNow_50 : decode cX12_goNow 50 = .ok (.iconst 0, 1) := by decide +kernel
theorem dX12_goNow_51 : decode cX12_goNow 51 = .ok (.aaload, 1) := by decide +kernel
theorem dX12_goNow_52 : decode cX12_goNow 52 = .ok (.iload_n 2, 1) := by decide +kernel
theorem dX12_goNow_53 : decode cX12_goNow 53 = .ok (.iaload, 1) := by decide +kernel
theorem dX12_goNow_54 : decode cX12_goNow 54 = .ok (.invokevirtual 235, 3) := by decide +kernel
theorem dX12_goNow_57 : decode cX12_goNow 57 = .ok (.pop, 1) := by decide +kernel
theorem dX12_goNow_58 : decode cX12_goNow 58 = .ok (.iload_n 2, 1) := by decide +kernel
theorem dX12_goNow_59 : decode cX12_goNow 59 = .ok (.ireturn, 1) := by decide +kernel
theorem dX12_go_0 : decode cX12_go 0 = .ok (.aload_n 0, 1) := by decide +kernel
theorem dX12_go_1 : decode cX12_go 1 = .ok (.iconst 0, 1) := by decide +kernel
theorem dX12_go_2 : decode cX12_go 2 = .ok (.putfield 64, 3) := by decide +kernel
theorem dX12_go_5 : decode cX12_go 5 = .ok (.iload_n 1, 1) := by decide +kernel
theorem dX12_go_6 : decode cX12_go 6 = .ok (.iconst 1, 1) := by decide +kernel
theorem dX12_go_7 : decode cX12_go 7 = .ok (.iconst 4, 1) := by decide +kernel
theorem dX12_go_8 : decode cX12_go 8 = .ok (.invokestatic 83, 3) := by decide +kernel
theorem dX12_go_11 : decode cX12_go 11 = .ok (.ifCond .ne 9, 3) := by decide +kernel
theorem dX12_go_14 : decode cX12_go 14 = .ok (.aload_n 0, 1) := by decide +kernel
theorem dX12_go_15 : decode cX12_go 15 = .ok (.iconst 1, 1) := by decide +kernel
theorem dX12_go_16 : decode cX12_go 16 = .ok (.invokevirtual 217, 3) := by decide +kernel
theorem dX12_go_19 : decode cX12_go 19 = .ok (.ireturn, 1) := by decide +kernel
theorem dX12_go_20 : decode cX12_go 20 = .ok (.aload_n 0, 1) := by decide +kernel
theorem dX12_go_21 : decode cX12_go 21 = .ok (.invokevirtual 104, 3) := by decide +kernel
theorem dX12_go_24 : decode cX12_go 24 = .ok (.ifCond .eq 11, 3) := by decide +kernel
theorem dX12_go_27 : decode cX12_go 27 = .ok (.aload_n 0, 1) := by decide +kernel
theorem dX12_go_28 : decode cX12_go 28 = .ok (.iconst 2, 1) := by decide +kernel
theorem dX12_go_29 : decode cX12_go 29 = .ok (.invokevirtual 217, 3) := by decide +kernel
theorem dX12_go_32 : decode cX12_go 32 = .ok (.goto 8, 3) := by decide +kernel
theorem dX12_go_35 : decode cX12_go 35 = .ok (.aload_n 0, 1) := by decide +kernel
theorem dX12_go_36 : decode cX12_go 36 = .ok (.iload_n 1, 1) := by decide +kernel
theorem dX12_go_37 : decode cX12_go 37 = .ok (.invokevirtual 253, 3) := by decide +kernel
theorem dX12_go_40 : decode cX12_go 40 = .ok (.ireturn, 1) := by decide +kernel
theorem dX12_playOut_0 : decode cX12_playOut 0 = .ok (.aload_n 0, 1) := by decide +kernel
theorem dX12_playOut_1 : decode cX12_playOut 1 = .ok (.iconst 0, 1) := by decide +kernel
theorem dX12_playOut_2 : decode cX12_playOut 2 = .ok (.putfield 64, 3) := by decide +kernel
theorem dX12_playOut_5 : decode cX12_playOut 5 = .ok (.iload_n 1, 1) := by decide +kernel
theorem dX12_playOut_6 : decode cX12_playOut 6 = .ok (.iconst 1, 1) := by decide +kernel
theorem dX12_playOut_7 : decode cX12_playOut 7 = .ok (.iconst 3, 1) := by decide +kernel
theorem dX12_playOut_8 : decode cX12_playOut 8 = .ok (.invokestatic 83, 3) := by decide +kernel
theorem dX12_playOut_11 : decode cX12_playOut 11 = .ok (.ifCond .eq 13, 3) := by decide +kernel
theorem dX12_playOut_14 : decode cX12_playOut 14 = .ok (.iload_n 2, 1) := by decide +kernel
theorem dX12_playOut_15 : decode cX12_playOut 15 = .ok (.iconst 1, 1) := by decide +kernel
theorem dX12_playOut_16 : decode cX12_playOut 16 = .ok (.bipush 10, 2) := by decide +kernel
theorem dX12_playOut_18 : decode cX12_playOut 18 = .ok (.invokestatic 83, 3) := by decide +kernel
theorem dX12_playOut_21 : decode cX12_playOut 21 = .ok (.ifCond .ne 9, 3) := by decide +kernel
theorem dX12_playOut_24 : decode cX12_playOut 24 = .ok (.aload_n 0, 1) := by decide +kernel
theorem dX12_playOut_25 : decode cX12_playOut 25 = .ok (.iconst 1, 1) := by decide +kernel
theorem dX12_playOut_26 : decode cX12_playOut 26 = .ok (.invokevirtual 217, 3) := by decide +kernel
theorem dX12_playOut_29 : decode cX12_playOut 29 = .ok (.ireturn, 1) := by decide +kernel
theorem dX12_playOut_30 : decode cX12_playOut 30 = .ok (.iconst 0, 1) := by decide +kernel
theorem dX12_playOut_31 : decode cX12_playOut 31 = .ok (.istore_n 3, 1) := by decide +kernel
theorem dX12_playOut_32 : decode cX12_playOut 32 = .ok (.iload_n 3, 1) := by decide +kernel
theorem dX12_playOut_33 : decode cX12_playOut 33 = .ok (.iload_n 2, 1) := by decide +kernel
theorem dX12_playOut_34 : decode cX12_playOut 34 = .ok (.if_icmp .ge 22, 3) := by decide +kernel
theorem dX12_playOut_37 : decode cX12_playOut 37 = .ok (.aload_n 0, 1) := by decide +kernel
theorem dX12_playOut_38 : decode cX12_playOut 38 = .ok (.invokevirtual 104, 3) := by decide +kernel
theorem dX12_playOut_41 : decode cX12_playOut 41 = .ok (.ifCond .ne 15, 3) := by decide +kernel
theorem dX12_playOut_44 : decode cX12_playOut 44 = .ok (.aload_n 0, 1) := by decide +kernel
theorem dX12_playOut_45 : decode cX12_playOut 45 = .ok (.iload_n 1, 1) := by decide +kernel
theorem dX12_playOut_46 : decode cX12_playOut 46 = .ok (.invokevirtual 253, 3) := by decide +kernel
theorem dX12_playOut_49 : decode cX12_playOut 49 = .ok (.pop, 1) := by decide +kernel
theorem dX12_playOut_50 : decode cX12_playOut 50 = .ok (.iinc 3 1, 3) := by decide +kernel
theorem dX12_playOut_53 : decode cX12_playOut 53 = .ok (.goto (-21), 3) := by decide +kernel
theorem dX12_playOut_56 : decode cX12_playOut 56 = .ok (.iload_n 3, 1) := by decide +kernel
theorem dX12_playOut_57 : decode cX12_playOut 57 = .ok (.ireturn, 1) := by decide +kernel
theorem dX12_pages_0 : decode cX12_pages 0 = .ok (.aload_n 0, 1) := by decide +kernel
theorem dX12_pages_1 : decode cX12_pages 1 = .ok (.iconst 0, 1) := by decide +kernel
theorem dX12_pages_2 : decode cX12_pages 2 = .ok (.putfield 64, 3) := by decide +kernel
theorem dX12_pages_5 : decode cX12_pages 5 = .ok (.aload_n 0, 1) := by decide +kernel
theorem dX12_pages_6 : decode cX12_pages 6 = .ok (.getfield 210, 3) := by decide +kernel
theorem dX12_pages_9 : decode cX12_pages 9 = .ok (.ireturn, 1) := by decide +kernel
theorem dX12_effort_0 : decode cX12_effort 0 = .ok (.aload_n 0, 1) := by decide +kernel
theorem dX12_effort_1 : decode cX12_effort 1 = .ok (.iconst 0, 1) := by decide +kernel
theorem dX12_effort_2 : decode cX12_effort 2 = .ok (.putfield 64, 3) := by decide +kernel
theorem dX12_effort_5 : decode cX12_effort 5 = .ok (.aload_n 0, 1) := by decide +kernel
theorem dX12_effort_6 : decode cX12_effort 6 = .ok (.getfield 198, 3) := by decide +kernel
theorem dX12_effort_9 : decode cX12_effort 9 = .ok (.ifCond .ne 7, 3) := by decide +kernel
theorem dX12_effort_12 : decode cX12_effort 12 = .ok (.dconst 0, 1) := by decide +kernel
theorem dX12_effort_13 : decode cX12_effort 13 = .ok (.goto 14, 3) := by decide +kernel
theorem dX12_effort_16 : decode cX12_effort 16 = .ok (.aload_n 0, 1) := by decide +kernel
theorem dX12_effort_17 : decode cX12_effort 17 = .ok (.getfield 169, 3) := by decide +kernel
theorem dX12_effort_20 : decode cX12_effort 20 = .ok (.i2d, 1) := by decide +kernel
theorem dX12_effort_21 : decode cX12_effort 21 = .ok (.aload_n 0, 1) := by decide +kernel
theorem dX12_effort_22 : decode cX12_effort 22 = .ok (.getfield 198, 3) := by decide +kernel
theorem dX12_effort_25 : decode cX12_effort 25 = .ok (.i2d, 1) := by decide +kernel
theorem dX12_effort_26 : decode cX12_effort 26 = .ok (.ddiv, 1) := by decide +kernel
theorem dX12_effort_27 : decode cX12_effort 27 = .ok (.dreturn, 1) := by decide +kernel
theorem dX12_add_0 : decode cX12_add 0 = .ok (.aload_n 0, 1) := by decide +kernel
theorem dX12_add_1 : decode cX12_add 1 = .ok (.aload_n 0, 1) := by decide +kernel
theorem dX12_add_2 : decode cX12_add 2 = .ok (.getfield 256, 3) := by decide +kernel
theorem dX12_add_5 : decode cX12_add 5 = .ok (.ldc2_w 260, 3) := by decide +kernel
theorem dX12_add_8 : decode cX12_add 8 = .ok (.lmul, 1) := by decide +kernel
theorem dX12_add_9 : decode cX12_add 9 = .ok (.lload_n 1, 1) := by decide +kernel
theorem dX12_add_10 : decode cX12_add 10 = .ok (.ladd, 1) := by decide +kernel
theorem dX12_add_11 : decode cX12_add 11 = .ok (.putfield 256, 3) := by decide +kernel
theorem dX12_add_14 : decode cX12_add 14 = .ok (.return_, 1) := by decide +kernel
