theorem dX7_tryMoves_0 : decode cX7_tryMoves 0 = .ok (.sipush (-10000), 3) := by decide +kernel
theorem dX7_tryMoves_3 : decode cX7_tryMoves 3 = .ok (.istore 7, 2) := by decide +kernel
theorem dX7_tryMoves_5 : decode cX7_tryMoves 5 = .ok (.iconst (-1), 1) := by decide +kernel
theorem dX7_tryMoves_6 : decode cX7_tryMoves 6 = .ok (.istore 8, 2) := by decide +kernel
theorem dX7_tryMoves_8 : decode cX7_tryMoves 8 = .ok (.iload 5, 2) := by decide +kernel
theorem dX7_tryMoves_10 : decode cX7_tryMoves 10 = .ok (.istore 9, 2) := by decide +kernel
theorem dX7_tryMoves_12 : decode cX7_tryMoves 12 = .ok (.iconst 0, 1) := by decide +kernel
theorem dX7_tryMoves_13 : decode cX7_tryMoves 13 = .ok (.istore 10, 2) := by decide +kernel
theorem dX7_tryMoves_15 : decode cX7_tryMoves 15 = .ok (.iload 10, 2) := by decide +kernel
theorem dX7_tryMoves_17 : decode cX7_tryMoves 17 = .ok (.aload_n 1, 1) := by decide +kernel
theorem dX7_tryMoves_18 : decode cX7_tryMoves 18 = .ok (.invokevirtual 89, 3) := by decide +kernel
theorem dX7_tryMoves_21 : decode cX7_tryMoves 21 = .ok (.if_icmp .ge 66, 3) := by decide +kernel
theorem dX7_tryMoves_24 : decode cX7_tryMoves 24 = .ok (.iload 7, 2) := by decide +kernel
theorem dX7_tryMoves_26 : decode cX7_tryMoves 26 = .ok (.iload 6, 2) := by decide +kernel
theorem dX7_tryMoves_28 : decode cX7_tryMoves 28 = .ok (.if_icmp .ge 59, 3) := by decide +kernel
theorem dX7_tryMoves_31 : decode cX7_tryMoves 31 = .ok (.aload_n 1, 1) := by decide +kernel
theorem dX7_tryMoves_32 : decode cX7_tryMoves 32 = .ok (.aload_n 1, 1) := by decide +kernel
theorem dX7_tryMoves_33 : decode cX7_tryMoves 33 = .ok (.iload 10, 2) := by decide +kernel
theorem dX7_tryMoves_35 : decode cX7_tryMoves 35 = .ok (.invokevirtual 122, 3) := by decide +kernel
theorem dX7_tryMoves_38 : decode cX7_tryMoves 38 = .ok (.invokevirtual 125, 3) := by decide +kernel
theorem dX7_tryMoves_41 : decode cX7_tryMoves 41 = .ok (.istore 11, 2) := by decide +kernel
theorem dX7_tryMoves_43 : decode cX7_tryMoves 43 = .ok (.aload_n 0, 1) := by decide +kernel
theorem dX7_tryMoves_44 : decode cX7_tryMoves 44 = .ok (.iload 11, 2) := by decide +kernel
theorem dX7_tryMoves_46 : decode cX7_tryMoves 46 = .ok (.iload 4, 2) := by decide +kernel
theorem dX7_tryMoves_48 : decode cX7_tryMoves 48 = .ok (.iload 9, 2) := by decide +kernel
theorem dX7_tryMoves_50 : decode cX7_tryMoves 50 = .ok (.iload 6, 2) := by decide +kernel
theorem dX7_tryMoves_52 : decode cX7_tryMoves 52 = .ok (.invokevirtual 126, 3) := by decide +kernel
theorem dX7_tryMoves_55 : decode cX7_tryMoves 55 = .ok (.istore 12, 2) := by decide +kernel
theorem dX7_tryMoves_57 : decode cX7_tryMoves 57 = .ok (.iload 12, 2) := by decide +kernel
theorem dX7_tryMoves_59 : decode cX7_tryMoves 59 = .ok (.iload 7, 2) := by decide +kernel
theorem dX7_tryMoves_61 : decode cX7_tryMoves 61 = .ok (.if_icmp .le 11, 3) := by decide +kernel
theorem dX7_tryMoves_64 : decode cX7_tryMoves 64 = .ok (.iload 12, 2) := by decide +kernel
theorem dX7_tryMoves_66 : decode cX7_tryMoves 66 = .ok (.istore 7, 2) := by decide +kernel
theorem dX7_tryMoves_68 : decode cX7_tryMoves 68 = .ok (.iload 11, 2) := by decide +kernel
theorem dX7_tryMoves_70 : decode cX7_tryMoves 70 = .ok (.istore 8, 2) := by decide +kernel
theorem dX7_tryMoves_72 : decode cX7_tryMoves 72 = .ok (.iload 9, 2) := by decide +kernel
theorem dX7_tryMoves_74 : decode cX7_tryMoves 74 = .ok (.iload 7, 2) := by decide +kernel
theorem dX7_tryMoves_76 : decode cX7_tryMoves 76 = .ok (.invokestatic 130, 3) := by decide +kernel
theorem dX7_tryMoves_79 : decode cX7_tryMoves 79 = .ok (.istore 9, 2) := by decide +kernel
theorem dX7_tryMoves_81 : decode cX7_tryMoves 81 = .ok (.iinc 10 1, 3) := by decide +kernel
theorem dX7_tryMoves_84 : decode cX7_tryMoves 84 = .ok (.goto (-69), 3) := by decide +kernel
theorem dX7_tryMoves_87 : decode cX7_tryMoves 87 = .ok (.iload 7, 2) := by decide +kernel
theorem dX7_tryMoves_89 : decode cX7_tryMoves 89 = .ok (.iload 6, 2) := by decide +kernel
theorem dX7_tryMoves_91 : decode cX7_tryMoves 91 = .ok (.if_icmp .lt 12, 3) := by decide +kernel
theorem dX7_tryMoves_94 : decode cX7_tryMoves 94 = .ok (.aload_n 0, 1) := by decide +kernel
theorem dX7_tryMoves_95 : decode cX7_tryMoves 95 = .ok (.aload_n 1, 1) := by decide +kernel
theorem dX7_tryMoves_96 : decode cX7_tryMoves 96 = .ok (.iload 4, 2) := by decide +kernel
theorem dX7_tryMoves_98 : decode cX7_tryMoves 98 = .ok (.iload 8, 2) := by decide +kernel
theorem dX7_tryMoves_100 : decode cX7_tryMoves 100 = .ok (.invokevirtual 136, 3) := by decide +kernel
theorem dX7_tryMoves_103 : decode cX7_tryMoves 103 = .ok (.iload 7, 2) := by decide +kernel
theorem dX7_tryMoves_105 : decode cX7_tryMoves 105 = .ok (.iload 6, 2) := by decide +kernel
theorem dX7_tryMoves_107 : decode cX7_tryMoves 107 = .ok (.if_icmp .lt 7, 3) := by decide +kernel
theorem dX7_tryMoves_110 : decode cX7_tryMoves 110 = .ok (.iconst 1, 1) := by decide +kernel
theorem dX7_tryMoves_111 : decode cX7_tryMoves 111 = .ok (.goto 15, 3) := by decide +kernel
theorem dX7_tryMoves_114 : decode cX7_tryMoves 114 = .ok (.iload 7, 2) := by decide +kernel
theorem dX7_tryMoves_116 : decode cX7_tryMoves 116 = .ok (.iload 5, 2) := by decide +kernel
theorem dX7_tryMoves_118 : decode cX7_tryMoves 118 = .ok (.if_icmp .gt 7, 3) := by decide +kernel
theorem dX7_tryMoves_121 : decode cX7_tryMoves 121 = .ok (.iconst 2, 1) := by decide +kernel
theorem dX7_tryMoves_122 : decode cX7_tryMoves 122 = .ok (.goto 4, 3) := by decide +kernel
theorem dX7_tryMoves_125 : decode cX7_tryMoves 125 = .ok (.iconst 0, 1) := by decide +kernel
theorem dX7_tryMoves_126 : decode cX7_tryMoves 126 = .ok (.istore 10, 2) := by decide +kernel
theorem dX7_tryMoves_128 : decode cX7_tryMoves 128 = .ok (.aload_n 0, 1) := by decide +kernel
theorem dX7_tryMoves_129 : decode cX7_tryMoves 129 = .ok (.getfield 19, 3) := by decide +kernel
theorem dX7_tryMoves_132 : decode cX7_tryMoves 132 = .ok (.lload_n 2, 1) := by decide +kernel
theorem dX7_tryMoves_133 : decode cX7_tryMoves 133 = .ok (.iload 4, 2) := by decide +kernel
theorem dX7_tryMoves_135 : decode cX7_tryMoves 135 = .ok (.iload 7, 2) := by decide +kernel
theorem dX7_tryMoves_137 : decode cX7_tryMoves 137 = .ok (.iload 10, 2) := by decide +kernel
theorem dX7_tryMoves_139 : decode cX7_tryMoves 139 = .ok (.iload 8, 2) := by decide +kernel
theorem dX7_tryMoves_141 : decode cX7_tryMoves 141 = .ok (.invokevirtual 140, 3) := by decide +kernel
theorem dX7_tryMoves_144 : decode cX7_tryMoves 144 = .ok (.aload_n 0, 1) := by decide +kernel
theorem dX7_tryMoves_145 : decode cX7_tryMoves 145 = .ok (.iload 8, 2) := by decide +kernel
theorem dX7_tryMoves_147 : decode cX7_tryMoves 147 = .ok (.putfield 34, 3) := by decide +kernel
theorem dX7_tryMoves_150 : decode cX7_tryMoves 150 = .ok (.iload 7, 2) := by decide +kernel
theorem dX7_tryMoves_152 : decode cX7_tryMoves 152 = .ok (.ireturn, 1) := by decide +kernel
theorem dX7_behind_0 : decode cX7_behind 0 = .ok (.aload_n 0, 1) := by decide +kernel
theorem dX7_behind_1 : decode cX7_behind 1 = .ok (.getfield 9, 3) := by decide +kernel
theorem dX7_behind_4 : decode cX7_behind 4 = .ok (.iload_n 1, 1) := by decide +kernel
theorem dX7_behind_5 : decode cX7_behind 5 = .ok (.invokevirtual 144, 3) := by decide +kernel
theorem dX7_behind_8 : decode cX7_behind 8 = .ok (.istore 5, 2) := by decide +kernel
theorem dX7_behind_10 : decode cX7_behind 10 = .ok (.aload_n 0, 1) := by decide +kernel
theorem dX7_behind_11 : decode cX7_behind 11 = .ok (.iload_n 2, 1) := by decide +kernel
theorem dX7_behind_12 : decode cX7_behind 12 = .ok (.iconst 1, 1) := by decide +kernel
theorem dX7_behind_13 : decode cX7_behind 13 = .ok (.isub, 1) := by decide +kernel
theorem dX7_behind_14 : decode cX7_behind 14 = .ok (.iload 4, 2) := by decide +kernel
theorem dX7_behind_16 : decode cX7_behind 16 = .ok (.ineg, 1) := by decide +kernel
theorem dX7_behind_17 : decode cX7_behind 17 = .ok (.iload_n 3, 1) := by decide +kernel
theorem dX7_behind_18 : decode cX7_behind 18 = .ok (.ineg, 1) := by decide +kernel
theorem dX7_behind_19 : decode cX7_behind 19 = .ok (.invokevirtual 70, 3) := by decide +kernel
theorem dX7_behind_22 : decode cX7_behind 22 = .ok (.ineg, 1) := by decide +kernel
theorem dX7_behind_23 : decode cX7_behind 23 = .ok (.istore 6, 2) := by decide +kernel
theorem dX7_behind_25 : decode cX7_behind 25 = .ok (.aload_n 0, 1) := by decide +kernel
theorem dX7_behind_26 : decode cX7_behind 26 = .ok (.getfield 9, 3) := by decide +kernel
theorem dX7_behind_29 : decode cX7_behind 29 = .ok (.iload_n 1, 1) := by decide +kernel
theorem dX7_behind_30 : decode cX7_behind 30 = .ok (.iload 5, 2) := by decide +kernel
theorem dX7_behind_32 : decode cX7_behind 32 = .ok (.invokevirtual 147, 3) := by decide +kernel
theorem dX7_behind_35 : decode cX7_behind 35 = .ok (.iload 6, 2) := by decide +kernel
theorem dX7_behind_37 : decode cX7_behind 37 = .ok (.ireturn, 1) := by decide +kernel
theorem dX7_noteCut_0 : decode cX7_noteCut 0 = .ok (.aload_n 0, 1) := by decide +kernel
theorem dX7_noteCut_1 : decode cX7_noteCut 1 = .ok (.dup, 1) := by decide +kernel
theorem dX7_noteCut_2 : decode cX7_noteCut 2 = .ok (.getfield 53, 3) := by decide +kernel
theorem dX7_noteCut_5 : decode cX7_noteCut 5 = .ok (.iconst 1, 1) := by decide +kernel
theorem dX7_noteCut_6 : decode cX7_noteCut 6 = .ok (.iadd, 1) := by decide +kernel
theorem dX7_noteCut_7 : decode cX7_noteCut 7 = .ok (.putfield 53, 3) := by decide +kernel
theorem dX7_noteCut_10 : decode cX7_noteCut 10 = .ok (.aload_n 1, 1) := by decide +kernel
theorem dX7_noteCut_11 : decode cX7_noteCut 11 = .ok (.aload_n 1, 1) := by decide +kernel
theorem dX7_noteCut_12 : decode cX7_noteCut 12 = .ok (.iload_n 3, 1) := by decide +kernel
theorem dX7_noteCut_13 : decode cX7_noteCut 13 = .ok (.invokevirtual 151, 3) := by decide +kernel
theorem dX7_noteCut_16 : decode cX7_noteCut 16 = .ok (.invokevirtual 154, 3) := by decide +kernel
theorem dX7_noteCut_19 : decode cX7_noteCut 19 = .ok (.ifCond .ne 12, 3) := by decide +kernel
theorem dX7_noteCut_22 : decode cX7_noteCut 22 = .ok (.aload_n 0, 1) := by decide +kernel
theorem dX7_noteCut_23 : decode cX7_noteCut 23 = .ok (.getfield 30, 3) := by decide +kernel
theorem dX7_noteCut_26 : decode cX7_noteCut 26 = .ok (.iload_n 2, 1) := by decide +kernel
theorem dX7_noteCut_27 : decode cX7_noteCut 27 = .ok (.iload_n 3, 1) := by decide +kernel
theorem dX7_noteCut_28 : decode cX7_noteCut 28 = .ok (.invokevirtual 158, 3) := by decide +kernel
theorem dX7_noteCut_31 : decode cX7_noteCut 31 = .ok (.return_, 1) := by decide +kernel
theorem dX8_init_0 : decode cX8_init 0 = .ok (.aload_n 0, 1) := by decide +kernel
theorem dX8_init_1 : decode cX8_init 1 = .ok (.invokespecial 3, 3) := by decide +kernel
theorem dX8_init_4 : decode cX8_init 4 = .ok (.aload_n 0, 1) := by decide +kernel
theorem dX8_init_5 : decode cX8_init 5 = .ok (.bipush 64, 2) := by decide +kernel
theorem dX8_init_7 : decode cX8_init 7 = .ok (.newarray .long, 2) := by decide +kernel
theorem dX8_init_9 : decode cX8_init 9 = .ok (.putfield 9, 3) := by decide +kernel
theorem dX8_init_12 : decode cX8_init 12 = .ok (.aload_n 0, 1) := by decide +kernel
theorem dX8_init_13 : decode cX8_init 13 = .ok (.bipush 64, 2) := by decide +kernel
theorem dX8_init_15 : decode cX8_init 15 = .ok (.newarray .int, 2) := by decide +kernel
theorem dX8_init_17 : decode cX8_init 17 = .ok (.putfield 15, 3) := by decide +kernel
theorem dX8_init_20 : decode cX8_init 20 = .ok (.aload_n 0, 1) := by decide +kernel
theorem dX8_init_21 : decode cX8_init 21 = .ok (.bipush 64, 2) := by decide +kernel
theorem dX8_init_23 : decode cX8_init 23 = .ok (.newarray .int, 2) := by decide +kernel
theorem dX8_init_25 : decode cX8_init 25 = .ok (.putfield 19, 3) := by decide +kernel
theorem dX8_init_28 : decode cX8_init 28 = .ok (.aload_n 0, 1) := by decide +kernel
theorem dX8_init_29 : decode cX8_init 29 = .ok (.bipush 64, 2) := by decide +kernel
theorem dX8_init_31 : decode cX8_init 31 = .ok (.newarray .int, 2) := by decide +kernel
theorem dX8_init_33 : decode cX8_init 33 = .ok (.putfield 22, 3) := by decide +kernel
theorem dX8_init_36 : decode cX8_init 36 = .ok (.aload_n 0, 1) := by decide +kernel
theorem dX8_init_37 : decode cX8_init 37 = .ok (.bipush 64, 2) := by decide +kernel
theorem dX8_init_39 : decode cX8_init 39 = .ok (.newarray .int, 2) := by decide +kernel
theorem dX8_init_41 : decode cX8_init 41 = .ok (.putfield 25, 3) := by decide +kernel
theorem dX8_init_44 : decode cX8_init 44 = .ok (.aload_n 0, 1) := by decide +kernel
theorem dX8_init_45 : decode cX8_init 45 = .ok (.bipush 32, 2) := by decide +kernel
theorem dX8_init_47 : decode cX8_init 47 = .ok (.putfield 28, 3) := by decide +kernel
theorem dX8_init_50 : decode cX8_init 50 = .ok (.return_, 1) := by decide +kernel
theorem dX8_size_0 : decode cX8_size 0 = .ok (.aload_n 0, 1) := by decide +kernel
theorem dX8_size_1 : decode cX8_size 1 = .ok (.getfield 28, 3) := by decide +kernel
theorem dX8_size_4 : decode cX8_size 4 = .ok (.ireturn, 1) := by decide +kernel
theorem dX8_resize_0 : decode cX8_resize 0 = .ok (.aload_n 0, 1) := by decide +kernel
theorem dX8_resize_1 : decode cX8_resize 1 = .ok (.iload_n 1, 1) := by decide +kernel
theorem dX8_resize_2 : decode cX8_resize 2 = .ok (.putfield 28, 3) := by decide +kernel
theorem dX8_resize_5 : decode cX8_resize 5 = .ok (.aload_n 0, 1) := by decide +kernel
theorem dX8_resize_6 : decode cX8_resize 6 = .ok (.invokevirtual 32, 3) := by decide +kernel
theorem dX8_resize_9 : decode cX8_resize 9 = .ok (.return_, 1) := by decide +kernel
theorem dX8_wipe_0 : decode cX8_wipe 0 = .ok (.iconst 0, 1) := by decide +kernel
theorem dX8_wipe_1 : decode cX8_wipe 1 = .ok (.istore_n 1, 1) := by decide +kernel
theorem dX8_wipe_2 : decode cX8_wipe 2 = .ok (.iload_n 1, 1) := by decide +kernel
theorem dX8_wipe_3 : decode cX8_wipe 3 = .ok (.aload_n 0, 1) := by decide +kernel
theorem dX8_wipe_4 : decode cX8_wipe 4 = .ok (.getfield 15, 3) := by decide +kernel
theorem dX8_wipe_7 : decode cX8_wipe 7 = .ok (.arraylength, 1) := by decide +kernel
theorem dX8_wipe_8 : decode cX8_wipe 8 = .ok (.if_icmp .ge 16, 3) := by decide +kernel
theorem dX8_wipe_11 : decode cX8_wipe 11 = .ok (.aload_n 0, 1) := by decide +kernel
theorem dX8_wipe_12 : decode cX8_wipe 12 = .ok (.getfield 15, 3) := by decide +kernel
theorem dX8_wipe_15 : decode cX8_wipe 15 = .ok (.iload_n 1, 1) := by decide +kernel
theorem dX8_wipe_16 : decode cX8_wipe 16 = .ok (.iconst 0, 1) := by decide +kernel
theorem dX8_wipe_17 : decode cX8_wipe 17 = .ok (.iastore, 1) := by decide +kernel
theorem dX8_wipe_18 : decode cX8_wipe 18 = .ok (.iinc 1 1, 3) := by decide +kernel
theorem dX8_wipe_21 : decode cX8_wipe 21 = .ok (.goto (-19), 3) := by decide +kernel
theorem dX8_wipe_24 : decode cX8_wipe 24 = .ok (.return_, 1) := by decide +kernel
theorem dX8_countEntries_0 : decode cX8_countEntries 0 = .ok (.iconst 0, 1) := by decide +kernel
theorem dX8_countEntries_1 : decode cX8_countEntries 1 = .ok (.istore_n 1, 1) := by decide +kernel
theorem dX8_countEntries_2 : decode cX8_countEntries 2 = .ok (.iconst 0, 1) := by decide +kernel
theorem dX8_countEntries_3 : decode cX8_countEntries 3 = .ok (.istore_n 2, 1) := by decide +kernel
theorem dX8_countEntries_4 : decode cX8_countEntries 4 = .ok (.iload_n 2, 1) := by decide +kernel
theorem dX8_countEntries_5 : decode cX8_countEntries 5 = .ok (.aload_n 0, 1) := by decide +kernel
theorem dX8_countEntries_6 : decode cX8_countEntries 6 = .ok (.getfield 15, 3) := by decide +kernel
theorem dX8_countEntries_9 : decode cX8_countEntries 9 = .ok (.arraylength, 1) := by decide +kernel
theorem dX8_countEntries_10 : decode cX8_countEntries 10 = .ok (.if_icmp .ge 21, 3) := by decide +kernel
theorem dX8_countEntries_13 : decode cX8_countEntries 13 = .ok (.aload_n 0, 1) := by decide +kernel
theorem dX8_countEntries_14 : decode cX8_countEntries 14 = .ok (.getfield 15, 3) := by decide +kernel
theorem dX8_countEntries_17 : decode cX8_countEntries 17 = .ok (.iload_n 2, 1) := by decide +kernel
theorem dX8_countEntries_18 : decode cX8_countEntries 18 = .ok (.iaload, 1) := by decide +kernel
theorem dX8_countEntries_19 : decode cX8_countEntries 19 = .ok (.ifCond .le 6, 3) := by decide +kernel
theorem dX8_countEntries_22 : decode cX8_countEntries 22 = .ok (.iinc 1 1, 3) := by decide +kernel
theorem dX8_countEntries_25 : decode cX8_countEntries 25 = .ok (.iinc 2 1, 3) := by decide +kernel
theorem dX8_countEntries_28 : decode cX8_countEntries 28 = .ok (.goto (-24), 3) := by decide +kernel
theorem dX8_countEntries_31 : decode cX8_countEntries 31 = .ok (.iload_n 1, 1) := by decide +kernel
theorem dX8_countEntries_32 : decode cX8_countEntries 32 = .ok (.ireturn, 1) := by decide +kernel
theorem dX8_isSlot_0 : decode cX8_isSlot 0 = .ok (.iload_n 1, 1) := by decide +kernel
theorem dX8_isSlot_1 : decode cX8_isSlot 1 = .ok (.ifCond .lt 21, 3) := by decide +kernel
theorem dX8_isSlot_4 : decode cX8_isSlot 4 = .ok (.iload_n 1, 1) := by decide +kernel
theorem dX8_isSlot_5 : decode cX8_isSlot 5 = .ok (.aload_n 0, 1) := by decide +kernel
theorem dX8_isSlot_6 : decode cX8_isSlot 6 = .ok (.getfield 28, 3) := by decide +kernel
theorem dX8_isSlot_9 : decode cX8_isSlot 9 = .ok (.if_icmp .ge 13, 3) := by decide +kernel
theorem dX8_isSlot_12 : decode cX8_isSlot 12 = .ok (.iload_n 1, 1) := by decide +kernel
theorem dX8_isSlot_13 : decode cX8_isSlot 13 = .ok (.bipush 64, 2) := by decide +kernel
theorem dX8_isSlot_15 : decode cX8_isSlot 15 = .ok (.if_icmp .ge 7, 3) := by decide +kernel
theorem dX8_isSlot_18 : decode cX8_isSlot 18 = .ok (.iconst 1, 1) := by decide +kernel
theorem dX8_isSlot_19 : decode cX8_isSlot 19 = .ok (.goto 4, 3) := by decide +kernel
theorem dX8_isSlot_22 : decode cX8_isSlot 22 = .ok (.iconst 0, 1) := by decide +kernel
theorem dX8_isSlot_23 : decode cX8_isSlot 23 = .ok (.ireturn, 1) := by decide +kernel
theorem dX8_slotOf_0 : decode cX8_slotOf 0 = .ok (.aload_n 0, 1) := by decide +kernel
theorem dX8_slotOf_1 : decode cX8_slotOf 1 = .ok (.getfield 28, 3) := by decide +kernel
theorem dX8_slotOf_4 : decode cX8_slotOf 4 = .ok (.ifCond .le 14, 3) := by decide +kernel
theorem dX8_slotOf_7 : decode cX8_slotOf 7 = .ok (.lload_n 1, 1) := by decide +kernel
theorem dX8_slotOf_8 : decode cX8_slotOf 8 = .ok (.aload_n 0, 1) := by decide +kernel
theorem dX8_slotOf_9 : decode cX8_slotOf 9 = .ok (.getfield 28, 3) := by decide +kernel
theorem dX8_slotOf_12 : decode cX8_slotOf 12 = .ok (.i2l, 1) := by decide +kernel
theorem dX8_slotOf_13 : decode cX8_slotOf 13 = .ok (.lrem, 1) := by decide +kernel
theorem dX8_slotOf_14 : decode cX8_slotOf 14 = .ok (.l2i, 1) := by decide +kernel
theorem dX8_slotOf_15 : decode cX8_slotOf 15 = .ok (.goto 4, 3) := by decide +kernel
theorem dX8_slotOf_18 : decode cX8_slotOf 18 = .ok (.iconst (-1), 1) := by decide +kernel
theorem dX8_slotOf_19 : decode cX8_slotOf 19 = .ok (.ireturn, 1) := by decide +kernel
theorem dX8_find_0 : decode cX8_find 0 = .ok (.aload_n 0, 1) := by decide +kernel
theorem dX8_find_1 : decode cX8_find 1 = .ok (.lload_n 1, 1) := by decide +kernel
theorem dX8_find_2 : decode cX8_find 2 = .ok (.invokevirtual 35, 3) := by decide +kernel
theorem dX8_find_5 : decode cX8_find 5 = .ok (.istore_n 3, 1) := by decide +kernel
theorem dX8_find_6 : decode cX8_find 6 = .ok (.aload_n 0, 1) := by decide +kernel
theorem dX8_find_7 : decode cX8_find 7 = .ok (.iload_n 3, 1) := by decide +kernel
theorem dX8_find_8 : decode cX8_find 8 = .ok (.invokevirtual 39, 3) := by decide +kernel
theorem dX8_find_11 : decode cX8_find 11 = .ok (.ifCond .le 17, 3) := by decide +kernel
theorem dX8_find_14 : decode cX8_find 14 = .ok (.aload_n 0, 1) := by decide +kernel
theorem dX8_find_15 : decode cX8_find 15 = .ok (.iload_n 3, 1) := by decide +kernel
theorem dX8_find_16 : decode cX8_find 16 = .ok (.invokevirtual 43, 3) := by decide +kernel
theorem dX8_find_19 : decode cX8_find 19 = .ok (.lload_n 1, 1) := by decide +kernel
theorem dX8_find_20 : decode cX8_find 20 = .ok (.lcmp, 1) := by decide +kernel
theorem dX8_find_21 : decode cX8_find 21 = .ok (.ifCond .ne 7, 3) := by decide +kernel
theorem dX8_find_24 : decode cX8_find 24 = .ok (.iload_n 3, 1) := by decide +kernel
theorem dX8_find_25 : decode cX8_find 25 = .ok (.goto 4, 3) := by decide +kernel
theorem dX8_find_28 : decode cX8_find 28 = .ok (.iconst (-1), 1) := by decide +kernel
theorem dX8_find_29 : decode cX8_find 29 = .ok (.ireturn, 1) := by decide +kernel
theorem dX8_store_0 : decode cX8_store 0 = .ok (.aload_n 0, 1) := by decide +kernel
theorem dX8_store_1 : decode cX8_store 1 = .ok (.lload_n 1, 1) := by decide +kernel
theorem dX8_store_2 : decode cX8_store 2 = .ok (.invokevirtual 35, 3) := by decide +kernel
theorem dX8_store_5 : decode cX8_store 5 = .ok (.istore 7, 2) := by decide +kernel
theorem dX8_store_7 : decode cX8_store 7 = .ok (.aload_n 0, 1) := by decide +kernel
theorem dX8_store_8 : decode cX8_store 8 = .ok (.iload 7, 2) := by decide +kernel
theorem dX8_store_10 : decode cX8_store 10 = .ok (.invokevirtual 47, 3) := by decide +kernel
theorem dX8_store_13 : decode cX8_store 13 = .ok (.ifCond .eq 96, 3) := by decide +kernel
theorem dX8_store_16 : decode cX8_store 16 = .ok (.iload 7, 2) := by decide +kernel
theorem dX8_store_18 : decode cX8_store 18 = .ok (.aload_n 0, 1) := by decide +kernel
theorem dX8_store_19 : decode cX8_store 19 = .ok (.getfield 9, 3) := by decide +kernel
theorem dX8_store_22 : decode cX8_store 22 = .ok (.arraylength, 1) := by decide +kernel
theorem dX8_store_23 : decode cX8_store 23 = .ok (.if_icmp .ge 86, 3) := by decide +kernel
theorem dX8_store_26 : decode cX8_store 26 = .ok (.iload 7, 2) := by decide +kernel
theorem dX8_store_28 : decode cX8_store 28 = .ok (.aload_n 0, 1) := by decide +kernel
theorem dX8_store_29 : decode cX8_store 29 = .ok (.getfield 15, 3) := by decide +kernel
theorem dX8_store_32 : decode cX8_store 32 = .ok (.arraylength, 1) := by decide +kernel
theorem dX8_store_33 : decode cX8_store 33 = .ok (.if_icmp .ge 76, 3) := by decide +kernel
theorem dX8_store_36 : decode cX8_store 36 = .ok (.iload 7, 2) := by decide +kernel
theorem dX8_store_38 : decode cX8_store 38 = .ok (.aload_n 0, 1) := by decide +kernel
theorem dX8_store_39 : decode cX8_store 39 = .ok (.getfield 19, 3) := by decide +kernel
theorem dX8_store_42 : decode cX8_store 42 = .ok (.arraylength, 1) := by decide +kernel
theorem dX8_store_43 : decode cX8_store 43 = .ok (.if_icmp .ge 66, 3) := by decide +kernel
theorem dX8_store_46 : decode cX8_store 46 = .ok (.iload 7, 2) := by decide +kernel
theorem dX8_store_48 : decode cX8_store 48 = .ok (.aload_n 0, 1) := by decide +kernel
theorem dX8_store_49 : decode cX8_store 49 = .ok (.getfield 22, 3) := by decide +kernel
theorem dX8_store_52 : decode cX8_store 52 = .ok (.arraylength, 1) := by decide +kernel
theorem dX8_store_53 : decode cX8_store 53 = .ok (.if_icmp .ge 56, 3) := by decide +kernel
theorem dX8_store_56 : decode cX8_store 56 = .ok (.iload 7, 2) := by decide +kernel
theorem dX8_store_58 : decode cX8_store 58 = .ok (.aload_n 0, 1) := by decide +kernel
theorem dX8_store_59 : decode cX8_store 59 = .ok (.getfield 25, 3) := by decide +kernel
theorem dX8_store_62 : decode cX8_store 62 = .ok (.arraylength, 1) := by decide +kernel
theorem dX8_store_63 : decode cX8_store 63 = .ok (.if_icmp .ge 46, 3) := by decide +kernel
theorem dX8_store_66 : decode cX8_store 66 = .ok (.aload_n 0, 1) := by decide +kernel
theorem dX8_store_67 : decode cX8_store 67 = .ok (.getfield 9, 3) := by decide +kernel
theorem dX8_store_70 : decode cX8_store 70 = .ok (.iload 7, 2) := by decide +kernel
theorem dX8_store_72 : decode cX8_store 72 = .ok (.lload_n 1, 1) := by decide +kernel
theorem dX8_store_73 : decode cX8_store 73 = .ok (.lastore, 1) := by decide +kernel
theorem dX8_store_74 : decode cX8_store 74 = .ok (.aload_n 0, 1) := by decide +kernel
theorem dX8_store_75 : decode cX8_store 75 = .ok (.getfield 15, 3) := by decide +kernel
theorem dX8_store_78 : decode cX8_store 78 = .ok (.iload 7, 2) := by decide +kernel
theorem dX8_store_80 : decode cX8_store 80 = .ok (.iload_n 3, 1) := by decide +kernel
theorem dX8_store_81 : decode cX8_store 81 = .ok (.iastore, 1) := by decide +kernel
theorem dX8_store_82 : decode cX8_store 82 = .ok (.aload_n 0, 1) := by decide +kernel
theorem dX8_store_83 : decode cX8_store 83 = .ok (.getfield 19, 3) := by decide +kernel
theorem dX8_store_86 : decode cX8_store 86 = .ok (.iload 7, 2) := by decide +kernel
theorem dX8_store_88 : decode cX8_store 88 = .ok (.iload 4, 2) := by decide +kernel
theorem dX8_store_90 : decode cX8_store 90 = .ok (.iastore, 1) := by decide +kernel
theorem dX8_store_91 : decode cX8_store 91 = .ok (.aload_n 0, 1) := by decide +kernel
theorem dX8_store_92 : decode cX8_store 92 = .ok (.getfield 22, 3) := by decide +kernel
theorem dX8_store_95 : decode cX8_store 95 = .ok (.iload 7, 2) := by decide +kernel
theorem dX8_store_97 : decode cX8_store 97 = .ok (.iload 5, 2) := by decide +kernel
theorem dX8_store_99 : decode cX8_store 99 = .ok (.iastore, 1) := by decide +kernel
theorem dX8_store_100 : decode cX8_store 100 = .ok (.aload_n 0, 1) := by decide +kernel
theorem dX8_store_101 : decode cX8_store 101 = .ok (.getfield 25, 3) := by decide +kernel
theorem dX8_store_104 : decode cX8_store 104 = .ok (.iload 7, 2) := by decide +kernel
theorem dX8_store_106 : decode cX8_store 106 = .ok (.iload 6, 2) := by decide +kernel
theorem dX8_store_108 : decode cX8_store 108 = .ok (.iastore, 1) := by decide +kernel
theorem dX8_store_109 : decode cX8_store 109 = .ok (.return_, 1) := by decide +kernel
theorem dX8_isAnswer_0 : decode cX8_isAnswer 0 = .ok (.aload_n 0, 1) := by decide +kernel
theorem dX8_isAnswer_1 : decode cX8_isAnswer 1 = .ok (.iload_n 1, 1) := by decide +kernel
theorem dX8_isAnswer_2 : decode cX8_isAnswer 2 = .ok (.invokevirtual 39, 3) := by decide +kernel
theorem dX8_isAnswer_5 : decode cX8_isAnswer 5 = .ok (.iload_n 2, 1) := by decide +kernel
theorem dX8_isAnswer_6 : decode cX8_isAnswer 6 = .ok (.if_icmp .eq 5, 3) := by decide +kernel
theorem dX8_isAnswer_9 : decode cX8_isAnswer 9 = .ok (.iconst 0, 1) := by decide +kernel
theorem dX8_isAnswer_10 : decode cX8_isAnswer 10 = .ok (.ireturn, 1) := by decide +kernel
theorem dX8_isAnswer_11 : decode cX8_isAnswer 11 = .ok (.aload_n 0, 1) := by decide +kernel
theorem dX8_isAnswer_12 : decode cX8_isAnswer 12 = .ok (.iload_n 1, 1) := by decide +kernel
theorem dX8_isAnswer_13 : decode cX8_isAnswer 13 = .ok (.invokevirtual 51, 3) := by decide +kernel
theorem dX8_isAnswer_16 : decode cX8_isAnswer 16 = .ok (.istore 5, 2) := by decide +kernel
theorem dX8_isAnswer_18 : decode cX8_isAnswer 18 = .ok (.aload_n 0, 1) := by decide +kernel
theorem dX8_isAnswer_19 : decode cX8_isAnswer 19 = .ok (.iload_n 1, 1) := by decide +kernel
theorem dX8_isAnswer_20 : decode cX8_isAnswer 20 = .ok (.invokevirtual 54, 3) := by decide +kernel
theorem dX8_isAnswer_23 : decode cX8_isAnswer 23 = .ok (.istore 6, 2) := by decide +kernel
theorem dX8_isAnswer_25 : decode cX8_isAnswer 25 = .ok (.iload 5, 2) := by decide +kernel
theorem dX8_isAnswer_27 : decode cX8_isAnswer 27 = .ok (.ifCond .eq 28, 3) := by decide +kernel
theorem dX8_isAnswer_30 : decode cX8_isAnswer 30 = .ok (.iload 5, 2) := by decide +kernel
theorem dX8_isAnswer_32 : decode cX8_isAnswer 32 = .ok (.iconst 1, 1) := by decide +kernel
theorem dX8_isAnswer_33 : decode cX8_isAnswer 33 = .ok (.if_icmp .ne 10, 3) := by decide +kernel
theorem dX8_isAnswer_36 : decode cX8_isAnswer 36 = .ok (.iload 6, 2) := by decide +kernel
theorem dX8_isAnswer_38 : decode cX8_isAnswer 38 = .ok (.iload 4, 2) := by decide +kernel
theorem dX8_isAnswer_40 : decode cX8_isAnswer 40 = .ok (.if_icmp .ge 15, 3) := by decide +kernel
theorem dX8_isAnswer_43 : decode cX8_isAnswer 43 = .ok (.iload 5, 2) := by decide +kernel
theorem dX8_isAnswer_45 : decode cX8_isAnswer 45 = .ok (.iconst 2, 1) := by decide +kernel
theorem dX8_isAnswer_46 : decode cX8_isAnswer 46 = .ok (.if_icmp .ne 13, 3) := by decide +kernel
theorem dX8_isAnswer_49 : decode cX8_isAnswer 49 = .ok (.iload 6, 2) := by decide +kernel
theorem dX8_isAnswer_51 : decode cX8_isAnswer 51 = .ok (.iload_n 3, 1) := by decide +kernel
theorem dX8_isAnswer_52 : decode cX8_isAnswer 52 = .ok (.if_icmp .gt 7, 3) := by decide +kernel
theorem dX8_isAnswer_55 : decode cX8_isAnswer 55 = .ok (.iconst 1, 1) := by decide +kernel
theorem dX8_isAnswer_56 : decode cX8_isAnswer 56 = .ok (.goto 4, 3) := by decide +kernel
theorem dX8_isAnswer_59 : decode cX8_isAnswer 59 = .ok (.iconst 0, 1) := by decide +kernel
theorem dX8_isAnswer_60 : decode cX8_isAnswer 60 = .ok (.ireturn, 1) := by decide +kernel
theorem dX8_tell_0 : decode cX8_tell 0 = .ok (.aload_n 0, 1) := by decide +kernel
theorem dX8_tell_1 : decode cX8_tell 1 = .ok (.iload_n 1, 1) := by decide +kernel
theorem dX8_tell_2 : decode cX8_tell 2 = .ok (.invokevirtual 39, 3) := by decide +kernel
theorem dX8_tell_5 : decode cX8_tell 5 = .ok (.ifCond .ne 5, 3) := by decide +kernel
theorem dX8_tell_8 : decode cX8_tell 8 = .ok (.iconst (-1), 1) := by decide +kernel
theorem dX8_tell_9 : decode cX8_tell 9 = .ok (.ireturn, 1) := by decide +kernel
theorem dX8_tell_10 : decode cX8_tell 10 = .ok (.iload_n 2, 1) := by decide +kernel
theorem dX8_tell_11 : decode cX8_tell 11 = .ok (.tableswitch 43 0 2 #[25, 31, 37], 25) := by decide +kernel
theorem dX8_tell_36 : decode cX8_tell 36 = .ok (.aload_n 0, 1) := by decide +kernel
theorem dX8_tell_37 : decode cX8_tell 37 = .ok (.iload_n 1, 1) := by decide +kernel
theorem dX8_tell_38 : decode cX8_tell 38 = .ok (.invokevirtual 39, 3) := by decide +kernel
theorem dX8_tell_41 : decode cX8_tell 41 = .ok (.ireturn, 1) := by decide +kernel
theorem dX8_tell_42 : decode cX8_tell 42 = .ok (.aload_n 0, 1) := by decide +kernel
theorem dX8_tell_43 : decode cX8_tell 43 = .ok (.iload_n 1, 1) := by decide +kernel
theorem dX8_tell_44 : decode cX8_tell 44 = .ok (.invokevirtual 54, 3) := by decide +kernel
theorem dX8_tell_47 : decode cX8_tell 47 = .ok (.ireturn, 1) := by decide +kernel
theorem dX8_tell_48 : decode cX8_tell 48 = .ok (.aload_n 0, 1) := by decide +kernel
theorem dX8_tell_49 : decode cX8_tell 49 = .ok (.iload_n 1, 1) := by decide +kernel
theorem dX8_tell_50 : decode cX8_tell 50 = .ok (.invokevirtual 51, 3) := by decide +kernel
theorem dX8_tell_53 : decode cX8_tell 53 = .ok (.ireturn, 1) := by decide +kernel
theorem dX8_tell_54 : decode cX8_tell 54 = .ok (.aload_n 0, 1) := by decide +kernel
theorem dX8_tell_55 : decode cX8_tell 55 = .ok (.iload_n 1, 1) := by decide +kernel
theorem dX8_tell_56 : decode cX8_tell 56 = .ok (.invokevirtual 57, 3) := by decide +kernel
theorem dX8_tell_59 : decode cX8_tell 59 = .ok (.ireturn, 1) := by decide +kernel
theorem dX8_keyAt_0 : decode cX8_keyAt 0 = .ok (.iload_n 1, 1) := by decide +kernel
theorem dX8_keyAt_1 : decode cX8_keyAt 1 = .ok (.ifCond .lt 21, 3) := by decide +kernel
theorem dX8_keyAt_4 : decode cX8_keyAt 4 = .ok (.iload_n 1, 1) := by decide +kernel
theorem dX8_keyAt_5 : decode cX8_keyAt 5 = .ok (.aload_n 0, 1) := by decide +kernel
theorem dX8_keyAt_6 : decode cX8_keyAt 6 = .ok (.getfield 9, 3) := by decide +kernel
theorem dX8_keyAt_9 : decode cX8_keyAt 9 = .ok (.arraylength, 1) := by decide +kernel
theorem dX8_keyAt_10 : decode cX8_keyAt 10 = .ok (.if_icmp .ge 12, 3) := by decide +kernel
theorem dX8_keyAt_13 : decode cX8_keyAt 13 = .ok (.aload_n 0, 1) := by decide +kernel
theorem dX8_keyAt_14 : decode cX8_keyAt 14 = .ok (.getfield 9, 3) := by decide +kernel
theorem dX8_keyAt_17 : decode cX8_keyAt 17 = .ok (.iload_n 1, 1) := by decide +kernel
theorem dX8_keyAt_18 : decode cX8_keyAt 18 = .ok (.laload, 1) := by decide +kernel
theorem dX8_keyAt_19 : decode cX8_keyAt 19 = .ok (.goto 6, 3) := by decide +kernel
theorem dX8_keyAt_22 : decode cX8_keyAt 22 = .ok (.ldc2_w 60, 3) := by decide +kernel
theorem dX8_keyAt_25 : decode cX8_keyAt 25 = .ok (.lreturn, 1) := by decide +kernel
theorem dX8_depthAt_0 : decode cX8_depthAt 0 = .ok (.iload_n 1, 1) := by decide +kernel
theorem dX8_depthAt_1 : decode cX8_depthAt 1 = .ok (.ifCond .lt 21, 3) := by decide +kernel
theorem dX8_depthAt_4 : decode cX8_depthAt 4 = .ok (.iload_n 1, 1) := by decide +kernel
theorem dX8_depthAt_5 : decode cX8_depthAt 5 = .ok (.aload_n 0, 1) := by decide +kernel
theorem dX8_depthAt_6 : decode cX8_depthAt 6 = .ok (.getfield 15, 3) := by decide +kernel
theorem dX8_depthAt_9 : decode cX8_depthAt 9 = .ok (.arraylength, 1) := by decide +kernel
theorem dX8_depthAt_10 : decode cX8_depthAt 10 = .ok (.if_icmp .ge 12, 3) := by decide +kernel
theorem dX8_depthAt_13 : decode cX8_depthAt 13 = .ok (.aload_n 0, 1) := by decide +kernel
theorem dX8_depthAt_14 : decode cX8_depthAt 14 = .ok (.getfield 15, 3) := by decide +kernel
theorem dX8_depthAt_17 : decode cX8_depthAt 17 = .ok (.iload_n 1, 1) := by decide +kernel
theorem dX8_depthAt_18 : decode cX8_depthAt 18 = .ok (.iaload, 1) := by decide +kernel
theorem dX8_depthAt_19 : decode cX8_depthAt 19 = .ok (.goto 4, 3) := by decide +kernel
theorem dX8_depthAt_22 : decode cX8_depthAt 22 = .ok (.iconst 0, 1) := by decide +kernel
theorem dX8_depthAt_23 : decode cX8_depthAt 23 = .ok (.ireturn, 1) := by decide +kernel
theorem dX8_numberAt_0 : decode cX8_numberAt 0 = .ok (.iload_n 1, 1) := by decide +kernel
theorem dX8_numberAt_1 : decode cX8_numberAt 1 = .ok (.ifCond .lt 21, 3) := by decide +kernel
theorem dX8_numberAt_4 : decode cX8_numberAt 4 = .ok (.iload_n 1, 1) := by decide +kernel
theorem dX8_numberAt_5 : decode cX8_numberAt 5 = .ok (.aload_n 0, 1) := by decide +kernel
theorem dX8_numberAt_6 : decode cX8_numberAt 6 = .ok (.getfield 19, 3) := by decide +kernel
theorem dX8_numberAt_9 : decode cX8_numberAt 9 = .ok (.arraylength, 1) := by decide +kernel
theorem dX8_numberAt_10 : decode cX8_numberAt 10 = .ok (.if_icmp .ge 12, 3) := by decide +kernel
theorem dX8_numberAt_13 : decode cX8_numberAt 13 = .ok (.aload_n 0, 1) := by decide +kernel
theorem dX8_numberAt_14 : decode cX8_numberAt 14 = .ok (.getfield 19, 3) := by decide +kernel
theorem dX8_numberAt_17 : decode cX8_numberAt 17 = .ok (.iload_n 1, 1) := by decide +kernel
theorem dX8_numberAt_18 : decode cX8_numberAt 18 = .ok (.iaload, 1) := by decide +kernel
theorem dX8_numberAt_19 : decode cX8_numberAt 19 = .ok (.goto 4, 3) := by decide +kernel
theorem dX8_numberAt_22 : decode cX8_numberAt 22 = .ok (.iconst 0, 1) := by decide +kernel
theorem dX8_numberAt_23 : decode cX8_numberAt 23 = .ok (.ireturn, 1) := by decide +kernel
theorem dX8_kindAt_0 : decode cX8_kindAt 0 = .ok (.iload_n 1, 1) := by decide +kernel
theorem dX8_kindAt_1 : decode cX8_kindAt 1 = .ok (.ifCond .lt 21, 3) := by decide +kernel
theorem dX8_kindAt_4 : decode cX8_kindAt 4 = .ok (.iload_n 1, 1) := by decide +kernel
theorem dX8_kindAt_5 : decode cX8_kindAt 5 = .ok (.aload_n 0, 1) := by decide +kernel
theorem dX8_kindAt_6 : decode cX8_kindAt 6 = .ok (.getfield 22, 3) := by decide +kernel
theorem dX8_kindAt_9 : decode cX8_kindAt 9 = .ok (.arraylength, 1) := by decide +kernel
theorem dX8_kindAt_10 : decode cX8_kindAt 10 = .ok (.if_icmp .ge 12, 3) := by decide +kernel
theorem dX8_kindAt_13 : decode cX8_kindAt 13 = .ok (.aload_n 0, 1) := by decide +kernel
theorem dX8_kindAt_14 : decode cX8_kindAt 14 = .ok (.getfield 22, 3) := by decide +kernel
theorem dX8_kindAt_17 : decode cX8_kindAt 17 = .ok (.iload_n 1, 1) := by decide +kernel
theorem dX8_kindAt_18 : decode cX8_kindAt 18 = .ok (.iaload, 1) := by decide +kernel
theorem dX8_kindAt_19 : decode cX8_kindAt 19 = .ok (.goto 4, 3) := by decide +kernel
theorem dX8_kindAt_22 : decode cX8_kindAt 22 = .ok (.iconst (-1), 1) := by decide +kernel
theorem dX8_kindAt_23 : decode cX8_kindAt 23 = .ok (.ireturn, 1) := by decide +kernel
theorem dX8_moveAt_0 : decode cX8_moveAt 0 = .ok (.iload_n 1, 1) := by decide +kernel
theorem dX8_moveAt_1 : decode cX8_moveAt 1 = .ok (.ifCond .lt 21, 3) := by decide +kernel
theorem dX8_moveAt_4 : decode cX8_moveAt 4 = .ok (.iload_n 1, 1) := by decide +kernel
theorem dX8_moveAt_5 : decode cX8_moveAt 5 = .ok (.aload_n 0, 1) := by decide +kernel
theorem dX8_moveAt_6 : decode cX8_moveAt 6 = .ok (.getfield 25, 3) := by decide +kernel
theorem dX8_moveAt_9 : decode cX8_moveAt 9 = .ok (.arraylength, 1) := by decide +kernel
theorem dX8_moveAt_10 : decode cX8_moveAt 10 = .ok (.if_icmp .ge 12, 3) := by decide +kernel
theorem dX8_moveAt_13 : decode cX8_moveAt 13 = .ok (.aload_n 0, 1) := by decide +kernel
theorem dX8_moveAt_14 : decode cX8_moveAt 14 = .ok (.getfield 25, 3) := by decide +kernel
theorem dX8_moveAt_17 : decode cX8_moveAt 17 = .ok (.iload_n 1, 1) := by decide +kernel
theorem dX8_moveAt_18 : decode cX8_moveAt 18 = .ok (.iaload, 1) := by decide +kernel
theorem dX8_moveAt_19 : decode cX8_moveAt 19 = .ok (.goto 4, 3) := by decide +kernel
theorem dX8_moveAt_22 : decode cX8_moveAt 22 = .ok (.iconst (-1), 1) := by decide +kernel
theorem dX8_moveAt_23 : decode cX8_moveAt 23 = .ok (.ireturn, 1) := by decide +kernel
theorem dX9_init_0 : decode cX9_init 0 = .ok (.aload_n 0, 1) := by decide +kernel
theorem dX9_init_1 : decode cX9_init 1 = .ok (.invokespecial 3, 3) := by decide +kernel
theorem dX9_init_4 : decode cX9_init 4 = .ok (.aload_n 0, 1) := by decide +kernel
theorem dX9_init_5 : decode cX9_init 5 = .ok (.bipush 40, 2) := by decide +kernel
theorem dX9_init_7 : decode cX9_init 7 = .ok (.newarray .int, 2) := by decide +kernel
theorem dX9_init_9 : decode cX9_init 9 = .ok (.putfield 9, 3) := by decide +kernel
theorem dX9_init_12 : decode cX9_init 12 = .ok (.aload_n 0, 1) := by decide +kernel
theorem dX9_init_13 : decode cX9_init 13 = .ok (.bipush 40, 2) := by decide +kernel
theorem dX9_init_15 : decode cX9_init 15 = .ok (.newarray .int, 2) := by decide +kernel
theorem dX9_init_17 : decode cX9_init 17 = .ok (.putfield 15, 3) := by decide +kernel
theorem dX9_init_20 : decode cX9_init 20 = .ok (.return_, 1) := by decide +kernel
theorem dX9_clear_0 : decode cX9_clear 0 = .ok (.aload_n 0, 1) := by decide +kernel
theorem dX9_clear_1 : decode cX9_clear 1 = .ok (.iconst 0, 1) := by decide +kernel
theorem dX9_clear_2 : decode cX9_clear 2 = .ok (.putfield 18, 3) := by decide +kernel
theorem dX9_clear_5 : decode cX9_clear 5 = .ok (.return_, 1) := by decide +kernel
theorem dX9_length_0 : decode cX9_length 0 = .ok (.aload_n 0, 1) := by decide +kernel
theorem dX9_length_1 : decode cX9_length 1 = .ok (.getfield 18, 3) := by decide +kernel
theorem dX9_length_4 : decode cX9_length 4 = .ok (.ireturn, 1) := by decide +kernel
theorem dX9_add_0 : decode cX9_add 0 = .ok (.aload_n 0, 1) := by decide +kernel
theorem dX9_add_1 : decode cX9_add 1 = .ok (.getfield 18, 3) := by decide +kernel
theorem dX9_add_4 : decode cX9_add 4 = .ok (.aload_n 0, 1) := by decide +kernel
theorem dX9_add_5 : decode cX9_add 5 = .ok (.getfield 9, 3) := by decide +kernel
theorem dX9_add_8 : decode cX9_add 8 = .ok (.arraylength, 1) := by decide +kernel
theorem dX9_add_9 : decode cX9_add 9 = .ok (.if_icmp .lt 7, 3) := by decide +kernel
theorem dX9_add_12 : decode cX9_add 12 = .ok (.aload_n 0, 1) := by decide +kernel
theorem dX9_add_13 : decode cX9_add 13 = .ok (.invokevirtual 22, 3) := by decide +kernel
theorem dX9_add_16 : decode cX9_add 16 = .ok (.aload_n 0, 1) := by decide +kernel
theorem dX9_add_17 : decode cX9_add 17 = .ok (.getfield 18, 3) := by decide +kernel
theorem dX9_add_20 : decode cX9_add 20 = .ok (.ifCond .lt 57, 3) := by decide +kernel
theorem dX9_add_23 : decode cX9_add 23 = .ok (.aload_n 0, 1) := by decide +kernel
theorem dX9_add_24 : decode cX9_add 24 = .ok (.getfield 18, 3) := by decide +kernel
theorem dX9_add_27 : decode cX9_add 27 = .ok (.aload_n 0, 1) := by decide +kernel
theorem dX9_add_28 : decode cX9_add 28 = .ok (.getfield 9, 3) := by decide +kernel
theorem dX9_add_31 : decode cX9_add 31 = .ok (.arraylength, 1) := by decide +kernel
theorem dX9_add_32 : decode cX9_add 32 = .ok (.if_icmp .ge 45, 3) := by decide +kernel
theorem dX9_add_35 : decode cX9_add 35 = .ok (.aload_n 0, 1) := by decide +kernel
theorem dX9_add_36 : decode cX9_add 36 = .ok (.getfield 18, 3) := by decide +kernel
theorem dX9_add_39 : decode cX9_add 39 = .ok (.aload_n 0, 1) := by decide +kernel
theorem dX9_add_40 : decode cX9_add 40 = .ok (.getfield 15, 3) := by decide +kernel
theorem dX9_add_43 : decode cX9_add 43 = .ok (.arraylength, 1) := by decide +kernel
theorem dX9_add_44 : decode cX9_add 44 = .ok (.if_icmp .ge 33, 3) := by decide +kernel
theorem dX9_add_47 : decode cX9_add 47 = .ok (.aload_n 0, 1) := by decide +kernel
theorem dX9_add_48 : decode cX9_add 48 = .ok (.getfield 9, 3) := by decide +kernel
theorem dX9_add_51 : decode cX9_add 51 = .ok (.aload_n 0, 1) := by decide +kernel
theorem dX9_add_52 : decode cX9_add 52 = .ok (.getfield 18, 3) := by decide +kernel
theorem dX9_add_55 : decode cX9_add 55 = .ok (.iload_n 1, 1) := by decide +kernel
theorem dX9_add_56 : decode cX9_add 56 = .ok (.iastore, 1) := by decide +kernel
theorem dX9_add_57 : decode cX9_add 57 = .ok (.aload_n 0, 1) := by decide +kernel
theorem dX9_add_58 : decode cX9_add 58 = .ok (.getfield 15, 3) := by decide +kernel
theorem dX9_add_61 : decode cX9_add 61 = .ok (.aload_n 0, 1) := by decide +kernel
theorem dX9_add_62 : decode cX9_add 62 = .ok (.getfield 18, 3) := by decide +kernel
theorem dX9_add_65 : decode cX9_add 65 = .ok (.iload_n 2, 1) := by decide +kernel
theorem dX9_add_66 : decode cX9_add 66 = .ok (.iastore, 1) := by decide +kernel
theorem dX9_add_67 : decode cX9_add 67 = .ok (.aload_n 0, 1) := by decide +kernel
theorem dX9_add_68 : decode cX9_add 68 = .ok (.dup, 1) := by decide +kernel
theorem dX9_add_69 : decode cX9_add 69 = .ok (.getfield 18, 3) := by decide +kernel
theorem dX9_add_72 : decode cX9_add 72 = .ok (.iconst 1, 1) := by decide +kernel
theorem dX9_add_73 : decode cX9_add 73 = .ok (.iadd, 1) := by decide +kernel
theorem dX9_add_74 : decode cX9_add 74 = .ok (.putfield 18, 3) := by decide +kernel
theorem dX9_add_77 : decode cX9_add 77 = .ok (.return_, 1) := by decide +kernel
