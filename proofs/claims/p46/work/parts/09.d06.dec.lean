theorem dX11_addBoard_0 : decode cX11_addBoard 0 = .ok (.lload_n 1, 1) := by decide +kernel
theorem dX11_addBoard_1 : decode cX11_addBoard 1 = .ok (.aload_n 0, 1) := by decide +kernel
theorem dX11_addBoard_2 : decode cX11_addBoard 2 = .ok (.getfield 13, 3) := by decide +kernel
theorem dX11_addBoard_5 : decode cX11_addBoard 5 = .ok (.invokevirtual 198, 3) := by decide +kernel
theorem dX11_addBoard_8 : decode cX11_addBoard 8 = .ok (.i2l, 1) := by decide +kernel
theorem dX11_addBoard_9 : decode cX11_addBoard 9 = .ok (.invokestatic 325, 3) := by decide +kernel
theorem dX11_addBoard_12 : decode cX11_addBoard 12 = .ok (.aload_n 0, 1) := by decide +kernel
theorem dX11_addBoard_13 : decode cX11_addBoard 13 = .ok (.getfield 13, 3) := by decide +kernel
theorem dX11_addBoard_16 : decode cX11_addBoard 16 = .ok (.invokevirtual 201, 3) := by decide +kernel
theorem dX11_addBoard_19 : decode cX11_addBoard 19 = .ok (.i2l, 1) := by decide +kernel
theorem dX11_addBoard_20 : decode cX11_addBoard 20 = .ok (.invokestatic 325, 3) := by decide +kernel
theorem dX11_addBoard_23 : decode cX11_addBoard 23 = .ok (.lstore_n 3, 1) := by decide +kernel
theorem dX11_addBoard_24 : decode cX11_addBoard 24 = .ok (.aload_n 0, 1) := by decide +kernel
theorem dX11_addBoard_25 : decode cX11_addBoard 25 = .ok (.getfield 13, 3) := by decide +kernel
theorem dX11_addBoard_28 : decode cX11_addBoard 28 = .ok (.invokevirtual 332, 3) := by decide +kernel
theorem dX11_addBoard_31 : decode cX11_addBoard 31 = .ok (.istore 5, 2) := by decide +kernel
theorem dX11_addBoard_33 : decode cX11_addBoard 33 = .ok (.iconst 0, 1) := by decide +kernel
theorem dX11_addBoard_34 : decode cX11_addBoard 34 = .ok (.istore 6, 2) := by decide +kernel
theorem dX11_addBoard_36 : decode cX11_addBoard 36 = .ok (.iload 6, 2) := by decide +kernel
theorem dX11_addBoard_38 : decode cX11_addBoard 38 = .ok (.iload 5, 2) := by decide +kernel
theorem dX11_addBoard_40 : decode cX11_addBoard 40 = .ok (.if_icmp .ge 24, 3) := by decide +kernel
theorem dX11_addBoard_43 : decode cX11_addBoard 43 = .ok (.lload_n 3, 1) := by decide +kernel
theorem dX11_addBoard_44 : decode cX11_addBoard 44 = .ok (.aload_n 0, 1) := by decide +kernel
theorem dX11_addBoard_45 : decode cX11_addBoard 45 = .ok (.getfield 13, 3) := by decide +kernel
theorem dX11_addBoard_48 : decode cX11_addBoard 48 = .ok (.iload 6, 2) := by decide +kernel
theorem dX11_addBoard_50 : decode cX11_addBoard 50 = .ok (.invokevirtual 119, 3) := by decide +kernel
theorem dX11_addBoard_53 : decode cX11_addBoard 53 = .ok (.i2l, 1) := by decide +kernel
theorem dX11_addBoard_54 : decode cX11_addBoard 54 = .ok (.invokestatic 325, 3) := by decide +kernel
theorem dX11_addBoard_57 : decode cX11_addBoard 57 = .ok (.lstore_n 3, 1) := by decide +kernel
theorem dX11_addBoard_58 : decode cX11_addBoard 58 = .ok (.iinc 6 1, 3) := by decide +kernel
theorem dX11_addBoard_61 : decode cX11_addBoard 61 = .ok (.goto (-25), 3) := by decide +kernel
theorem dX11_addBoard_64 : decode cX11_addBoard 64 = .ok (.lload_n 3, 1) := by decide +kernel
theorem dX11_addBoard_65 : decode cX11_addBoard 65 = .ok (.aload_n 0, 1) := by decide +kernel
theorem dX11_addBoard_66 : decode cX11_addBoard 66 = .ok (.getfield 13, 3) := by decide +kernel
theorem dX11_addBoard_69 : decode cX11_addBoard 69 = .ok (.invokevirtual 137, 3) := by decide +kernel
theorem dX11_addBoard_72 : decode cX11_addBoard 72 = .ok (.i2l, 1) := by decide +kernel
theorem dX11_addBoard_73 : decode cX11_addBoard 73 = .ok (.invokestatic 325, 3) := by decide +kernel
theorem dX11_addBoard_76 : decode cX11_addBoard 76 = .ok (.lstore_n 3, 1) := by decide +kernel
theorem dX11_addBoard_77 : decode cX11_addBoard 77 = .ok (.lload_n 3, 1) := by decide +kernel
theorem dX11_addBoard_78 : decode cX11_addBoard 78 = .ok (.aload_n 0, 1) := by decide +kernel
theorem dX11_addBoard_79 : decode cX11_addBoard 79 = .ok (.getfield 29, 3) := by decide +kernel
theorem dX11_addBoard_82 : decode cX11_addBoard 82 = .ok (.invokevirtual 153, 3) := by decide +kernel
theorem dX11_addBoard_85 : decode cX11_addBoard 85 = .ok (.i2l, 1) := by decide +kernel
theorem dX11_addBoard_86 : decode cX11_addBoard 86 = .ok (.invokestatic 325, 3) := by decide +kernel
theorem dX11_addBoard_89 : decode cX11_addBoard 89 = .ok (.lstore_n 3, 1) := by decide +kernel
theorem dX11_addBoard_90 : decode cX11_addBoard 90 = .ok (.lload_n 3, 1) := by decide +kernel
theorem dX11_addBoard_91 : decode cX11_addBoard 91 = .ok (.aload_n 0, 1) := by decide +kernel
theorem dX11_addBoard_92 : decode cX11_addBoard 92 = .ok (.invokevirtual 217, 3) := by decide +kernel
theorem dX11_addBoard_95 : decode cX11_addBoard 95 = .ok (.ifCond .eq 7, 3) := by decide +kernel
theorem dX11_addBoard_98 : decode cX11_addBoard 98 = .ok (.lconst 1, 1) := by decide +kernel
theorem dX11_addBoard_99 : decode cX11_addBoard 99 = .ok (.goto 4, 3) := by decide +kernel
theorem dX11_addBoard_102 : decode cX11_addBoard 102 = .ok (.lconst 0, 1) := by decide +kernel
theorem dX11_addBoard_103 : decode cX11_addBoard 103 = .ok (.invokestatic 325, 3) := by decide +kernel
theorem dX11_addBoard_106 : decode cX11_addBoard 106 = .ok (.lstore_n 3, 1) := by decide +kernel
theorem dX11_addBoard_107 : decode cX11_addBoard 107 = .ok (.lload_n 3, 1) := by decide +kernel
theorem dX11_addBoard_108 : decode cX11_addBoard 108 = .ok (.aload_n 0, 1) := by decide +kernel
theorem dX11_addBoard_109 : decode cX11_addBoard 109 = .ok (.getfield 13, 3) := by decide +kernel
theorem dX11_addBoard_112 : decode cX11_addBoard 112 = .ok (.invokevirtual 220, 3) := by decide +kernel
theorem dX11_addBoard_115 : decode cX11_addBoard 115 = .ok (.invokestatic 325, 3) := by decide +kernel
theorem dX11_addBoard_118 : decode cX11_addBoard 118 = .ok (.lstore_n 3, 1) := by decide +kernel
theorem dX11_addBoard_119 : decode cX11_addBoard 119 = .ok (.lload_n 3, 1) := by decide +kernel
theorem dX11_addBoard_120 : decode cX11_addBoard 120 = .ok (.aload_n 0, 1) := by decide +kernel
theorem dX11_addBoard_121 : decode cX11_addBoard 121 = .ok (.getfield 36, 3) := by decide +kernel
theorem dX11_addBoard_124 : decode cX11_addBoard 124 = .ok (.aload_n 0, 1) := by decide +kernel
theorem dX11_addBoard_125 : decode cX11_addBoard 125 = .ok (.getfield 13, 3) := by decide +kernel
theorem dX11_addBoard_128 : decode cX11_addBoard 128 = .ok (.invokevirtual 175, 3) := by decide +kernel
theorem dX11_addBoard_131 : decode cX11_addBoard 131 = .ok (.i2l, 1) := by decide +kernel
theorem dX11_addBoard_132 : decode cX11_addBoard 132 = .ok (.invokestatic 325, 3) := by decide +kernel
theorem dX11_addBoard_135 : decode cX11_addBoard 135 = .ok (.lreturn, 1) := by decide +kernel
theorem dX11_addMoves_0 : decode cX11_addMoves 0 = .ok (.lload_n 1, 1) := by decide +kernel
theorem dX11_addMoves_1 : decode cX11_addMoves 1 = .ok (.aload_n 0, 1) := by decide +kernel
theorem dX11_addMoves_2 : decode cX11_addMoves 2 = .ok (.getfield 22, 3) := by decide +kernel
theorem dX11_addMoves_5 : decode cX11_addMoves 5 = .ok (.invokevirtual 204, 3) := by decide +kernel
theorem dX11_addMoves_8 : decode cX11_addMoves 8 = .ok (.i2l, 1) := by decide +kernel
theorem dX11_addMoves_9 : decode cX11_addMoves 9 = .ok (.invokestatic 325, 3) := by decide +kernel
theorem dX11_addMoves_12 : decode cX11_addMoves 12 = .ok (.lstore_n 3, 1) := by decide +kernel
theorem dX11_addMoves_13 : decode cX11_addMoves 13 = .ok (.iconst 0, 1) := by decide +kernel
theorem dX11_addMoves_14 : decode cX11_addMoves 14 = .ok (.istore 5, 2) := by decide +kernel
theorem dX11_addMoves_16 : decode cX11_addMoves 16 = .ok (.iload 5, 2) := by decide +kernel
theorem dX11_addMoves_18 : decode cX11_addMoves 18 = .ok (.aload_n 0, 1) := by decide +kernel
theorem dX11_addMoves_19 : decode cX11_addMoves 19 = .ok (.getfield 22, 3) := by decide +kernel
theorem dX11_addMoves_22 : decode cX11_addMoves 22 = .ok (.invokevirtual 204, 3) := by decide +kernel
theorem dX11_addMoves_25 : decode cX11_addMoves 25 = .ok (.if_icmp .ge 45, 3) := by decide +kernel
theorem dX11_addMoves_28 : decode cX11_addMoves 28 = .ok (.lload_n 3, 1) := by decide +kernel
theorem dX11_addMoves_29 : decode cX11_addMoves 29 = .ok (.aload_n 0, 1) := by decide +kernel
theorem dX11_addMoves_30 : decode cX11_addMoves 30 = .ok (.getfield 22, 3) := by decide +kernel
theorem dX11_addMoves_33 : decode cX11_addMoves 33 = .ok (.iload 5, 2) := by decide +kernel
theorem dX11_addMoves_35 : decode cX11_addMoves 35 = .ok (.invokevirtual 205, 3) := by decide +kernel
theorem dX11_addMoves_38 : decode cX11_addMoves 38 = .ok (.invokestatic 208, 3) := by decide +kernel
theorem dX11_addMoves_41 : decode cX11_addMoves 41 = .ok (.i2l, 1) := by decide +kernel
theorem dX11_addMoves_42 : decode cX11_addMoves 42 = .ok (.invokestatic 325, 3) := by decide +kernel
theorem dX11_addMoves_45 : decode cX11_addMoves 45 = .ok (.lstore_n 3, 1) := by decide +kernel
theorem dX11_addMoves_46 : decode cX11_addMoves 46 = .ok (.lload_n 3, 1) := by decide +kernel
theorem dX11_addMoves_47 : decode cX11_addMoves 47 = .ok (.aload_n 0, 1) := by decide +kernel
theorem dX11_addMoves_48 : decode cX11_addMoves 48 = .ok (.getfield 22, 3) := by decide +kernel
theorem dX11_addMoves_51 : decode cX11_addMoves 51 = .ok (.iload 5, 2) := by decide +kernel
theorem dX11_addMoves_53 : decode cX11_addMoves 53 = .ok (.invokevirtual 205, 3) := by decide +kernel
theorem dX11_addMoves_56 : decode cX11_addMoves 56 = .ok (.invokestatic 211, 3) := by decide +kernel
theorem dX11_addMoves_59 : decode cX11_addMoves 59 = .ok (.i2l, 1) := by decide +kernel
theorem dX11_addMoves_60 : decode cX11_addMoves 60 = .ok (.invokestatic 325, 3) := by decide +kernel
theorem dX11_addMoves_63 : decode cX11_addMoves 63 = .ok (.lstore_n 3, 1) := by decide +kernel
theorem dX11_addMoves_64 : decode cX11_addMoves 64 = .ok (.iinc 5 1, 3) := by decide +kernel
theorem dX11_addMoves_67 : decode cX11_addMoves 67 = .ok (.goto (-51), 3) := by decide +kernel
theorem dX11_addMoves_70 : decode cX11_addMoves 70 = .ok (.lload_n 3, 1) := by decide +kernel
theorem dX11_addMoves_71 : decode cX11_addMoves 71 = .ok (.aload_n 0, 1) := by decide +kernel
theorem dX11_addMoves_72 : decode cX11_addMoves 72 = .ok (.getfield 57, 3) := by decide +kernel
theorem dX11_addMoves_75 : decode cX11_addMoves 75 = .ok (.iconst 2, 1) := by decide +kernel
theorem dX11_addMoves_76 : decode cX11_addMoves 76 = .ok (.invokevirtual 226, 3) := by decide +kernel
theorem dX11_addMoves_79 : decode cX11_addMoves 79 = .ok (.i2l, 1) := by decide +kernel
theorem dX11_addMoves_80 : decode cX11_addMoves 80 = .ok (.invokestatic 325, 3) := by decide +kernel
theorem dX11_addMoves_83 : decode cX11_addMoves 83 = .ok (.lstore_n 3, 1) := by decide +kernel
theorem dX11_addMoves_84 : decode cX11_addMoves 84 = .ok (.lload_n 3, 1) := by decide +kernel
theorem dX11_addMoves_85 : decode cX11_addMoves 85 = .ok (.aload_n 0, 1) := by decide +kernel
theorem dX11_addMoves_86 : decode cX11_addMoves 86 = .ok (.getfield 57, 3) := by decide +kernel
theorem dX11_addMoves_89 : decode cX11_addMoves 89 = .ok (.iconst 1, 1) := by decide +kernel
theorem dX11_addMoves_90 : decode cX11_addMoves 90 = .ok (.sipush (-9999), 3) := by decide +kernel
theorem dX11_addMoves_93 : decode cX11_addMoves 93 = .ok (.sipush 9999, 3) := by decide +kernel
theorem dX11_addMoves_96 : decode cX11_addMoves 96 = .ok (.invokevirtual 229, 3) := by decide +kernel
theorem dX11_addMoves_99 : decode cX11_addMoves 99 = .ok (.i2l, 1) := by decide +kernel
theorem dX11_addMoves_100 : decode cX11_addMoves 100 = .ok (.invokestatic 325, 3) := by decide +kernel
theorem dX11_addMoves_103 : decode cX11_addMoves 103 = .ok (.lreturn, 1) := by decide +kernel
theorem dX11_addSearch_0 : decode cX11_addSearch 0 = .ok (.lload_n 1, 1) := by decide +kernel
theorem dX11_addSearch_1 : decode cX11_addSearch 1 = .ok (.aload_n 0, 1) := by decide +kernel
theorem dX11_addSearch_2 : decode cX11_addSearch 2 = .ok (.getfield 66, 3) := by decide +kernel
theorem dX11_addSearch_5 : decode cX11_addSearch 5 = .ok (.invokevirtual 246, 3) := by decide +kernel
theorem dX11_addSearch_8 : decode cX11_addSearch 8 = .ok (.invokestatic 208, 3) := by decide +kernel
theorem dX11_addSearch_11 : decode cX11_addSearch 11 = .ok (.i2l, 1) := by decide +kernel
theorem dX11_addSearch_12 : decode cX11_addSearch 12 = .ok (.invokestatic 325, 3) := by decide +kernel
theorem dX11_addSearch_15 : decode cX11_addSearch 15 = .ok (.lstore_n 3, 1) := by decide +kernel
theorem dX11_addSearch_16 : decode cX11_addSearch 16 = .ok (.lload_n 3, 1) := by decide +kernel
theorem dX11_addSearch_17 : decode cX11_addSearch 17 = .ok (.aload_n 0, 1) := by decide +kernel
theorem dX11_addSearch_18 : decode cX11_addSearch 18 = .ok (.getfield 66, 3) := by decide +kernel
theorem dX11_addSearch_21 : decode cX11_addSearch 21 = .ok (.invokevirtual 246, 3) := by decide +kernel
theorem dX11_addSearch_24 : decode cX11_addSearch 24 = .ok (.invokestatic 211, 3) := by decide +kernel
theorem dX11_addSearch_27 : decode cX11_addSearch 27 = .ok (.i2l, 1) := by decide +kernel
theorem dX11_addSearch_28 : decode cX11_addSearch 28 = .ok (.invokestatic 325, 3) := by decide +kernel
theorem dX11_addSearch_31 : decode cX11_addSearch 31 = .ok (.lstore_n 3, 1) := by decide +kernel
theorem dX11_addSearch_32 : decode cX11_addSearch 32 = .ok (.lload_n 3, 1) := by decide +kernel
theorem dX11_addSearch_33 : decode cX11_addSearch 33 = .ok (.aload_n 0, 1) := by decide +kernel
theorem dX11_addSearch_34 : decode cX11_addSearch 34 = .ok (.getfield 66, 3) := by decide +kernel
theorem dX11_addSearch_37 : decode cX11_addSearch 37 = .ok (.invokevirtual 249, 3) := by decide +kernel
theorem dX11_addSearch_40 : decode cX11_addSearch 40 = .ok (.i2l, 1) := by decide +kernel
theorem dX11_addSearch_41 : decode cX11_addSearch 41 = .ok (.invokestatic 325, 3) := by decide +kernel
theorem dX11_addSearch_44 : decode cX11_addSearch 44 = .ok (.lstore_n 3, 1) := by decide +kernel
theorem dX11_addSearch_45 : decode cX11_addSearch 45 = .ok (.lload_n 3, 1) := by decide +kernel
theorem dX11_addSearch_46 : decode cX11_addSearch 46 = .ok (.aload_n 0, 1) := by decide +kernel
theorem dX11_addSearch_47 : decode cX11_addSearch 47 = .ok (.getfield 66, 3) := by decide +kernel
theorem dX11_addSearch_50 : decode cX11_addSearch 50 = .ok (.invokevirtual 252, 3) := by decide +kernel
theorem dX11_addSearch_53 : decode cX11_addSearch 53 = .ok (.i2l, 1) := by decide +kernel
theorem dX11_addSearch_54 : decode cX11_addSearch 54 = .ok (.invokestatic 325, 3) := by decide +kernel
theorem dX11_addSearch_57 : decode cX11_addSearch 57 = .ok (.lstore_n 3, 1) := by decide +kernel
theorem dX11_addSearch_58 : decode cX11_addSearch 58 = .ok (.lload_n 3, 1) := by decide +kernel
theorem dX11_addSearch_59 : decode cX11_addSearch 59 = .ok (.aload_n 0, 1) := by decide +kernel
theorem dX11_addSearch_60 : decode cX11_addSearch 60 = .ok (.getfield 66, 3) := by decide +kernel
theorem dX11_addSearch_63 : decode cX11_addSearch 63 = .ok (.invokevirtual 255, 3) := by decide +kernel
theorem dX11_addSearch_66 : decode cX11_addSearch 66 = .ok (.i2l, 1) := by decide +kernel
theorem dX11_addSearch_67 : decode cX11_addSearch 67 = .ok (.invokestatic 325, 3) := by decide +kernel
theorem dX11_addSearch_70 : decode cX11_addSearch 70 = .ok (.lstore_n 3, 1) := by decide +kernel
theorem dX11_addSearch_71 : decode cX11_addSearch 71 = .ok (.lload_n 3, 1) := by decide +kernel
theorem dX11_addSearch_72 : decode cX11_addSearch 72 = .ok (.aload_n 0, 1) := by decide +kernel
theorem dX11_addSearch_73 : decode cX11_addSearch 73 = .ok (.getfield 66, 3) := by decide +kernel
theorem dX11_addSearch_76 : decode cX11_addSearch 76 = .ok (.invokevirtual 258, 3) := by decide +kernel
theorem dX11_addSearch_79 : decode cX11_addSearch 79 = .ok (.i2l, 1) := by decide +kernel
theorem dX11_addSearch_80 : decode cX11_addSearch 80 = .ok (.invokestatic 325, 3) := by decide +kernel
theorem dX11_addSearch_83 : decode cX11_addSearch 83 = .ok (.lstore_n 3, 1) := by decide +kernel
theorem dX11_addSearch_84 : decode cX11_addSearch 84 = .ok (.iconst 1, 1) := by decide +kernel
theorem dX11_addSearch_85 : decode cX11_addSearch 85 = .ok (.istore 5, 2) := by decide +kernel
theorem dX11_addSearch_87 : decode cX11_addSearch 87 = .ok (.iload 5, 2) := by decide +kernel
theorem dX11_addSearch_89 : decode cX11_addSearch 89 = .ok (.iconst 4, 1) := by decide +kernel
theorem dX11_addSearch_90 : decode cX11_addSearch 90 = .ok (.if_icmp .gt 41, 3) := by decide +kernel
theorem dX11_addSearch_93 : decode cX11_addSearch 93 = .ok (.lload_n 3, 1) := by decide +kernel
theorem dX11_addSearch_94 : decode cX11_addSearch 94 = .ok (.aload_n 0, 1) := by decide +kernel
theorem dX11_addSearch_95 : decode cX11_addSearch 95 = .ok (.getfield 66, 3) := by decide +kernel
theorem dX11_addSearch_98 : decode cX11_addSearch 98 = .ok (.iload 5, 2) := by decide +kernel
theorem dX11_addSearch_100 : decode cX11_addSearch 100 = .ok (.iconst 0, 1) := by decide +kernel
theorem dX11_addSearch_101 : decode cX11_addSearch 101 = .ok (.invokevirtual 261, 3) := by decide +kernel
theorem dX11_addSearch_104 : decode cX11_addSearch 104 = .ok (.i2l, 1) := by decide +kernel
theorem dX11_addSearch_105 : decode cX11_addSearch 105 = .ok (.invokestatic 325, 3) := by decide +kernel
theorem dX11_addSearch_108 : decode cX11_addSearch 108 = .ok (.lstore_n 3, 1) := by decide +kernel
theorem dX11_addSearch_109 : decode cX11_addSearch 109 = .ok (.lload_n 3, 1) := by decide +kernel
theorem dX11_addSearch_110 : decode cX11_addSearch 110 = .ok (.aload_n 0, 1) := by decide +kernel
theorem dX11_addSearch_111 : decode cX11_addSearch 111 = .ok (.getfield 66, 3) := by decide +kernel
theorem dX11_addSearch_114 : decode cX11_addSearch 114 = .ok (.iload 5, 2) := by decide +kernel
theorem dX11_addSearch_116 : decode cX11_addSearch 116 = .ok (.iconst 1, 1) := by decide +kernel
theorem dX11_addSearch_117 : decode cX11_addSearch 117 = .ok (.invokevirtual 261, 3) := by decide +kernel
theorem dX11_addSearch_120 : decode cX11_addSearch 120 = .ok (.i2l, 1) := by decide +kernel
theorem dX11_addSearch_121 : decode cX11_addSearch 121 = .ok (.invokestatic 325, 3) := by decide +kernel
theorem dX11_addSearch_124 : decode cX11_addSearch 124 = .ok (.lstore_n 3, 1) := by decide +kernel
theorem dX11_addSearch_125 : decode cX11_addSearch 125 = .ok (.iinc 5 1, 3) := by decide +kernel
theorem dX11_addSearch_128 : decode cX11_addSearch 128 = .ok (.goto (-41), 3) := by decide +kernel
theorem dX11_addSearch_131 : decode cX11_addSearch 131 = .ok (.lload_n 3, 1) := by decide +kernel
theorem dX11_addSearch_132 : decode cX11_addSearch 132 = .ok (.lreturn, 1) := by decide +kernel
theorem dX11_addTable_0 : decode cX11_addTable 0 = .ok (.lload_n 1, 1) := by decide +kernel
theorem dX11_addTable_1 : decode cX11_addTable 1 = .ok (.aload_n 0, 1) := by decide +kernel
theorem dX11_addTable_2 : decode cX11_addTable 2 = .ok (.getfield 43, 3) := by decide +kernel
theorem dX11_addTable_5 : decode cX11_addTable 5 = .ok (.invokevirtual 189, 3) := by decide +kernel
theorem dX11_addTable_8 : decode cX11_addTable 8 = .ok (.i2l, 1) := by decide +kernel
theorem dX11_addTable_9 : decode cX11_addTable 9 = .ok (.invokestatic 325, 3) := by decide +kernel
theorem dX11_addTable_12 : decode cX11_addTable 12 = .ok (.aload_n 0, 1) := by decide +kernel
theorem dX11_addTable_13 : decode cX11_addTable 13 = .ok (.getfield 43, 3) := by decide +kernel
theorem dX11_addTable_16 : decode cX11_addTable 16 = .ok (.invokevirtual 195, 3) := by decide +kernel
theorem dX11_addTable_19 : decode cX11_addTable 19 = .ok (.i2l, 1) := by decide +kernel
theorem dX11_addTable_20 : decode cX11_addTable 20 = .ok (.invokestatic 325, 3) := by decide +kernel
theorem dX11_addTable_23 : decode cX11_addTable 23 = .ok (.lstore_n 3, 1) := by decide +kernel
theorem dX11_addTable_24 : decode cX11_addTable 24 = .ok (.iconst 0, 1) := by decide +kernel
theorem dX11_addTable_25 : decode cX11_addTable 25 = .ok (.istore 5, 2) := by decide +kernel
theorem dX11_addTable_27 : decode cX11_addTable 27 = .ok (.iload 5, 2) := by decide +kernel
theorem dX11_addTable_29 : decode cX11_addTable 29 = .ok (.aload_n 0, 1) := by decide +kernel
theorem dX11_addTable_30 : decode cX11_addTable 30 = .ok (.getfield 43, 3) := by decide +kernel
theorem dX11_addTable_33 : decode cX11_addTable 33 = .ok (.invokevirtual 189, 3) := by decide +kernel
theorem dX11_addTable_36 : decode cX11_addTable 36 = .ok (.if_icmp .ge 41, 3) := by decide +kernel
theorem dX11_addTable_39 : decode cX11_addTable 39 = .ok (.iconst 0, 1) := by decide +kernel
theorem dX11_addTable_40 : decode cX11_addTable 40 = .ok (.istore 6, 2) := by decide +kernel
theorem dX11_addTable_42 : decode cX11_addTable 42 = .ok (.iload 6, 2) := by decide +kernel
theorem dX11_addTable_44 : decode cX11_addTable 44 = .ok (.iconst 3, 1) := by decide +kernel
theorem dX11_addTable_45 : decode cX11_addTable 45 = .ok (.if_icmp .gt 26, 3) := by decide +kernel
theorem dX11_addTable_48 : decode cX11_addTable 48 = .ok (.lload_n 3, 1) := by decide +kernel
theorem dX11_addTable_49 : decode cX11_addTable 49 = .ok (.aload_n 0, 1) := by decide +kernel
theorem dX11_addTable_50 : decode cX11_addTable 50 = .ok (.getfield 43, 3) := by decide +kernel
theorem dX11_addTable_53 : decode cX11_addTable 53 = .ok (.iload 5, 2) := by decide +kernel
theorem dX11_addTable_55 : decode cX11_addTable 55 = .ok (.iload 6, 2) := by decide +kernel
theorem dX11_addTable_57 : decode cX11_addTable 57 = .ok (.invokevirtual 272, 3) := by decide +kernel
theorem dX11_addTable_60 : decode cX11_addTable 60 = .ok (.i2l, 1) := by decide +kernel
theorem dX11_addTable_61 : decode cX11_addTable 61 = .ok (.invokestatic 325, 3) := by decide +kernel
theorem dX11_addTable_64 : decode cX11_addTable 64 = .ok (.lstore_n 3, 1) := by decide +kernel
theorem dX11_addTable_65 : decode cX11_addTable 65 = .ok (.iinc 6 1, 3) := by decide +kernel
theorem dX11_addTable_68 : decode cX11_addTable 68 = .ok (.goto (-26), 3) := by decide +kernel
theorem dX11_addTable_71 : decode cX11_addTable 71 = .ok (.iinc 5 1, 3) := by decide +kernel
theorem dX11_addTable_74 : decode cX11_addTable 74 = .ok (.goto (-47), 3) := by decide +kernel
theorem dX11_addTable_77 : decode cX11_addTable 77 = .ok (.lload_n 3, 1) := by decide +kernel
theorem dX11_addTable_78 : decode cX11_addTable 78 = .ok (.lreturn, 1) := by decide +kernel
theorem dX11_join_0 : decode cX11_join 0 = .ok (.lload_n 0, 1) := by decide +kernel
theorem dX11_join_1 : decode cX11_join 1 = .ok (.ldc2_w 335, 3) := by decide +kernel
theorem dX11_join_4 : decode cX11_join 4 = .ok (.lmul, 1) := by decide +kernel
theorem dX11_join_5 : decode cX11_join 5 = .ok (.lload_n 2, 1) := by decide +kernel
theorem dX11_join_6 : decode cX11_join 6 = .ok (.ladd, 1) := by decide +kernel
theorem dX11_join_7 : decode cX11_join 7 = .ok (.lreturn, 1) := by decide +kernel
theorem dX11_isWithin_0 : decode cX11_isWithin 0 = .ok (.iload_n 0, 1) := by decide +kernel
theorem dX11_isWithin_1 : decode cX11_isWithin 1 = .ok (.iload_n 1, 1) := by decide +kernel
theorem dX11_isWithin_2 : decode cX11_isWithin 2 = .ok (.if_icmp .lt 12, 3) := by decide +kernel
theorem dX11_isWithin_5 : decode cX11_isWithin 5 = .ok (.iload_n 0, 1) := by decide +kernel
theorem dX11_isWithin_6 : decode cX11_isWithin 6 = .ok (.iload_n 2, 1) := by decide +kernel
theorem dX11_isWithin_7 : decode cX11_isWithin 7 = .ok (.if_icmp .gt 7, 3) := by decide +kernel
theorem dX11_isWithin_10 : decode cX11_isWithin 10 = .ok (.iconst 1, 1) := by decide +kernel
theorem dX11_isWithin_11 : decode cX11_isWithin 11 = .ok (.goto 4, 3) := by decide +kernel
theorem dX11_isWithin_14 : decode cX11_isWithin 14 = .ok (.iconst 0, 1) := by decide +kernel
theorem dX11_isWithin_15 : decode cX11_isWithin 15 = .ok (.ireturn, 1) := by decide +kernel
theorem dX11_fromOf_0 : decode cX11_fromOf 0 = .ok (.iload_n 0, 1) := by decide +kernel
theorem dX11_fromOf_1 : decode cX11_fromOf 1 = .ok (.ifCond .ge 7, 3) := by decide +kernel
theorem dX11_fromOf_4 : decode cX11_fromOf 4 = .ok (.iconst (-1), 1) := by decide +kernel
theorem dX11_fromOf_5 : decode cX11_fromOf 5 = .ok (.goto 7, 3) := by decide +kernel
theorem dX11_fromOf_8 : decode cX11_fromOf 8 = .ok (.iload_n 0, 1) := by decide +kernel
theorem dX11_fromOf_9 : decode cX11_fromOf 9 = .ok (.bipush 100, 2) := by decide +kernel
theorem dX11_fromOf_11 : decode cX11_fromOf 11 = .ok (.idiv, 1) := by decide +kernel
theorem dX11_fromOf_12 : decode cX11_fromOf 12 = .ok (.ireturn, 1) := by decide +kernel
theorem dX11_toOf_0 : decode cX11_toOf 0 = .ok (.iload_n 0, 1) := by decide +kernel
theorem dX11_toOf_1 : decode cX11_toOf 1 = .ok (.ifCond .ge 7, 3) := by decide +kernel
theorem dX11_toOf_4 : decode cX11_toOf 4 = .ok (.iconst (-1), 1) := by decide +kernel
theorem dX11_toOf_5 : decode cX11_toOf 5 = .ok (.goto 7, 3) := by decide +kernel
theorem dX11_toOf_8 : decode cX11_toOf 8 = .ok (.iload_n 0, 1) := by decide +kernel
theorem dX11_toOf_9 : decode cX11_toOf 9 = .ok (.bipush 100, 2) := by decide +kernel
theorem dX11_toOf_11 : decode cX11_toOf 11 = .ok (.irem, 1) := by decide +kernel
theorem dX11_toOf_12 : decode cX11_toOf 12 = .ok (.ireturn, 1) := by decide +kernel
theorem dX11_isOver_0 : decode cX11_isOver 0 = .ok (.aload_n 0, 1) := by decide +kernel
theorem dX11_isOver_1 : decode cX11_isOver 1 = .ok (.getfield 22, 3) := by decide +kernel
theorem dX11_isOver_4 : decode cX11_isOver 4 = .ok (.invokevirtual 204, 3) := by decide +kernel
theorem dX11_isOver_7 : decode cX11_isOver 7 = .ok (.ifCond .ne 7, 3) := by decide +kernel
theorem dX11_isOver_10 : decode cX11_isOver 10 = .ok (.iconst 1, 1) := by decide +kernel
theorem dX11_isOver_11 : decode cX11_isOver 11 = .ok (.goto 4, 3) := by decide +kernel
theorem dX11_isOver_14 : decode cX11_isOver 14 = .ok (.iconst 0, 1) := by decide +kernel
theorem dX11_isOver_15 : decode cX11_isOver 15 = .ok (.ireturn, 1) := by decide +kernel
theorem dX11_startAnew_0 : decode cX11_startAnew 0 = .ok (.aload_n 0, 1) := by decide +kernel
theorem dX11_startAnew_1 : decode cX11_startAnew 1 = .ok (.getfield 29, 3) := by decide +kernel
theorem dX11_startAnew_4 : decode cX11_startAnew 4 = .ok (.invokevirtual 337, 3) := by decide +kernel
theorem dX11_startAnew_7 : decode cX11_startAnew 7 = .ok (.aload_n 0, 1) := by decide +kernel
theorem dX11_startAnew_8 : decode cX11_startAnew 8 = .ok (.getfield 13, 3) := by decide +kernel
theorem dX11_startAnew_11 : decode cX11_startAnew 11 = .ok (.aload_n 0, 1) := by decide +kernel
theorem dX11_startAnew_12 : decode cX11_startAnew 12 = .ok (.getfield 22, 3) := by decide +kernel
theorem dX11_startAnew_15 : decode cX11_startAnew 15 = .ok (.invokevirtual 77, 3) := by decide +kernel
theorem dX11_startAnew_18 : decode cX11_startAnew 18 = .ok (.return_, 1) := by decide +kernel
theorem dX11_playHere_0 : decode cX11_playHere 0 = .ok (.aload_n 0, 1) := by decide +kernel
theorem dX11_playHere_1 : decode cX11_playHere 1 = .ok (.getfield 22, 3) := by decide +kernel
theorem dX11_playHere_4 : decode cX11_playHere 4 = .ok (.iload_n 1, 1) := by decide +kernel
theorem dX11_playHere_5 : decode cX11_playHere 5 = .ok (.invokevirtual 205, 3) := by decide +kernel
theorem dX11_playHere_8 : decode cX11_playHere 8 = .ok (.istore_n 2, 1) := by decide +kernel
theorem dX11_playHere_9 : decode cX11_playHere 9 = .ok (.aload_n 0, 1) := by decide +kernel
theorem dX11_playHere_10 : decode cX11_playHere 10 = .ok (.getfield 13, 3) := by decide +kernel
theorem dX11_playHere_13 : decode cX11_playHere 13 = .ok (.iload_n 2, 1) := by decide +kernel
theorem dX11_playHere_14 : decode cX11_playHere 14 = .ok (.invokevirtual 340, 3) := by decide +kernel
theorem dX11_playHere_17 : decode cX11_playHere 17 = .ok (.istore_n 3, 1) := by decide +kernel
theorem dX11_playHere_18 : decode cX11_playHere 18 = .ok (.aload_n 0, 1) := by decide +kernel
theorem dX11_playHere_19 : decode cX11_playHere 19 = .ok (.getfield 29, 3) := by decide +kernel
theorem dX11_playHere_22 : decode cX11_playHere 22 = .ok (.iload_n 2, 1) := by decide +kernel
theorem dX11_playHere_23 : decode cX11_playHere 23 = .ok (.iload_n 3, 1) := by decide +kernel
theorem dX11_playHere_24 : decode cX11_playHere 24 = .ok (.invokevirtual 343, 3) := by decide +kernel
theorem dX11_playHere_27 : decode cX11_playHere 27 = .ok (.aload_n 0, 1) := by decide +kernel
theorem dX11_playHere_28 : decode cX11_playHere 28 = .ok (.getfield 13, 3) := by decide +kernel
theorem dX11_playHere_31 : decode cX11_playHere 31 = .ok (.aload_n 0, 1) := by decide +kernel
theorem dX11_playHere_32 : decode cX11_playHere 32 = .ok (.getfield 22, 3) := by decide +kernel
theorem dX11_playHere_35 : decode cX11_playHere 35 = .ok (.invokevirtual 77, 3) := by decide +kernel
theorem dX11_playHere_38 : decode cX11_playHere 38 = .ok (.iload_n 3, 1) := by decide +kernel
theorem dX11_playHere_39 : decode cX11_playHere 39 = .ok (.ireturn, 1) := by decide +kernel
theorem dX11_goOn_0 : decode cX11_goOn 0 = .ok (.aload_n 0, 1) := by decide +kernel
theorem dX11_goOn_1 : decode cX11_goOn 1 = .ok (.getfield 73, 3) := by decide +kernel
theorem dX11_goOn_4 : decode cX11_goOn 4 = .ok (.aload_n 0, 1) := by decide +kernel
theorem dX11_goOn_5 : decode cX11_goOn 5 = .ok (.getfield 13, 3) := by decide +kernel
theorem dX11_goOn_8 : decode cX11_goOn 8 = .ok (.invokevirtual 220, 3) := by decide +kernel
theorem dX11_goOn_11 : decode cX11_goOn 11 = .ok (.aload_n 0, 1) := by decide +kernel
theorem dX11_goOn_12 : decode cX11_goOn 12 = .ok (.getfield 22, 3) := by decide +kernel
theorem dX11_goOn_15 : decode cX11_goOn 15 = .ok (.invokevirtual 298, 3) := by decide +kernel
theorem dX11_goOn_18 : decode cX11_goOn 18 = .ok (.istore_n 2, 1) := by decide +kernel
theorem dX11_goOn_19 : decode cX11_goOn 19 = .ok (.iload_n 2, 1) := by decide +kernel
theorem dX11_goOn_20 : decode cX11_goOn 20 = .ok (.iconst (-1), 1) := by decide +kernel
theorem dX11_goOn_21 : decode cX11_goOn 21 = .ok (.if_icmp .ne 27, 3) := by decide +kernel
theorem dX11_goOn_24 : decode cX11_goOn 24 = .ok (.aload_n 0, 1) := by decide +kernel
theorem dX11_goOn_25 : decode cX11_goOn 25 = .ok (.getfield 66, 3) := by decide +kernel
theorem dX11_goOn_28 : decode cX11_goOn 28 = .ok (.iload_n 1, 1) := by decide +kernel
theorem dX11_goOn_29 : decode cX11_goOn 29 = .ok (.invokevirtual 243, 3) := by decide +kernel
theorem dX11_goOn_32 : decode cX11_goOn 32 = .ok (.pop, 1) := by decide +kernel
theorem dX11_goOn_33 : decode cX11_goOn 33 = .ok (.aload_n 0, 1) := by decide +kernel
theorem dX11_goOn_34 : decode cX11_goOn 34 = .ok (.getfield 22, 3) := by decide +kernel
theorem dX11_goOn_37 : decode cX11_goOn 37 = .ok (.aload_n 0, 1) := by decide +kernel
theorem dX11_goOn_38 : decode cX11_goOn 38 = .ok (.getfield 66, 3) := by decide +kernel
theorem dX11_goOn_41 : decode cX11_goOn 41 = .ok (.invokevirtual 246, 3) := by decide +kernel
theorem dX11_goOn_44 : decode cX11_goOn 44 = .ok (.invokevirtual 346, 3) := by decide +kernel
theorem dX11_goOn_47 : decode cX11_goOn 47 = .ok (.istore_n 2, 1) := by decide +kernel
theorem dX11_goOn_48 : decode cX11_goOn 48 = .ok (.aload_n 0, 1) := by decide +kernel
theorem dX11_goOn_49 : decode cX11_goOn 49 = .ok (.iload_n 2, 1) := by decide +kernel
theorem dX11_goOn_50 : decode cX11_goOn 50 = .ok (.invokevirtual 150, 3) := by decide +kernel
theorem dX11_goOn_53 : decode cX11_goOn 53 = .ok (.pop, 1) := by decide +kernel
theorem dX11_goOn_54 : decode cX11_goOn 54 = .ok (.iload_n 2, 1) := by decide +kernel
theorem dX11_goOn_55 : decode cX11_goOn 55 = .ok (.ireturn, 1) := by decide +kernel
theorem dJ9_abs_0f7a4_0 : decode cJ9_abs_0f7a4 0 = .ok (.iload_n 0, 1) := by decide +kernel
theorem dJ9_abs_0f7a4_1 : decode cJ9_abs_0f7a4 1 = .ok (.ifCond .ge 8, 3) := by decide +kernel
theorem dJ9_abs_0f7a4_4 : decode cJ9_abs_0f7a4 4 = .ok (.iload_n 0, 1) := by decide +kernel
theorem dJ9_abs_0f7a4_5 : decode cJ9_abs_0f7a4 5 = .ok (.ineg, 1) := by decide +kernel
theorem dJ9_abs_0f7a4_6 : decode cJ9_abs_0f7a4 6 = .ok (.goto 4, 3) := by decide +kernel
theorem dJ9_abs_0f7a4_9 : decode cJ9_abs_0f7a4 9 = .ok (.iload_n 0, 1) := by decide +kernel
theorem dJ9_abs_0f7a4_10 : decode cJ9_abs_0f7a4 10 = .ok (.ireturn, 1) := by decide +kernel
theorem dJ9_max_7cf53_0 : decode cJ9_max_7cf53 0 = .ok (.iload_n 0, 1) := by decide +kernel
theorem dJ9_max_7cf53_1 : decode cJ9_max_7cf53 1 = .ok (.iload_n 1, 1) := by decide +kernel
theorem dJ9_max_7cf53_2 : decode cJ9_max_7cf53 2 = .ok (.if_icmp .lt 7, 3) := by decide +kernel
theorem dJ9_max_7cf53_5 : decode cJ9_max_7cf53 5 = .ok (.iload_n 0, 1) := by decide +kernel
theorem dJ9_max_7cf53_6 : decode cJ9_max_7cf53 6 = .ok (.goto 4, 3) := by decide +kernel
theorem dJ9_max_7cf53_9 : decode cJ9_max_7cf53 9 = .ok (.iload_n 1, 1) := by decide +kernel
theorem dJ9_max_7cf53_10 : decode cJ9_max_7cf53 10 = .ok (.ireturn, 1) := by decide +kernel
theorem dJ9_min_7cf53_0 : decode cJ9_min_7cf53 0 = .ok (.iload_n 0, 1) := by decide +kernel
theorem dJ9_min_7cf53_1 : decode cJ9_min_7cf53 1 = .ok (.iload_n 1, 1) := by decide +kernel
theorem dJ9_min_7cf53_2 : decode cJ9_min_7cf53 2 = .ok (.if_icmp .gt 7, 3) := by decide +kernel
theorem dJ9_min_7cf53_5 : decode cJ9_min_7cf53 5 = .ok (.iload_n 0, 1) := by decide +kernel
theorem dJ9_min_7cf53_6 : decode cJ9_min_7cf53 6 = .ok (.goto 4, 3) := by decide +kernel
theorem dJ9_min_7cf53_9 : decode cJ9_min_7cf53 9 = .ok (.iload_n 1, 1) := by decide +kernel
theorem dJ9_min_7cf53_10 : decode cJ9_min_7cf53 10 = .ok (.ireturn, 1) := by decide +kernel
theorem dL_below_0 : decode cL_below 0 = .ok (.iload_n 0, 1) := by decide +kernel
theorem dL_below_1 : decode cL_below 1 = .ok (.ldc 7, 2) := by decide +kernel
theorem dL_below_3 : decode cL_below 3 = .ok (.iand, 1) := by decide +kernel
theorem dL_below_4 : decode cL_below 4 = .ok (.iload_n 1, 1) := by decide +kernel
theorem dL_below_5 : decode cL_below 5 = .ok (.irem, 1) := by decide +kernel
theorem dL_below_6 : decode cL_below 6 = .ok (.ireturn, 1) := by decide +kernel
theorem dL_cell_0 : decode cL_cell 0 = .ok (.iload_n 1, 1) := by decide +kernel
theorem dL_cell_1 : decode cL_cell 1 = .ok (.aload_n 0, 1) := by decide +kernel
theorem dL_cell_2 : decode cL_cell 2 = .ok (.arraylength, 1) := by decide +kernel
theorem dL_cell_3 : decode cL_cell 3 = .ok (.if_icmp .ge 9, 3) := by decide +kernel
theorem dL_cell_6 : decode cL_cell 6 = .ok (.aload_n 0, 1) := by decide +kernel
theorem dL_cell_7 : decode cL_cell 7 = .ok (.iload_n 1, 1) := by decide +kernel
theorem dL_cell_8 : decode cL_cell 8 = .ok (.iaload, 1) := by decide +kernel
theorem dL_cell_9 : decode cL_cell 9 = .ok (.goto 9, 3) := by decide +kernel
theorem dL_cell_12 : decode cL_cell 12 = .ok (.ldc 8, 2) := by decide +kernel
theorem dL_cell_14 : decode cL_cell 14 = .ok (.iload_n 1, 1) := by decide +kernel
theorem dL_cell_15 : decode cL_cell 15 = .ok (.iconst 3, 1) := by decide +kernel
theorem dL_cell_16 : decode cL_cell 16 = .ok (.iadd, 1) := by decide +kernel
theorem dL_cell_17 : decode cL_cell 17 = .ok (.imul, 1) := by decide +kernel
theorem dL_cell_18 : decode cL_cell 18 = .ok (.ireturn, 1) := by decide +kernel
theorem dL_law_0 : decode cL_law 0 = .ok (.new 9, 3) := by decide +kernel
theorem dL_law_3 : decode cL_law 3 = .ok (.dup, 1) := by decide +kernel
theorem dL_law_4 : decode cL_law 4 = .ok (.invokespecial 11, 3) := by decide +kernel
theorem dL_law_7 : decode cL_law 7 = .ok (.astore_n 1, 1) := by decide +kernel
theorem dL_law_8 : decode cL_law 8 = .ok (.iconst 0, 1) := by decide +kernel
theorem dL_law_9 : decode cL_law 9 = .ok (.istore_n 2, 1) := by decide +kernel
theorem dL_law_10 : decode cL_law 10 = .ok (.iload_n 2, 1) := by decide +kernel
theorem dL_law_11 : decode cL_law 11 = .ok (.bipush 40, 2) := by decide +kernel
theorem dL_law_13 : decode cL_law 13 = .ok (.if_icmp .ge 67, 3) := by decide +kernel
theorem dL_law_16 : decode cL_law 16 = .ok (.aload_n 1, 1) := by decide +kernel
theorem dL_law_17 : decode cL_law 17 = .ok (.aload_n 0, 1) := by decide +kernel
theorem dL_law_18 : decode cL_law 18 = .ok (.iload_n 2, 1) := by decide +kernel
theorem dL_law_19 : decode cL_law 19 = .ok (.bipush 34, 2) := by decide +kernel
theorem dL_law_21 : decode cL_law 21 = .ok (.irem, 1) := by decide +kernel
theorem dL_law_22 : decode cL_law 22 = .ok (.invokestatic 12, 3) := by decide +kernel
theorem dL_law_25 : decode cL_law 25 = .ok (.iload_n 2, 1) := by decide +kernel
theorem dL_law_26 : decode cL_law 26 = .ok (.bipush 34, 2) := by decide +kernel
theorem dL_law_28 : decode cL_law 28 = .ok (.idiv, 1) := by decide +kernel
theorem dL_law_29 : decode cL_law 29 = .ok (.bipush 11, 2) := by decide +kernel
theorem dL_law_31 : decode cL_law 31 = .ok (.imul, 1) := by decide +kernel
theorem dL_law_32 : decode cL_law 32 = .ok (.ishr, 1) := by decide +kernel
theorem dL_law_33 : decode cL_law 33 = .ok (.invokestatic 18, 3) := by decide +kernel
theorem dL_law_36 : decode cL_law 36 = .ok (.ifCond .ne 5, 3) := by decide +kernel
theorem dL_law_39 : decode cL_law 39 = .ok (.iconst 0, 1) := by decide +kernel
theorem dL_law_40 : decode cL_law 40 = .ok (.ireturn, 1) := by decide +kernel
theorem dL_law_41 : decode cL_law 41 = .ok (.iload_n 2, 1) := by decide +kernel
theorem dL_law_42 : decode cL_law 42 = .ok (.iconst 5, 1) := by decide +kernel
theorem dL_law_43 : decode cL_law 43 = .ok (.irem, 1) := by decide +kernel
theorem dL_law_44 : decode cL_law 44 = .ok (.iconst 4, 1) := by decide +kernel
theorem dL_law_45 : decode cL_law 45 = .ok (.if_icmp .eq 6, 3) := by decide +kernel
theorem dL_law_48 : decode cL_law 48 = .ok (.goto 26, 3) := by decide +kernel
theorem dL_law_51 : decode cL_law 51 = .ok (.aload_n 1, 1) := by decide +kernel
theorem dL_law_52 : decode cL_law 52 = .ok (.invokevirtual 22, 3) := by decide +kernel
theorem dL_law_55 : decode cL_law 55 = .ok (.lstore_n 3, 1) := by decide +kernel
theorem dL_law_56 : decode cL_law 56 = .ok (.aload_n 1, 1) := by decide +kernel
theorem dL_law_57 : decode cL_law 57 = .ok (.invokestatic 26, 3) := by decide +kernel
theorem dL_law_60 : decode cL_law 60 = .ok (.ifCond .eq 12, 3) := by decide +kernel
theorem dL_law_63 : decode cL_law 63 = .ok (.aload_n 1, 1) := by decide +kernel
theorem dL_law_64 : decode cL_law 64 = .ok (.invokevirtual 22, 3) := by decide +kernel
theorem dL_law_67 : decode cL_law 67 = .ok (.lload_n 3, 1) := by decide +kernel
theorem dL_law_68 : decode cL_law 68 = .ok (.lcmp, 1) := by decide +kernel
theorem dL_law_69 : decode cL_law 69 = .ok (.ifCond .eq 5, 3) := by decide +kernel
theorem dL_law_72 : decode cL_law 72 = .ok (.iconst 0, 1) := by decide +kernel
theorem dL_law_73 : decode cL_law 73 = .ok (.ireturn, 1) := by decide +kernel
theorem dL_law_74 : decode cL_law 74 = .ok (.iinc 2 1, 3) := by decide +kernel
theorem dL_law_77 : decode cL_law 77 = .ok (.goto (-67), 3) := by decide +kernel
theorem dL_law_80 : decode cL_law 80 = .ok (.iconst 1, 1) := by decide +kernel
theorem dL_law_81 : decode cL_law 81 = .ok (.ireturn, 1) := by decide +kernel
