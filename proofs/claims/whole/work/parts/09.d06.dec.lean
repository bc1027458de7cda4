theorem dX11_digest_0 : decode cX11_digest 0 = .ok (.aload_n 0, 1) := by decide +kernel
theorem dX11_digest_1 : decode cX11_digest 1 = .ok (.ldc2_w 307, 3) := by decide +kernel
theorem dX11_digest_4 : decode cX11_digest 4 = .ok (.invokevirtual 309, 3) := by decide +kernel
theorem dX11_digest_7 : decode cX11_digest 7 = .ok (.lstore_n 1, 1) := by decide +kernel
theorem dX11_digest_8 : decode cX11_digest 8 = .ok (.aload_n 0, 1) := by decide +kernel
theorem dX11_digest_9 : decode cX11_digest 9 = .ok (.lload_n 1, 1) := by decide +kernel
theorem dX11_digest_10 : decode cX11_digest 10 = .ok (.invokevirtual 313, 3) := by decide +kernel
theorem dX11_digest_13 : decode cX11_digest 13 = .ok (.lstore_n 1, 1) := by decide +kernel
theorem dX11_digest_14 : decode cX11_digest 14 = .ok (.aload_n 0, 1) := by decide +kernel
theorem dX11_digest_15 : decode cX11_digest 15 = .ok (.lload_n 1, 1) := by decide +kernel
theorem dX11_digest_16 : decode cX11_digest 16 = .ok (.invokevirtual 316, 3) := by decide +kernel
theorem dX11_digest_19 : decode cX11_digest 19 = .ok (.lstore_n 1, 1) := by decide +kernel
theorem dX11_digest_20 : decode cX11_digest 20 = .ok (.aload_n 0, 1) := by decide +kernel
theorem dX11_digest_21 : decode cX11_digest 21 = .ok (.lload_n 1, 1) := by decide +kernel
theorem dX11_digest_22 : decode cX11_digest 22 = .ok (.invokevirtual 319, 3) := by decide +kernel
theorem dX11_digest_25 : decode cX11_digest 25 = .ok (.lstore_n 1, 1) := by decide +kernel
theorem dX11_digest_26 : decode cX11_digest 26 = .ok (.lload_n 1, 1) := by decide +kernel
theorem dX11_digest_27 : decode cX11_digest 27 = .ok (.aload_n 0, 1) := by decide +kernel
theorem dX11_digest_28 : decode cX11_digest 28 = .ok (.invokevirtual 322, 3) := by decide +kernel
theorem dX11_digest_31 : decode cX11_digest 31 = .ok (.i2l, 1) := by decide +kernel
theorem dX11_digest_32 : decode cX11_digest 32 = .ok (.invokestatic 325, 3) := by decide +kernel
theorem dX11_digest_35 : decode cX11_digest 35 = .ok (.lstore_n 1, 1) := by decide +kernel
theorem dX11_digest_36 : decode cX11_digest 36 = .ok (.lload_n 1, 1) := by decide +kernel
theorem dX11_digest_37 : decode cX11_digest 37 = .ok (.aload_n 0, 1) := by decide +kernel
theorem dX11_digest_38 : decode cX11_digest 38 = .ok (.invokevirtual 329, 3) := by decide +kernel
theorem dX11_digest_41 : decode cX11_digest 41 = .ok (.i2l, 1) := by decide +kernel
theorem dX11_digest_42 : decode cX11_digest 42 = .ok (.invokestatic 325, 3) := by decide +kernel
theorem dX11_digest_45 : decode cX11_digest 45 = .ok (.lstore_n 1, 1) := by decide +kernel
theorem dX11_digest_46 : decode cX11_digest 46 = .ok (.lload_n 1, 1) := by decide +kernel
theorem dX11_digest_47 : decode cX11_digest 47 = .ok (.aload_n 0, 1) := by decide +kernel
theorem dX11_digest_48 : decode cX11_digest 48 = .ok (.getfield 73, 3) := by decide +kernel
theorem dX11_digest_51 : decode cX11_digest 51 = .ok (.invokevirtual 297, 3) := by decide +kernel
theorem dX11_digest_54 : decode cX11_digest 54 = .ok (.i2l, 1) := by decide +kernel
theorem dX11_digest_55 : decode cX11_digest 55 = .ok (.invokestatic 325, 3) := by decide +kernel
theorem dX11_digest_58 : decode cX11_digest 58 = .ok (.lreturn, 1) := by decide +kernel
theorem dX11_addBoard_0 : decode cX11_addBoard 0 = .ok (.lload_n 1, 1) := by decide +kernel
theorem dX11_addBoard_1 : decode cX11_addBoard 1 = .ok (.aload_n 0, 1) := by decide +kernel
theorem dX11_addBoard_2 : decode cX11_addBoard 2 = .ok (.getfield 13, 3) := by decide +kernel
theorem dX11_addBoard_5 : decode cX11_addBoard 5 = .ok (.invokevirtual 198, 3) := by decide +kernel
theorem dX11_addBoard_8 : decode cX11_addBoard 8 = .ok (.i2l, 1) := by decide +kernel
theorem dX11_addBoard_9 : decode cX11_addBoard 9 = .ok (.invokestatic 325, 3) := by decide +kernel
theorem dX11_addBoard_12 : decode cX11_addBoard 12 = .ok (.aload_n 0, 1) := by decide +kernel
theorem dX11_addBoard_13 : decode cX11_addBoard 13 = .ok (.getfield 13, 3) := by decide +kernel
theorem dX11_addBoard_16 : decode cX11_addBoard 16 = .ok (.invokevirtual 201, 3) := by decide +kernel
theorem dX11_addBoard_19 : decode cX11_addBoard 19 = .ok (.i2l, 1) := by decide +kernel
theorem dX11_addBoard_20 : decode cX11_addBoard 20 = .ok (.invokestatic 325, 3) := by decide +kernel
theorem dX11_addBoard_23 : decode cX11_addBoard 23 = .ok (.lstore_n 3, 1) := by decide +kernel
theorem dX11_addBoard_24 : decode cX11_addBoard 24 = .ok (.aload_n 0, 1) := by decide +kernel
theorem dX11_addBoard_25 : decode cX11_addBoard 25 = .ok (.getfield 13, 3) := by decide +kernel
theorem dX11_addBoard_28 : decode cX11_addBoard 28 = .ok (.invokevirtual 332, 3) := by decide +kernel
theorem dX11_addBoard_31 : decode cX11_addBoard 31 = .ok (.istore 5, 2) := by decide +kernel
theorem dX11_addBoard_33 : decode cX11_addBoard 33 = .ok (.iconst 0, 1) := by decide +kernel
theorem dX11_addBoard_34 : decode cX11_addBoard 34 = .ok (.istore 6, 2) := by decide +kernel
theorem dX11_addBoard_36 : decode cX11_addBoard 36 = .ok (.iload 6, 2) := by decide +kernel
theorem dX11_addBoard_38 : decode cX11_addBoard 38 = .ok (.iload 5, 2) := by decide +kernel
theorem dX11_addBoard_40 : decode cX11_addBoard 40 = .ok (.if_icmp .ge 24, 3) := by decide +kernel
theorem dX11_addBoard_43 : decode cX11_addBoard 43 = .ok (.lload_n 3, 1) := by decide +kernel
theorem dX11_addBoard_44 : decode cX11_addBoard 44 = .ok (.aload_n 0, 1) := by decide +kernel
theorem dX11_addBoard_45 : decode cX11_addBoard 45 = .ok (.getfield 13, 3) := by decide +kernel
theorem dX11_addBoard_48 : decode cX11_addBoard 48 = .ok (.iload 6, 2) := by decide +kernel
theorem dX11_addBoard_50 : decode cX11_addBoard 50 = .ok (.invokevirtual 119, 3) := by decide +kernel
theorem dX11_addBoard_53 : decode cX11_addBoard 53 = .ok (.i2l, 1) := by decide +kernel
theorem dX11_addBoard_54 : decode cX11_addBoard 54 = .ok (.invokestatic 325, 3) := by decide +kernel
theorem dX11_addBoard_57 : decode cX11_addBoard 57 = .ok (.lstore_n 3, 1) := by decide +kernel
theorem dX11_addBoard_58 : decode cX11_addBoard 58 = .ok (.iinc 6 1, 3) := by decide +kernel
theorem dX11_addBoard_61 : decode cX11_addBoard 61 = .ok (.goto (-25), 3) := by decide +kernel
theorem dX11_addBoard_64 : decode cX11_addBoard 64 = .ok (.lload_n 3, 1) := by decide +kernel
theorem dX11_addBoard_65 : decode cX11_addBoard 65 = .ok (.aload_n 0, 1) := by decide +kernel
theorem dX11_addBoard_66 : decode cX11_addBoard 66 = .ok (.getfield 13, 3) := by decide +kernel
theorem dX11_addBoard_69 : decode cX11_addBoard 69 = .ok (.invokevirtual 137, 3) := by decide +kernel
theorem dX11_addBoard_72 : decode cX11_addBoard 72 = .ok (.i2l, 1) := by decide +kernel
theorem dX11_addBoard_73 : decode cX11_addBoard 73 = .ok (.invokestatic 325, 3) := by decide +kernel
theorem dX11_addBoard_76 : decode cX11_addBoard 76 = .ok (.lstore_n 3, 1) := by decide +kernel
theorem dX11_addBoard_77 : decode cX11_addBoard 77 = .ok (.lload_n 3, 1) := by decide +kernel
theorem dX11_addBoard_78 : decode cX11_addBoard 78 = .ok (.aload_n 0, 1) := by decide +kernel
theorem dX11_addBoard_79 : decode cX11_addBoard 79 = .ok (.getfield 29, 3) := by decide +kernel
theorem dX11_addBoard_82 : decode cX11_addBoard 82 = .ok (.invokevirtual 153, 3) := by decide +kernel
theorem dX11_addBoard_85 : decode cX11_addBoard 85 = .ok (.i2l, 1) := by decide +kernel
theorem dX11_addBoard_86 : decode cX11_addBoard 86 = .ok (.invokestatic 325, 3) := by decide +kernel
theorem dX11_addBoard_89 : decode cX11_addBoard 89 = .ok (.lstore_n 3, 1) := by decide +kernel
theorem dX11_addBoard_90 : decode cX11_addBoard 90 = .ok (.lload_n 3, 1) := by decide +kernel
theorem dX11_addBoard_91 : decode cX11_addBoard 91 = .ok (.aload_n 0, 1) := by decide +kernel
theorem dX11_addBoard_92 : decode cX11_addBoard 92 = .ok (.invokevirtual 217, 3) := by decide +kernel
theorem dX11_addBoard_95 : decode cX11_addBoard 95 = .ok (.ifCond .eq 7, 3) := by decide +kernel
theorem dX11_addBoard_98 : decode cX11_addBoard 98 = .ok (.lconst 1, 1) := by decide +kernel
theorem dX11_addBoard_99 : decode cX11_addBoard 99 = .ok (.goto 4, 3) := by decide +kernel
theorem dX11_addBoard_102 : decode cX11_addBoard 102 = .ok (.lconst 0, 1) := by decide +kernel
theorem dX11_addBoard_103 : decode cX11_addBoard 103 = .ok (.invokestatic 325, 3) := by decide +kernel
theorem dX11_addBoard_106 : decode cX11_addBoard 106 = .ok (.lstore_n 3, 1) := by decide +kernel
theorem dX11_addBoard_107 : decode cX11_addBoard 107 = .ok (.lload_n 3, 1) := by decide +kernel
theorem dX11_addBoard_108 : decode cX11_addBoard 108 = .ok (.aload_n 0, 1) := by decide +kernel
theorem dX11_addBoard_109 : decode cX11_addBoard 109 = .ok (.getfield 13, 3) := by decide +kernel
theorem dX11_addBoard_112 : decode cX11_addBoard 112 = .ok (.invokevirtual 220, 3) := by decide +kernel
theorem dX11_addBoard_115 : decode cX11_addBoard 115 = .ok (.invokestatic 325, 3) := by decide +kernel
theorem dX11_addBoard_118 : decode cX11_addBoard 118 = .ok (.lstore_n 3, 1) := by decide +kernel
theorem dX11_addBoard_119 : decode cX11_addBoard 119 = .ok (.lload_n 3, 1) := by decide +kernel
theorem dX11_addBoard_120 : decode cX11_addBoard 120 = .ok (.aload_n 0, 1) := by decide +kernel
theorem dX11_addBoard_121 : decode cX11_addBoard 121 = .ok (.getfield 36, 3) := by decide +kernel
theorem dX11_addBoard_124 : decode cX11_addBoard 124 = .ok (.aload_n 0, 1) := by decide +kernel
theorem dX11_addBoard_125 : decode cX11_addBoard 125 = .ok (.getfield 13, 3) := by decide +kernel
theorem dX11_addBoard_128 : decode cX11_addBoard 128 = .ok (.invokevirtual 175, 3) := by decide +kernel
theorem dX11_addBoard_131 : decode cX11_addBoard 131 = .ok (.i2l, 1) := by decide +kernel
theorem dX11_addBoard_132 : decode cX11_addBoard 132 = .ok (.invokestatic 325, 3) := by decide +kernel
theorem dX11_addBoard_135 : decode cX11_addBoard 135 = .ok (.lreturn, 1) := by decide +kernel
theorem dX11_addMoves_0 : decode cX11_addMoves 0 = .ok (.lload_n 1, 1) := by decide +kernel
theorem dX11_addMoves_1 : decode cX11_addMoves 1 = .ok (.aload_n 0, 1) := by decide +kernel
theorem dX11_addMoves_2 : decode cX11_addMoves 2 = .ok (.getfield 22, 3) := by decide +kernel
theorem dX11_addMoves_5 : decode cX11_addMoves 5 = .ok (.invokevirtual 204, 3) := by decide +kernel
theorem dX11_addMoves_8 : decode cX11_addMoves 8 = .ok (.i2l, 1) := by decide +kernel
theorem dX11_addMoves_9 : decode cX11_addMoves 9 = .ok (.invokestatic 325, 3) := by decide +kernel
theorem dX11_addMoves_12 : decode cX11_addMoves 12 = .ok (.lstore_n 3, 1) := by decide +kernel
theorem dX11_addMoves_13 : decode cX11_addMoves 13 = .ok (.iconst 0, 1) := by decide +kernel
theorem dX11_addMoves_14 : decode cX11_addMoves 14 = .ok (.istore 5, 2) := by decide +kernel
theorem dX11_addMoves_16 : decode cX11_addMoves 16 = .ok (.iload 5, 2) := by decide +kernel
theorem dX11_addMoves_18 : decode cX11_addMoves 18 = .ok (.aload_n 0, 1) := by decide +kernel
theorem dX11_addMoves_19 : decode cX11_addMoves 19 = .ok (.getfield 22, 3) := by decide +kernel
theorem dX11_addMoves_22 : decode cX11_addMoves 22 = .ok (.invokevirtual 204, 3) := by decide +kernel
theorem dX11_addMoves_25 : decode cX11_addMoves 25 = .ok (.if_icmp .ge 45, 3) := by decide +kernel
theorem dX11_addMoves_28 : decode cX11_addMoves 28 = .ok (.lload_n 3, 1) := by decide +kernel
theorem dX11_addMoves_29 : decode cX11_addMoves 29 = .ok (.aload_n 0, 1) := by decide +kernel
theorem dX11_addMoves_30 : decode cX11_addMoves 30 = .ok (.getfield 22, 3) := by decide +kernel
theorem dX11_addMoves_33 : decode cX11_addMoves 33 = .ok (.iload 5, 2) := by decide +kernel
theorem dX11_addMoves_35 : decode cX11_addMoves 35 = .ok (.invokevirtual 205, 3) := by decide +kernel
theorem dX11_addMoves_38 : decode cX11_addMoves 38 = .ok (.invokestatic 208, 3) := by decide +kernel
theorem dX11_addMoves_41 : decode cX11_addMoves 41 = .ok (.i2l, 1) := by decide +kernel
theorem dX11_addMoves_42 : decode cX11_addMoves 42 = .ok (.invokestatic 325, 3) := by decide +kernel
theorem dX11_addMoves_45 : decode cX11_addMoves 45 = .ok (.lstore_n 3, 1) := by decide +kernel
theorem dX11_addMoves_46 : decode cX11_addMoves 46 = .ok (.lload_n 3, 1) := by decide +kernel
theorem dX11_addMoves_47 : decode cX11_addMoves 47 = .ok (.aload_n 0, 1) := by decide +kernel
theorem dX11_addMoves_48 : decode cX11_addMoves 48 = .ok (.getfield 22, 3) := by decide +kernel
theorem dX11_addMoves_51 : decode cX11_addMoves 51 = .ok (.iload 5, 2) := by decide +kernel
theorem dX11_addMoves_53 : decode cX11_addMoves 53 = .ok (.invokevirtual 205, 3) := by decide +kernel
theorem dX11_addMoves_56 : decode cX11_addMoves 56 = .ok (.invokestatic 211, 3) := by decide +kernel
theorem dX11_addMoves_59 : decode cX11_addMoves 59 = .ok (.i2l, 1) := by decide +kernel
theorem dX11_addMoves_60 : decode cX11_addMoves 60 = .ok (.invokestatic 325, 3) := by decide +kernel
theorem dX11_addMoves_63 : decode cX11_addMoves 63 = .ok (.lstore_n 3, 1) := by decide +kernel
theorem dX11_addMoves_64 : decode cX11_addMoves 64 = .ok (.iinc 5 1, 3) := by decide +kernel
theorem dX11_addMoves_67 : decode cX11_addMoves 67 = .ok (.goto (-51), 3) := by decide +kernel
theorem dX11_addMoves_70 : decode cX11_addMoves 70 = .ok (.lload_n 3, 1) := by decide +kernel
theorem dX11_addMoves_71 : decode cX11_addMoves 71 = .ok (.aload_n 0, 1) := by decide +kernel
theorem dX11_addMoves_72 : decode cX11_addMoves 72 = .ok (.getfield 57, 3) := by decide +kernel
theorem dX11_addMoves_75 : decode cX11_addMoves 75 = .ok (.iconst 2, 1) := by decide +kernel
theorem dX11_addMoves_76 : decode cX11_addMoves 76 = .ok (.invokevirtual 226, 3) := by decide +kernel
theorem dX11_addMoves_79 : decode cX11_addMoves 79 = .ok (.i2l, 1) := by decide +kernel
theorem dX11_addMoves_80 : decode cX11_addMoves 80 = .ok (.invokestatic 325, 3) := by decide +kernel
theorem dX11_addMoves_83 : decode cX11_addMoves 83 = .ok (.lstore_n 3, 1) := by decide +kernel
theorem dX11_addMoves_84 : decode cX11_addMoves 84 = .ok (.lload_n 3, 1) := by decide +kernel
theorem dX11_addMoves_85 : decode cX11_addMoves 85 = .ok (.aload_n 0, 1) := by decide +kernel
theorem dX11_addMoves_86 : decode cX11_addMoves 86 = .ok (.getfield 57, 3) := by decide +kernel
theorem dX11_addMoves_89 : decode cX11_addMoves 89 = .ok (.iconst 1, 1) := by decide +kernel
theorem dX11_addMoves_90 : decode cX11_addMoves 90 = .ok (.sipush (-9999), 3) := by decide +kernel
theorem dX11_addMoves_93 : decode cX11_addMoves 93 = .ok (.sipush 9999, 3) := by decide +kernel
theorem dX11_addMoves_96 : decode cX11_addMoves 96 = .ok (.invokevirtual 229, 3) := by decide +kernel
theorem dX11_addMoves_99 : decode cX11_addMoves 99 = .ok (.i2l, 1) := by decide +kernel
theorem dX11_addMoves_100 : decode cX11_addMoves 100 = .ok (.invokestatic 325, 3) := by decide +kernel
theorem dX11_addMoves_103 : decode cX11_addMoves 103 = .ok (.lreturn, 1) := by decide +kernel
theorem dX11_addSearch_0 : decode cX11_addSearch 0 = .ok (.lload_n 1, 1) := by decide +kernel
theorem dX11_addSearch_1 : decode cX11_addSearch 1 = .ok (.aload_n 0, 1) := by decide +kernel
theorem dX11_addSearch_2 : decode cX11_addSearch 2 = .ok (.getfield 66, 3) := by decide +kernel
theorem dX11_addSearch_5 : decode cX11_addSearch 5 = .ok (.invokevirtual 246, 3) := by decide +kernel
theorem dX11_addSearch_8 : decode cX11_addSearch 8 = .ok (.invokestatic 208, 3) := by decide +kernel
theorem dX11_addSearch_11 : decode cX11_addSearch 11 = .ok (.i2l, 1) := by decide +kernel
theorem dX11_addSearch_12 : decode cX11_addSearch 12 = .ok (.invokestatic 325, 3) := by decide +kernel
theorem dX11_addSearch_15 : decode cX11_addSearch 15 = .ok (.lstore_n 3, 1) := by decide +kernel
theorem dX11_addSearch_16 : decode cX11_addSearch 16 = .ok (.lload_n 3, 1) := by decide +kernel
theorem dX11_addSearch_17 : decode cX11_addSearch 17 = .ok (.aload_n 0, 1) := by decide +kernel
theorem dX11_addSearch_18 : decode cX11_addSearch 18 = .ok (.getfield 66, 3) := by decide +kernel
theorem dX11_addSearch_21 : decode cX11_addSearch 21 = .ok (.invokevirtual 246, 3) := by decide +kernel
theorem dX11_addSearch_24 : decode cX11_addSearch 24 = .ok (.invokestatic 211, 3) := by decide +kernel
theorem dX11_addSearch_27 : decode cX11_addSearch 27 = .ok (.i2l, 1) := by decide +kernel
theorem dX11_addSearch_28 : decode cX11_addSearch 28 = .ok (.invokestatic 325, 3) := by decide +kernel
theorem dX11_addSearch_31 : decode cX11_addSearch 31 = .ok (.lstore_n 3, 1) := by decide +kernel
theorem dX11_addSearch_32 : decode cX11_addSearch 32 = .ok (.lload_n 3, 1) := by decide +kernel
theorem dX11_addSearch_33 : decode cX11_addSearch 33 = .ok (.aload_n 0, 1) := by decide +kernel
theorem dX11_addSearch_34 : decode cX11_addSearch 34 = .ok (.getfield 66, 3) := by decide +kernel
theorem dX11_addSearch_37 : decode cX11_addSearch 37 = .ok (.invokevirtual 249, 3) := by decide +kernel
theorem dX11_addSearch_40 : decode cX11_addSearch 40 = .ok (.i2l, 1) := by decide +kernel
theorem dX11_addSearch_41 : decode cX11_addSearch 41 = .ok (.invokestatic 325, 3) := by decide +kernel
theorem dX11_addSearch_44 : decode cX11_addSearch 44 = .ok (.lstore_n 3, 1) := by decide +kernel
theorem dX11_addSearch_45 : decode cX11_addSearch 45 = .ok (.lload_n 3, 1) := by decide +kernel
theorem dX11_addSearch_46 : decode cX11_addSearch 46 = .ok (.aload_n 0, 1) := by decide +kernel
theorem dX11_addSearch_47 : decode cX11_addSearch 47 = .ok (.getfield 66, 3) := by decide +kernel
theorem dX11_addSearch_50 : decode cX11_addSearch 50 = .ok (.invokevirtual 252, 3) := by decide +kernel
theorem dX11_addSearch_53 : decode cX11_addSearch 53 = .ok (.i2l, 1) := by decide +kernel
theorem dX11_addSearch_54 : decode cX11_addSearch 54 = .ok (.invokestatic 325, 3) := by decide +kernel
theorem dX11_addSearch_57 : decode cX11_addSearch 57 = .ok (.lstore_n 3, 1) := by decide +kernel
theorem dX11_addSearch_58 : decode cX11_addSearch 58 = .ok (.lload_n 3, 1) := by decide +kernel
theorem dX11_addSearch_59 : decode cX11_addSearch 59 = .ok (.aload_n 0, 1) := by decide +kernel
theorem dX11_addSearch_60 : decode cX11_addSearch 60 = .ok (.getfield 66, 3) := by decide +kernel
theorem dX11_addSearch_63 : decode cX11_addSearch 63 = .ok (.invokevirtual 255, 3) := by decide +kernel
theorem dX11_addSearch_66 : decode cX11_addSearch 66 = .ok (.i2l, 1) := by decide +kernel
theorem dX11_addSearch_67 : decode cX11_addSearch 67 = .ok (.invokestatic 325, 3) := by decide +kernel
theorem dX11_addSearch_70 : decode cX11_addSearch 70 = .ok (.lstore_n 3, 1) := by decide +kernel
theorem dX11_addSearch_71 : decode cX11_addSearch 71 = .ok (.lload_n 3, 1) := by decide +kernel
theorem dX11_addSearch_72 : decode cX11_addSearch 72 = .ok (.aload_n 0, 1) := by decide +kernel
theorem dX11_addSearch_73 : decode cX11_addSearch 73 = .ok (.getfield 66, 3) := by decide +kernel
theorem dX11_addSearch_76 : decode cX11_addSearch 76 = .ok (.invokevirtual 258, 3) := by decide +kernel
theorem dX11_addSearch_79 : decode cX11_addSearch 79 = .ok (.i2l, 1) := by decide +kernel
theorem dX11_addSearch_80 : decode cX11_addSearch 80 = .ok (.invokestatic 325, 3) := by decide +kernel
theorem dX11_addSearch_83 : decode cX11_addSearch 83 = .ok (.lstore_n 3, 1) := by decide +kernel
theorem dX11_addSearch_84 : decode cX11_addSearch 84 = .ok (.iconst 1, 1) := by decide +kernel
theorem dX11_addSearch_85 : decode cX11_addSearch 85 = .ok (.istore 5, 2) := by decide +kernel
theorem dX11_addSearch_87 : decode cX11_addSearch 87 = .ok (.iload 5, 2) := by decide +kernel
theorem dX11_addSearch_89 : decode cX11_addSearch 89 = .ok (.iconst 4, 1) := by decide +kernel
theorem dX11_addSearch_90 : decode cX11_addSearch 90 = .ok (.if_icmp .gt 41, 3) := by decide +kernel
theorem dX11_addSearch_93 : decode cX11_addSearch 93 = .ok (.lload_n 3, 1) := by decide +kernel
theorem dX11_addSearch_94 : decode cX11_addSearch 94 = .ok (.aload_n 0, 1) := by decide +kernel
theorem dX11_addSearch_95 : decode cX11_addSearch 95 = .ok (.getfield 66, 3) := by decide +kernel
theorem dX11_addSearch_98 : decode cX11_addSearch 98 = .ok (.iload 5, 2) := by decide +kernel
theorem dX11_addSearch_100 : decode cX11_addSearch 100 = .ok (.iconst 0, 1) := by decide +kernel
theorem dX11_addSearch_101 : decode cX11_addSearch 101 = .ok (.invokevirtual 261, 3) := by decide +kernel
theorem dX11_addSearch_104 : decode cX11_addSearch 104 = .ok (.i2l, 1) := by decide +kernel
theorem dX11_addSearch_105 : decode cX11_addSearch 105 = .ok (.invokestatic 325, 3) := by decide +kernel
theorem dX11_addSearch_108 : decode cX11_addSearch 108 = .ok (.lstore_n 3, 1) := by decide +kernel
theorem dX11_addSearch_109 : decode cX11_addSearch 109 = .ok (.lload_n 3, 1) := by decide +kernel
theorem dX11_addSearch_110 : decode cX11_addSearch 110 = .ok (.aload_n 0, 1) := by decide +kernel
theorem dX11_addSearch_111 : decode cX11_addSearch 111 = .ok (.getfield 66, 3) := by decide +kernel
theorem dX11_addSearch_114 : decode cX11_addSearch 114 = .ok (.iload 5, 2) := by decide +kernel
theorem dX11_addSearch_116 : decode cX11_addSearch 116 = .ok (.iconst 1, 1) := by decide +kernel
theorem dX11_addSearch_117 : decode cX11_addSearch 117 = .ok (.invokevirtual 261, 3) := by decide +kernel
theorem dX11_addSearch_120 : decode cX11_addSearch 120 = .ok (.i2l, 1) := by decide +kernel
theorem dX11_addSearch_121 : decode cX11_addSearch 121 = .ok (.invokestatic 325, 3) := by decide +kernel
theorem dX11_addSearch_124 : decode cX11_addSearch 124 = .ok (.lstore_n 3, 1) := by decide +kernel
theorem dX11_addSearch_125 : decode cX11_addSearch 125 = .ok (.iinc 5 1, 3) := by decide +kernel
theorem dX11_addSearch_128 : decode cX11_addSearch 128 = .ok (.goto (-41), 3) := by decide +kernel
theorem dX11_addSearch_131 : decode cX11_addSearch 131 = .ok (.lload_n 3, 1) := by decide +kernel
theorem dX11_addSearch_132 : decode cX11_addSearch 132 = .ok (.lreturn, 1) := by decide +kernel
theorem dX11_addTable_0 : decode cX11_addTable 0 = .ok (.lload_n 1, 1) := by decide +kernel
theorem dX11_addTable_1 : decode cX11_addTable 1 = .ok (.aload_n 0, 1) := by decide +kernel
theorem dX11_addTable_2 : decode cX11_addTable 2 = .ok (.getfield 43, 3) := by decide +kernel
theorem dX11_addTable_5 : decode cX11_addTable 5 = .ok (.invokevirtual 189, 3) := by decide +kernel
theorem dX11_addTable_8 : decode cX11_addTable 8 = .ok (.i2l, 1) := by decide +kernel
theorem dX11_addTable_9 : decode cX11_addTable 9 = .ok (.invokestatic 325, 3) := by decide +kernel
theorem dX11_addTable_12 : decode cX11_addTable 12 = .ok (.aload_n 0, 1) := by decide +kernel
theorem dX11_addTable_13 : decode cX11_addTable 13 = .ok (.getfield 43, 3) := by decide +kernel
theorem dX11_addTable_16 : decode cX11_addTable 16 = .ok (.invokevirtual 195, 3) := by decide +kernel
theorem dX11_addTable_19 : decode cX11_addTable 19 = .ok (.i2l, 1) := by decide +kernel
theorem dX11_addTable_20 : decode cX11_addTable 20 = .ok (.invokestatic 325, 3) := by decide +kernel
theorem dX11_addTable_23 : decode cX11_addTable 23 = .ok (.lstore_n 3, 1) := by decide +kernel
theorem dX11_addTable_24 : decode cX11_addTable 24 = .ok (.iconst 0, 1) := by decide +kernel
theorem dX11_addTable_25 : decode cX11_addTable 25 = .ok (.istore 5, 2) := by decide +kernel
theorem dX11_addTable_27 : decode cX11_addTable 27 = .ok (.iload 5, 2) := by decide +kernel
theorem dX11_addTable_29 : decode cX11_addTable 29 = .ok (.aload_n 0, 1) := by decide +kernel
theorem dX11_addTable_30 : decode cX11_addTable 30 = .ok (.getfield 43, 3) := by decide +kernel
theorem dX11_addTable_33 : decode cX11_addTable 33 = .ok (.invokevirtual 189, 3) := by decide +kernel
theorem dX11_addTable_36 : decode cX11_addTable 36 = .ok (.if_icmp .ge 41, 3) := by decide +kernel
theorem dX11_addTable_39 : decode cX11_addTable 39 = .ok (.iconst 0, 1) := by decide +kernel
theorem dX11_addTable_40 : decode cX11_addTable 40 = .ok (.istore 6, 2) := by decide +kernel
theorem dX11_addTable_42 : decode cX11_addTable 42 = .ok (.iload 6, 2) := by decide +kernel
theorem dX11_addTable_44 : decode cX11_addTable 44 = .ok (.iconst 3, 1) := by decide +kernel
theorem dX11_addTable_45 : decode cX11_addTable 45 = .ok (.if_icmp .gt 26, 3) := by decide +kernel
theorem dX11_addTable_48 : decode cX11_addTable 48 = .ok (.lload_n 3, 1) := by decide +kernel
theorem dX11_addTable_49 : decode cX11_addTable 49 = .ok (.aload_n 0, 1) := by decide +kernel
theorem dX11_addTable_50 : decode cX11_addTable 50 = .ok (.getfield 43, 3) := by decide +kernel
theorem dX11_addTable_53 : decode cX11_addTable 53 = .ok (.iload 5, 2) := by decide +kernel
theorem dX11_addTable_55 : decode cX11_addTable 55 = .ok (.iload 6, 2) := by decide +kernel
theorem dX11_addTable_57 : decode cX11_addTable 57 = .ok (.invokevirtual 272, 3) := by decide +kernel
theorem dX11_addTable_60 : decode cX11_addTable 60 = .ok (.i2l, 1) := by decide +kernel
theorem dX11_addTable_61 : decode cX11_addTable 61 = .ok (.invokestatic 325, 3) := by decide +kernel
theorem dX11_addTable_64 : decode cX11_addTable 64 = .ok (.lstore_n 3, 1) := by decide +kernel
theorem dX11_addTable_65 : decode cX11_addTable 65 = .ok (.iinc 6 1, 3) := by decide +kernel
theorem dX11_addTable_68 : decode cX11_addTable 68 = .ok (.goto (-26), 3) := by decide +kernel
theorem dX11_addTable_71 : decode cX11_addTable 71 = .ok (.iinc 5 1, 3) := by decide +kernel
theorem dX11_addTable_74 : decode cX11_addTable 74 = .ok (.goto (-47), 3) := by decide +kernel
theorem dX11_addTable_77 : decode cX11_addTable 77 = .ok (.lload_n 3, 1) := by decide +kernel
theorem dX11_addTable_78 : decode cX11_addTable 78 = .ok (.lreturn, 1) := by decide +kernel
theorem dX11_join_0 : decode cX11_join 0 = .ok (.lload_n 0, 1) := by decide +kernel
theorem dX11_join_1 : decode cX11_join 1 = .ok (.ldc2_w 335, 3) := by decide +kernel
theorem dX11_join_4 : decode cX11_join 4 = .ok (.lmul, 1) := by decide +kernel
theorem dX11_join_5 : decode cX11_join 5 = .ok (.lload_n 2, 1) := by decide +kernel
theorem dX11_join_6 : decode cX11_join 6 = .ok (.ladd, 1) := by decide +kernel
theorem dX11_join_7 : decode cX11_join 7 = .ok (.lreturn, 1) := by decide +kernel
theorem dX11_isWithin_0 : decode cX11_isWithin 0 = .ok (.iload_n 0, 1) := by decide +kernel
theorem dX11_isWithin_1 : decode cX11_isWithin 1 = .ok (.iload_n 1, 1) := by decide +kernel
theorem dX11_isWithin_2 : decode cX11_isWithin 2 = .ok (.if_icmp .lt 12, 3) := by decide +kernel
theorem dX11_isWithin_5 : decode cX11_isWithin 5 = .ok (.iload_n 0, 1) := by decide +kernel
theorem dX11_isWithin_6 : decode cX11_isWithin 6 = .ok (.iload_n 2, 1) := by decide +kernel
theorem dX11_isWithin_7 : decode cX11_isWithin 7 = .ok (.if_icmp .gt 7, 3) := by decide +kernel
theorem dX11_isWithin_10 : decode cX11_isWithin 10 = .ok (.iconst 1, 1) := by decide +kernel
theorem dX11_isWithin_11 : decode cX11_isWithin 11 = .ok (.goto 4, 3) := by decide +kernel
theorem dX11_isWithin_14 : decode cX11_isWithin 14 = .ok (.iconst 0, 1) := by decide +kernel
theorem dX11_isWithin_15 : decode cX11_isWithin 15 = .ok (.ireturn, 1) := by decide +kernel
theorem dX11_fromOf_0 : decode cX11_fromOf 0 = .ok (.iload_n 0, 1) := by decide +kernel
theorem dX11_fromOf_1 : decode cX11_fromOf 1 = .ok (.ifCond .ge 7, 3) := by decide +kernel
theorem dX11_fromOf_4 : decode cX11_fromOf 4 = .ok (.iconst (-1), 1) := by decide +kernel
theorem dX11_fromOf_5 : decode cX11_fromOf 5 = .ok (.goto 7, 3) := by decide +kernel
theorem dX11_fromOf_8 : decode cX11_fromOf 8 = .ok (.iload_n 0, 1) := by decide +kernel
theorem dX11_fromOf_9 : decode cX11_fromOf 9 = .ok (.bipush 100, 2) := by decide +kernel
theorem dX11_fromOf_11 : decode cX11_fromOf 11 = .ok (.idiv, 1) := by decide +kernel
theorem dX11_fromOf_12 : decode cX11_fromOf 12 = .ok (.ireturn, 1) := by decide +kernel
theorem dX11_toOf_0 : decode cX11_toOf 0 = .ok (.iload_n 0, 1) := by decide +kernel
theorem dX11_toOf_1 : decode cX11_toOf 1 = .ok (.ifCond .ge 7, 3) := by decide +kernel
theorem dX11_toOf_4 : decode cX11_toOf 4 = .ok (.iconst (-1), 1) := by decide +kernel
theorem dX11_toOf_5 : decode cX11_toOf 5 = .ok (.goto 7, 3) := by decide +kernel
theorem dX11_toOf_8 : decode cX11_toOf 8 = .ok (.iload_n 0, 1) := by decide +kernel
theorem dX11_toOf_9 : decode cX11_toOf 9 = .ok (.bipush 100, 2) := by decide +kernel
theorem dX11_toOf_11 : decode cX11_toOf 11 = .ok (.irem, 1) := by decide +kernel
theorem dX11_toOf_12 : decode cX11_toOf 12 = .ok (.ireturn, 1) := by decide +kernel
theorem dX11_isOver_0 : decode cX11_isOver 0 = .ok (.aload_n 0, 1) := by decide +kernel
theorem dX11_isOver_1 : decode cX11_isOver 1 = .ok (.getfield 22, 3) := by decide +kernel
theorem dX11_isOver_4 : decode cX11_isOver 4 = .ok (.invokevirtual 204, 3) := by decide +kernel
theorem dX11_isOver_7 : decode cX11_isOver 7 = .ok (.ifCond .ne 7, 3) := by decide +kernel
theorem dX11_isOver_10 : decode cX11_isOver 10 = .ok (.iconst 1, 1) := by decide +kernel
theorem dX11_isOver_11 : decode cX11_isOver 11 = .ok (.goto 4, 3) := by decide +kernel
theorem dX11_isOver_14 : decode cX11_isOver 14 = .ok (.iconst 0, 1) := by decide +kernel
theorem dX11_isOver_15 : decode cX11_isOver 15 = .ok (.ireturn, 1) := by decide +kernel
theorem dX11_startAnew_0 : decode cX11_startAnew 0 = .ok (.aload_n 0, 1) := by decide +kernel
theorem dX11_startAnew_1 : decode cX11_startAnew 1 = .ok (.getfield 29, 3) := by decide +kernel
theorem dX11_startAnew_4 : decode cX11_startAnew 4 = .ok (.invokevirtual 337, 3) := by decide +kernel
theorem dX11_startAnew_7 : decode cX11_startAnew 7 = .ok (.aload_n 0, 1) := by decide +kernel
theorem dX11_startAnew_8 : decode cX11_startAnew 8 = .ok (.getfield 13, 3) := by decide +kernel
theorem dX11_startAnew_11 : decode cX11_startAnew 11 = .ok (.aload_n 0, 1) := by decide +kernel
theorem dX11_startAnew_12 : decode cX11_startAnew 12 = .ok (.getfield 22, 3) := by decide +kernel
theorem dX11_startAnew_15 : decode cX11_startAnew 15 = .ok (.invokevirtual 77, 3) := by decide +kernel
theorem dX11_startAnew_18 : decode cX11_startAnew 18 = .ok (.return_, 1) := by decide +kernel
theorem dX11_playHere_0 : decode cX11_playHere 0 = .ok (.aload_n 0, 1) := by decide +kernel
theorem dX11_playHere_1 : decode cX11_playHere 1 = .ok (.getfield 22, 3) := by decide +kernel
theorem dX11_playHere_4 : decode cX11_playHere 4 = .ok (.iload_n 1, 1) := by decide +kernel
theorem dX11_playHere_5 : decode cX11_playHere 5 = .ok (.invokevirtual 205, 3) := by decide +kernel
theorem dX11_playHere_8 : decode cX11_playHere 8 = .ok (.istore_n 2, 1) := by decide +kernel
theorem dX11_playHere_9 : decode cX11_playHere 9 = .ok (.aload_n 0, 1) := by decide +kernel
theorem dX11_playHere_10 : decode cX11_playHere 10 = .ok (.getfield 13, 3) := by decide +kernel
theorem dX11_playHere_13 : decode cX11_playHere 13 = .ok (.iload_n 2, 1) := by decide +kernel
theorem dX11_playHere_14 : decode cX11_playHere 14 = .ok (.invokevirtual 340, 3) := by decide +kernel
theorem dX11_playHere_17 : decode cX11_playHere 17 = .ok (.istore_n 3, 1) := by decide +kernel
theorem dX11_playHere_18 : decode cX11_playHere 18 = .ok (.aload_n 0, 1) := by decide +kernel
theorem dX11_playHere_19 : decode cX11_playHere 19 = .ok (.getfield 29, 3) := by decide +kernel
theorem dX11_playHere_22 : decode cX11_playHere 22 = .ok (.iload_n 2, 1) := by decide +kernel
theorem dX11_playHere_23 : decode cX11_playHere 23 = .ok (.iload_n 3, 1) := by decide +kernel
theorem dX11_playHere_24 : decode cX11_playHere 24 = .ok (.invokevirtual 343, 3) := by decide +kernel
theorem dX11_playHere_27 : decode cX11_playHere 27 = .ok (.aload_n 0, 1) := by decide +kernel
theorem dX11_playHere_28 : decode cX11_playHere 28 = .ok (.getfield 13, 3) := by decide +kernel
theorem dX11_playHere_31 : decode cX11_playHere 31 = .ok (.aload_n 0, 1) := by decide +kernel
theorem dX11_playHere_32 : decode cX11_playHere 32 = .ok (.getfield 22, 3) := by decide +kernel
theorem dX11_playHere_35 : decode cX11_playHere 35 = .ok (.invokevirtual 77, 3) := by decide +kernel
theorem dX11_playHere_38 : decode cX11_playHere 38 = .ok (.iload_n 3, 1) := by decide +kernel
theorem dX11_playHere_39 : decode cX11_playHere 39 = .ok (.ireturn, 1) := by decide +kernel
theorem dX11_goOn_0 : decode cX11_goOn 0 = .ok (.aload_n 0, 1) := by decide +kernel
theorem dX11_goOn_1 : decode cX11_goOn 1 = .ok (.getfield 73, 3) := by decide +kernel
theorem dX11_goOn_4 : decode cX11_goOn 4 = .ok (.aload_n 0, 1) := by decide +kernel
theorem dX11_goOn_5 : decode cX11_goOn 5 = .ok (.getfield 13, 3) := by decide +kernel
theorem dX11_goOn_8 : decode cX11_goOn 8 = .ok (.invokevirtual 220, 3) := by decide +kernel
theorem dX11_goOn_11 : decode cX11_goOn 11 = .ok (.aload_n 0, 1) := by decide +kernel
theorem dX11_goOn_12 : decode cX11_goOn 12 = .ok (.getfield 22, 3) := by decide +kernel
theorem dX11_goOn_15 : decode cX11_goOn 15 = .ok (.invokevirtual 298, 3) := by decide +kernel
theorem dX11_goOn_18 : decode cX11_goOn 18 = .ok (.istore_n 2, 1) := by decide +kernel
theorem dX11_goOn_19 : decode cX11_goOn 19 = .ok (.iload_n 2, 1) := by decide +kernel
theorem dX11_goOn_20 : decode cX11_goOn 20 = .ok (.iconst (-1), 1) := by decide +kernel
theorem dX11_goOn_21 : decode cX11_goOn 21 = .ok (.if_icmp .ne 27, 3) := by decide +kernel
theorem dX11_goOn_24 : decode cX11_goOn 24 = .ok (.aload_n 0, 1) := by decide +kernel
theorem dX11_goOn_25 : decode cX11_goOn 25 = .ok (.getfield 66, 3) := by decide +kernel
theorem dX11_goOn_28 : decode cX11_goOn 28 = .ok (.iload_n 1, 1) := by decide +kernel
theorem dX11_goOn_29 : decode cX11_goOn 29 = .ok (.invokevirtual 243, 3) := by decide +kernel
theorem dX11_goOn_32 : decode cX11_goOn 32 = .ok (.pop, 1) := by decide +kernel
theorem dX11_goOn_33 : decode cX11_goOn 33 = .ok (.aload_n 0, 1) := by decide +kernel
theorem dX11_goOn_34 : decode cX11_goOn 34 = .ok (.getfield 22, 3) := by decide +kernel
theorem dX11_goOn_37 : decode cX11_goOn 37 = .ok (.aload_n 0, 1) := by decide +kernel
theorem dX11_goOn_38 : decode cX11_goOn 38 = .ok (.getfield 66, 3) := by decide +kernel
theorem dX11_goOn_41 : decode cX11_goOn 41 = .ok (.invokevirtual 246, 3) := by decide +kernel
theorem dX11_goOn_44 : decode cX11_goOn 44 = .ok (.invokevirtual 346, 3) := by decide +kernel
theorem dX11_goOn_47 : decode cX11_goOn 47 = .ok (.istore_n 2, 1) := by decide +kernel
theorem dX11_goOn_48 : decode cX11_goOn 48 = .ok (.aload_n 0, 1) := by decide +kernel
theorem dX11_goOn_49 : decode cX11_goOn 49 = .ok (.iload_n 2, 1) := by decide +kernel
theorem dX11_goOn_50 : decode cX11_goOn 50 = .ok (.invokevirtual 150, 3) := by decide +kernel
theorem dX11_goOn_53 : decode cX11_goOn 53 = .ok (.pop, 1) := by decide +kernel
theorem dX11_goOn_54 : decode cX11_goOn 54 = .ok (.iload_n 2, 1) := by decide +kernel
theorem dX11_goOn_55 : decode cX11_goOn 55 = .ok (.ireturn, 1) := by decide +kernel
theorem dX12_init_0 : decode cX12_init 0 = .ok (.aload_n 0, 1) := by decide +kernel
theorem dX12_init_1 : decode cX12_init 1 = .ok (.invokespecial 1, 3) := by decide +kernel
theorem dX12_init_4 : decode cX12_init 4 = .ok (.aload_n 0, 1) := by decide +kernel
theorem dX12_init_5 : decode cX12_init 5 = .ok (.bipush 80, 2) := by decide +kernel
theorem dX12_init_7 : decode cX12_init 7 = .ok (.newarray .int, 2) := by decide +kernel
theorem dX12_init_9 : decode cX12_init 9 = .ok (.putfield 9, 3) := by decide +kernel
theorem dX12_init_12 : decode cX12_init 12 = .ok (.aload_n 0, 1) := by decide +kernel
theorem dX12_init_13 : decode cX12_init 13 = .ok (.bipush 10, 2) := by decide +kernel
theorem dX12_init_15 : decode cX12_init 15 = .ok (.putfield 13, 3) := by decide +kernel
theorem dX12_init_18 : decode cX12_init 18 = .ok (.aload_n 0, 1) := by decide +kernel
theorem dX12_init_19 : decode cX12_init 19 = .ok (.iconst 2, 1) := by decide +kernel
theorem dX12_init_20 : decode cX12_init 20 = .ok (.putfield 17, 3) := by decide +kernel
theorem dX12_init_23 : decode cX12_init 23 = .ok (.aload_n 0, 1) := by decide +kernel
theorem dX12_init_24 : decode cX12_init 24 = .ok (.iconst 1, 1) := by decide +kernel
theorem dX12_init_25 : decode cX12_init 25 = .ok (.putfield 20, 3) := by decide +kernel
theorem dX12_init_28 : decode cX12_init 28 = .ok (.aload_n 0, 1) := by decide +kernel
theorem dX12_init_29 : decode cX12_init 29 = .ok (.iconst 1, 1) := by decide +kernel
theorem dX12_init_30 : decode cX12_init 30 = .ok (.putfield 23, 3) := by decide +kernel
theorem dX12_init_33 : decode cX12_init 33 = .ok (.aload_n 0, 1) := by decide +kernel
theorem dX12_init_34 : decode cX12_init 34 = .ok (.bipush 12, 2) := by decide +kernel
theorem dX12_init_36 : decode cX12_init 36 = .ok (.bipush 75, 2) := by decide +kernel
theorem dX12_init_38 : decode cX12_init 38 = .ok (.multianewarray 27 2, 4) := by decide +kernel
theorem dX12_init_42 : decode cX12_init 42 = .ok (.putfield 29, 3) := by decide +kernel
theorem dX12_init_45 : decode cX12_init 45 = .ok (.aload_n 0, 1) := by decide +kernel
theorem dX12_init_46 : decode cX12_init 46 = .ok (.bipush 32, 2) := by decide +kernel
theorem dX12_init_48 : decode cX12_init 48 = .ok (.putfield 32, 3) := by decide +kernel
theorem dX12_init_51 : decode cX12_init 51 = .ok (.aload_n 0, 1) := by decide +kernel
theorem dX12_init_52 : decode cX12_init 52 = .ok (.bipush 64, 2) := by decide +kernel
theorem dX12_init_54 : decode cX12_init 54 = .ok (.newarray .long, 2) := by decide +kernel
theorem dX12_init_56 : decode cX12_init 56 = .ok (.putfield 35, 3) := by decide +kernel
theorem dX12_init_59 : decode cX12_init 59 = .ok (.aload_n 0, 1) := by decide +kernel
theorem dX12_init_60 : decode cX12_init 60 = .ok (.bipush 64, 2) := by decide +kernel
theorem dX12_init_62 : decode cX12_init 62 = .ok (.iconst 4, 1) := by decide +kernel
theorem dX12_init_63 : decode cX12_init 63 = .ok (.multianewarray 27 2, 4) := by decide +kernel
theorem dX12_init_67 : decode cX12_init 67 = .ok (.putfield 39, 3) := by decide +kernel
theorem dX12_init_70 : decode cX12_init 70 = .ok (.aload_n 0, 1) := by decide +kernel
theorem dX12_init_71 : decode cX12_init 71 = .ok (.bipush 12, 2) := by decide +kernel
theorem dX12_init_73 : decode cX12_init 73 = .ok (.bipush 75, 2) := by decide +kernel
theorem dX12_init_75 : decode cX12_init 75 = .ok (.multianewarray 27 2, 4) := by decide +kernel
theorem dX12_init_79 : decode cX12_init 79 = .ok (.putfield 42, 3) := by decide +kernel
theorem dX12_init_82 : decode cX12_init 82 = .ok (.aload_n 0, 1) := by decide +kernel
theorem dX12_init_83 : decode cX12_init 83 = .ok (.iconst 5, 1) := by decide +kernel
theorem dX12_init_84 : decode cX12_init 84 = .ok (.iconst 2, 1) := by decide +kernel
theorem dX12_init_85 : decode cX12_init 85 = .ok (.multianewarray 27 2, 4) := by decide +kernel
theorem dX12_init_89 : decode cX12_init 89 = .ok (.putfield 45, 3) := by decide +kernel
theorem dX12_init_92 : decode cX12_init 92 = .ok (.aload_n 0, 1) := by decide +kernel
theorem dX12_init_93 : decode cX12_init 93 = .ok (.iconst (-1), 1) := by decide +kernel
theorem dX12_init_94 : decode cX12_init 94 = .ok (.putfield 48, 3) := by decide +kernel
theorem dX12_init_97 : decode cX12_init 97 = .ok (.aload_n 0, 1) := by decide +kernel
theorem dX12_init_98 : decode cX12_init 98 = .ok (.iconst (-1), 1) := by decide +kernel
theorem dX12_init_99 : decode cX12_init 99 = .ok (.putfield 51, 3) := by decide +kernel
theorem dX12_init_102 : decode cX12_init 102 = .ok (.aload_n 0, 1) := by decide +kernel
theorem dX12_init_103 : decode cX12_init 103 = .ok (.bipush 30, 2) := by decide +kernel
theorem dX12_init_105 : decode cX12_init 105 = .ok (.newarray .long, 2) := by decide +kernel
theorem dX12_init_107 : decode cX12_init 107 = .ok (.putfield 54, 3) := by decide +kernel
theorem dX12_init_110 : decode cX12_init 110 = .ok (.aload_n 0, 1) := by decide +kernel
theorem dX12_init_111 : decode cX12_init 111 = .ok (.bipush 30, 2) := by decide +kernel
theorem dX12_init_113 : decode cX12_init 113 = .ok (.iconst 2, 1) := by decide +kernel
theorem dX12_init_114 : decode cX12_init 114 = .ok (.multianewarray 27 2, 4) := by decide +kernel
theorem dX12_init_118 : decode cX12_init 118 = .ok (.putfield 57, 3) := by decide +kernel
theorem dX12_init_121 : decode cX12_init 121 = .ok (.aload_n 0, 1) := by decide +kernel
theorem dX12_init_122 : decode cX12_init 122 = .ok (.iconst 3, 1) := by decide +kernel
theorem dX12_init_123 : decode cX12_init 123 = .ok (.iconst 3, 1) := by decide +kernel
theorem dX12_init_124 : decode cX12_init 124 = .ok (.iconst 1, 1) := by decide +kernel
theorem dX12_init_125 : decode cX12_init 125 = .ok (.invokevirtual 60, 3) := by decide +kernel
theorem dX12_init_128 : decode cX12_init 128 = .ok (.return_, 1) := by decide +kernel
theorem dX12_thrown_0 : decode cX12_thrown 0 = .ok (.aload_n 0, 1) := by decide +kernel
theorem dX12_thrown_1 : decode cX12_thrown 1 = .ok (.getfield 64, 3) := by decide +kernel
theorem dX12_thrown_4 : decode cX12_thrown 4 = .ok (.ireturn, 1) := by decide +kernel
theorem dX12_refuse_0 : decode cX12_refuse 0 = .ok (.aload_n 0, 1) := by decide +kernel
theorem dX12_refuse_1 : decode cX12_refuse 1 = .ok (.iload_n 1, 1) := by decide +kernel
theorem dX12_refuse_2 : decode cX12_refuse 2 = .ok (.putfield 64, 3) := by decide +kernel
theorem dX12_refuse_5 : decode cX12_refuse 5 = .ok (.iconst 0, 1) := by decide +kernel
theorem dX12_refuse_6 : decode cX12_refuse 6 = .ok (.ireturn, 1) := by decide +kernel
theorem dX12_is_0 : decode cX12_is 0 = .ok (.iload_n 0, 1) := by decide +kernel
theorem dX12_is_1 : decode cX12_is 1 = .ok (.iload_n 1, 1) := by decide +kernel
theorem dX12_is_2 : decode cX12_is 2 = .ok (.if_icmp .lt 12, 3) := by decide +kernel
theorem dX12_is_5 : decode cX12_is 5 = .ok (.iload_n 0, 1) := by decide +kernel
theorem dX12_is_6 : decode cX12_is 6 = .ok (.iload_n 2, 1) := by decide +kernel
theorem dX12_is_7 : decode cX12_is 7 = .ok (.if_icmp .gt 7, 3) := by decide +kernel
theorem dX12_is_10 : decode cX12_is 10 = .ok (.iconst 1, 1) := by decide +kernel
theorem dX12_is_11 : decode cX12_is 11 = .ok (.goto 4, 3) := by decide +kernel
theorem dX12_is_14 : decode cX12_is 14 = .ok (.iconst 0, 1) := by decide +kernel
theorem dX12_is_15 : decode cX12_is 15 = .ok (.ireturn, 1) := by decide +kernel
