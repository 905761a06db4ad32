theorem dX11_fetches_142 : decode cX11_fetches 142 = .ok (.iload_n 3, 1) := by decide +kernel
theorem dX11_fetches_143 : decode cX11_fetches 143 = .ok (.putfield 382, 3) := by decide +kernel
theorem dX11_fetches_146 : decode cX11_fetches 146 = .ok (.aload_n 0, 1) := by decide +kernel
theorem dX11_fetches_147 : decode cX11_fetches 147 = .ok (.iload 5, 2) := by decide +kernel
theorem dX11_fetches_149 : decode cX11_fetches 149 = .ok (.putfield 391, 3) := by decide +kernel
theorem dX11_fetches_152 : decode cX11_fetches 152 = .ok (.iinc 3 1, 3) := by decide +kernel
theorem dX11_fetches_155 : decode cX11_fetches 155 = .ok (.goto (-143), 3) := by decide +kernel
theorem dX11_fetches_158 : decode cX11_fetches 158 = .ok (.return_, 1) := by decide +kernel
theorem dX11_ghosts_0 : decode cX11_ghosts 0 = .ok (.aload_n 0, 1) := by decide +kernel
theorem dX11_ghosts_1 : decode cX11_ghosts 1 = .ok (.iconst 0, 1) := by decide +kernel
theorem dX11_ghosts_2 : decode cX11_ghosts 2 = .ok (.putfield 99, 3) := by decide +kernel
theorem dX11_ghosts_5 : decode cX11_ghosts 5 = .ok (.aload_n 0, 1) := by decide +kernel
theorem dX11_ghosts_6 : decode cX11_ghosts 6 = .ok (.invokevirtual 316, 3) := by decide +kernel
theorem dX11_ghosts_9 : decode cX11_ghosts 9 = .ok (.ifCond .eq 10, 3) := by decide +kernel
theorem dX11_ghosts_12 : decode cX11_ghosts 12 = .ok (.iload_n 1, 1) := by decide +kernel
theorem dX11_ghosts_13 : decode cX11_ghosts 13 = .ok (.invokestatic 283, 3) := by decide +kernel
theorem dX11_ghosts_16 : decode cX11_ghosts 16 = .ok (.ifCond .ne 6, 3) := by decide +kernel
theorem dX11_ghosts_19 : decode cX11_ghosts 19 = .ok (.bipush (-2), 2) := by decide +kernel
theorem dX11_ghosts_21 : decode cX11_ghosts 21 = .ok (.ireturn, 1) := by decide +kernel
theorem dX11_ghosts_22 : decode cX11_ghosts 22 = .ok (.iconst 0, 1) := by decide +kernel
theorem dX11_ghosts_23 : decode cX11_ghosts 23 = .ok (.istore_n 2, 1) := by decide +kernel
theorem dX11_ghosts_24 : decode cX11_ghosts 24 = .ok (.iconst 0, 1) := by decide +kernel
theorem dX11_ghosts_25 : decode cX11_ghosts 25 = .ok (.istore_n 3, 1) := by decide +kernel
theorem dX11_ghosts_26 : decode cX11_ghosts 26 = .ok (.iload_n 3, 1) := by decide +kernel
theorem dX11_ghosts_27 : decode cX11_ghosts 27 = .ok (.aload_n 0, 1) := by decide +kernel
theorem dX11_ghosts_28 : decode cX11_ghosts 28 = .ok (.getfield 34, 3) := by decide +kernel
theorem dX11_ghosts_31 : decode cX11_ghosts 31 = .ok (.iconst 0, 1) := by decide +kernel
theorem dX11_ghosts_32 : decode cX11_ghosts 32 = .ok (.iaload, 1) := by decide +kernel
theorem dX11_ghosts_33 : decode cX11_ghosts 33 = .ok (.if_icmp .ge 85, 3) := by decide +kernel
theorem dX11_ghosts_36 : decode cX11_ghosts 36 = .ok (.iconst 0, 1) := by decide +kernel
theorem dX11_ghosts_37 : decode cX11_ghosts 37 = .ok (.istore 4, 2) := by decide +kernel
theorem dX11_ghosts_39 : decode cX11_ghosts 39 = .ok (.iload 4, 2) := by decide +kernel
theorem dX11_ghosts_41 : decode cX11_ghosts 41 = .ok (.aload_n 0, 1) := by decide +kernel
theorem dX11_ghosts_42 : decode cX11_ghosts 42 = .ok (.getfield 56, 3) := by decide +kernel
theorem dX11_ghosts_45 : decode cX11_ghosts 45 = .ok (.iconst 0, 1) := by decide +kernel
theorem dX11_ghosts_46 : decode cX11_ghosts 46 = .ok (.iload_n 1, 1) := by decide +kernel
theorem dX11_ghosts_47 : decode cX11_ghosts 47 = .ok (.iload_n 3, 1) := by decide +kernel
theorem dX11_ghosts_48 : decode cX11_ghosts 48 = .ok (.invokestatic 280, 3) := by decide +kernel
theorem dX11_ghosts_51 : decode cX11_ghosts 51 = .ok (.iaload, 1) := by decide +kernel
theorem dX11_ghosts_52 : decode cX11_ghosts 52 = .ok (.if_icmp .ge 60, 3) := by decide +kernel
theorem dX11_ghosts_55 : decode cX11_ghosts 55 = .ok (.aload_n 0, 1) := by decide +kernel
theorem dX11_ghosts_56 : decode cX11_ghosts 56 = .ok (.getfield 62, 3) := by decide +kernel
theorem dX11_ghosts_59 : decode cX11_ghosts 59 = .ok (.iconst 0, 1) := by decide +kernel
theorem dX11_ghosts_60 : decode cX11_ghosts 60 = .ok (.iload_n 1, 1) := by decide +kernel
theorem dX11_ghosts_61 : decode cX11_ghosts 61 = .ok (.iload_n 3, 1) := by decide +kernel
theorem dX11_ghosts_62 : decode cX11_ghosts 62 = .ok (.iload 4, 2) := by decide +kernel
theorem dX11_ghosts_64 : decode cX11_ghosts 64 = .ok (.invokestatic 286, 3) := by decide +kernel
theorem dX11_ghosts_67 : decode cX11_ghosts 67 = .ok (.iaload, 1) := by decide +kernel
theorem dX11_ghosts_68 : decode cX11_ghosts 68 = .ok (.istore 5, 2) := by decide +kernel
theorem dX11_ghosts_70 : decode cX11_ghosts 70 = .ok (.iload_n 2, 1) := by decide +kernel
theorem dX11_ghosts_71 : decode cX11_ghosts 71 = .ok (.iload 5, 2) := by decide +kernel
theorem dX11_ghosts_73 : decode cX11_ghosts 73 = .ok (.iconst (-1), 1) := by decide +kernel
theorem dX11_ghosts_74 : decode cX11_ghosts 74 = .ok (.if_icmp .eq 29, 3) := by decide +kernel
theorem dX11_ghosts_77 : decode cX11_ghosts 77 = .ok (.aload_n 0, 1) := by decide +kernel
theorem dX11_ghosts_78 : decode cX11_ghosts 78 = .ok (.getfield 46, 3) := by decide +kernel
theorem dX11_ghosts_81 : decode cX11_ghosts 81 = .ok (.bipush 8, 2) := by decide +kernel
theorem dX11_ghosts_83 : decode cX11_ghosts 83 = .ok (.iload 5, 2) := by decide +kernel
theorem dX11_ghosts_85 : decode cX11_ghosts 85 = .ok (.imul, 1) := by decide +kernel
theorem dX11_ghosts_86 : decode cX11_ghosts 86 = .ok (.bipush 7, 2) := by decide +kernel
theorem dX11_ghosts_88 : decode cX11_ghosts 88 = .ok (.iadd, 1) := by decide +kernel
theorem dX11_ghosts_89 : decode cX11_ghosts 89 = .ok (.iaload, 1) := by decide +kernel
theorem dX11_ghosts_90 : decode cX11_ghosts 90 = .ok (.aload_n 0, 1) := by decide +kernel
theorem dX11_ghosts_91 : decode cX11_ghosts 91 = .ok (.getfield 71, 3) := by decide +kernel
theorem dX11_ghosts_94 : decode cX11_ghosts 94 = .ok (.iconst 0, 1) := by decide +kernel
theorem dX11_ghosts_95 : decode cX11_ghosts 95 = .ok (.iaload, 1) := by decide +kernel
theorem dX11_ghosts_96 : decode cX11_ghosts 96 = .ok (.if_icmp .ge 7, 3) := by decide +kernel
theorem dX11_ghosts_99 : decode cX11_ghosts 99 = .ok (.iconst 1, 1) := by decide +kernel
theorem dX11_ghosts_100 : decode cX11_ghosts 100 = .ok (.goto 4, 3) := by decide +kernel
theorem dX11_ghosts_103 : decode cX11_ghosts 103 = .ok (.iconst 0, 1) := by decide +kernel
theorem dX11_ghosts_104 : decode cX11_ghosts 104 = .ok (.iadd, 1) := by decide +kernel
theorem dX11_ghosts_105 : decode cX11_ghosts 105 = .ok (.istore_n 2, 1) := by decide +kernel
theorem dX11_ghosts_106 : decode cX11_ghosts 106 = .ok (.iinc 4 1, 3) := by decide +kernel
theorem dX11_ghosts_109 : decode cX11_ghosts 109 = .ok (.goto (-70), 3) := by decide +kernel
theorem dX11_ghosts_112 : decode cX11_ghosts 112 = .ok (.iinc 3 1, 3) := by decide +kernel
theorem dX11_ghosts_115 : decode cX11_ghosts 115 = .ok (.goto (-89), 3) := by decide +kernel
theorem dX11_ghosts_118 : decode cX11_ghosts 118 = .ok (.iload_n 2, 1) := by decide +kernel
theorem dX11_ghosts_119 : decode cX11_ghosts 119 = .ok (.ireturn, 1) := by decide +kernel
theorem dX11_hands_0 : decode cX11_hands 0 = .ok (.aload_n 0, 1) := by decide +kernel
theorem dX11_hands_1 : decode cX11_hands 1 = .ok (.iconst 0, 1) := by decide +kernel
theorem dX11_hands_2 : decode cX11_hands 2 = .ok (.putfield 99, 3) := by decide +kernel
theorem dX11_hands_5 : decode cX11_hands 5 = .ok (.aload_n 0, 1) := by decide +kernel
theorem dX11_hands_6 : decode cX11_hands 6 = .ok (.iload_n 1, 1) := by decide +kernel
theorem dX11_hands_7 : decode cX11_hands 7 = .ok (.invokevirtual 343, 3) := by decide +kernel
theorem dX11_hands_10 : decode cX11_hands 10 = .ok (.ifCond .eq 11, 3) := by decide +kernel
theorem dX11_hands_13 : decode cX11_hands 13 = .ok (.aload_n 0, 1) := by decide +kernel
theorem dX11_hands_14 : decode cX11_hands 14 = .ok (.iload_n 1, 1) := by decide +kernel
theorem dX11_hands_15 : decode cX11_hands 15 = .ok (.invokevirtual 376, 3) := by decide +kernel
theorem dX11_hands_18 : decode cX11_hands 18 = .ok (.goto 5, 3) := by decide +kernel
theorem dX11_hands_21 : decode cX11_hands 21 = .ok (.bipush (-2), 2) := by decide +kernel
theorem dX11_hands_23 : decode cX11_hands 23 = .ok (.ireturn, 1) := by decide +kernel
theorem dX11_isPast_0 : decode cX11_isPast 0 = .ok (.aload_n 0, 1) := by decide +kernel
theorem dX11_isPast_1 : decode cX11_isPast 1 = .ok (.invokevirtual 316, 3) := by decide +kernel
theorem dX11_isPast_4 : decode cX11_isPast 4 = .ok (.ifCond .eq 25, 3) := by decide +kernel
theorem dX11_isPast_7 : decode cX11_isPast 7 = .ok (.iload_n 1, 1) := by decide +kernel
theorem dX11_isPast_8 : decode cX11_isPast 8 = .ok (.i2l, 1) := by decide +kernel
theorem dX11_isPast_9 : decode cX11_isPast 9 = .ok (.lconst 0, 1) := by decide +kernel
theorem dX11_isPast_10 : decode cX11_isPast 10 = .ok (.aload_n 0, 1) := by decide +kernel
theorem dX11_isPast_11 : decode cX11_isPast 11 = .ok (.getfield 71, 3) := by decide +kernel
theorem dX11_isPast_14 : decode cX11_isPast 14 = .ok (.iconst 0, 1) := by decide +kernel
theorem dX11_isPast_15 : decode cX11_isPast 15 = .ok (.iaload, 1) := by decide +kernel
theorem dX11_isPast_16 : decode cX11_isPast 16 = .ok (.iconst 1, 1) := by decide +kernel
theorem dX11_isPast_17 : decode cX11_isPast 17 = .ok (.isub, 1) := by decide +kernel
theorem dX11_isPast_18 : decode cX11_isPast 18 = .ok (.i2l, 1) := by decide +kernel
theorem dX11_isPast_19 : decode cX11_isPast 19 = .ok (.invokestatic 104, 3) := by decide +kernel
theorem dX11_isPast_22 : decode cX11_isPast 22 = .ok (.ifCond .eq 7, 3) := by decide +kernel
theorem dX11_isPast_25 : decode cX11_isPast 25 = .ok (.iconst 1, 1) := by decide +kernel
theorem dX11_isPast_26 : decode cX11_isPast 26 = .ok (.goto 4, 3) := by decide +kernel
theorem dX11_isPast_29 : decode cX11_isPast 29 = .ok (.iconst 0, 1) := by decide +kernel
theorem dX11_isPast_30 : decode cX11_isPast 30 = .ok (.ireturn, 1) := by decide +kernel
theorem dX11_lost_0 : decode cX11_lost 0 = .ok (.aload_n 0, 1) := by decide +kernel
theorem dX11_lost_1 : decode cX11_lost 1 = .ok (.iconst 0, 1) := by decide +kernel
theorem dX11_lost_2 : decode cX11_lost 2 = .ok (.putfield 99, 3) := by decide +kernel
theorem dX11_lost_5 : decode cX11_lost 5 = .ok (.aload_n 0, 1) := by decide +kernel
theorem dX11_lost_6 : decode cX11_lost 6 = .ok (.invokevirtual 316, 3) := by decide +kernel
theorem dX11_lost_9 : decode cX11_lost 9 = .ok (.ifCond .eq 18, 3) := by decide +kernel
theorem dX11_lost_12 : decode cX11_lost 12 = .ok (.aload_n 0, 1) := by decide +kernel
theorem dX11_lost_13 : decode cX11_lost 13 = .ok (.getfield 71, 3) := by decide +kernel
theorem dX11_lost_16 : decode cX11_lost 16 = .ok (.iconst 2, 1) := by decide +kernel
theorem dX11_lost_17 : decode cX11_lost 17 = .ok (.iaload, 1) := by decide +kernel
theorem dX11_lost_18 : decode cX11_lost 18 = .ok (.aload_n 0, 1) := by decide +kernel
theorem dX11_lost_19 : decode cX11_lost 19 = .ok (.iconst (-1), 1) := by decide +kernel
theorem dX11_lost_20 : decode cX11_lost 20 = .ok (.invokevirtual 376, 3) := by decide +kernel
theorem dX11_lost_23 : decode cX11_lost 23 = .ok (.isub, 1) := by decide +kernel
theorem dX11_lost_24 : decode cX11_lost 24 = .ok (.goto 4, 3) := by decide +kernel
theorem dX11_lost_27 : decode cX11_lost 27 = .ok (.iconst (-1), 1) := by decide +kernel
theorem dX11_lost_28 : decode cX11_lost 28 = .ok (.ireturn, 1) := by decide +kernel
theorem dX11_margin_0 : decode cX11_margin 0 = .ok (.aload_n 0, 1) := by decide +kernel
theorem dX11_margin_1 : decode cX11_margin 1 = .ok (.iconst 0, 1) := by decide +kernel
theorem dX11_margin_2 : decode cX11_margin 2 = .ok (.putfield 99, 3) := by decide +kernel
theorem dX11_margin_5 : decode cX11_margin 5 = .ok (.aload_n 0, 1) := by decide +kernel
theorem dX11_margin_6 : decode cX11_margin 6 = .ok (.iload_n 1, 1) := by decide +kernel
theorem dX11_margin_7 : decode cX11_margin 7 = .ok (.iload_n 2, 1) := by decide +kernel
theorem dX11_margin_8 : decode cX11_margin 8 = .ok (.invokevirtual 396, 3) := by decide +kernel
theorem dX11_margin_11 : decode cX11_margin 11 = .ok (.ifCond .eq 7, 3) := by decide +kernel
theorem dX11_margin_14 : decode cX11_margin 14 = .ok (.ldc_w 402, 3) := by decide +kernel
theorem dX11_margin_17 : decode cX11_margin 17 = .ok (.ireturn, 1) := by decide +kernel
theorem dX11_margin_18 : decode cX11_margin 18 = .ok (.aload_n 0, 1) := by decide +kernel
theorem dX11_margin_19 : decode cX11_margin 19 = .ok (.iload_n 1, 1) := by decide +kernel
theorem dX11_margin_20 : decode cX11_margin 20 = .ok (.iload_n 2, 1) := by decide +kernel
theorem dX11_margin_21 : decode cX11_margin 21 = .ok (.invokevirtual 399, 3) := by decide +kernel
theorem dX11_margin_24 : decode cX11_margin 24 = .ok (.aload_n 0, 1) := by decide +kernel
theorem dX11_margin_25 : decode cX11_margin 25 = .ok (.getfield 391, 3) := by decide +kernel
theorem dX11_margin_28 : decode cX11_margin 28 = .ok (.ireturn, 1) := by decide +kernel
theorem dX11_pivot_0 : decode cX11_pivot 0 = .ok (.aload_n 0, 1) := by decide +kernel
theorem dX11_pivot_1 : decode cX11_pivot 1 = .ok (.iconst 0, 1) := by decide +kernel
theorem dX11_pivot_2 : decode cX11_pivot 2 = .ok (.putfield 99, 3) := by decide +kernel
theorem dX11_pivot_5 : decode cX11_pivot 5 = .ok (.aload_n 0, 1) := by decide +kernel
theorem dX11_pivot_6 : decode cX11_pivot 6 = .ok (.invokevirtual 316, 3) := by decide +kernel
theorem dX11_pivot_9 : decode cX11_pivot 9 = .ok (.ifCond .eq 13, 3) := by decide +kernel
theorem dX11_pivot_12 : decode cX11_pivot 12 = .ok (.iload_n 1, 1) := by decide +kernel
theorem dX11_pivot_13 : decode cX11_pivot 13 = .ok (.i2l, 1) := by decide +kernel
theorem dX11_pivot_14 : decode cX11_pivot 14 = .ok (.lconst 0, 1) := by decide +kernel
theorem dX11_pivot_15 : decode cX11_pivot 15 = .ok (.lconst 1, 1) := by decide +kernel
theorem dX11_pivot_16 : decode cX11_pivot 16 = .ok (.invokestatic 104, 3) := by decide +kernel
theorem dX11_pivot_19 : decode cX11_pivot 19 = .ok (.ifCond .ne 6, 3) := by decide +kernel
theorem dX11_pivot_22 : decode cX11_pivot 22 = .ok (.bipush (-2), 2) := by decide +kernel
theorem dX11_pivot_24 : decode cX11_pivot 24 = .ok (.ireturn, 1) := by decide +kernel
theorem dX11_pivot_25 : decode cX11_pivot 25 = .ok (.aload_n 0, 1) := by decide +kernel
theorem dX11_pivot_26 : decode cX11_pivot 26 = .ok (.getfield 71, 3) := by decide +kernel
theorem dX11_pivot_29 : decode cX11_pivot 29 = .ok (.iconst 0, 1) := by decide +kernel
theorem dX11_pivot_30 : decode cX11_pivot 30 = .ok (.iaload, 1) := by decide +kernel
theorem dX11_pivot_31 : decode cX11_pivot 31 = .ok (.bipush 100, 2) := by decide +kernel
theorem dX11_pivot_33 : decode cX11_pivot 33 = .ok (.if_icmp .ne 6, 3) := by decide +kernel
theorem dX11_pivot_36 : decode cX11_pivot 36 = .ok (.bipush (-3), 2) := by decide +kernel
theorem dX11_pivot_38 : decode cX11_pivot 38 = .ok (.ireturn, 1) := by decide +kernel
theorem dX11_pivot_39 : decode cX11_pivot 39 = .ok (.aload_n 0, 1) := by decide +kernel
theorem dX11_pivot_40 : decode cX11_pivot 40 = .ok (.aload_n 0, 1) := by decide +kernel
theorem dX11_pivot_41 : decode cX11_pivot 41 = .ok (.invokevirtual 357, 3) := by decide +kernel
theorem dX11_pivot_44 : decode cX11_pivot 44 = .ok (.invokevirtual 367, 3) := by decide +kernel
theorem dX11_pivot_47 : decode cX11_pivot 47 = .ok (.istore_n 2, 1) := by decide +kernel
theorem dX11_pivot_48 : decode cX11_pivot 48 = .ok (.iconst (-1), 1) := by decide +kernel
theorem dX11_pivot_49 : decode cX11_pivot 49 = .ok (.istore_n 3, 1) := by decide +kernel
theorem dX11_pivot_50 : decode cX11_pivot 50 = .ok (.iconst 1, 1) := by decide +kernel
theorem dX11_pivot_51 : decode cX11_pivot 51 = .ok (.istore 4, 2) := by decide +kernel
theorem dX11_pivot_53 : decode cX11_pivot 53 = .ok (.iload 4, 2) := by decide +kernel
theorem dX11_pivot_55 : decode cX11_pivot 55 = .ok (.aload_n 0, 1) := by decide +kernel
theorem dX11_pivot_56 : decode cX11_pivot 56 = .ok (.invokevirtual 357, 3) := by decide +kernel
theorem dX11_pivot_59 : decode cX11_pivot 59 = .ok (.if_icmp .gt 49, 3) := by decide +kernel
theorem dX11_pivot_62 : decode cX11_pivot 62 = .ok (.iload_n 3, 1) := by decide +kernel
theorem dX11_pivot_63 : decode cX11_pivot 63 = .ok (.iconst (-1), 1) := by decide +kernel
theorem dX11_pivot_64 : decode cX11_pivot 64 = .ok (.if_icmp .eq 15, 3) := by decide +kernel
theorem dX11_pivot_67 : decode cX11_pivot 67 = .ok (.iload 4, 2) := by decide +kernel
theorem dX11_pivot_69 : decode cX11_pivot 69 = .ok (.invokestatic 379, 3) := by decide +kernel
theorem dX11_pivot_72 : decode cX11_pivot 72 = .ok (.iload_n 3, 1) := by decide +kernel
theorem dX11_pivot_73 : decode cX11_pivot 73 = .ok (.invokestatic 379, 3) := by decide +kernel
theorem dX11_pivot_76 : decode cX11_pivot 76 = .ok (.if_icmp .ge 26, 3) := by decide +kernel
theorem dX11_pivot_79 : decode cX11_pivot 79 = .ok (.aload_n 0, 1) := by decide +kernel
theorem dX11_pivot_80 : decode cX11_pivot 80 = .ok (.aload_n 0, 1) := by decide +kernel
theorem dX11_pivot_81 : decode cX11_pivot 81 = .ok (.invokevirtual 357, 3) := by decide +kernel
theorem dX11_pivot_84 : decode cX11_pivot 84 = .ok (.iload 4, 2) := by decide +kernel
theorem dX11_pivot_86 : decode cX11_pivot 86 = .ok (.iconst (-1), 1) := by decide +kernel
theorem dX11_pivot_87 : decode cX11_pivot 87 = .ok (.ixor, 1) := by decide +kernel
theorem dX11_pivot_88 : decode cX11_pivot 88 = .ok (.iand, 1) := by decide +kernel
theorem dX11_pivot_89 : decode cX11_pivot 89 = .ok (.invokevirtual 367, 3) := by decide +kernel
theorem dX11_pivot_92 : decode cX11_pivot 92 = .ok (.iload_n 2, 1) := by decide +kernel
theorem dX11_pivot_93 : decode cX11_pivot 93 = .ok (.if_icmp .ne 6, 3) := by decide +kernel
theorem dX11_pivot_96 : decode cX11_pivot 96 = .ok (.goto 6, 3) := by decide +kernel
theorem dX11_pivot_99 : decode cX11_pivot 99 = .ok (.iload 4, 2) := by decide +kernel
theorem dX11_pivot_101 : decode cX11_pivot 101 = .ok (.istore_n 3, 1) := by decide +kernel
theorem dX11_pivot_102 : decode cX11_pivot 102 = .ok (.iinc 4 1, 3) := by decide +kernel
theorem dX11_pivot_105 : decode cX11_pivot 105 = .ok (.goto (-52), 3) := by decide +kernel
theorem dX11_pivot_108 : decode cX11_pivot 108 = .ok (.iload_n 3, 1) := by decide +kernel
theorem dX11_pivot_109 : decode cX11_pivot 109 = .ok (.iconst (-1), 1) := by decide +kernel
theorem dX11_pivot_110 : decode cX11_pivot 110 = .ok (.if_icmp .eq 8, 3) := by decide +kernel
theorem dX11_pivot_113 : decode cX11_pivot 113 = .ok (.iload_n 1, 1) := by decide +kernel
theorem dX11_pivot_114 : decode cX11_pivot 114 = .ok (.iconst 1, 1) := by decide +kernel
theorem dX11_pivot_115 : decode cX11_pivot 115 = .ok (.if_icmp .ne 7, 3) := by decide +kernel
theorem dX11_pivot_118 : decode cX11_pivot 118 = .ok (.iload_n 3, 1) := by decide +kernel
theorem dX11_pivot_119 : decode cX11_pivot 119 = .ok (.goto 7, 3) := by decide +kernel
theorem dX11_pivot_122 : decode cX11_pivot 122 = .ok (.iload_n 3, 1) := by decide +kernel
theorem dX11_pivot_123 : decode cX11_pivot 123 = .ok (.invokestatic 379, 3) := by decide +kernel
theorem dX11_pivot_126 : decode cX11_pivot 126 = .ok (.ireturn, 1) := by decide +kernel
theorem dX11_read_0 : decode cX11_read 0 = .ok (.aload_n 0, 1) := by decide +kernel
theorem dX11_read_1 : decode cX11_read 1 = .ok (.iconst 0, 1) := by decide +kernel
theorem dX11_read_2 : decode cX11_read 2 = .ok (.putfield 99, 3) := by decide +kernel
theorem dX11_read_5 : decode cX11_read 5 = .ok (.aload_n 0, 1) := by decide +kernel
theorem dX11_read_6 : decode cX11_read 6 = .ok (.iload_n 1, 1) := by decide +kernel
theorem dX11_read_7 : decode cX11_read 7 = .ok (.invokevirtual 370, 3) := by decide +kernel
theorem dX11_read_10 : decode cX11_read 10 = .ok (.ifCond .ne 6, 3) := by decide +kernel
theorem dX11_read_13 : decode cX11_read 13 = .ok (.bipush (-2), 2) := by decide +kernel
theorem dX11_read_15 : decode cX11_read 15 = .ok (.ireturn, 1) := by decide +kernel
theorem dX11_read_16 : decode cX11_read 16 = .ok (.aload_n 0, 1) := by decide +kernel
theorem dX11_read_17 : decode cX11_read 17 = .ok (.iload_n 1, 1) := by decide +kernel
theorem dX11_read_18 : decode cX11_read 18 = .ok (.iconst 0, 1) := by decide +kernel
theorem dX11_read_19 : decode cX11_read 19 = .ok (.invokevirtual 373, 3) := by decide +kernel
theorem dX11_read_22 : decode cX11_read 22 = .ok (.istore_n 2, 1) := by decide +kernel
theorem dX11_read_23 : decode cX11_read 23 = .ok (.aload_n 0, 1) := by decide +kernel
theorem dX11_read_24 : decode cX11_read 24 = .ok (.iload_n 1, 1) := by decide +kernel
theorem dX11_read_25 : decode cX11_read 25 = .ok (.iconst 1, 1) := by decide +kernel
theorem dX11_read_26 : decode cX11_read 26 = .ok (.invokevirtual 373, 3) := by decide +kernel
theorem dX11_read_29 : decode cX11_read 29 = .ok (.istore_n 3, 1) := by decide +kernel
theorem dX11_read_30 : decode cX11_read 30 = .ok (.aload_n 0, 1) := by decide +kernel
theorem dX11_read_31 : decode cX11_read 31 = .ok (.getfield 71, 3) := by decide +kernel
theorem dX11_read_34 : decode cX11_read 34 = .ok (.iconst 2, 1) := by decide +kernel
theorem dX11_read_35 : decode cX11_read 35 = .ok (.iaload, 1) := by decide +kernel
theorem dX11_read_36 : decode cX11_read 36 = .ok (.aload_n 0, 1) := by decide +kernel
theorem dX11_read_37 : decode cX11_read 37 = .ok (.iconst (-1), 1) := by decide +kernel
theorem dX11_read_38 : decode cX11_read 38 = .ok (.invokevirtual 376, 3) := by decide +kernel
theorem dX11_read_41 : decode cX11_read 41 = .ok (.isub, 1) := by decide +kernel
theorem dX11_read_42 : decode cX11_read 42 = .ok (.istore 4, 2) := by decide +kernel
theorem dX11_read_44 : decode cX11_read 44 = .ok (.iload_n 2, 1) := by decide +kernel
theorem dX11_read_45 : decode cX11_read 45 = .ok (.iload_n 3, 1) := by decide +kernel
theorem dX11_read_46 : decode cX11_read 46 = .ok (.iload 4, 2) := by decide +kernel
theorem dX11_read_48 : decode cX11_read 48 = .ok (.iadd, 1) := by decide +kernel
theorem dX11_read_49 : decode cX11_read 49 = .ok (.if_icmp .le 7, 3) := by decide +kernel
theorem dX11_read_52 : decode cX11_read 52 = .ok (.iconst 0, 1) := by decide +kernel
theorem dX11_read_53 : decode cX11_read 53 = .ok (.goto 16, 3) := by decide +kernel
theorem dX11_read_56 : decode cX11_read 56 = .ok (.iload_n 3, 1) := by decide +kernel
theorem dX11_read_57 : decode cX11_read 57 = .ok (.iload_n 2, 1) := by decide +kernel
theorem dX11_read_58 : decode cX11_read 58 = .ok (.iload 4, 2) := by decide +kernel
theorem dX11_read_60 : decode cX11_read 60 = .ok (.iadd, 1) := by decide +kernel
theorem dX11_read_61 : decode cX11_read 61 = .ok (.if_icmp .le 7, 3) := by decide +kernel
theorem dX11_read_64 : decode cX11_read 64 = .ok (.iconst 1, 1) := by decide +kernel
theorem dX11_read_65 : decode cX11_read 65 = .ok (.goto 4, 3) := by decide +kernel
theorem dX11_read_68 : decode cX11_read 68 = .ok (.iconst 2, 1) := by decide +kernel
theorem dX11_read_69 : decode cX11_read 69 = .ok (.ireturn, 1) := by decide +kernel
theorem dX11_result_0 : decode cX11_result 0 = .ok (.aload_n 0, 1) := by decide +kernel
theorem dX11_result_1 : decode cX11_result 1 = .ok (.iconst 0, 1) := by decide +kernel
theorem dX11_result_2 : decode cX11_result 2 = .ok (.putfield 99, 3) := by decide +kernel
theorem dX11_result_5 : decode cX11_result 5 = .ok (.aload_n 0, 1) := by decide +kernel
theorem dX11_result_6 : decode cX11_result 6 = .ok (.iload_n 1, 1) := by decide +kernel
theorem dX11_result_7 : decode cX11_result 7 = .ok (.invokevirtual 361, 3) := by decide +kernel
theorem dX11_result_10 : decode cX11_result 10 = .ok (.istore_n 2, 1) := by decide +kernel
theorem dX11_result_11 : decode cX11_result 11 = .ok (.iload_n 2, 1) := by decide +kernel
theorem dX11_result_12 : decode cX11_result 12 = .ok (.ifCond .eq 7, 3) := by decide +kernel
theorem dX11_result_15 : decode cX11_result 15 = .ok (.iload_n 2, 1) := by decide +kernel
theorem dX11_result_16 : decode cX11_result 16 = .ok (.goto 8, 3) := by decide +kernel
theorem dX11_result_19 : decode cX11_result 19 = .ok (.aload_n 0, 1) := by decide +kernel
theorem dX11_result_20 : decode cX11_result 20 = .ok (.iload_n 1, 1) := by decide +kernel
theorem dX11_result_21 : decode cX11_result 21 = .ok (.invokevirtual 367, 3) := by decide +kernel
theorem dX11_result_24 : decode cX11_result 24 = .ok (.ireturn, 1) := by decide +kernel
theorem dX11_resultOf_0 : decode cX11_resultOf 0 = .ok (.aload_n 0, 1) := by decide +kernel
theorem dX11_resultOf_1 : decode cX11_resultOf 1 = .ok (.iconst 0, 1) := by decide +kernel
theorem dX11_resultOf_2 : decode cX11_resultOf 2 = .ok (.iconst 4, 1) := by decide +kernel
theorem dX11_resultOf_3 : decode cX11_resultOf 3 = .ok (.invokevirtual 327, 3) := by decide +kernel
theorem dX11_resultOf_6 : decode cX11_resultOf 6 = .ok (.aload_n 0, 1) := by decide +kernel
theorem dX11_resultOf_7 : decode cX11_resultOf 7 = .ok (.iconst 4, 1) := by decide +kernel
theorem dX11_resultOf_8 : decode cX11_resultOf 8 = .ok (.iload_n 1, 1) := by decide +kernel
theorem dX11_resultOf_9 : decode cX11_resultOf 9 = .ok (.invokevirtual 364, 3) := by decide +kernel
theorem dX11_resultOf_12 : decode cX11_resultOf 12 = .ok (.ireturn, 1) := by decide +kernel
theorem dX11_sizeOf_0 : decode cX11_sizeOf 0 = .ok (.iconst 0, 1) := by decide +kernel
theorem dX11_sizeOf_1 : decode cX11_sizeOf 1 = .ok (.istore_n 1, 1) := by decide +kernel
theorem dX11_sizeOf_2 : decode cX11_sizeOf 2 = .ok (.iload_n 0, 1) := by decide +kernel
theorem dX11_sizeOf_3 : decode cX11_sizeOf 3 = .ok (.istore_n 2, 1) := by decide +kernel
theorem dX11_sizeOf_4 : decode cX11_sizeOf 4 = .ok (.iload_n 2, 1) := by decide +kernel
theorem dX11_sizeOf_5 : decode cX11_sizeOf 5 = .ok (.ifCond .eq 15, 3) := by decide +kernel
theorem dX11_sizeOf_8 : decode cX11_sizeOf 8 = .ok (.iinc 1 1, 3) := by decide +kernel
theorem dX11_sizeOf_11 : decode cX11_sizeOf 11 = .ok (.iload_n 2, 1) := by decide +kernel
theorem dX11_sizeOf_12 : decode cX11_sizeOf 12 = .ok (.iload_n 2, 1) := by decide +kernel
theorem dX11_sizeOf_13 : decode cX11_sizeOf 13 = .ok (.iconst 1, 1) := by decide +kernel
theorem dX11_sizeOf_14 : decode cX11_sizeOf 14 = .ok (.isub, 1) := by decide +kernel
theorem dX11_sizeOf_15 : decode cX11_sizeOf 15 = .ok (.iand, 1) := by decide +kernel
theorem dX11_sizeOf_16 : decode cX11_sizeOf 16 = .ok (.istore_n 2, 1) := by decide +kernel
theorem dX11_sizeOf_17 : decode cX11_sizeOf 17 = .ok (.goto (-13), 3) := by decide +kernel
theorem dX11_sizeOf_20 : decode cX11_sizeOf 20 = .ok (.iload_n 1, 1) := by decide +kernel
theorem dX11_sizeOf_21 : decode cX11_sizeOf 21 = .ok (.ireturn, 1) := by decide +kernel
theorem dX11_still_0 : decode cX11_still 0 = .ok (.aload_n 0, 1) := by decide +kernel
theorem dX11_still_1 : decode cX11_still 1 = .ok (.iconst 0, 1) := by decide +kernel
theorem dX11_still_2 : decode cX11_still 2 = .ok (.putfield 99, 3) := by decide +kernel
theorem dX11_still_5 : decode cX11_still 5 = .ok (.aload_n 0, 1) := by decide +kernel
theorem dX11_still_6 : decode cX11_still 6 = .ok (.iload_n 1, 1) := by decide +kernel
theorem dX11_still_7 : decode cX11_still 7 = .ok (.invokevirtual 370, 3) := by decide +kernel
theorem dX11_still_10 : decode cX11_still 10 = .ok (.ifCond .eq 19, 3) := by decide +kernel
theorem dX11_still_13 : decode cX11_still 13 = .ok (.iload_n 2, 1) := by decide +kernel
theorem dX11_still_14 : decode cX11_still 14 = .ok (.invokestatic 283, 3) := by decide +kernel
theorem dX11_still_17 : decode cX11_still 17 = .ok (.ifCond .eq 12, 3) := by decide +kernel
theorem dX11_still_20 : decode cX11_still 20 = .ok (.aload_n 0, 1) := by decide +kernel
theorem dX11_still_21 : decode cX11_still 21 = .ok (.iload_n 1, 1) := by decide +kernel
theorem dX11_still_22 : decode cX11_still 22 = .ok (.iload_n 2, 1) := by decide +kernel
theorem dX11_still_23 : decode cX11_still 23 = .ok (.invokevirtual 373, 3) := by decide +kernel
theorem dX11_still_26 : decode cX11_still 26 = .ok (.goto 5, 3) := by decide +kernel
theorem dX11_still_29 : decode cX11_still 29 = .ok (.bipush (-2), 2) := by decide +kernel
theorem dX11_still_31 : decode cX11_still 31 = .ok (.ireturn, 1) := by decide +kernel
theorem dX11_stillOf_0 : decode cX11_stillOf 0 = .ok (.iconst 0, 1) := by decide +kernel
theorem dX11_stillOf_1 : decode cX11_stillOf 1 = .ok (.istore_n 3, 1) := by decide +kernel
theorem dX11_stillOf_2 : decode cX11_stillOf 2 = .ok (.iconst 0, 1) := by decide +kernel
theorem dX11_stillOf_3 : decode cX11_stillOf 3 = .ok (.istore 4, 2) := by decide +kernel
theorem dX11_stillOf_5 : decode cX11_stillOf 5 = .ok (.iload 4, 2) := by decide +kernel
theorem dX11_stillOf_7 : decode cX11_stillOf 7 = .ok (.aload_n 0, 1) := by decide +kernel
theorem dX11_stillOf_8 : decode cX11_stillOf 8 = .ok (.getfield 34, 3) := by decide +kernel
theorem dX11_stillOf_11 : decode cX11_stillOf 11 = .ok (.iconst 0, 1) := by decide +kernel
theorem dX11_stillOf_12 : decode cX11_stillOf 12 = .ok (.iaload, 1) := by decide +kernel
theorem dX11_stillOf_13 : decode cX11_stillOf 13 = .ok (.if_icmp .ge 76, 3) := by decide +kernel
theorem dX11_stillOf_16 : decode cX11_stillOf 16 = .ok (.iconst 0, 1) := by decide +kernel
theorem dX11_stillOf_17 : decode cX11_stillOf 17 = .ok (.istore 5, 2) := by decide +kernel
theorem dX11_stillOf_19 : decode cX11_stillOf 19 = .ok (.iload 5, 2) := by decide +kernel
theorem dX11_stillOf_21 : decode cX11_stillOf 21 = .ok (.aload_n 0, 1) := by decide +kernel
theorem dX11_stillOf_22 : decode cX11_stillOf 22 = .ok (.getfield 56, 3) := by decide +kernel
theorem dX11_stillOf_25 : decode cX11_stillOf 25 = .ok (.iconst 0, 1) := by decide +kernel
theorem dX11_stillOf_26 : decode cX11_stillOf 26 = .ok (.iload_n 2, 1) := by decide +kernel
theorem dX11_stillOf_27 : decode cX11_stillOf 27 = .ok (.iload 4, 2) := by decide +kernel
theorem dX11_stillOf_29 : decode cX11_stillOf 29 = .ok (.invokestatic 280, 3) := by decide +kernel
theorem dX11_stillOf_32 : decode cX11_stillOf 32 = .ok (.iaload, 1) := by decide +kernel
theorem dX11_stillOf_33 : decode cX11_stillOf 33 = .ok (.if_icmp .ge 50, 3) := by decide +kernel
theorem dX11_stillOf_36 : decode cX11_stillOf 36 = .ok (.iconst 0, 1) := by decide +kernel
theorem dX11_stillOf_37 : decode cX11_stillOf 37 = .ok (.iload_n 2, 1) := by decide +kernel
theorem dX11_stillOf_38 : decode cX11_stillOf 38 = .ok (.iload 4, 2) := by decide +kernel
theorem dX11_stillOf_40 : decode cX11_stillOf 40 = .ok (.iload 5, 2) := by decide +kernel
theorem dX11_stillOf_42 : decode cX11_stillOf 42 = .ok (.invokestatic 286, 3) := by decide +kernel
theorem dX11_stillOf_45 : decode cX11_stillOf 45 = .ok (.istore 6, 2) := by decide +kernel
theorem dX11_stillOf_47 : decode cX11_stillOf 47 = .ok (.iload_n 3, 1) := by decide +kernel
theorem dX11_stillOf_48 : decode cX11_stillOf 48 = .ok (.aload_n 0, 1) := by decide +kernel
theorem dX11_stillOf_49 : decode cX11_stillOf 49 = .ok (.getfield 62, 3) := by decide +kernel
theorem dX11_stillOf_52 : decode cX11_stillOf 52 = .ok (.iload 6, 2) := by decide +kernel
theorem dX11_stillOf_54 : decode cX11_stillOf 54 = .ok (.iaload, 1) := by decide +kernel
theorem dX11_stillOf_55 : decode cX11_stillOf 55 = .ok (.iconst (-1), 1) := by decide +kernel
theorem dX11_stillOf_56 : decode cX11_stillOf 56 = .ok (.if_icmp .eq 18, 3) := by decide +kernel
theorem dX11_stillOf_59 : decode cX11_stillOf 59 = .ok (.aload_n 0, 1) := by decide +kernel
theorem dX11_stillOf_60 : decode cX11_stillOf 60 = .ok (.getfield 65, 3) := by decide +kernel
theorem dX11_stillOf_63 : decode cX11_stillOf 63 = .ok (.iload 6, 2) := by decide +kernel
theorem dX11_stillOf_65 : decode cX11_stillOf 65 = .ok (.iaload, 1) := by decide +kernel
theorem dX11_stillOf_66 : decode cX11_stillOf 66 = .ok (.iload_n 1, 1) := by decide +kernel
theorem dX11_stillOf_67 : decode cX11_stillOf 67 = .ok (.if_icmp .ne 7, 3) := by decide +kernel
theorem dX11_stillOf_70 : decode cX11_stillOf 70 = .ok (.iconst 1, 1) := by decide +kernel
theorem dX11_stillOf_71 : decode cX11_stillOf 71 = .ok (.goto 4, 3) := by decide +kernel
theorem dX11_stillOf_74 : decode cX11_stillOf 74 = .ok (.iconst 0, 1) := by decide +kernel
theorem dX11_stillOf_75 : decode cX11_stillOf 75 = .ok (.iadd, 1) := by decide +kernel
theorem dX11_stillOf_76 : decode cX11_stillOf 76 = .ok (.istore_n 3, 1) := by decide +kernel
theorem dX11_stillOf_77 : decode cX11_stillOf 77 = .ok (.iinc 5 1, 3) := by decide +kernel
theorem dX11_stillOf_80 : decode cX11_stillOf 80 = .ok (.goto (-61), 3) := by decide +kernel
theorem dX11_stillOf_83 : decode cX11_stillOf 83 = .ok (.iinc 4 1, 3) := by decide +kernel
theorem dX11_stillOf_86 : decode cX11_stillOf 86 = .ok (.goto (-81), 3) := by decide +kernel
theorem dX11_stillOf_89 : decode cX11_stillOf 89 = .ok (.iload_n 3, 1) := by decide +kernel
theorem dX11_stillOf_90 : decode cX11_stillOf 90 = .ok (.ireturn, 1) := by decide +kernel
theorem dX11_vote_0 : decode cX11_vote 0 = .ok (.aload_n 0, 1) := by decide +kernel
theorem dX11_vote_1 : decode cX11_vote 1 = .ok (.iconst 0, 1) := by decide +kernel
theorem dX11_vote_2 : decode cX11_vote 2 = .ok (.putfield 99, 3) := by decide +kernel
theorem dX11_vote_5 : decode cX11_vote 5 = .ok (.aload_n 0, 1) := by decide +kernel
theorem dX11_vote_6 : decode cX11_vote 6 = .ok (.iload_n 1, 1) := by decide +kernel
theorem dX11_vote_7 : decode cX11_vote 7 = .ok (.invokevirtual 343, 3) := by decide +kernel
theorem dX11_vote_10 : decode cX11_vote 10 = .ok (.ifCond .eq 12, 3) := by decide +kernel
theorem dX11_vote_13 : decode cX11_vote 13 = .ok (.aload_n 0, 1) := by decide +kernel
theorem dX11_vote_14 : decode cX11_vote 14 = .ok (.iconst 0, 1) := by decide +kernel
theorem dX11_vote_15 : decode cX11_vote 15 = .ok (.iload_n 1, 1) := by decide +kernel
theorem dX11_vote_16 : decode cX11_vote 16 = .ok (.invokevirtual 354, 3) := by decide +kernel
theorem dX11_vote_19 : decode cX11_vote 19 = .ok (.goto 5, 3) := by decide +kernel
theorem dX11_vote_22 : decode cX11_vote 22 = .ok (.bipush (-2), 2) := by decide +kernel
theorem dX11_vote_24 : decode cX11_vote 24 = .ok (.ireturn, 1) := by decide +kernel
theorem dX11_votes_0 : decode cX11_votes 0 = .ok (.aload_n 0, 1) := by decide +kernel
theorem dX11_votes_1 : decode cX11_votes 1 = .ok (.iconst 0, 1) := by decide +kernel
theorem dX11_votes_2 : decode cX11_votes 2 = .ok (.putfield 99, 3) := by decide +kernel
theorem dX11_votes_5 : decode cX11_votes 5 = .ok (.aload_n 0, 1) := by decide +kernel
theorem dX11_votes_6 : decode cX11_votes 6 = .ok (.iload_n 1, 1) := by decide +kernel
theorem dX11_votes_7 : decode cX11_votes 7 = .ok (.invokevirtual 370, 3) := by decide +kernel
theorem dX11_votes_10 : decode cX11_votes 10 = .ok (.ifCond .eq 23, 3) := by decide +kernel
theorem dX11_votes_13 : decode cX11_votes 13 = .ok (.iload_n 2, 1) := by decide +kernel
theorem dX11_votes_14 : decode cX11_votes 14 = .ok (.invokestatic 283, 3) := by decide +kernel
theorem dX11_votes_17 : decode cX11_votes 17 = .ok (.ifCond .eq 16, 3) := by decide +kernel
theorem dX11_votes_20 : decode cX11_votes 20 = .ok (.aload_n 0, 1) := by decide +kernel
theorem dX11_votes_21 : decode cX11_votes 21 = .ok (.getfield 77, 3) := by decide +kernel
theorem dX11_votes_24 : decode cX11_votes 24 = .ok (.iconst 2, 1) := by decide +kernel
theorem dX11_votes_25 : decode cX11_votes 25 = .ok (.iload_n 1, 1) := by decide +kernel
theorem dX11_votes_26 : decode cX11_votes 26 = .ok (.imul, 1) := by decide +kernel
theorem dX11_votes_27 : decode cX11_votes 27 = .ok (.iload_n 2, 1) := by decide +kernel
theorem dX11_votes_28 : decode cX11_votes 28 = .ok (.iadd, 1) := by decide +kernel
theorem dX11_votes_29 : decode cX11_votes 29 = .ok (.iaload, 1) := by decide +kernel
theorem dX11_votes_30 : decode cX11_votes 30 = .ok (.goto 5, 3) := by decide +kernel
theorem dX11_votes_33 : decode cX11_votes 33 = .ok (.bipush (-2), 2) := by decide +kernel
theorem dX11_votes_35 : decode cX11_votes 35 = .ok (.ireturn, 1) := by decide +kernel
theorem dX11_whyNot_0 : decode cX11_whyNot 0 = .ok (.aload_n 0, 1) := by decide +kernel
