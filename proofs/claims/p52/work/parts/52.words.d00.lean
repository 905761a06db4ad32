theorem dX11_above_0 : decode cX11_above 0 = .ok (.iconst 0, 1) := by decide +kernel
theorem dX11_above_1 : decode cX11_above 1 = .ok (.istore_n 3, 1) := by decide +kernel
theorem dX11_above_2 : decode cX11_above 2 = .ok (.iconst 0, 1) := by decide +kernel
theorem dX11_above_3 : decode cX11_above 3 = .ok (.istore 4, 2) := by decide +kernel
theorem dX11_above_5 : decode cX11_above 5 = .ok (.iload 4, 2) := by decide +kernel
theorem dX11_above_7 : decode cX11_above 7 = .ok (.aload_n 0, 1) := by decide +kernel
theorem dX11_above_8 : decode cX11_above 8 = .ok (.getfield 34, 3) := by decide +kernel
theorem dX11_above_11 : decode cX11_above 11 = .ok (.iconst 0, 1) := by decide +kernel
theorem dX11_above_12 : decode cX11_above 12 = .ok (.iaload, 1) := by decide +kernel
theorem dX11_above_13 : decode cX11_above 13 = .ok (.if_icmp .ge 46, 3) := by decide +kernel
theorem dX11_above_16 : decode cX11_above 16 = .ok (.iload_n 3, 1) := by decide +kernel
theorem dX11_above_17 : decode cX11_above 17 = .ok (.aload_n 0, 1) := by decide +kernel
theorem dX11_above_18 : decode cX11_above 18 = .ok (.getfield 56, 3) := by decide +kernel
theorem dX11_above_21 : decode cX11_above 21 = .ok (.iconst 0, 1) := by decide +kernel
theorem dX11_above_22 : decode cX11_above 22 = .ok (.iload_n 1, 1) := by decide +kernel
theorem dX11_above_23 : decode cX11_above 23 = .ok (.iload 4, 2) := by decide +kernel
theorem dX11_above_25 : decode cX11_above 25 = .ok (.invokestatic 280, 3) := by decide +kernel
theorem dX11_above_28 : decode cX11_above 28 = .ok (.iaload, 1) := by decide +kernel
theorem dX11_above_29 : decode cX11_above 29 = .ok (.iload_n 2, 1) := by decide +kernel
theorem dX11_above_30 : decode cX11_above 30 = .ok (.if_icmp .le 20, 3) := by decide +kernel
theorem dX11_above_33 : decode cX11_above 33 = .ok (.aload_n 0, 1) := by decide +kernel
theorem dX11_above_34 : decode cX11_above 34 = .ok (.getfield 56, 3) := by decide +kernel
theorem dX11_above_37 : decode cX11_above 37 = .ok (.iconst 0, 1) := by decide +kernel
theorem dX11_above_38 : decode cX11_above 38 = .ok (.iload_n 1, 1) := by decide +kernel
theorem dX11_above_39 : decode cX11_above 39 = .ok (.iload 4, 2) := by decide +kernel
theorem dX11_above_41 : decode cX11_above 41 = .ok (.invokestatic 280, 3) := by decide +kernel
theorem dX11_above_44 : decode cX11_above 44 = .ok (.iaload, 1) := by decide +kernel
theorem dX11_above_45 : decode cX11_above 45 = .ok (.iload_n 2, 1) := by decide +kernel
theorem dX11_above_46 : decode cX11_above 46 = .ok (.isub, 1) := by decide +kernel
theorem dX11_above_47 : decode cX11_above 47 = .ok (.goto 4, 3) := by decide +kernel
theorem dX11_above_50 : decode cX11_above 50 = .ok (.iconst 0, 1) := by decide +kernel
theorem dX11_above_51 : decode cX11_above 51 = .ok (.iadd, 1) := by decide +kernel
theorem dX11_above_52 : decode cX11_above 52 = .ok (.istore_n 3, 1) := by decide +kernel
theorem dX11_above_53 : decode cX11_above 53 = .ok (.iinc 4 1, 3) := by decide +kernel
theorem dX11_above_56 : decode cX11_above 56 = .ok (.goto (-51), 3) := by decide +kernel
theorem dX11_above_59 : decode cX11_above 59 = .ok (.iload_n 3, 1) := by decide +kernel
theorem dX11_above_60 : decode cX11_above 60 = .ok (.ireturn, 1) := by decide +kernel
theorem dX11_bribe_0 : decode cX11_bribe 0 = .ok (.aload_n 0, 1) := by decide +kernel
theorem dX11_bribe_1 : decode cX11_bribe 1 = .ok (.iconst 0, 1) := by decide +kernel
theorem dX11_bribe_2 : decode cX11_bribe 2 = .ok (.putfield 99, 3) := by decide +kernel
theorem dX11_bribe_5 : decode cX11_bribe 5 = .ok (.aload_n 0, 1) := by decide +kernel
theorem dX11_bribe_6 : decode cX11_bribe 6 = .ok (.invokevirtual 316, 3) := by decide +kernel
theorem dX11_bribe_9 : decode cX11_bribe 9 = .ok (.ifCond .eq 10, 3) := by decide +kernel
theorem dX11_bribe_12 : decode cX11_bribe 12 = .ok (.iload_n 1, 1) := by decide +kernel
theorem dX11_bribe_13 : decode cX11_bribe 13 = .ok (.invokestatic 283, 3) := by decide +kernel
theorem dX11_bribe_16 : decode cX11_bribe 16 = .ok (.ifCond .ne 6, 3) := by decide +kernel
theorem dX11_bribe_19 : decode cX11_bribe 19 = .ok (.bipush (-2), 2) := by decide +kernel
theorem dX11_bribe_21 : decode cX11_bribe 21 = .ok (.ireturn, 1) := by decide +kernel
theorem dX11_bribe_22 : decode cX11_bribe 22 = .ok (.iconst (-1), 1) := by decide +kernel
theorem dX11_bribe_23 : decode cX11_bribe 23 = .ok (.istore_n 2, 1) := by decide +kernel
theorem dX11_bribe_24 : decode cX11_bribe 24 = .ok (.iconst 0, 1) := by decide +kernel
theorem dX11_bribe_25 : decode cX11_bribe 25 = .ok (.istore_n 3, 1) := by decide +kernel
theorem dX11_bribe_26 : decode cX11_bribe 26 = .ok (.iload_n 3, 1) := by decide +kernel
theorem dX11_bribe_27 : decode cX11_bribe 27 = .ok (.iconst 3, 1) := by decide +kernel
theorem dX11_bribe_28 : decode cX11_bribe 28 = .ok (.if_icmp .gt 45, 3) := by decide +kernel
theorem dX11_bribe_31 : decode cX11_bribe 31 = .ok (.iload_n 2, 1) := by decide +kernel
theorem dX11_bribe_32 : decode cX11_bribe 32 = .ok (.ifCond .eq 41, 3) := by decide +kernel
theorem dX11_bribe_35 : decode cX11_bribe 35 = .ok (.aload_n 0, 1) := by decide +kernel
theorem dX11_bribe_36 : decode cX11_bribe 36 = .ok (.iload_n 1, 1) := by decide +kernel
theorem dX11_bribe_37 : decode cX11_bribe 37 = .ok (.iload_n 3, 1) := by decide +kernel
theorem dX11_bribe_38 : decode cX11_bribe 38 = .ok (.invokevirtual 413, 3) := by decide +kernel
theorem dX11_bribe_41 : decode cX11_bribe 41 = .ok (.aload_n 0, 1) := by decide +kernel
theorem dX11_bribe_42 : decode cX11_bribe 42 = .ok (.getfield 406, 3) := by decide +kernel
theorem dX11_bribe_45 : decode cX11_bribe 45 = .ok (.iconst (-1), 1) := by decide +kernel
theorem dX11_bribe_46 : decode cX11_bribe 46 = .ok (.if_icmp .eq 21, 3) := by decide +kernel
theorem dX11_bribe_49 : decode cX11_bribe 49 = .ok (.iload_n 2, 1) := by decide +kernel
theorem dX11_bribe_50 : decode cX11_bribe 50 = .ok (.iconst (-1), 1) := by decide +kernel
theorem dX11_bribe_51 : decode cX11_bribe 51 = .ok (.if_icmp .eq 11, 3) := by decide +kernel
theorem dX11_bribe_54 : decode cX11_bribe 54 = .ok (.aload_n 0, 1) := by decide +kernel
theorem dX11_bribe_55 : decode cX11_bribe 55 = .ok (.getfield 406, 3) := by decide +kernel
theorem dX11_bribe_58 : decode cX11_bribe 58 = .ok (.iload_n 2, 1) := by decide +kernel
theorem dX11_bribe_59 : decode cX11_bribe 59 = .ok (.if_icmp .ge 8, 3) := by decide +kernel
theorem dX11_bribe_62 : decode cX11_bribe 62 = .ok (.aload_n 0, 1) := by decide +kernel
theorem dX11_bribe_63 : decode cX11_bribe 63 = .ok (.getfield 406, 3) := by decide +kernel
theorem dX11_bribe_66 : decode cX11_bribe 66 = .ok (.istore_n 2, 1) := by decide +kernel
theorem dX11_bribe_67 : decode cX11_bribe 67 = .ok (.iinc 3 1, 3) := by decide +kernel
theorem dX11_bribe_70 : decode cX11_bribe 70 = .ok (.goto (-44), 3) := by decide +kernel
theorem dX11_bribe_73 : decode cX11_bribe 73 = .ok (.iload_n 2, 1) := by decide +kernel
theorem dX11_bribe_74 : decode cX11_bribe 74 = .ok (.iconst (-1), 1) := by decide +kernel
theorem dX11_bribe_75 : decode cX11_bribe 75 = .ok (.if_icmp .ne 8, 3) := by decide +kernel
theorem dX11_bribe_78 : decode cX11_bribe 78 = .ok (.bipush (-3), 2) := by decide +kernel
theorem dX11_bribe_80 : decode cX11_bribe 80 = .ok (.goto 4, 3) := by decide +kernel
theorem dX11_bribe_83 : decode cX11_bribe 83 = .ok (.iload_n 2, 1) := by decide +kernel
theorem dX11_bribe_84 : decode cX11_bribe 84 = .ok (.ireturn, 1) := by decide +kernel
theorem dX11_laysRows_0 : decode cX11_laysRows 0 = .ok (.aload_n 0, 1) := by decide +kernel
theorem dX11_laysRows_1 : decode cX11_laysRows 1 = .ok (.iconst 0, 1) := by decide +kernel
theorem dX11_laysRows_2 : decode cX11_laysRows 2 = .ok (.iconst 4, 1) := by decide +kernel
theorem dX11_laysRows_3 : decode cX11_laysRows 3 = .ok (.invokevirtual 327, 3) := by decide +kernel
theorem dX11_laysRows_6 : decode cX11_laysRows 6 = .ok (.aload_n 0, 1) := by decide +kernel
theorem dX11_laysRows_7 : decode cX11_laysRows 7 = .ok (.iconst (-1), 1) := by decide +kernel
theorem dX11_laysRows_8 : decode cX11_laysRows 8 = .ok (.putfield 403, 3) := by decide +kernel
theorem dX11_laysRows_11 : decode cX11_laysRows 11 = .ok (.aload_n 0, 1) := by decide +kernel
theorem dX11_laysRows_12 : decode cX11_laysRows 12 = .ok (.iconst (-1), 1) := by decide +kernel
theorem dX11_laysRows_13 : decode cX11_laysRows 13 = .ok (.putfield 406, 3) := by decide +kernel
theorem dX11_laysRows_16 : decode cX11_laysRows 16 = .ok (.aload_n 0, 1) := by decide +kernel
theorem dX11_laysRows_17 : decode cX11_laysRows 17 = .ok (.iload_n 1, 1) := by decide +kernel
theorem dX11_laysRows_18 : decode cX11_laysRows 18 = .ok (.iconst 0, 1) := by decide +kernel
theorem dX11_laysRows_19 : decode cX11_laysRows 19 = .ok (.iload_n 2, 1) := by decide +kernel
theorem dX11_laysRows_20 : decode cX11_laysRows 20 = .ok (.iconst 0, 1) := by decide +kernel
theorem dX11_laysRows_21 : decode cX11_laysRows 21 = .ok (.invokevirtual 409, 3) := by decide +kernel
theorem dX11_laysRows_24 : decode cX11_laysRows 24 = .ok (.return_, 1) := by decide +kernel
theorem dX11_laysTorn_0 : decode cX11_laysTorn 0 = .ok (.iconst 0, 1) := by decide +kernel
theorem dX11_laysTorn_1 : decode cX11_laysTorn 1 = .ok (.istore_n 2, 1) := by decide +kernel
theorem dX11_laysTorn_2 : decode cX11_laysTorn 2 = .ok (.iload_n 2, 1) := by decide +kernel
theorem dX11_laysTorn_3 : decode cX11_laysTorn 3 = .ok (.bipush 97, 2) := by decide +kernel
theorem dX11_laysTorn_5 : decode cX11_laysTorn 5 = .ok (.if_icmp .ge 24, 3) := by decide +kernel
theorem dX11_laysTorn_8 : decode cX11_laysTorn 8 = .ok (.aload_n 0, 1) := by decide +kernel
theorem dX11_laysTorn_9 : decode cX11_laysTorn 9 = .ok (.getfield 86, 3) := by decide +kernel
theorem dX11_laysTorn_12 : decode cX11_laysTorn 12 = .ok (.iload_n 2, 1) := by decide +kernel
theorem dX11_laysTorn_13 : decode cX11_laysTorn 13 = .ok (.iload_n 2, 1) := by decide +kernel
theorem dX11_laysTorn_14 : decode cX11_laysTorn 14 = .ok (.ifCond .ne 7, 3) := by decide +kernel
theorem dX11_laysTorn_17 : decode cX11_laysTorn 17 = .ok (.iconst 0, 1) := by decide +kernel
theorem dX11_laysTorn_18 : decode cX11_laysTorn 18 = .ok (.goto 4, 3) := by decide +kernel
theorem dX11_laysTorn_21 : decode cX11_laysTorn 21 = .ok (.iconst (-1), 1) := by decide +kernel
theorem dX11_laysTorn_22 : decode cX11_laysTorn 22 = .ok (.iastore, 1) := by decide +kernel
theorem dX11_laysTorn_23 : decode cX11_laysTorn 23 = .ok (.iinc 2 1, 3) := by decide +kernel
theorem dX11_laysTorn_26 : decode cX11_laysTorn 26 = .ok (.goto (-24), 3) := by decide +kernel
theorem dX11_laysTorn_29 : decode cX11_laysTorn 29 = .ok (.iconst 0, 1) := by decide +kernel
theorem dX11_laysTorn_30 : decode cX11_laysTorn 30 = .ok (.istore_n 2, 1) := by decide +kernel
theorem dX11_laysTorn_31 : decode cX11_laysTorn 31 = .ok (.iload_n 2, 1) := by decide +kernel
theorem dX11_laysTorn_32 : decode cX11_laysTorn 32 = .ok (.aload_n 0, 1) := by decide +kernel
theorem dX11_laysTorn_33 : decode cX11_laysTorn 33 = .ok (.getfield 34, 3) := by decide +kernel
theorem dX11_laysTorn_36 : decode cX11_laysTorn 36 = .ok (.iconst 0, 1) := by decide +kernel
theorem dX11_laysTorn_37 : decode cX11_laysTorn 37 = .ok (.iaload, 1) := by decide +kernel
theorem dX11_laysTorn_38 : decode cX11_laysTorn 38 = .ok (.if_icmp .ge 142, 3) := by decide +kernel
theorem dX11_laysTorn_41 : decode cX11_laysTorn 41 = .ok (.aload_n 0, 1) := by decide +kernel
theorem dX11_laysTorn_42 : decode cX11_laysTorn 42 = .ok (.getfield 56, 3) := by decide +kernel
theorem dX11_laysTorn_45 : decode cX11_laysTorn 45 = .ok (.iconst 0, 1) := by decide +kernel
theorem dX11_laysTorn_46 : decode cX11_laysTorn 46 = .ok (.iload_n 1, 1) := by decide +kernel
theorem dX11_laysTorn_47 : decode cX11_laysTorn 47 = .ok (.iload_n 2, 1) := by decide +kernel
theorem dX11_laysTorn_48 : decode cX11_laysTorn 48 = .ok (.invokestatic 280, 3) := by decide +kernel
theorem dX11_laysTorn_51 : decode cX11_laysTorn 51 = .ok (.iaload, 1) := by decide +kernel
theorem dX11_laysTorn_52 : decode cX11_laysTorn 52 = .ok (.istore_n 3, 1) := by decide +kernel
theorem dX11_laysTorn_53 : decode cX11_laysTorn 53 = .ok (.bipush 96, 2) := by decide +kernel
theorem dX11_laysTorn_55 : decode cX11_laysTorn 55 = .ok (.istore 4, 2) := by decide +kernel
theorem dX11_laysTorn_57 : decode cX11_laysTorn 57 = .ok (.iload 4, 2) := by decide +kernel
theorem dX11_laysTorn_59 : decode cX11_laysTorn 59 = .ok (.ifCond .le 115, 3) := by decide +kernel
theorem dX11_laysTorn_62 : decode cX11_laysTorn 62 = .ok (.iconst 0, 1) := by decide +kernel
theorem dX11_laysTorn_63 : decode cX11_laysTorn 63 = .ok (.istore 5, 2) := by decide +kernel
theorem dX11_laysTorn_65 : decode cX11_laysTorn 65 = .ok (.iconst 1, 1) := by decide +kernel
theorem dX11_laysTorn_66 : decode cX11_laysTorn 66 = .ok (.istore 6, 2) := by decide +kernel
theorem dX11_laysTorn_68 : decode cX11_laysTorn 68 = .ok (.iload 6, 2) := by decide +kernel
theorem dX11_laysTorn_70 : decode cX11_laysTorn 70 = .ok (.iload_n 3, 1) := by decide +kernel
theorem dX11_laysTorn_71 : decode cX11_laysTorn 71 = .ok (.if_icmp .gt 97, 3) := by decide +kernel
theorem dX11_laysTorn_74 : decode cX11_laysTorn 74 = .ok (.iload 6, 2) := by decide +kernel
theorem dX11_laysTorn_76 : decode cX11_laysTorn 76 = .ok (.iload 4, 2) := by decide +kernel
theorem dX11_laysTorn_78 : decode cX11_laysTorn 78 = .ok (.if_icmp .gt 90, 3) := by decide +kernel
theorem dX11_laysTorn_81 : decode cX11_laysTorn 81 = .ok (.iload 5, 2) := by decide +kernel
theorem dX11_laysTorn_83 : decode cX11_laysTorn 83 = .ok (.aload_n 0, 1) := by decide +kernel
theorem dX11_laysTorn_84 : decode cX11_laysTorn 84 = .ok (.aload_n 0, 1) := by decide +kernel
theorem dX11_laysTorn_85 : decode cX11_laysTorn 85 = .ok (.getfield 59, 3) := by decide +kernel
theorem dX11_laysTorn_88 : decode cX11_laysTorn 88 = .ok (.iconst 0, 1) := by decide +kernel
theorem dX11_laysTorn_89 : decode cX11_laysTorn 89 = .ok (.iload_n 1, 1) := by decide +kernel
theorem dX11_laysTorn_90 : decode cX11_laysTorn 90 = .ok (.iload_n 2, 1) := by decide +kernel
theorem dX11_laysTorn_91 : decode cX11_laysTorn 91 = .ok (.iload_n 3, 1) := by decide +kernel
theorem dX11_laysTorn_92 : decode cX11_laysTorn 92 = .ok (.iload 6, 2) := by decide +kernel
theorem dX11_laysTorn_94 : decode cX11_laysTorn 94 = .ok (.isub, 1) := by decide +kernel
theorem dX11_laysTorn_95 : decode cX11_laysTorn 95 = .ok (.invokestatic 286, 3) := by decide +kernel
theorem dX11_laysTorn_98 : decode cX11_laysTorn 98 = .ok (.iaload, 1) := by decide +kernel
theorem dX11_laysTorn_99 : decode cX11_laysTorn 99 = .ok (.invokevirtual 289, 3) := by decide +kernel
theorem dX11_laysTorn_102 : decode cX11_laysTorn 102 = .ok (.iadd, 1) := by decide +kernel
theorem dX11_laysTorn_103 : decode cX11_laysTorn 103 = .ok (.istore 5, 2) := by decide +kernel
theorem dX11_laysTorn_105 : decode cX11_laysTorn 105 = .ok (.aload_n 0, 1) := by decide +kernel
theorem dX11_laysTorn_106 : decode cX11_laysTorn 106 = .ok (.getfield 86, 3) := by decide +kernel
theorem dX11_laysTorn_109 : decode cX11_laysTorn 109 = .ok (.iload 4, 2) := by decide +kernel
theorem dX11_laysTorn_111 : decode cX11_laysTorn 111 = .ok (.iload 6, 2) := by decide +kernel
theorem dX11_laysTorn_113 : decode cX11_laysTorn 113 = .ok (.isub, 1) := by decide +kernel
theorem dX11_laysTorn_114 : decode cX11_laysTorn 114 = .ok (.iaload, 1) := by decide +kernel
theorem dX11_laysTorn_115 : decode cX11_laysTorn 115 = .ok (.iconst (-1), 1) := by decide +kernel
theorem dX11_laysTorn_116 : decode cX11_laysTorn 116 = .ok (.if_icmp .eq 46, 3) := by decide +kernel
theorem dX11_laysTorn_119 : decode cX11_laysTorn 119 = .ok (.aload_n 0, 1) := by decide +kernel
theorem dX11_laysTorn_120 : decode cX11_laysTorn 120 = .ok (.getfield 86, 3) := by decide +kernel
theorem dX11_laysTorn_123 : decode cX11_laysTorn 123 = .ok (.iload 4, 2) := by decide +kernel
theorem dX11_laysTorn_125 : decode cX11_laysTorn 125 = .ok (.iload 6, 2) := by decide +kernel
theorem dX11_laysTorn_127 : decode cX11_laysTorn 127 = .ok (.isub, 1) := by decide +kernel
theorem dX11_laysTorn_128 : decode cX11_laysTorn 128 = .ok (.iaload, 1) := by decide +kernel
theorem dX11_laysTorn_129 : decode cX11_laysTorn 129 = .ok (.iload 5, 2) := by decide +kernel
theorem dX11_laysTorn_131 : decode cX11_laysTorn 131 = .ok (.iadd, 1) := by decide +kernel
theorem dX11_laysTorn_132 : decode cX11_laysTorn 132 = .ok (.aload_n 0, 1) := by decide +kernel
theorem dX11_laysTorn_133 : decode cX11_laysTorn 133 = .ok (.getfield 86, 3) := by decide +kernel
theorem dX11_laysTorn_136 : decode cX11_laysTorn 136 = .ok (.iload 4, 2) := by decide +kernel
theorem dX11_laysTorn_138 : decode cX11_laysTorn 138 = .ok (.iaload, 1) := by decide +kernel
theorem dX11_laysTorn_139 : decode cX11_laysTorn 139 = .ok (.if_icmp .le 23, 3) := by decide +kernel
theorem dX11_laysTorn_142 : decode cX11_laysTorn 142 = .ok (.aload_n 0, 1) := by decide +kernel
theorem dX11_laysTorn_143 : decode cX11_laysTorn 143 = .ok (.getfield 86, 3) := by decide +kernel
theorem dX11_laysTorn_146 : decode cX11_laysTorn 146 = .ok (.iload 4, 2) := by decide +kernel
theorem dX11_laysTorn_148 : decode cX11_laysTorn 148 = .ok (.aload_n 0, 1) := by decide +kernel
theorem dX11_laysTorn_149 : decode cX11_laysTorn 149 = .ok (.getfield 86, 3) := by decide +kernel
theorem dX11_laysTorn_152 : decode cX11_laysTorn 152 = .ok (.iload 4, 2) := by decide +kernel
theorem dX11_laysTorn_154 : decode cX11_laysTorn 154 = .ok (.iload 6, 2) := by decide +kernel
theorem dX11_laysTorn_156 : decode cX11_laysTorn 156 = .ok (.isub, 1) := by decide +kernel
theorem dX11_laysTorn_157 : decode cX11_laysTorn 157 = .ok (.iaload, 1) := by decide +kernel
theorem dX11_laysTorn_158 : decode cX11_laysTorn 158 = .ok (.iload 5, 2) := by decide +kernel
theorem dX11_laysTorn_160 : decode cX11_laysTorn 160 = .ok (.iadd, 1) := by decide +kernel
theorem dX11_laysTorn_161 : decode cX11_laysTorn 161 = .ok (.iastore, 1) := by decide +kernel
theorem dX11_laysTorn_162 : decode cX11_laysTorn 162 = .ok (.iinc 6 1, 3) := by decide +kernel
theorem dX11_laysTorn_165 : decode cX11_laysTorn 165 = .ok (.goto (-97), 3) := by decide +kernel
theorem dX11_laysTorn_168 : decode cX11_laysTorn 168 = .ok (.iinc 4 (-1), 3) := by decide +kernel
theorem dX11_laysTorn_171 : decode cX11_laysTorn 171 = .ok (.goto (-114), 3) := by decide +kernel
theorem dX11_laysTorn_174 : decode cX11_laysTorn 174 = .ok (.iinc 2 1, 3) := by decide +kernel
theorem dX11_laysTorn_177 : decode cX11_laysTorn 177 = .ok (.goto (-146), 3) := by decide +kernel
theorem dX11_laysTorn_180 : decode cX11_laysTorn 180 = .ok (.return_, 1) := by decide +kernel
theorem dX11_rows_0 : decode cX11_rows 0 = .ok (.iload_n 2, 1) := by decide +kernel
theorem dX11_rows_1 : decode cX11_rows 1 = .ok (.iload_n 3, 1) := by decide +kernel
theorem dX11_rows_2 : decode cX11_rows 2 = .ok (.if_icmp .ne 76, 3) := by decide +kernel
theorem dX11_rows_5 : decode cX11_rows 5 = .ok (.aload_n 0, 1) := by decide +kernel
theorem dX11_rows_6 : decode cX11_rows 6 = .ok (.iconst 4, 1) := by decide +kernel
theorem dX11_rows_7 : decode cX11_rows 7 = .ok (.aload_n 0, 1) := by decide +kernel
theorem dX11_rows_8 : decode cX11_rows 8 = .ok (.getfield 49, 3) := by decide +kernel
theorem dX11_rows_11 : decode cX11_rows 11 = .ok (.iconst 0, 1) := by decide +kernel
theorem dX11_rows_12 : decode cX11_rows 12 = .ok (.iaload, 1) := by decide +kernel
theorem dX11_rows_13 : decode cX11_rows 13 = .ok (.invokevirtual 334, 3) := by decide +kernel
theorem dX11_rows_16 : decode cX11_rows 16 = .ok (.iload_n 1, 1) := by decide +kernel
theorem dX11_rows_17 : decode cX11_rows 17 = .ok (.if_icmp .eq 4, 3) := by decide +kernel
theorem dX11_rows_20 : decode cX11_rows 20 = .ok (.return_, 1) := by decide +kernel
theorem dX11_rows_21 : decode cX11_rows 21 = .ok (.aload_n 0, 1) := by decide +kernel
theorem dX11_rows_22 : decode cX11_rows 22 = .ok (.getfield 403, 3) := by decide +kernel
theorem dX11_rows_25 : decode cX11_rows 25 = .ok (.iconst (-1), 1) := by decide +kernel
theorem dX11_rows_26 : decode cX11_rows 26 = .ok (.if_icmp .ne 21, 3) := by decide +kernel
theorem dX11_rows_29 : decode cX11_rows 29 = .ok (.aload_n 0, 1) := by decide +kernel
theorem dX11_rows_30 : decode cX11_rows 30 = .ok (.iload_n 3, 1) := by decide +kernel
theorem dX11_rows_31 : decode cX11_rows 31 = .ok (.ifCond .ne 7, 3) := by decide +kernel
theorem dX11_rows_34 : decode cX11_rows 34 = .ok (.iconst 0, 1) := by decide +kernel
theorem dX11_rows_35 : decode cX11_rows 35 = .ok (.goto 9, 3) := by decide +kernel
theorem dX11_rows_38 : decode cX11_rows 38 = .ok (.aload_n 0, 1) := by decide +kernel
theorem dX11_rows_39 : decode cX11_rows 39 = .ok (.getfield 83, 3) := by decide +kernel
theorem dX11_rows_42 : decode cX11_rows 42 = .ok (.iconst 0, 1) := by decide +kernel
theorem dX11_rows_43 : decode cX11_rows 43 = .ok (.iaload, 1) := by decide +kernel
theorem dX11_rows_44 : decode cX11_rows 44 = .ok (.putfield 403, 3) := by decide +kernel
theorem dX11_rows_47 : decode cX11_rows 47 = .ok (.aload_n 0, 1) := by decide +kernel
theorem dX11_rows_48 : decode cX11_rows 48 = .ok (.aload_n 0, 1) := by decide +kernel
theorem dX11_rows_49 : decode cX11_rows 49 = .ok (.getfield 406, 3) := by decide +kernel
theorem dX11_rows_52 : decode cX11_rows 52 = .ok (.iconst (-1), 1) := by decide +kernel
theorem dX11_rows_53 : decode cX11_rows 53 = .ok (.if_icmp .eq 12, 3) := by decide +kernel
theorem dX11_rows_56 : decode cX11_rows 56 = .ok (.iload 4, 2) := by decide +kernel
theorem dX11_rows_58 : decode cX11_rows 58 = .ok (.aload_n 0, 1) := by decide +kernel
theorem dX11_rows_59 : decode cX11_rows 59 = .ok (.getfield 406, 3) := by decide +kernel
theorem dX11_rows_62 : decode cX11_rows 62 = .ok (.if_icmp .ge 8, 3) := by decide +kernel
theorem dX11_rows_65 : decode cX11_rows 65 = .ok (.iload 4, 2) := by decide +kernel
theorem dX11_rows_67 : decode cX11_rows 67 = .ok (.goto 7, 3) := by decide +kernel
theorem dX11_rows_70 : decode cX11_rows 70 = .ok (.aload_n 0, 1) := by decide +kernel
theorem dX11_rows_71 : decode cX11_rows 71 = .ok (.getfield 406, 3) := by decide +kernel
theorem dX11_rows_74 : decode cX11_rows 74 = .ok (.putfield 406, 3) := by decide +kernel
theorem dX11_rows_77 : decode cX11_rows 77 = .ok (.return_, 1) := by decide +kernel
theorem dX11_rows_78 : decode cX11_rows 78 = .ok (.iconst 0, 1) := by decide +kernel
theorem dX11_rows_79 : decode cX11_rows 79 = .ok (.istore 5, 2) := by decide +kernel
theorem dX11_rows_81 : decode cX11_rows 81 = .ok (.iload 5, 2) := by decide +kernel
theorem dX11_rows_83 : decode cX11_rows 83 = .ok (.aload_n 0, 1) := by decide +kernel
theorem dX11_rows_84 : decode cX11_rows 84 = .ok (.getfield 34, 3) := by decide +kernel
theorem dX11_rows_87 : decode cX11_rows 87 = .ok (.iconst 0, 1) := by decide +kernel
theorem dX11_rows_88 : decode cX11_rows 88 = .ok (.iaload, 1) := by decide +kernel
theorem dX11_rows_89 : decode cX11_rows 89 = .ok (.if_icmp .ge 117, 3) := by decide +kernel
theorem dX11_rows_92 : decode cX11_rows 92 = .ok (.iconst 0, 1) := by decide +kernel
theorem dX11_rows_93 : decode cX11_rows 93 = .ok (.istore 6, 2) := by decide +kernel
theorem dX11_rows_95 : decode cX11_rows 95 = .ok (.iload 6, 2) := by decide +kernel
theorem dX11_rows_97 : decode cX11_rows 97 = .ok (.aload_n 0, 1) := by decide +kernel
theorem dX11_rows_98 : decode cX11_rows 98 = .ok (.getfield 37, 3) := by decide +kernel
theorem dX11_rows_101 : decode cX11_rows 101 = .ok (.iconst 0, 1) := by decide +kernel
theorem dX11_rows_102 : decode cX11_rows 102 = .ok (.iaload, 1) := by decide +kernel
theorem dX11_rows_103 : decode cX11_rows 103 = .ok (.if_icmp .ge 97, 3) := by decide +kernel
theorem dX11_rows_106 : decode cX11_rows 106 = .ok (.aload_n 0, 1) := by decide +kernel
theorem dX11_rows_107 : decode cX11_rows 107 = .ok (.getfield 68, 3) := by decide +kernel
theorem dX11_rows_110 : decode cX11_rows 110 = .ok (.bipush 20, 2) := by decide +kernel
theorem dX11_rows_112 : decode cX11_rows 112 = .ok (.iload 6, 2) := by decide +kernel
theorem dX11_rows_114 : decode cX11_rows 114 = .ok (.iadd, 1) := by decide +kernel
theorem dX11_rows_115 : decode cX11_rows 115 = .ok (.iaload, 1) := by decide +kernel
theorem dX11_rows_116 : decode cX11_rows 116 = .ok (.ifCond .eq 78, 3) := by decide +kernel
theorem dX11_rows_119 : decode cX11_rows 119 = .ok (.aload_n 0, 1) := by decide +kernel
theorem dX11_rows_120 : decode cX11_rows 120 = .ok (.iconst 4, 1) := by decide +kernel
theorem dX11_rows_121 : decode cX11_rows 121 = .ok (.iload_n 1, 1) := by decide +kernel
theorem dX11_rows_122 : decode cX11_rows 122 = .ok (.iload 5, 2) := by decide +kernel
theorem dX11_rows_124 : decode cX11_rows 124 = .ok (.iload 6, 2) := by decide +kernel
theorem dX11_rows_126 : decode cX11_rows 126 = .ok (.invokevirtual 304, 3) := by decide +kernel
theorem dX11_rows_129 : decode cX11_rows 129 = .ok (.ifCond .ne 6, 3) := by decide +kernel
theorem dX11_rows_132 : decode cX11_rows 132 = .ok (.goto 62, 3) := by decide +kernel
theorem dX11_rows_135 : decode cX11_rows 135 = .ok (.aload_n 0, 1) := by decide +kernel
theorem dX11_rows_136 : decode cX11_rows 136 = .ok (.getfield 83, 3) := by decide +kernel
theorem dX11_rows_139 : decode cX11_rows 139 = .ok (.iload_n 2, 1) := by decide +kernel
theorem dX11_rows_140 : decode cX11_rows 140 = .ok (.bipush 10, 2) := by decide +kernel
theorem dX11_rows_142 : decode cX11_rows 142 = .ok (.iload 5, 2) := by decide +kernel
theorem dX11_rows_144 : decode cX11_rows 144 = .ok (.imul, 1) := by decide +kernel
theorem dX11_rows_145 : decode cX11_rows 145 = .ok (.iload 6, 2) := by decide +kernel
theorem dX11_rows_147 : decode cX11_rows 147 = .ok (.iadd, 1) := by decide +kernel
theorem dX11_rows_148 : decode cX11_rows 148 = .ok (.iastore, 1) := by decide +kernel
theorem dX11_rows_149 : decode cX11_rows 149 = .ok (.aload_n 0, 1) := by decide +kernel
theorem dX11_rows_150 : decode cX11_rows 150 = .ok (.iconst 4, 1) := by decide +kernel
theorem dX11_rows_151 : decode cX11_rows 151 = .ok (.iload_n 1, 1) := by decide +kernel
theorem dX11_rows_152 : decode cX11_rows 152 = .ok (.iload 5, 2) := by decide +kernel
theorem dX11_rows_154 : decode cX11_rows 154 = .ok (.iload 6, 2) := by decide +kernel
theorem dX11_rows_156 : decode cX11_rows 156 = .ok (.iconst (-1), 1) := by decide +kernel
theorem dX11_rows_157 : decode cX11_rows 157 = .ok (.invokevirtual 307, 3) := by decide +kernel
theorem dX11_rows_160 : decode cX11_rows 160 = .ok (.aload_n 0, 1) := by decide +kernel
theorem dX11_rows_161 : decode cX11_rows 161 = .ok (.iload_n 1, 1) := by decide +kernel
theorem dX11_rows_162 : decode cX11_rows 162 = .ok (.iload_n 2, 1) := by decide +kernel
theorem dX11_rows_163 : decode cX11_rows 163 = .ok (.iconst 1, 1) := by decide +kernel
theorem dX11_rows_164 : decode cX11_rows 164 = .ok (.iadd, 1) := by decide +kernel
theorem dX11_rows_165 : decode cX11_rows 165 = .ok (.iload_n 3, 1) := by decide +kernel
theorem dX11_rows_166 : decode cX11_rows 166 = .ok (.iload 4, 2) := by decide +kernel
theorem dX11_rows_168 : decode cX11_rows 168 = .ok (.aload_n 0, 1) := by decide +kernel
theorem dX11_rows_169 : decode cX11_rows 169 = .ok (.getfield 49, 3) := by decide +kernel
theorem dX11_rows_172 : decode cX11_rows 172 = .ok (.iconst 2, 1) := by decide +kernel
theorem dX11_rows_173 : decode cX11_rows 173 = .ok (.iaload, 1) := by decide +kernel
theorem dX11_rows_174 : decode cX11_rows 174 = .ok (.aload_n 0, 1) := by decide +kernel
theorem dX11_rows_175 : decode cX11_rows 175 = .ok (.iload 6, 2) := by decide +kernel
theorem dX11_rows_177 : decode cX11_rows 177 = .ok (.invokevirtual 289, 3) := by decide +kernel
theorem dX11_rows_180 : decode cX11_rows 180 = .ok (.imul, 1) := by decide +kernel
theorem dX11_rows_181 : decode cX11_rows 181 = .ok (.iadd, 1) := by decide +kernel
theorem dX11_rows_182 : decode cX11_rows 182 = .ok (.invokevirtual 409, 3) := by decide +kernel
theorem dX11_rows_185 : decode cX11_rows 185 = .ok (.aload_n 0, 1) := by decide +kernel
theorem dX11_rows_186 : decode cX11_rows 186 = .ok (.iconst 4, 1) := by decide +kernel
theorem dX11_rows_187 : decode cX11_rows 187 = .ok (.iload_n 1, 1) := by decide +kernel
theorem dX11_rows_188 : decode cX11_rows 188 = .ok (.iload 5, 2) := by decide +kernel
theorem dX11_rows_190 : decode cX11_rows 190 = .ok (.invokevirtual 311, 3) := by decide +kernel
theorem dX11_rows_193 : decode cX11_rows 193 = .ok (.pop, 1) := by decide +kernel
theorem dX11_rows_194 : decode cX11_rows 194 = .ok (.iinc 6 1, 3) := by decide +kernel
theorem dX11_rows_197 : decode cX11_rows 197 = .ok (.goto (-102), 3) := by decide +kernel
theorem dX11_rows_200 : decode cX11_rows 200 = .ok (.iinc 5 1, 3) := by decide +kernel
theorem dX11_rows_203 : decode cX11_rows 203 = .ok (.goto (-122), 3) := by decide +kernel
theorem dX11_rows_206 : decode cX11_rows 206 = .ok (.return_, 1) := by decide +kernel
theorem dX11_tear_0 : decode cX11_tear 0 = .ok (.aload_n 0, 1) := by decide +kernel
theorem dX11_tear_1 : decode cX11_tear 1 = .ok (.iconst 0, 1) := by decide +kernel
theorem dX11_tear_2 : decode cX11_tear 2 = .ok (.putfield 99, 3) := by decide +kernel
theorem dX11_tear_5 : decode cX11_tear 5 = .ok (.aload_n 0, 1) := by decide +kernel
theorem dX11_tear_6 : decode cX11_tear 6 = .ok (.invokevirtual 316, 3) := by decide +kernel
theorem dX11_tear_9 : decode cX11_tear 9 = .ok (.ifCond .eq 10, 3) := by decide +kernel
theorem dX11_tear_12 : decode cX11_tear 12 = .ok (.iload_n 1, 1) := by decide +kernel
theorem dX11_tear_13 : decode cX11_tear 13 = .ok (.invokestatic 283, 3) := by decide +kernel
theorem dX11_tear_16 : decode cX11_tear 16 = .ok (.ifCond .ne 6, 3) := by decide +kernel
theorem dX11_tear_19 : decode cX11_tear 19 = .ok (.bipush (-2), 2) := by decide +kernel
theorem dX11_tear_21 : decode cX11_tear 21 = .ok (.ireturn, 1) := by decide +kernel
theorem dX11_tear_22 : decode cX11_tear 22 = .ok (.aload_n 0, 1) := by decide +kernel
theorem dX11_tear_23 : decode cX11_tear 23 = .ok (.iconst 0, 1) := by decide +kernel
theorem dX11_tear_24 : decode cX11_tear 24 = .ok (.iload_n 1, 1) := by decide +kernel
theorem dX11_tear_25 : decode cX11_tear 25 = .ok (.aload_n 0, 1) := by decide +kernel
theorem dX11_tear_26 : decode cX11_tear 26 = .ok (.getfield 49, 3) := by decide +kernel
theorem dX11_tear_29 : decode cX11_tear 29 = .ok (.iconst 0, 1) := by decide +kernel
theorem dX11_tear_30 : decode cX11_tear 30 = .ok (.iaload, 1) := by decide +kernel
theorem dX11_tear_31 : decode cX11_tear 31 = .ok (.invokevirtual 324, 3) := by decide +kernel
theorem dX11_tear_34 : decode cX11_tear 34 = .ok (.istore_n 2, 1) := by decide +kernel
theorem dX11_tear_35 : decode cX11_tear 35 = .ok (.aload_n 0, 1) := by decide +kernel
theorem dX11_tear_36 : decode cX11_tear 36 = .ok (.iconst 0, 1) := by decide +kernel
theorem dX11_tear_37 : decode cX11_tear 37 = .ok (.iconst 1, 1) := by decide +kernel
theorem dX11_tear_38 : decode cX11_tear 38 = .ok (.iload_n 1, 1) := by decide +kernel
theorem dX11_tear_39 : decode cX11_tear 39 = .ok (.isub, 1) := by decide +kernel
theorem dX11_tear_40 : decode cX11_tear 40 = .ok (.aload_n 0, 1) := by decide +kernel
theorem dX11_tear_41 : decode cX11_tear 41 = .ok (.getfield 49, 3) := by decide +kernel
theorem dX11_tear_44 : decode cX11_tear 44 = .ok (.iconst 0, 1) := by decide +kernel
theorem dX11_tear_45 : decode cX11_tear 45 = .ok (.iaload, 1) := by decide +kernel
theorem dX11_tear_46 : decode cX11_tear 46 = .ok (.invokevirtual 324, 3) := by decide +kernel
theorem dX11_tear_49 : decode cX11_tear 49 = .ok (.istore_n 3, 1) := by decide +kernel
theorem dX11_tear_50 : decode cX11_tear 50 = .ok (.iload_n 2, 1) := by decide +kernel
theorem dX11_tear_51 : decode cX11_tear 51 = .ok (.iload_n 3, 1) := by decide +kernel
theorem dX11_tear_52 : decode cX11_tear 52 = .ok (.if_icmp .le 5, 3) := by decide +kernel
theorem dX11_tear_55 : decode cX11_tear 55 = .ok (.iconst 0, 1) := by decide +kernel
theorem dX11_tear_56 : decode cX11_tear 56 = .ok (.ireturn, 1) := by decide +kernel
theorem dX11_tear_57 : decode cX11_tear 57 = .ok (.iload_n 2, 1) := by decide +kernel
theorem dX11_tear_58 : decode cX11_tear 58 = .ok (.ifCond .ne 5, 3) := by decide +kernel
theorem dX11_tear_61 : decode cX11_tear 61 = .ok (.iconst (-1), 1) := by decide +kernel
theorem dX11_tear_62 : decode cX11_tear 62 = .ok (.ireturn, 1) := by decide +kernel
theorem dX11_tear_63 : decode cX11_tear 63 = .ok (.aload_n 0, 1) := by decide +kernel
theorem dX11_tear_64 : decode cX11_tear 64 = .ok (.getfield 49, 3) := by decide +kernel
theorem dX11_tear_67 : decode cX11_tear 67 = .ok (.iconst 0, 1) := by decide +kernel
theorem dX11_tear_68 : decode cX11_tear 68 = .ok (.iaload, 1) := by decide +kernel
theorem dX11_tear_69 : decode cX11_tear 69 = .ok (.ifCond .ne 9, 3) := by decide +kernel
theorem dX11_tear_72 : decode cX11_tear 72 = .ok (.iload_n 3, 1) := by decide +kernel
theorem dX11_tear_73 : decode cX11_tear 73 = .ok (.iload_n 2, 1) := by decide +kernel
theorem dX11_tear_74 : decode cX11_tear 74 = .ok (.isub, 1) := by decide +kernel
theorem dX11_tear_75 : decode cX11_tear 75 = .ok (.iconst 1, 1) := by decide +kernel
theorem dX11_tear_76 : decode cX11_tear 76 = .ok (.iadd, 1) := by decide +kernel
theorem dX11_tear_77 : decode cX11_tear 77 = .ok (.ireturn, 1) := by decide +kernel
theorem dX11_tear_78 : decode cX11_tear 78 = .ok (.aload_n 0, 1) := by decide +kernel
theorem dX11_tear_79 : decode cX11_tear 79 = .ok (.getfield 49, 3) := by decide +kernel
theorem dX11_tear_82 : decode cX11_tear 82 = .ok (.iconst 0, 1) := by decide +kernel
theorem dX11_tear_83 : decode cX11_tear 83 = .ok (.iaload, 1) := by decide +kernel
theorem dX11_tear_84 : decode cX11_tear 84 = .ok (.iconst 2, 1) := by decide +kernel
theorem dX11_tear_85 : decode cX11_tear 85 = .ok (.if_icmp .ne 14, 3) := by decide +kernel
theorem dX11_tear_88 : decode cX11_tear 88 = .ok (.aload_n 0, 1) := by decide +kernel
theorem dX11_tear_89 : decode cX11_tear 89 = .ok (.iconst 1, 1) := by decide +kernel
theorem dX11_tear_90 : decode cX11_tear 90 = .ok (.iload_n 1, 1) := by decide +kernel
theorem dX11_tear_91 : decode cX11_tear 91 = .ok (.isub, 1) := by decide +kernel
theorem dX11_tear_92 : decode cX11_tear 92 = .ok (.iload_n 2, 1) := by decide +kernel
theorem dX11_tear_93 : decode cX11_tear 93 = .ok (.iconst 1, 1) := by decide +kernel
theorem dX11_tear_94 : decode cX11_tear 94 = .ok (.isub, 1) := by decide +kernel
theorem dX11_tear_95 : decode cX11_tear 95 = .ok (.invokevirtual 416, 3) := by decide +kernel
theorem dX11_tear_98 : decode cX11_tear 98 = .ok (.ireturn, 1) := by decide +kernel
theorem dX11_tear_99 : decode cX11_tear 99 = .ok (.aload_n 0, 1) := by decide +kernel
theorem dX11_tear_100 : decode cX11_tear 100 = .ok (.iconst 1, 1) := by decide +kernel
theorem dX11_tear_101 : decode cX11_tear 101 = .ok (.iload_n 1, 1) := by decide +kernel
theorem dX11_tear_102 : decode cX11_tear 102 = .ok (.isub, 1) := by decide +kernel
theorem dX11_tear_103 : decode cX11_tear 103 = .ok (.invokevirtual 419, 3) := by decide +kernel
theorem dX11_tear_106 : decode cX11_tear 106 = .ok (.iconst 1, 1) := by decide +kernel
theorem dX11_tear_107 : decode cX11_tear 107 = .ok (.istore 4, 2) := by decide +kernel
theorem dX11_tear_109 : decode cX11_tear 109 = .ok (.iload 4, 2) := by decide +kernel
theorem dX11_tear_111 : decode cX11_tear 111 = .ok (.bipush 97, 2) := by decide +kernel
theorem dX11_tear_113 : decode cX11_tear 113 = .ok (.if_icmp .ge 36, 3) := by decide +kernel
theorem dX11_tear_116 : decode cX11_tear 116 = .ok (.aload_n 0, 1) := by decide +kernel
theorem dX11_tear_117 : decode cX11_tear 117 = .ok (.getfield 86, 3) := by decide +kernel
theorem dX11_tear_120 : decode cX11_tear 120 = .ok (.iload 4, 2) := by decide +kernel
theorem dX11_tear_122 : decode cX11_tear 122 = .ok (.iaload, 1) := by decide +kernel
theorem dX11_tear_123 : decode cX11_tear 123 = .ok (.iconst (-1), 1) := by decide +kernel
