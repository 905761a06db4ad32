theorem dX11_count_0 : decode cX11_count 0 = .ok (.aload_n 0, 1) := by decide +kernel
theorem dX11_count_1 : decode cX11_count 1 = .ok (.iconst 0, 1) := by decide +kernel
theorem dX11_count_2 : decode cX11_count 2 = .ok (.putfield 99, 3) := by decide +kernel
theorem dX11_count_5 : decode cX11_count 5 = .ok (.iconst 0, 1) := by decide +kernel
theorem dX11_count_6 : decode cX11_count 6 = .ok (.istore_n 2, 1) := by decide +kernel
theorem dX11_count_7 : decode cX11_count 7 = .ok (.iload_n 1, 1) := by decide +kernel
theorem dX11_count_8 : decode cX11_count 8 = .ok (.tableswitch 181 0 12 #[68, 75, 82, 89, 96, 103, 110, 117, 124, 129, 136, 143, 148], 68) := by decide +kernel
theorem dX11_count_76 : decode cX11_count 76 = .ok (.aload_n 0, 1) := by decide +kernel
theorem dX11_count_77 : decode cX11_count 77 = .ok (.getfield 34, 3) := by decide +kernel
theorem dX11_count_80 : decode cX11_count 80 = .ok (.iconst 0, 1) := by decide +kernel
theorem dX11_count_81 : decode cX11_count 81 = .ok (.iaload, 1) := by decide +kernel
theorem dX11_count_82 : decode cX11_count 82 = .ok (.ireturn, 1) := by decide +kernel
theorem dX11_count_83 : decode cX11_count 83 = .ok (.aload_n 0, 1) := by decide +kernel
theorem dX11_count_84 : decode cX11_count 84 = .ok (.getfield 34, 3) := by decide +kernel
theorem dX11_count_87 : decode cX11_count 87 = .ok (.iconst 1, 1) := by decide +kernel
theorem dX11_count_88 : decode cX11_count 88 = .ok (.iaload, 1) := by decide +kernel
theorem dX11_count_89 : decode cX11_count 89 = .ok (.ireturn, 1) := by decide +kernel
theorem dX11_count_90 : decode cX11_count 90 = .ok (.aload_n 0, 1) := by decide +kernel
theorem dX11_count_91 : decode cX11_count 91 = .ok (.getfield 34, 3) := by decide +kernel
theorem dX11_count_94 : decode cX11_count 94 = .ok (.iconst 2, 1) := by decide +kernel
theorem dX11_count_95 : decode cX11_count 95 = .ok (.iaload, 1) := by decide +kernel
theorem dX11_count_96 : decode cX11_count 96 = .ok (.ireturn, 1) := by decide +kernel
theorem dX11_count_97 : decode cX11_count 97 = .ok (.aload_n 0, 1) := by decide +kernel
theorem dX11_count_98 : decode cX11_count 98 = .ok (.getfield 37, 3) := by decide +kernel
theorem dX11_count_101 : decode cX11_count 101 = .ok (.iconst 0, 1) := by decide +kernel
theorem dX11_count_102 : decode cX11_count 102 = .ok (.iaload, 1) := by decide +kernel
theorem dX11_count_103 : decode cX11_count 103 = .ok (.ireturn, 1) := by decide +kernel
theorem dX11_count_104 : decode cX11_count 104 = .ok (.aload_n 0, 1) := by decide +kernel
theorem dX11_count_105 : decode cX11_count 105 = .ok (.getfield 43, 3) := by decide +kernel
theorem dX11_count_108 : decode cX11_count 108 = .ok (.iconst 0, 1) := by decide +kernel
theorem dX11_count_109 : decode cX11_count 109 = .ok (.iaload, 1) := by decide +kernel
theorem dX11_count_110 : decode cX11_count 110 = .ok (.ireturn, 1) := by decide +kernel
theorem dX11_count_111 : decode cX11_count 111 = .ok (.aload_n 0, 1) := by decide +kernel
theorem dX11_count_112 : decode cX11_count 112 = .ok (.getfield 71, 3) := by decide +kernel
theorem dX11_count_115 : decode cX11_count 115 = .ok (.iconst 0, 1) := by decide +kernel
theorem dX11_count_116 : decode cX11_count 116 = .ok (.iaload, 1) := by decide +kernel
theorem dX11_count_117 : decode cX11_count 117 = .ok (.ireturn, 1) := by decide +kernel
theorem dX11_count_118 : decode cX11_count 118 = .ok (.aload_n 0, 1) := by decide +kernel
theorem dX11_count_119 : decode cX11_count 119 = .ok (.getfield 71, 3) := by decide +kernel
theorem dX11_count_122 : decode cX11_count 122 = .ok (.iconst 1, 1) := by decide +kernel
theorem dX11_count_123 : decode cX11_count 123 = .ok (.iaload, 1) := by decide +kernel
theorem dX11_count_124 : decode cX11_count 124 = .ok (.ireturn, 1) := by decide +kernel
theorem dX11_count_125 : decode cX11_count 125 = .ok (.aload_n 0, 1) := by decide +kernel
theorem dX11_count_126 : decode cX11_count 126 = .ok (.getfield 31, 3) := by decide +kernel
theorem dX11_count_129 : decode cX11_count 129 = .ok (.iconst 0, 1) := by decide +kernel
theorem dX11_count_130 : decode cX11_count 130 = .ok (.iaload, 1) := by decide +kernel
theorem dX11_count_131 : decode cX11_count 131 = .ok (.ireturn, 1) := by decide +kernel
theorem dX11_count_132 : decode cX11_count 132 = .ok (.aload_n 0, 1) := by decide +kernel
theorem dX11_count_133 : decode cX11_count 133 = .ok (.getfield 116, 3) := by decide +kernel
theorem dX11_count_136 : decode cX11_count 136 = .ok (.ireturn, 1) := by decide +kernel
theorem dX11_count_137 : decode cX11_count 137 = .ok (.aload_n 0, 1) := by decide +kernel
theorem dX11_count_138 : decode cX11_count 138 = .ok (.getfield 49, 3) := by decide +kernel
theorem dX11_count_141 : decode cX11_count 141 = .ok (.iconst 0, 1) := by decide +kernel
theorem dX11_count_142 : decode cX11_count 142 = .ok (.iaload, 1) := by decide +kernel
theorem dX11_count_143 : decode cX11_count 143 = .ok (.ireturn, 1) := by decide +kernel
theorem dX11_count_144 : decode cX11_count 144 = .ok (.aload_n 0, 1) := by decide +kernel
theorem dX11_count_145 : decode cX11_count 145 = .ok (.getfield 49, 3) := by decide +kernel
theorem dX11_count_148 : decode cX11_count 148 = .ok (.iconst 1, 1) := by decide +kernel
theorem dX11_count_149 : decode cX11_count 149 = .ok (.iaload, 1) := by decide +kernel
theorem dX11_count_150 : decode cX11_count 150 = .ok (.ireturn, 1) := by decide +kernel
theorem dX11_count_151 : decode cX11_count 151 = .ok (.aload_n 0, 1) := by decide +kernel
theorem dX11_count_152 : decode cX11_count 152 = .ok (.invokevirtual 484, 3) := by decide +kernel
theorem dX11_count_155 : decode cX11_count 155 = .ok (.ireturn, 1) := by decide +kernel
theorem dX11_count_156 : decode cX11_count 156 = .ok (.iconst 0, 1) := by decide +kernel
theorem dX11_count_157 : decode cX11_count 157 = .ok (.istore_n 3, 1) := by decide +kernel
theorem dX11_count_158 : decode cX11_count 158 = .ok (.iload_n 3, 1) := by decide +kernel
theorem dX11_count_159 : decode cX11_count 159 = .ok (.iconst 4, 1) := by decide +kernel
theorem dX11_count_160 : decode cX11_count 160 = .ok (.if_icmp .ge 27, 3) := by decide +kernel
theorem dX11_count_163 : decode cX11_count 163 = .ok (.iload_n 2, 1) := by decide +kernel
theorem dX11_count_164 : decode cX11_count 164 = .ok (.aload_n 0, 1) := by decide +kernel
theorem dX11_count_165 : decode cX11_count 165 = .ok (.getfield 7, 3) := by decide +kernel
theorem dX11_count_168 : decode cX11_count 168 = .ok (.iload_n 3, 1) := by decide +kernel
theorem dX11_count_169 : decode cX11_count 169 = .ok (.iaload, 1) := by decide +kernel
theorem dX11_count_170 : decode cX11_count 170 = .ok (.iconst (-1), 1) := by decide +kernel
theorem dX11_count_171 : decode cX11_count 171 = .ok (.if_icmp .ne 7, 3) := by decide +kernel
theorem dX11_count_174 : decode cX11_count 174 = .ok (.iconst 0, 1) := by decide +kernel
theorem dX11_count_175 : decode cX11_count 175 = .ok (.goto 4, 3) := by decide +kernel
theorem dX11_count_178 : decode cX11_count 178 = .ok (.iconst 1, 1) := by decide +kernel
theorem dX11_count_179 : decode cX11_count 179 = .ok (.iadd, 1) := by decide +kernel
theorem dX11_count_180 : decode cX11_count 180 = .ok (.istore_n 2, 1) := by decide +kernel
theorem dX11_count_181 : decode cX11_count 181 = .ok (.iinc 3 1, 3) := by decide +kernel
theorem dX11_count_184 : decode cX11_count 184 = .ok (.goto (-26), 3) := by decide +kernel
theorem dX11_count_187 : decode cX11_count 187 = .ok (.iload_n 2, 1) := by decide +kernel
theorem dX11_count_188 : decode cX11_count 188 = .ok (.ireturn, 1) := by decide +kernel
theorem dX11_count_189 : decode cX11_count 189 = .ok (.iconst (-1), 1) := by decide +kernel
theorem dX11_count_190 : decode cX11_count 190 = .ok (.ireturn, 1) := by decide +kernel
theorem dX11_course_0 : decode cX11_course 0 = .ok (.aload_n 0, 1) := by decide +kernel
theorem dX11_course_1 : decode cX11_course 1 = .ok (.iconst 0, 1) := by decide +kernel
theorem dX11_course_2 : decode cX11_course 2 = .ok (.putfield 99, 3) := by decide +kernel
theorem dX11_course_5 : decode cX11_course 5 = .ok (.aload_n 0, 1) := by decide +kernel
theorem dX11_course_6 : decode cX11_course 6 = .ok (.invokevirtual 316, 3) := by decide +kernel
theorem dX11_course_9 : decode cX11_course 9 = .ok (.ifCond .eq 22, 3) := by decide +kernel
theorem dX11_course_12 : decode cX11_course 12 = .ok (.iload_n 1, 1) := by decide +kernel
theorem dX11_course_13 : decode cX11_course 13 = .ok (.invokestatic 283, 3) := by decide +kernel
theorem dX11_course_16 : decode cX11_course 16 = .ok (.ifCond .eq 15, 3) := by decide +kernel
theorem dX11_course_19 : decode cX11_course 19 = .ok (.iload_n 2, 1) := by decide +kernel
theorem dX11_course_20 : decode cX11_course 20 = .ok (.i2l, 1) := by decide +kernel
theorem dX11_course_21 : decode cX11_course 21 = .ok (.lconst 1, 1) := by decide +kernel
theorem dX11_course_22 : decode cX11_course 22 = .ok (.ldc2_w 437, 3) := by decide +kernel
theorem dX11_course_25 : decode cX11_course 25 = .ok (.invokestatic 104, 3) := by decide +kernel
theorem dX11_course_28 : decode cX11_course 28 = .ok (.ifCond .ne 6, 3) := by decide +kernel
theorem dX11_course_31 : decode cX11_course 31 = .ok (.bipush (-2), 2) := by decide +kernel
theorem dX11_course_33 : decode cX11_course 33 = .ok (.ireturn, 1) := by decide +kernel
theorem dX11_course_34 : decode cX11_course 34 = .ok (.iconst 0, 1) := by decide +kernel
theorem dX11_course_35 : decode cX11_course 35 = .ok (.istore_n 3, 1) := by decide +kernel
theorem dX11_course_36 : decode cX11_course 36 = .ok (.iconst 0, 1) := by decide +kernel
theorem dX11_course_37 : decode cX11_course 37 = .ok (.istore 4, 2) := by decide +kernel
theorem dX11_course_39 : decode cX11_course 39 = .ok (.iload 4, 2) := by decide +kernel
theorem dX11_course_41 : decode cX11_course 41 = .ok (.aload_n 0, 1) := by decide +kernel
theorem dX11_course_42 : decode cX11_course 42 = .ok (.getfield 34, 3) := by decide +kernel
theorem dX11_course_45 : decode cX11_course 45 = .ok (.iconst 0, 1) := by decide +kernel
theorem dX11_course_46 : decode cX11_course 46 = .ok (.iaload, 1) := by decide +kernel
theorem dX11_course_47 : decode cX11_course 47 = .ok (.if_icmp .ge 33, 3) := by decide +kernel
theorem dX11_course_50 : decode cX11_course 50 = .ok (.iload_n 3, 1) := by decide +kernel
theorem dX11_course_51 : decode cX11_course 51 = .ok (.aload_n 0, 1) := by decide +kernel
theorem dX11_course_52 : decode cX11_course 52 = .ok (.getfield 56, 3) := by decide +kernel
theorem dX11_course_55 : decode cX11_course 55 = .ok (.iconst 0, 1) := by decide +kernel
theorem dX11_course_56 : decode cX11_course 56 = .ok (.iload_n 1, 1) := by decide +kernel
theorem dX11_course_57 : decode cX11_course 57 = .ok (.iload 4, 2) := by decide +kernel
theorem dX11_course_59 : decode cX11_course 59 = .ok (.invokestatic 280, 3) := by decide +kernel
theorem dX11_course_62 : decode cX11_course 62 = .ok (.iaload, 1) := by decide +kernel
theorem dX11_course_63 : decode cX11_course 63 = .ok (.iload_n 2, 1) := by decide +kernel
theorem dX11_course_64 : decode cX11_course 64 = .ok (.if_icmp .lt 7, 3) := by decide +kernel
theorem dX11_course_67 : decode cX11_course 67 = .ok (.iconst 1, 1) := by decide +kernel
theorem dX11_course_68 : decode cX11_course 68 = .ok (.goto 4, 3) := by decide +kernel
theorem dX11_course_71 : decode cX11_course 71 = .ok (.iconst 0, 1) := by decide +kernel
theorem dX11_course_72 : decode cX11_course 72 = .ok (.iadd, 1) := by decide +kernel
theorem dX11_course_73 : decode cX11_course 73 = .ok (.istore_n 3, 1) := by decide +kernel
theorem dX11_course_74 : decode cX11_course 74 = .ok (.iinc 4 1, 3) := by decide +kernel
theorem dX11_course_77 : decode cX11_course 77 = .ok (.goto (-38), 3) := by decide +kernel
theorem dX11_course_80 : decode cX11_course 80 = .ok (.iload_n 3, 1) := by decide +kernel
theorem dX11_course_81 : decode cX11_course 81 = .ok (.ireturn, 1) := by decide +kernel
theorem dX11_draw_0 : decode cX11_draw 0 = .ok (.aload_n 0, 1) := by decide +kernel
theorem dX11_draw_1 : decode cX11_draw 1 = .ok (.ldc2_w 444, 3) := by decide +kernel
theorem dX11_draw_4 : decode cX11_draw 4 = .ok (.aload_n 0, 1) := by decide +kernel
theorem dX11_draw_5 : decode cX11_draw 5 = .ok (.getfield 446, 3) := by decide +kernel
theorem dX11_draw_8 : decode cX11_draw 8 = .ok (.lmul, 1) := by decide +kernel
theorem dX11_draw_9 : decode cX11_draw 9 = .ok (.ldc2_w 449, 3) := by decide +kernel
theorem dX11_draw_12 : decode cX11_draw 12 = .ok (.ladd, 1) := by decide +kernel
theorem dX11_draw_13 : decode cX11_draw 13 = .ok (.ldc2_w 451, 3) := by decide +kernel
theorem dX11_draw_16 : decode cX11_draw 16 = .ok (.lrem, 1) := by decide +kernel
theorem dX11_draw_17 : decode cX11_draw 17 = .ok (.putfield 446, 3) := by decide +kernel
theorem dX11_draw_20 : decode cX11_draw 20 = .ok (.aload_n 0, 1) := by decide +kernel
theorem dX11_draw_21 : decode cX11_draw 21 = .ok (.getfield 446, 3) := by decide +kernel
theorem dX11_draw_24 : decode cX11_draw 24 = .ok (.ldc2_w 453, 3) := by decide +kernel
theorem dX11_draw_27 : decode cX11_draw 27 = .ok (.ldiv, 1) := by decide +kernel
theorem dX11_draw_28 : decode cX11_draw 28 = .ok (.ldc2_w 427, 3) := by decide +kernel
theorem dX11_draw_31 : decode cX11_draw 31 = .ok (.lrem, 1) := by decide +kernel
theorem dX11_draw_32 : decode cX11_draw 32 = .ok (.l2i, 1) := by decide +kernel
theorem dX11_draw_33 : decode cX11_draw 33 = .ok (.ireturn, 1) := by decide +kernel
theorem dX11_goesOn_0 : decode cX11_goesOn 0 = .ok (.iconst 0, 1) := by decide +kernel
theorem dX11_goesOn_1 : decode cX11_goesOn 1 = .ok (.istore_n 3, 1) := by decide +kernel
theorem dX11_goesOn_2 : decode cX11_goesOn 2 = .ok (.iconst 0, 1) := by decide +kernel
theorem dX11_goesOn_3 : decode cX11_goesOn 3 = .ok (.istore 4, 2) := by decide +kernel
theorem dX11_goesOn_5 : decode cX11_goesOn 5 = .ok (.iload 4, 2) := by decide +kernel
theorem dX11_goesOn_7 : decode cX11_goesOn 7 = .ok (.iload_n 2, 1) := by decide +kernel
theorem dX11_goesOn_8 : decode cX11_goesOn 8 = .ok (.if_icmp .ge 35, 3) := by decide +kernel
theorem dX11_goesOn_11 : decode cX11_goesOn 11 = .ok (.aload_n 0, 1) := by decide +kernel
theorem dX11_goesOn_12 : decode cX11_goesOn 12 = .ok (.iload_n 1, 1) := by decide +kernel
theorem dX11_goesOn_13 : decode cX11_goesOn 13 = .ok (.invokevirtual 463, 3) := by decide +kernel
theorem dX11_goesOn_16 : decode cX11_goesOn 16 = .ok (.pop, 1) := by decide +kernel
theorem dX11_goesOn_17 : decode cX11_goesOn 17 = .ok (.iload_n 3, 1) := by decide +kernel
theorem dX11_goesOn_18 : decode cX11_goesOn 18 = .ok (.aload_n 0, 1) := by decide +kernel
theorem dX11_goesOn_19 : decode cX11_goesOn 19 = .ok (.iload_n 1, 1) := by decide +kernel
theorem dX11_goesOn_20 : decode cX11_goesOn 20 = .ok (.aload_n 0, 1) := by decide +kernel
theorem dX11_goesOn_21 : decode cX11_goesOn 21 = .ok (.invokevirtual 357, 3) := by decide +kernel
theorem dX11_goesOn_24 : decode cX11_goesOn 24 = .ok (.invokevirtual 364, 3) := by decide +kernel
theorem dX11_goesOn_27 : decode cX11_goesOn 27 = .ok (.ifCond .ne 7, 3) := by decide +kernel
theorem dX11_goesOn_30 : decode cX11_goesOn 30 = .ok (.iconst 1, 1) := by decide +kernel
theorem dX11_goesOn_31 : decode cX11_goesOn 31 = .ok (.goto 4, 3) := by decide +kernel
theorem dX11_goesOn_34 : decode cX11_goesOn 34 = .ok (.iconst 0, 1) := by decide +kernel
theorem dX11_goesOn_35 : decode cX11_goesOn 35 = .ok (.iadd, 1) := by decide +kernel
theorem dX11_goesOn_36 : decode cX11_goesOn 36 = .ok (.istore_n 3, 1) := by decide +kernel
theorem dX11_goesOn_37 : decode cX11_goesOn 37 = .ok (.iinc 4 1, 3) := by decide +kernel
theorem dX11_goesOn_40 : decode cX11_goesOn 40 = .ok (.goto (-35), 3) := by decide +kernel
theorem dX11_goesOn_43 : decode cX11_goesOn 43 = .ok (.iload_n 3, 1) := by decide +kernel
theorem dX11_goesOn_44 : decode cX11_goesOn 44 = .ok (.ireturn, 1) := by decide +kernel
theorem dX11_judge_0 : decode cX11_judge 0 = .ok (.aload_n 0, 1) := by decide +kernel
theorem dX11_judge_1 : decode cX11_judge 1 = .ok (.iconst 0, 1) := by decide +kernel
theorem dX11_judge_2 : decode cX11_judge 2 = .ok (.putfield 99, 3) := by decide +kernel
theorem dX11_judge_5 : decode cX11_judge 5 = .ok (.aload_n 0, 1) := by decide +kernel
theorem dX11_judge_6 : decode cX11_judge 6 = .ok (.iload_n 1, 1) := by decide +kernel
theorem dX11_judge_7 : decode cX11_judge 7 = .ok (.invokevirtual 478, 3) := by decide +kernel
theorem dX11_judge_10 : decode cX11_judge 10 = .ok (.istore_n 2, 1) := by decide +kernel
theorem dX11_judge_11 : decode cX11_judge 11 = .ok (.iload_n 2, 1) := by decide +kernel
theorem dX11_judge_12 : decode cX11_judge 12 = .ok (.ifCond .eq 7, 3) := by decide +kernel
theorem dX11_judge_15 : decode cX11_judge 15 = .ok (.iload_n 2, 1) := by decide +kernel
theorem dX11_judge_16 : decode cX11_judge 16 = .ok (.goto 8, 3) := by decide +kernel
theorem dX11_judge_19 : decode cX11_judge 19 = .ok (.aload_n 0, 1) := by decide +kernel
theorem dX11_judge_20 : decode cX11_judge 20 = .ok (.iload_n 1, 1) := by decide +kernel
theorem dX11_judge_21 : decode cX11_judge 21 = .ok (.invokevirtual 481, 3) := by decide +kernel
theorem dX11_judge_24 : decode cX11_judge 24 = .ok (.ireturn, 1) := by decide +kernel
theorem dX11_judged_0 : decode cX11_judged 0 = .ok (.aload_n 0, 1) := by decide +kernel
theorem dX11_judged_1 : decode cX11_judged 1 = .ok (.iconst 0, 1) := by decide +kernel
theorem dX11_judged_2 : decode cX11_judged 2 = .ok (.iconst 4, 1) := by decide +kernel
theorem dX11_judged_3 : decode cX11_judged 3 = .ok (.invokevirtual 327, 3) := by decide +kernel
theorem dX11_judged_6 : decode cX11_judged 6 = .ok (.iconst 0, 1) := by decide +kernel
theorem dX11_judged_7 : decode cX11_judged 7 = .ok (.istore_n 2, 1) := by decide +kernel
theorem dX11_judged_8 : decode cX11_judged 8 = .ok (.iload_n 2, 1) := by decide +kernel
theorem dX11_judged_9 : decode cX11_judged 9 = .ok (.aload_n 0, 1) := by decide +kernel
theorem dX11_judged_10 : decode cX11_judged 10 = .ok (.getfield 13, 3) := by decide +kernel
theorem dX11_judged_13 : decode cX11_judged 13 = .ok (.iload_n 1, 1) := by decide +kernel
theorem dX11_judged_14 : decode cX11_judged 14 = .ok (.iaload, 1) := by decide +kernel
theorem dX11_judged_15 : decode cX11_judged 15 = .ok (.if_icmp .ge 120, 3) := by decide +kernel
theorem dX11_judged_18 : decode cX11_judged 18 = .ok (.aload_n 0, 1) := by decide +kernel
theorem dX11_judged_19 : decode cX11_judged 19 = .ok (.getfield 16, 3) := by decide +kernel
theorem dX11_judged_22 : decode cX11_judged 22 = .ok (.bipush 60, 2) := by decide +kernel
theorem dX11_judged_24 : decode cX11_judged 24 = .ok (.iload_n 1, 1) := by decide +kernel
theorem dX11_judged_25 : decode cX11_judged 25 = .ok (.imul, 1) := by decide +kernel
theorem dX11_judged_26 : decode cX11_judged 26 = .ok (.iload_n 2, 1) := by decide +kernel
theorem dX11_judged_27 : decode cX11_judged 27 = .ok (.iadd, 1) := by decide +kernel
theorem dX11_judged_28 : decode cX11_judged 28 = .ok (.laload, 1) := by decide +kernel
theorem dX11_judged_29 : decode cX11_judged 29 = .ok (.lstore_n 3, 1) := by decide +kernel
theorem dX11_judged_30 : decode cX11_judged 30 = .ok (.lload_n 3, 1) := by decide +kernel
theorem dX11_judged_31 : decode cX11_judged 31 = .ok (.lconst 0, 1) := by decide +kernel
theorem dX11_judged_32 : decode cX11_judged 32 = .ok (.ldc2_w 476, 3) := by decide +kernel
theorem dX11_judged_35 : decode cX11_judged 35 = .ok (.invokestatic 104, 3) := by decide +kernel
theorem dX11_judged_38 : decode cX11_judged 38 = .ok (.ifCond .ne 5, 3) := by decide +kernel
theorem dX11_judged_41 : decode cX11_judged 41 = .ok (.iload_n 2, 1) := by decide +kernel
theorem dX11_judged_42 : decode cX11_judged 42 = .ok (.ireturn, 1) := by decide +kernel
theorem dX11_judged_43 : decode cX11_judged 43 = .ok (.lload_n 3, 1) := by decide +kernel
theorem dX11_judged_44 : decode cX11_judged 44 = .ok (.l2i, 1) := by decide +kernel
theorem dX11_judged_45 : decode cX11_judged 45 = .ok (.sipush 1000, 3) := by decide +kernel
theorem dX11_judged_48 : decode cX11_judged 48 = .ok (.idiv, 1) := by decide +kernel
theorem dX11_judged_49 : decode cX11_judged 49 = .ok (.istore 5, 2) := by decide +kernel
theorem dX11_judged_51 : decode cX11_judged 51 = .ok (.lload_n 3, 1) := by decide +kernel
theorem dX11_judged_52 : decode cX11_judged 52 = .ok (.l2i, 1) := by decide +kernel
theorem dX11_judged_53 : decode cX11_judged 53 = .ok (.bipush 10, 2) := by decide +kernel
theorem dX11_judged_55 : decode cX11_judged 55 = .ok (.idiv, 1) := by decide +kernel
theorem dX11_judged_56 : decode cX11_judged 56 = .ok (.bipush 100, 2) := by decide +kernel
theorem dX11_judged_58 : decode cX11_judged 58 = .ok (.irem, 1) := by decide +kernel
theorem dX11_judged_59 : decode cX11_judged 59 = .ok (.istore 6, 2) := by decide +kernel
theorem dX11_judged_61 : decode cX11_judged 61 = .ok (.lload_n 3, 1) := by decide +kernel
theorem dX11_judged_62 : decode cX11_judged 62 = .ok (.l2i, 1) := by decide +kernel
theorem dX11_judged_63 : decode cX11_judged 63 = .ok (.bipush 10, 2) := by decide +kernel
theorem dX11_judged_65 : decode cX11_judged 65 = .ok (.irem, 1) := by decide +kernel
theorem dX11_judged_66 : decode cX11_judged 66 = .ok (.istore 7, 2) := by decide +kernel
theorem dX11_judged_68 : decode cX11_judged 68 = .ok (.aload_n 0, 1) := by decide +kernel
theorem dX11_judged_69 : decode cX11_judged 69 = .ok (.iload 5, 2) := by decide +kernel
theorem dX11_judged_71 : decode cX11_judged 71 = .ok (.iload 6, 2) := by decide +kernel
theorem dX11_judged_73 : decode cX11_judged 73 = .ok (.invokevirtual 297, 3) := by decide +kernel
theorem dX11_judged_76 : decode cX11_judged 76 = .ok (.ifCond .eq 39, 3) := by decide +kernel
theorem dX11_judged_79 : decode cX11_judged 79 = .ok (.aload_n 0, 1) := by decide +kernel
theorem dX11_judged_80 : decode cX11_judged 80 = .ok (.iload 7, 2) := by decide +kernel
theorem dX11_judged_82 : decode cX11_judged 82 = .ok (.invokevirtual 301, 3) := by decide +kernel
theorem dX11_judged_85 : decode cX11_judged 85 = .ok (.ifCond .eq 30, 3) := by decide +kernel
theorem dX11_judged_88 : decode cX11_judged 88 = .ok (.aload_n 0, 1) := by decide +kernel
theorem dX11_judged_89 : decode cX11_judged 89 = .ok (.getfield 68, 3) := by decide +kernel
theorem dX11_judged_92 : decode cX11_judged 92 = .ok (.bipush 20, 2) := by decide +kernel
theorem dX11_judged_94 : decode cX11_judged 94 = .ok (.iload 7, 2) := by decide +kernel
theorem dX11_judged_96 : decode cX11_judged 96 = .ok (.iadd, 1) := by decide +kernel
theorem dX11_judged_97 : decode cX11_judged 97 = .ok (.iaload, 1) := by decide +kernel
theorem dX11_judged_98 : decode cX11_judged 98 = .ok (.ifCond .eq 17, 3) := by decide +kernel
theorem dX11_judged_101 : decode cX11_judged 101 = .ok (.aload_n 0, 1) := by decide +kernel
theorem dX11_judged_102 : decode cX11_judged 102 = .ok (.iconst 4, 1) := by decide +kernel
theorem dX11_judged_103 : decode cX11_judged 103 = .ok (.iload 5, 2) := by decide +kernel
theorem dX11_judged_105 : decode cX11_judged 105 = .ok (.iload 6, 2) := by decide +kernel
theorem dX11_judged_107 : decode cX11_judged 107 = .ok (.iload 7, 2) := by decide +kernel
theorem dX11_judged_109 : decode cX11_judged 109 = .ok (.invokevirtual 304, 3) := by decide +kernel
theorem dX11_judged_112 : decode cX11_judged 112 = .ok (.ifCond .ne 5, 3) := by decide +kernel
theorem dX11_judged_115 : decode cX11_judged 115 = .ok (.iload_n 2, 1) := by decide +kernel
theorem dX11_judged_116 : decode cX11_judged 116 = .ok (.ireturn, 1) := by decide +kernel
theorem dX11_judged_117 : decode cX11_judged 117 = .ok (.aload_n 0, 1) := by decide +kernel
theorem dX11_judged_118 : decode cX11_judged 118 = .ok (.iconst 4, 1) := by decide +kernel
theorem dX11_judged_119 : decode cX11_judged 119 = .ok (.iload 5, 2) := by decide +kernel
theorem dX11_judged_121 : decode cX11_judged 121 = .ok (.iload 6, 2) := by decide +kernel
theorem dX11_judged_123 : decode cX11_judged 123 = .ok (.iload 7, 2) := by decide +kernel
theorem dX11_judged_125 : decode cX11_judged 125 = .ok (.iconst (-1), 1) := by decide +kernel
theorem dX11_judged_126 : decode cX11_judged 126 = .ok (.invokevirtual 307, 3) := by decide +kernel
theorem dX11_judged_129 : decode cX11_judged 129 = .ok (.iinc 2 1, 3) := by decide +kernel
theorem dX11_judged_132 : decode cX11_judged 132 = .ok (.goto (-124), 3) := by decide +kernel
theorem dX11_judged_135 : decode cX11_judged 135 = .ok (.aload_n 0, 1) := by decide +kernel
theorem dX11_judged_136 : decode cX11_judged 136 = .ok (.getfield 13, 3) := by decide +kernel
theorem dX11_judged_139 : decode cX11_judged 139 = .ok (.iload_n 1, 1) := by decide +kernel
theorem dX11_judged_140 : decode cX11_judged 140 = .ok (.iaload, 1) := by decide +kernel
theorem dX11_judged_141 : decode cX11_judged 141 = .ok (.ireturn, 1) := by decide +kernel
theorem dX11_mayNow_0 : decode cX11_mayNow 0 = .ok (.iconst 0, 1) := by decide +kernel
theorem dX11_mayNow_1 : decode cX11_mayNow 1 = .ok (.istore_n 1, 1) := by decide +kernel
theorem dX11_mayNow_2 : decode cX11_mayNow 2 = .ok (.iconst 0, 1) := by decide +kernel
theorem dX11_mayNow_3 : decode cX11_mayNow 3 = .ok (.istore_n 2, 1) := by decide +kernel
theorem dX11_mayNow_4 : decode cX11_mayNow 4 = .ok (.iload_n 2, 1) := by decide +kernel
theorem dX11_mayNow_5 : decode cX11_mayNow 5 = .ok (.aload_n 0, 1) := by decide +kernel
theorem dX11_mayNow_6 : decode cX11_mayNow 6 = .ok (.getfield 43, 3) := by decide +kernel
theorem dX11_mayNow_9 : decode cX11_mayNow 9 = .ok (.iconst 0, 1) := by decide +kernel
theorem dX11_mayNow_10 : decode cX11_mayNow 10 = .ok (.iaload, 1) := by decide +kernel
theorem dX11_mayNow_11 : decode cX11_mayNow 11 = .ok (.if_icmp .ge 28, 3) := by decide +kernel
theorem dX11_mayNow_14 : decode cX11_mayNow 14 = .ok (.iload_n 1, 1) := by decide +kernel
theorem dX11_mayNow_15 : decode cX11_mayNow 15 = .ok (.aload_n 0, 1) := by decide +kernel
theorem dX11_mayNow_16 : decode cX11_mayNow 16 = .ok (.iconst 0, 1) := by decide +kernel
theorem dX11_mayNow_17 : decode cX11_mayNow 17 = .ok (.iload_n 2, 1) := by decide +kernel
theorem dX11_mayNow_18 : decode cX11_mayNow 18 = .ok (.invokevirtual 351, 3) := by decide +kernel
theorem dX11_mayNow_21 : decode cX11_mayNow 21 = .ok (.ifCond .eq 9, 3) := by decide +kernel
theorem dX11_mayNow_24 : decode cX11_mayNow 24 = .ok (.iconst 1, 1) := by decide +kernel
theorem dX11_mayNow_25 : decode cX11_mayNow 25 = .ok (.iload_n 2, 1) := by decide +kernel
theorem dX11_mayNow_26 : decode cX11_mayNow 26 = .ok (.ishl, 1) := by decide +kernel
theorem dX11_mayNow_27 : decode cX11_mayNow 27 = .ok (.goto 4, 3) := by decide +kernel
theorem dX11_mayNow_30 : decode cX11_mayNow 30 = .ok (.iconst 0, 1) := by decide +kernel
theorem dX11_mayNow_31 : decode cX11_mayNow 31 = .ok (.ior, 1) := by decide +kernel
theorem dX11_mayNow_32 : decode cX11_mayNow 32 = .ok (.istore_n 1, 1) := by decide +kernel
theorem dX11_mayNow_33 : decode cX11_mayNow 33 = .ok (.iinc 2 1, 3) := by decide +kernel
theorem dX11_mayNow_36 : decode cX11_mayNow 36 = .ok (.goto (-32), 3) := by decide +kernel
theorem dX11_mayNow_39 : decode cX11_mayNow 39 = .ok (.iload_n 1, 1) := by decide +kernel
theorem dX11_mayNow_40 : decode cX11_mayNow 40 = .ok (.ireturn, 1) := by decide +kernel
theorem dX11_oldest_0 : decode cX11_oldest 0 = .ok (.aload_n 0, 1) := by decide +kernel
theorem dX11_oldest_1 : decode cX11_oldest 1 = .ok (.iconst 0, 1) := by decide +kernel
theorem dX11_oldest_2 : decode cX11_oldest 2 = .ok (.putfield 99, 3) := by decide +kernel
theorem dX11_oldest_5 : decode cX11_oldest 5 = .ok (.aload_n 0, 1) := by decide +kernel
theorem dX11_oldest_6 : decode cX11_oldest 6 = .ok (.invokevirtual 316, 3) := by decide +kernel
theorem dX11_oldest_9 : decode cX11_oldest 9 = .ok (.ifCond .eq 10, 3) := by decide +kernel
theorem dX11_oldest_12 : decode cX11_oldest 12 = .ok (.iload_n 1, 1) := by decide +kernel
theorem dX11_oldest_13 : decode cX11_oldest 13 = .ok (.invokestatic 283, 3) := by decide +kernel
theorem dX11_oldest_16 : decode cX11_oldest 16 = .ok (.ifCond .ne 6, 3) := by decide +kernel
theorem dX11_oldest_19 : decode cX11_oldest 19 = .ok (.bipush (-2), 2) := by decide +kernel
theorem dX11_oldest_21 : decode cX11_oldest 21 = .ok (.ireturn, 1) := by decide +kernel
theorem dX11_oldest_22 : decode cX11_oldest 22 = .ok (.iconst (-1), 1) := by decide +kernel
theorem dX11_oldest_23 : decode cX11_oldest 23 = .ok (.istore_n 2, 1) := by decide +kernel
theorem dX11_oldest_24 : decode cX11_oldest 24 = .ok (.iconst 0, 1) := by decide +kernel
theorem dX11_oldest_25 : decode cX11_oldest 25 = .ok (.istore_n 3, 1) := by decide +kernel
theorem dX11_oldest_26 : decode cX11_oldest 26 = .ok (.iload_n 3, 1) := by decide +kernel
theorem dX11_oldest_27 : decode cX11_oldest 27 = .ok (.aload_n 0, 1) := by decide +kernel
theorem dX11_oldest_28 : decode cX11_oldest 28 = .ok (.getfield 34, 3) := by decide +kernel
theorem dX11_oldest_31 : decode cX11_oldest 31 = .ok (.iconst 0, 1) := by decide +kernel
theorem dX11_oldest_32 : decode cX11_oldest 32 = .ok (.iaload, 1) := by decide +kernel
theorem dX11_oldest_33 : decode cX11_oldest 33 = .ok (.if_icmp .ge 79, 3) := by decide +kernel
theorem dX11_oldest_36 : decode cX11_oldest 36 = .ok (.iconst 0, 1) := by decide +kernel
theorem dX11_oldest_37 : decode cX11_oldest 37 = .ok (.istore 4, 2) := by decide +kernel
theorem dX11_oldest_39 : decode cX11_oldest 39 = .ok (.iload 4, 2) := by decide +kernel
theorem dX11_oldest_41 : decode cX11_oldest 41 = .ok (.aload_n 0, 1) := by decide +kernel
theorem dX11_oldest_42 : decode cX11_oldest 42 = .ok (.getfield 56, 3) := by decide +kernel
theorem dX11_oldest_45 : decode cX11_oldest 45 = .ok (.iconst 0, 1) := by decide +kernel
theorem dX11_oldest_46 : decode cX11_oldest 46 = .ok (.iload_n 1, 1) := by decide +kernel
theorem dX11_oldest_47 : decode cX11_oldest 47 = .ok (.iload_n 3, 1) := by decide +kernel
theorem dX11_oldest_48 : decode cX11_oldest 48 = .ok (.invokestatic 280, 3) := by decide +kernel
theorem dX11_oldest_51 : decode cX11_oldest 51 = .ok (.iaload, 1) := by decide +kernel
theorem dX11_oldest_52 : decode cX11_oldest 52 = .ok (.if_icmp .ge 54, 3) := by decide +kernel
theorem dX11_oldest_55 : decode cX11_oldest 55 = .ok (.iconst 0, 1) := by decide +kernel
theorem dX11_oldest_56 : decode cX11_oldest 56 = .ok (.iload_n 1, 1) := by decide +kernel
theorem dX11_oldest_57 : decode cX11_oldest 57 = .ok (.iload_n 3, 1) := by decide +kernel
theorem dX11_oldest_58 : decode cX11_oldest 58 = .ok (.iload 4, 2) := by decide +kernel
theorem dX11_oldest_60 : decode cX11_oldest 60 = .ok (.invokestatic 286, 3) := by decide +kernel
theorem dX11_oldest_63 : decode cX11_oldest 63 = .ok (.istore 5, 2) := by decide +kernel
theorem dX11_oldest_65 : decode cX11_oldest 65 = .ok (.aload_n 0, 1) := by decide +kernel
theorem dX11_oldest_66 : decode cX11_oldest 66 = .ok (.getfield 62, 3) := by decide +kernel
theorem dX11_oldest_69 : decode cX11_oldest 69 = .ok (.iload 5, 2) := by decide +kernel
theorem dX11_oldest_71 : decode cX11_oldest 71 = .ok (.iaload, 1) := by decide +kernel
theorem dX11_oldest_72 : decode cX11_oldest 72 = .ok (.iconst (-1), 1) := by decide +kernel
theorem dX11_oldest_73 : decode cX11_oldest 73 = .ok (.if_icmp .eq 27, 3) := by decide +kernel
theorem dX11_oldest_76 : decode cX11_oldest 76 = .ok (.iload_n 2, 1) := by decide +kernel
theorem dX11_oldest_77 : decode cX11_oldest 77 = .ok (.iconst (-1), 1) := by decide +kernel
theorem dX11_oldest_78 : decode cX11_oldest 78 = .ok (.if_icmp .eq 14, 3) := by decide +kernel
theorem dX11_oldest_81 : decode cX11_oldest 81 = .ok (.aload_n 0, 1) := by decide +kernel
theorem dX11_oldest_82 : decode cX11_oldest 82 = .ok (.getfield 65, 3) := by decide +kernel
theorem dX11_oldest_85 : decode cX11_oldest 85 = .ok (.iload 5, 2) := by decide +kernel
theorem dX11_oldest_87 : decode cX11_oldest 87 = .ok (.iaload, 1) := by decide +kernel
theorem dX11_oldest_88 : decode cX11_oldest 88 = .ok (.iload_n 2, 1) := by decide +kernel
theorem dX11_oldest_89 : decode cX11_oldest 89 = .ok (.if_icmp .ge 11, 3) := by decide +kernel
theorem dX11_oldest_92 : decode cX11_oldest 92 = .ok (.aload_n 0, 1) := by decide +kernel
theorem dX11_oldest_93 : decode cX11_oldest 93 = .ok (.getfield 65, 3) := by decide +kernel
theorem dX11_oldest_96 : decode cX11_oldest 96 = .ok (.iload 5, 2) := by decide +kernel
theorem dX11_oldest_98 : decode cX11_oldest 98 = .ok (.iaload, 1) := by decide +kernel
theorem dX11_oldest_99 : decode cX11_oldest 99 = .ok (.istore_n 2, 1) := by decide +kernel
theorem dX11_oldest_100 : decode cX11_oldest 100 = .ok (.iinc 4 1, 3) := by decide +kernel
theorem dX11_oldest_103 : decode cX11_oldest 103 = .ok (.goto (-64), 3) := by decide +kernel
theorem dX11_oldest_106 : decode cX11_oldest 106 = .ok (.iinc 3 1, 3) := by decide +kernel
theorem dX11_oldest_109 : decode cX11_oldest 109 = .ok (.goto (-83), 3) := by decide +kernel
theorem dX11_oldest_112 : decode cX11_oldest 112 = .ok (.iload_n 2, 1) := by decide +kernel
theorem dX11_oldest_113 : decode cX11_oldest 113 = .ok (.ireturn, 1) := by decide +kernel
theorem dX11_power_0 : decode cX11_power 0 = .ok (.aload_n 0, 1) := by decide +kernel
theorem dX11_power_1 : decode cX11_power 1 = .ok (.iconst 0, 1) := by decide +kernel
theorem dX11_power_2 : decode cX11_power 2 = .ok (.putfield 99, 3) := by decide +kernel
theorem dX11_power_5 : decode cX11_power 5 = .ok (.aload_n 0, 1) := by decide +kernel
theorem dX11_power_6 : decode cX11_power 6 = .ok (.iload_n 1, 1) := by decide +kernel
theorem dX11_power_7 : decode cX11_power 7 = .ok (.invokevirtual 343, 3) := by decide +kernel
theorem dX11_power_10 : decode cX11_power 10 = .ok (.ifCond .ne 6, 3) := by decide +kernel
theorem dX11_power_13 : decode cX11_power 13 = .ok (.bipush (-2), 2) := by decide +kernel
theorem dX11_power_15 : decode cX11_power 15 = .ok (.ireturn, 1) := by decide +kernel
theorem dX11_power_16 : decode cX11_power 16 = .ok (.aload_n 0, 1) := by decide +kernel
theorem dX11_power_17 : decode cX11_power 17 = .ok (.getfield 71, 3) := by decide +kernel
theorem dX11_power_20 : decode cX11_power 20 = .ok (.iconst 0, 1) := by decide +kernel
theorem dX11_power_21 : decode cX11_power 21 = .ok (.iaload, 1) := by decide +kernel
theorem dX11_power_22 : decode cX11_power 22 = .ok (.bipush 100, 2) := by decide +kernel
theorem dX11_power_24 : decode cX11_power 24 = .ok (.if_icmp .ne 6, 3) := by decide +kernel
theorem dX11_power_27 : decode cX11_power 27 = .ok (.bipush (-3), 2) := by decide +kernel
theorem dX11_power_29 : decode cX11_power 29 = .ok (.ireturn, 1) := by decide +kernel
theorem dX11_power_30 : decode cX11_power 30 = .ok (.iconst 0, 1) := by decide +kernel
theorem dX11_power_31 : decode cX11_power 31 = .ok (.istore_n 2, 1) := by decide +kernel
theorem dX11_power_32 : decode cX11_power 32 = .ok (.iconst 0, 1) := by decide +kernel
theorem dX11_power_33 : decode cX11_power 33 = .ok (.istore_n 3, 1) := by decide +kernel
theorem dX11_power_34 : decode cX11_power 34 = .ok (.iload_n 3, 1) := by decide +kernel
theorem dX11_power_35 : decode cX11_power 35 = .ok (.aload_n 0, 1) := by decide +kernel
theorem dX11_power_36 : decode cX11_power 36 = .ok (.invokevirtual 357, 3) := by decide +kernel
theorem dX11_power_39 : decode cX11_power 39 = .ok (.if_icmp .gt 42, 3) := by decide +kernel
theorem dX11_power_42 : decode cX11_power 42 = .ok (.iload_n 2, 1) := by decide +kernel
theorem dX11_power_43 : decode cX11_power 43 = .ok (.iload_n 3, 1) := by decide +kernel
theorem dX11_power_44 : decode cX11_power 44 = .ok (.iload_n 1, 1) := by decide +kernel
theorem dX11_power_45 : decode cX11_power 45 = .ok (.ishr, 1) := by decide +kernel
theorem dX11_power_46 : decode cX11_power 46 = .ok (.iconst 1, 1) := by decide +kernel
theorem dX11_power_47 : decode cX11_power 47 = .ok (.iand, 1) := by decide +kernel
theorem dX11_power_48 : decode cX11_power 48 = .ok (.ifCond .ne 24, 3) := by decide +kernel
theorem dX11_power_51 : decode cX11_power 51 = .ok (.aload_n 0, 1) := by decide +kernel
