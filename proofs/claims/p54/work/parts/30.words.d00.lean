theorem dX10_count_0 : decode cX10_count 0 = .ok (.iload_n 1, 1) := by decide +kernel
theorem dX10_count_1 : decode cX10_count 1 = .ok (.tableswitch 189 0 12 #[67, 78, 89, 100, 111, 122, 130, 138, 149, 157, 165, 176, 184], 67) := by decide +kernel
theorem dX10_count_68 : decode cX10_count 68 = .ok (.aload_n 0, 1) := by decide +kernel
theorem dX10_count_69 : decode cX10_count 69 = .ok (.getfield 27, 3) := by decide +kernel
theorem dX10_count_72 : decode cX10_count 72 = .ok (.getfield 99, 3) := by decide +kernel
theorem dX10_count_75 : decode cX10_count 75 = .ok (.getfield 182, 3) := by decide +kernel
theorem dX10_count_78 : decode cX10_count 78 = .ok (.ireturn, 1) := by decide +kernel
theorem dX10_count_79 : decode cX10_count 79 = .ok (.aload_n 0, 1) := by decide +kernel
theorem dX10_count_80 : decode cX10_count 80 = .ok (.getfield 27, 3) := by decide +kernel
theorem dX10_count_83 : decode cX10_count 83 = .ok (.getfield 99, 3) := by decide +kernel
theorem dX10_count_86 : decode cX10_count 86 = .ok (.getfield 308, 3) := by decide +kernel
theorem dX10_count_89 : decode cX10_count 89 = .ok (.ireturn, 1) := by decide +kernel
theorem dX10_count_90 : decode cX10_count 90 = .ok (.aload_n 0, 1) := by decide +kernel
theorem dX10_count_91 : decode cX10_count 91 = .ok (.getfield 27, 3) := by decide +kernel
theorem dX10_count_94 : decode cX10_count 94 = .ok (.getfield 99, 3) := by decide +kernel
theorem dX10_count_97 : decode cX10_count 97 = .ok (.getfield 349, 3) := by decide +kernel
theorem dX10_count_100 : decode cX10_count 100 = .ok (.ireturn, 1) := by decide +kernel
theorem dX10_count_101 : decode cX10_count 101 = .ok (.aload_n 0, 1) := by decide +kernel
theorem dX10_count_102 : decode cX10_count 102 = .ok (.getfield 27, 3) := by decide +kernel
theorem dX10_count_105 : decode cX10_count 105 = .ok (.getfield 99, 3) := by decide +kernel
theorem dX10_count_108 : decode cX10_count 108 = .ok (.getfield 352, 3) := by decide +kernel
theorem dX10_count_111 : decode cX10_count 111 = .ok (.ireturn, 1) := by decide +kernel
theorem dX10_count_112 : decode cX10_count 112 = .ok (.aload_n 0, 1) := by decide +kernel
theorem dX10_count_113 : decode cX10_count 113 = .ok (.getfield 27, 3) := by decide +kernel
theorem dX10_count_116 : decode cX10_count 116 = .ok (.getfield 99, 3) := by decide +kernel
theorem dX10_count_119 : decode cX10_count 119 = .ok (.getfield 246, 3) := by decide +kernel
theorem dX10_count_122 : decode cX10_count 122 = .ok (.ireturn, 1) := by decide +kernel
theorem dX10_count_123 : decode cX10_count 123 = .ok (.aload_n 0, 1) := by decide +kernel
theorem dX10_count_124 : decode cX10_count 124 = .ok (.getfield 27, 3) := by decide +kernel
theorem dX10_count_127 : decode cX10_count 127 = .ok (.getfield 141, 3) := by decide +kernel
theorem dX10_count_130 : decode cX10_count 130 = .ok (.ireturn, 1) := by decide +kernel
theorem dX10_count_131 : decode cX10_count 131 = .ok (.aload_n 0, 1) := by decide +kernel
theorem dX10_count_132 : decode cX10_count 132 = .ok (.getfield 27, 3) := by decide +kernel
theorem dX10_count_135 : decode cX10_count 135 = .ok (.getfield 336, 3) := by decide +kernel
theorem dX10_count_138 : decode cX10_count 138 = .ok (.ireturn, 1) := by decide +kernel
theorem dX10_count_139 : decode cX10_count 139 = .ok (.aload_n 0, 1) := by decide +kernel
theorem dX10_count_140 : decode cX10_count 140 = .ok (.getfield 27, 3) := by decide +kernel
theorem dX10_count_143 : decode cX10_count 143 = .ok (.getfield 99, 3) := by decide +kernel
theorem dX10_count_146 : decode cX10_count 146 = .ok (.getfield 102, 3) := by decide +kernel
theorem dX10_count_149 : decode cX10_count 149 = .ok (.ireturn, 1) := by decide +kernel
theorem dX10_count_150 : decode cX10_count 150 = .ok (.aload_n 0, 1) := by decide +kernel
theorem dX10_count_151 : decode cX10_count 151 = .ok (.getfield 12, 3) := by decide +kernel
theorem dX10_count_154 : decode cX10_count 154 = .ok (.getfield 79, 3) := by decide +kernel
theorem dX10_count_157 : decode cX10_count 157 = .ok (.ireturn, 1) := by decide +kernel
theorem dX10_count_158 : decode cX10_count 158 = .ok (.aload_n 0, 1) := by decide +kernel
theorem dX10_count_159 : decode cX10_count 159 = .ok (.getfield 27, 3) := by decide +kernel
theorem dX10_count_162 : decode cX10_count 162 = .ok (.getfield 176, 3) := by decide +kernel
theorem dX10_count_165 : decode cX10_count 165 = .ok (.ireturn, 1) := by decide +kernel
theorem dX10_count_166 : decode cX10_count 166 = .ok (.aload_n 0, 1) := by decide +kernel
theorem dX10_count_167 : decode cX10_count 167 = .ok (.getfield 27, 3) := by decide +kernel
theorem dX10_count_170 : decode cX10_count 170 = .ok (.getfield 99, 3) := by decide +kernel
theorem dX10_count_173 : decode cX10_count 173 = .ok (.getfield 354, 3) := by decide +kernel
theorem dX10_count_176 : decode cX10_count 176 = .ok (.ireturn, 1) := by decide +kernel
theorem dX10_count_177 : decode cX10_count 177 = .ok (.aload_n 0, 1) := by decide +kernel
theorem dX10_count_178 : decode cX10_count 178 = .ok (.getfield 27, 3) := by decide +kernel
theorem dX10_count_181 : decode cX10_count 181 = .ok (.invokevirtual 357, 3) := by decide +kernel
theorem dX10_count_184 : decode cX10_count 184 = .ok (.ireturn, 1) := by decide +kernel
theorem dX10_count_185 : decode cX10_count 185 = .ok (.aload_n 0, 1) := by decide +kernel
theorem dX10_count_186 : decode cX10_count 186 = .ok (.invokevirtual 360, 3) := by decide +kernel
theorem dX10_count_189 : decode cX10_count 189 = .ok (.ireturn, 1) := by decide +kernel
theorem dX10_count_190 : decode cX10_count 190 = .ok (.iconst (-1), 1) := by decide +kernel
theorem dX10_count_191 : decode cX10_count 191 = .ok (.ireturn, 1) := by decide +kernel
theorem dX10_slotsWithRows_0 : decode cX10_slotsWithRows 0 = .ok (.iconst 0, 1) := by decide +kernel
theorem dX10_slotsWithRows_1 : decode cX10_slotsWithRows 1 = .ok (.istore_n 1, 1) := by decide +kernel
theorem dX10_slotsWithRows_2 : decode cX10_slotsWithRows 2 = .ok (.aload_n 0, 1) := by decide +kernel
theorem dX10_slotsWithRows_3 : decode cX10_slotsWithRows 3 = .ok (.getfield 47, 3) := by decide +kernel
theorem dX10_slotsWithRows_6 : decode cX10_slotsWithRows 6 = .ok (.astore_n 2, 1) := by decide +kernel
theorem dX10_slotsWithRows_7 : decode cX10_slotsWithRows 7 = .ok (.aload_n 2, 1) := by decide +kernel
theorem dX10_slotsWithRows_8 : decode cX10_slotsWithRows 8 = .ok (.arraylength, 1) := by decide +kernel
theorem dX10_slotsWithRows_9 : decode cX10_slotsWithRows 9 = .ok (.istore_n 3, 1) := by decide +kernel
theorem dX10_slotsWithRows_10 : decode cX10_slotsWithRows 10 = .ok (.iconst 0, 1) := by decide +kernel
theorem dX10_slotsWithRows_11 : decode cX10_slotsWithRows 11 = .ok (.istore 4, 2) := by decide +kernel
theorem dX10_slotsWithRows_13 : decode cX10_slotsWithRows 13 = .ok (.iload 4, 2) := by decide +kernel
theorem dX10_slotsWithRows_15 : decode cX10_slotsWithRows 15 = .ok (.iload_n 3, 1) := by decide +kernel
theorem dX10_slotsWithRows_16 : decode cX10_slotsWithRows 16 = .ok (.if_icmp .ge 26, 3) := by decide +kernel
theorem dX10_slotsWithRows_19 : decode cX10_slotsWithRows 19 = .ok (.aload_n 2, 1) := by decide +kernel
theorem dX10_slotsWithRows_20 : decode cX10_slotsWithRows 20 = .ok (.iload 4, 2) := by decide +kernel
theorem dX10_slotsWithRows_22 : decode cX10_slotsWithRows 22 = .ok (.aaload, 1) := by decide +kernel
theorem dX10_slotsWithRows_23 : decode cX10_slotsWithRows 23 = .ok (.astore 5, 2) := by decide +kernel
theorem dX10_slotsWithRows_25 : decode cX10_slotsWithRows 25 = .ok (.aload 5, 2) := by decide +kernel
theorem dX10_slotsWithRows_27 : decode cX10_slotsWithRows 27 = .ok (.invokevirtual 342, 3) := by decide +kernel
theorem dX10_slotsWithRows_30 : decode cX10_slotsWithRows 30 = .ok (.ifCond .ne 6, 3) := by decide +kernel
theorem dX10_slotsWithRows_33 : decode cX10_slotsWithRows 33 = .ok (.iinc 1 1, 3) := by decide +kernel
theorem dX10_slotsWithRows_36 : decode cX10_slotsWithRows 36 = .ok (.iinc 4 1, 3) := by decide +kernel
theorem dX10_slotsWithRows_39 : decode cX10_slotsWithRows 39 = .ok (.goto (-26), 3) := by decide +kernel
theorem dX10_slotsWithRows_42 : decode cX10_slotsWithRows 42 = .ok (.iload_n 1, 1) := by decide +kernel
theorem dX10_slotsWithRows_43 : decode cX10_slotsWithRows 43 = .ok (.ireturn, 1) := by decide +kernel
