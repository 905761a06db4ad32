theorem dX11_town_0 : decode cX11_town 0 = .ok (.aload_n 0, 1) := by decide +kernel
theorem dX11_town_1 : decode cX11_town 1 = .ok (.iconst 0, 1) := by decide +kernel
theorem dX11_town_2 : decode cX11_town 2 = .ok (.putfield 99, 3) := by decide +kernel
theorem dX11_town_5 : decode cX11_town 5 = .ok (.aload_n 0, 1) := by decide +kernel
theorem dX11_town_6 : decode cX11_town 6 = .ok (.invokevirtual 251, 3) := by decide +kernel
theorem dX11_town_9 : decode cX11_town 9 = .ok (.aload_n 0, 1) := by decide +kernel
theorem dX11_town_10 : decode cX11_town 10 = .ok (.invokevirtual 254, 3) := by decide +kernel
theorem dX11_town_13 : decode cX11_town 13 = .ok (.aload_n 0, 1) := by decide +kernel
theorem dX11_town_14 : decode cX11_town 14 = .ok (.invokevirtual 181, 3) := by decide +kernel
theorem dX11_town_17 : decode cX11_town 17 = .ok (.ifCond .eq 108, 3) := by decide +kernel
theorem dX11_town_20 : decode cX11_town 20 = .ok (.aload_n 0, 1) := by decide +kernel
theorem dX11_town_21 : decode cX11_town 21 = .ok (.getfield 140, 3) := by decide +kernel
theorem dX11_town_24 : decode cX11_town 24 = .ok (.ifCond .eq 101, 3) := by decide +kernel
theorem dX11_town_27 : decode cX11_town 27 = .ok (.aload_n 0, 1) := by decide +kernel
theorem dX11_town_28 : decode cX11_town 28 = .ok (.getfield 31, 3) := by decide +kernel
theorem dX11_town_31 : decode cX11_town 31 = .ok (.iconst 4, 1) := by decide +kernel
theorem dX11_town_32 : decode cX11_town 32 = .ok (.iaload, 1) := by decide +kernel
theorem dX11_town_33 : decode cX11_town 33 = .ok (.ifCond .ne 64, 3) := by decide +kernel
theorem dX11_town_36 : decode cX11_town 36 = .ok (.aload_n 0, 1) := by decide +kernel
theorem dX11_town_37 : decode cX11_town 37 = .ok (.ldc2_w 257, 3) := by decide +kernel
theorem dX11_town_40 : decode cX11_town 40 = .ok (.invokevirtual 170, 3) := by decide +kernel
theorem dX11_town_43 : decode cX11_town 43 = .ok (.aload_n 0, 1) := by decide +kernel
theorem dX11_town_44 : decode cX11_town 44 = .ok (.getfield 34, 3) := by decide +kernel
theorem dX11_town_47 : decode cX11_town 47 = .ok (.bipush 12, 2) := by decide +kernel
theorem dX11_town_49 : decode cX11_town 49 = .ok (.aload_n 0, 1) := by decide +kernel
theorem dX11_town_50 : decode cX11_town 50 = .ok (.ldc2_w 259, 3) := by decide +kernel
theorem dX11_town_53 : decode cX11_town 53 = .ok (.iconst 1, 1) := by decide +kernel
theorem dX11_town_54 : decode cX11_town 54 = .ok (.bipush 8, 2) := by decide +kernel
theorem dX11_town_56 : decode cX11_town 56 = .ok (.invokevirtual 187, 3) := by decide +kernel
theorem dX11_town_59 : decode cX11_town 59 = .ok (.iastore, 1) := by decide +kernel
theorem dX11_town_60 : decode cX11_town 60 = .ok (.aload_n 0, 1) := by decide +kernel
theorem dX11_town_61 : decode cX11_town 61 = .ok (.getfield 34, 3) := by decide +kernel
theorem dX11_town_64 : decode cX11_town 64 = .ok (.bipush 13, 2) := by decide +kernel
theorem dX11_town_66 : decode cX11_town 66 = .ok (.aload_n 0, 1) := by decide +kernel
theorem dX11_town_67 : decode cX11_town 67 = .ok (.ldc2_w 208, 3) := by decide +kernel
theorem dX11_town_70 : decode cX11_town 70 = .ok (.iconst 1, 1) := by decide +kernel
theorem dX11_town_71 : decode cX11_town 71 = .ok (.bipush 12, 2) := by decide +kernel
theorem dX11_town_73 : decode cX11_town 73 = .ok (.invokevirtual 187, 3) := by decide +kernel
theorem dX11_town_76 : decode cX11_town 76 = .ok (.iastore, 1) := by decide +kernel
theorem dX11_town_77 : decode cX11_town 77 = .ok (.aload_n 0, 1) := by decide +kernel
theorem dX11_town_78 : decode cX11_town 78 = .ok (.getfield 34, 3) := by decide +kernel
theorem dX11_town_81 : decode cX11_town 81 = .ok (.bipush 14, 2) := by decide +kernel
theorem dX11_town_83 : decode cX11_town 83 = .ok (.aload_n 0, 1) := by decide +kernel
theorem dX11_town_84 : decode cX11_town 84 = .ok (.ldc2_w 261, 3) := by decide +kernel
theorem dX11_town_87 : decode cX11_town 87 = .ok (.iconst 1, 1) := by decide +kernel
theorem dX11_town_88 : decode cX11_town 88 = .ok (.bipush 12, 2) := by decide +kernel
theorem dX11_town_90 : decode cX11_town 90 = .ok (.invokevirtual 187, 3) := by decide +kernel
theorem dX11_town_93 : decode cX11_town 93 = .ok (.iastore, 1) := by decide +kernel
theorem dX11_town_94 : decode cX11_town 94 = .ok (.goto 7, 3) := by decide +kernel
theorem dX11_town_97 : decode cX11_town 97 = .ok (.aload_n 0, 1) := by decide +kernel
theorem dX11_town_98 : decode cX11_town 98 = .ok (.invokevirtual 263, 3) := by decide +kernel
theorem dX11_town_101 : decode cX11_town 101 = .ok (.aload_n 0, 1) := by decide +kernel
theorem dX11_town_102 : decode cX11_town 102 = .ok (.invokevirtual 181, 3) := by decide +kernel
theorem dX11_town_105 : decode cX11_town 105 = .ok (.ifCond .eq 7, 3) := by decide +kernel
theorem dX11_town_108 : decode cX11_town 108 = .ok (.aload_n 0, 1) := by decide +kernel
theorem dX11_town_109 : decode cX11_town 109 = .ok (.invokevirtual 266, 3) := by decide +kernel
theorem dX11_town_112 : decode cX11_town 112 = .ok (.aload_n 0, 1) := by decide +kernel
theorem dX11_town_113 : decode cX11_town 113 = .ok (.getfield 31, 3) := by decide +kernel
theorem dX11_town_116 : decode cX11_town 116 = .ok (.iconst 4, 1) := by decide +kernel
theorem dX11_town_117 : decode cX11_town 117 = .ok (.dup2, 1) := by decide +kernel
theorem dX11_town_118 : decode cX11_town 118 = .ok (.iaload, 1) := by decide +kernel
theorem dX11_town_119 : decode cX11_town 119 = .ok (.iconst 1, 1) := by decide +kernel
theorem dX11_town_120 : decode cX11_town 120 = .ok (.iadd, 1) := by decide +kernel
theorem dX11_town_121 : decode cX11_town 121 = .ok (.iastore, 1) := by decide +kernel
theorem dX11_town_122 : decode cX11_town 122 = .ok (.goto (-109), 3) := by decide +kernel
theorem dX11_town_125 : decode cX11_town 125 = .ok (.aload_n 0, 1) := by decide +kernel
theorem dX11_town_126 : decode cX11_town 126 = .ok (.invokevirtual 269, 3) := by decide +kernel
theorem dX11_town_129 : decode cX11_town 129 = .ok (.aload_n 0, 1) := by decide +kernel
theorem dX11_town_130 : decode cX11_town 130 = .ok (.getfield 151, 3) := by decide +kernel
theorem dX11_town_133 : decode cX11_town 133 = .ok (.ifCond .eq 6, 3) := by decide +kernel
theorem dX11_town_136 : decode cX11_town 136 = .ok (.bipush (-4), 2) := by decide +kernel
theorem dX11_town_138 : decode cX11_town 138 = .ok (.ireturn, 1) := by decide +kernel
theorem dX11_town_139 : decode cX11_town 139 = .ok (.aload_n 0, 1) := by decide +kernel
theorem dX11_town_140 : decode cX11_town 140 = .ok (.iconst 4, 1) := by decide +kernel
theorem dX11_town_141 : decode cX11_town 141 = .ok (.iconst 0, 1) := by decide +kernel
theorem dX11_town_142 : decode cX11_town 142 = .ok (.invokevirtual 272, 3) := by decide +kernel
theorem dX11_town_145 : decode cX11_town 145 = .ok (.aload_n 0, 1) := by decide +kernel
theorem dX11_town_146 : decode cX11_town 146 = .ok (.invokevirtual 96, 3) := by decide +kernel
theorem dX11_town_149 : decode cX11_town 149 = .ok (.aload_n 0, 1) := by decide +kernel
theorem dX11_town_150 : decode cX11_town 150 = .ok (.getfield 31, 3) := by decide +kernel
theorem dX11_town_153 : decode cX11_town 153 = .ok (.iconst 0, 1) := by decide +kernel
theorem dX11_town_154 : decode cX11_town 154 = .ok (.iaload, 1) := by decide +kernel
theorem dX11_town_155 : decode cX11_town 155 = .ok (.ireturn, 1) := by decide +kernel
