theorem dX10_init_0 : decode cX10_init 0 = .ok (.aload_n 0, 1) := by decide +kernel
theorem dX10_init_1 : decode cX10_init 1 = .ok (.invokespecial 3, 3) := by decide +kernel
theorem dX10_init_4 : decode cX10_init 4 = .ok (.aload_n 0, 1) := by decide +kernel
theorem dX10_init_5 : decode cX10_init 5 = .ok (.new 9, 3) := by decide +kernel
theorem dX10_init_8 : decode cX10_init 8 = .ok (.dup, 1) := by decide +kernel
theorem dX10_init_9 : decode cX10_init 9 = .ok (.invokespecial 11, 3) := by decide +kernel
theorem dX10_init_12 : decode cX10_init 12 = .ok (.putfield 12, 3) := by decide +kernel
theorem dX10_init_15 : decode cX10_init 15 = .ok (.aload_n 0, 1) := by decide +kernel
theorem dX10_init_16 : decode cX10_init 16 = .ok (.new 16, 3) := by decide +kernel
theorem dX10_init_19 : decode cX10_init 19 = .ok (.dup, 1) := by decide +kernel
theorem dX10_init_20 : decode cX10_init 20 = .ok (.invokespecial 18, 3) := by decide +kernel
theorem dX10_init_23 : decode cX10_init 23 = .ok (.putfield 19, 3) := by decide +kernel
theorem dX10_init_26 : decode cX10_init 26 = .ok (.aload_n 0, 1) := by decide +kernel
theorem dX10_init_27 : decode cX10_init 27 = .ok (.invokestatic 23, 3) := by decide +kernel
theorem dX10_init_30 : decode cX10_init 30 = .ok (.putfield 27, 3) := by decide +kernel
theorem dX10_init_33 : decode cX10_init 33 = .ok (.aload_n 0, 1) := by decide +kernel
theorem dX10_init_34 : decode cX10_init 34 = .ok (.invokestatic 23, 3) := by decide +kernel
theorem dX10_init_37 : decode cX10_init 37 = .ok (.putfield 31, 3) := by decide +kernel
theorem dX10_init_40 : decode cX10_init 40 = .ok (.aload_n 0, 1) := by decide +kernel
theorem dX10_init_41 : decode cX10_init 41 = .ok (.iconst 3, 1) := by decide +kernel
theorem dX10_init_42 : decode cX10_init 42 = .ok (.anewarray 34, 3) := by decide +kernel
theorem dX10_init_45 : decode cX10_init 45 = .ok (.dup, 1) := by decide +kernel
theorem dX10_init_46 : decode cX10_init 46 = .ok (.iconst 0, 1) := by decide +kernel
theorem dX10_init_47 : decode cX10_init 47 = .ok (.invokestatic 23, 3) := by decide +kernel
theorem dX10_init_50 : decode cX10_init 50 = .ok (.aastore, 1) := by decide +kernel
theorem dX10_init_51 : decode cX10_init 51 = .ok (.dup, 1) := by decide +kernel
theorem dX10_init_52 : decode cX10_init 52 = .ok (.iconst 1, 1) := by decide +kernel
theorem dX10_init_53 : decode cX10_init 53 = .ok (.invokestatic 23, 3) := by decide +kernel
theorem dX10_init_56 : decode cX10_init 56 = .ok (.aastore, 1) := by decide +kernel
theorem dX10_init_57 : decode cX10_init 57 = .ok (.dup, 1) := by decide +kernel
theorem dX10_init_58 : decode cX10_init 58 = .ok (.iconst 2, 1) := by decide +kernel
theorem dX10_init_59 : decode cX10_init 59 = .ok (.invokestatic 23, 3) := by decide +kernel
theorem dX10_init_62 : decode cX10_init 62 = .ok (.aastore, 1) := by decide +kernel
theorem dX10_init_63 : decode cX10_init 63 = .ok (.putfield 36, 3) := by decide +kernel
theorem dX10_init_66 : decode cX10_init 66 = .ok (.aload_n 0, 1) := by decide +kernel
theorem dX10_init_67 : decode cX10_init 67 = .ok (.iconst 3, 1) := by decide +kernel
theorem dX10_init_68 : decode cX10_init 68 = .ok (.newarray .boolean, 2) := by decide +kernel
theorem dX10_init_70 : decode cX10_init 70 = .ok (.putfield 40, 3) := by decide +kernel
theorem dX10_init_73 : decode cX10_init 73 = .ok (.aload_n 0, 1) := by decide +kernel
theorem dX10_init_74 : decode cX10_init 74 = .ok (.iconst 4, 1) := by decide +kernel
theorem dX10_init_75 : decode cX10_init 75 = .ok (.anewarray 44, 3) := by decide +kernel
theorem dX10_init_78 : decode cX10_init 78 = .ok (.dup, 1) := by decide +kernel
theorem dX10_init_79 : decode cX10_init 79 = .ok (.iconst 0, 1) := by decide +kernel
theorem dX10_init_80 : decode cX10_init 80 = .ok (.new 44, 3) := by decide +kernel
theorem dX10_init_83 : decode cX10_init 83 = .ok (.dup, 1) := by decide +kernel
theorem dX10_init_84 : decode cX10_init 84 = .ok (.invokespecial 46, 3) := by decide +kernel
theorem dX10_init_87 : decode cX10_init 87 = .ok (.aastore, 1) := by decide +kernel
theorem dX10_init_88 : decode cX10_init 88 = .ok (.dup, 1) := by decide +kernel
theorem dX10_init_89 : decode cX10_init 89 = .ok (.iconst 1, 1) := by decide +kernel
theorem dX10_init_90 : decode cX10_init 90 = .ok (.new 44, 3) := by decide +kernel
theorem dX10_init_93 : decode cX10_init 93 = .ok (.dup, 1) := by decide +kernel
theorem dX10_init_94 : decode cX10_init 94 = .ok (.invokespecial 46, 3) := by decide +kernel
theorem dX10_init_97 : decode cX10_init 97 = .ok (.aastore, 1) := by decide +kernel
theorem dX10_init_98 : decode cX10_init 98 = .ok (.dup, 1) := by decide +kernel
theorem dX10_init_99 : decode cX10_init 99 = .ok (.iconst 2, 1) := by decide +kernel
theorem dX10_init_100 : decode cX10_init 100 = .ok (.new 44, 3) := by decide +kernel
theorem dX10_init_103 : decode cX10_init 103 = .ok (.dup, 1) := by decide +kernel
theorem dX10_init_104 : decode cX10_init 104 = .ok (.invokespecial 46, 3) := by decide +kernel
theorem dX10_init_107 : decode cX10_init 107 = .ok (.aastore, 1) := by decide +kernel
theorem dX10_init_108 : decode cX10_init 108 = .ok (.dup, 1) := by decide +kernel
theorem dX10_init_109 : decode cX10_init 109 = .ok (.iconst 3, 1) := by decide +kernel
theorem dX10_init_110 : decode cX10_init 110 = .ok (.new 44, 3) := by decide +kernel
theorem dX10_init_113 : decode cX10_init 113 = .ok (.dup, 1) := by decide +kernel
theorem dX10_init_114 : decode cX10_init 114 = .ok (.invokespecial 46, 3) := by decide +kernel
theorem dX10_init_117 : decode cX10_init 117 = .ok (.aastore, 1) := by decide +kernel
theorem dX10_init_118 : decode cX10_init 118 = .ok (.putfield 47, 3) := by decide +kernel
theorem dX10_init_121 : decode cX10_init 121 = .ok (.aload_n 0, 1) := by decide +kernel
theorem dX10_init_122 : decode cX10_init 122 = .ok (.new 51, 3) := by decide +kernel
theorem dX10_init_125 : decode cX10_init 125 = .ok (.dup, 1) := by decide +kernel
theorem dX10_init_126 : decode cX10_init 126 = .ok (.invokespecial 53, 3) := by decide +kernel
theorem dX10_init_129 : decode cX10_init 129 = .ok (.putfield 54, 3) := by decide +kernel
theorem dX10_init_132 : decode cX10_init 132 = .ok (.aload_n 0, 1) := by decide +kernel
theorem dX10_init_133 : decode cX10_init 133 = .ok (.new 58, 3) := by decide +kernel
theorem dX10_init_136 : decode cX10_init 136 = .ok (.dup, 1) := by decide +kernel
theorem dX10_init_137 : decode cX10_init 137 = .ok (.invokespecial 60, 3) := by decide +kernel
theorem dX10_init_140 : decode cX10_init 140 = .ok (.putfield 61, 3) := by decide +kernel
theorem dX10_init_143 : decode cX10_init 143 = .ok (.aload_n 0, 1) := by decide +kernel
theorem dX10_init_144 : decode cX10_init 144 = .ok (.new 65, 3) := by decide +kernel
theorem dX10_init_147 : decode cX10_init 147 = .ok (.dup, 1) := by decide +kernel
theorem dX10_init_148 : decode cX10_init 148 = .ok (.invokespecial 67, 3) := by decide +kernel
theorem dX10_init_151 : decode cX10_init 151 = .ok (.putfield 68, 3) := by decide +kernel
theorem dX10_init_154 : decode cX10_init 154 = .ok (.aload_n 0, 1) := by decide +kernel
theorem dX10_init_155 : decode cX10_init 155 = .ok (.new 72, 3) := by decide +kernel
theorem dX10_init_158 : decode cX10_init 158 = .ok (.dup, 1) := by decide +kernel
theorem dX10_init_159 : decode cX10_init 159 = .ok (.invokespecial 74, 3) := by decide +kernel
theorem dX10_init_162 : decode cX10_init 162 = .ok (.putfield 75, 3) := by decide +kernel
theorem dX10_init_165 : decode cX10_init 165 = .ok (.return_, 1) := by decide +kernel
