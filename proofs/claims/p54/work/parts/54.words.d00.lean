theorem dX11_blows_0 : decode cX11_blows 0 = .ok (.aload_n 0, 1) := by decide +kernel
theorem dX11_blows_1 : decode cX11_blows 1 = .ok (.iconst 0, 1) := by decide +kernel
theorem dX11_blows_2 : decode cX11_blows 2 = .ok (.putfield 422, 3) := by decide +kernel
theorem dX11_blows_5 : decode cX11_blows 5 = .ok (.iconst 0, 1) := by decide +kernel
theorem dX11_blows_6 : decode cX11_blows 6 = .ok (.istore_n 1, 1) := by decide +kernel
theorem dX11_blows_7 : decode cX11_blows 7 = .ok (.iload_n 1, 1) := by decide +kernel
theorem dX11_blows_8 : decode cX11_blows 8 = .ok (.iconst 2, 1) := by decide +kernel
theorem dX11_blows_9 : decode cX11_blows 9 = .ok (.if_icmp .ge 69, 3) := by decide +kernel
theorem dX11_blows_12 : decode cX11_blows 12 = .ok (.iconst 0, 1) := by decide +kernel
theorem dX11_blows_13 : decode cX11_blows 13 = .ok (.istore_n 2, 1) := by decide +kernel
theorem dX11_blows_14 : decode cX11_blows 14 = .ok (.iload_n 2, 1) := by decide +kernel
theorem dX11_blows_15 : decode cX11_blows 15 = .ok (.aload_n 0, 1) := by decide +kernel
theorem dX11_blows_16 : decode cX11_blows 16 = .ok (.getfield 34, 3) := by decide +kernel
theorem dX11_blows_19 : decode cX11_blows 19 = .ok (.iconst 0, 1) := by decide +kernel
theorem dX11_blows_20 : decode cX11_blows 20 = .ok (.iaload, 1) := by decide +kernel
theorem dX11_blows_21 : decode cX11_blows 21 = .ok (.if_icmp .ge 51, 3) := by decide +kernel
theorem dX11_blows_24 : decode cX11_blows 24 = .ok (.aload_n 0, 1) := by decide +kernel
theorem dX11_blows_25 : decode cX11_blows 25 = .ok (.getfield 56, 3) := by decide +kernel
theorem dX11_blows_28 : decode cX11_blows 28 = .ok (.iconst 0, 1) := by decide +kernel
theorem dX11_blows_29 : decode cX11_blows 29 = .ok (.iload_n 1, 1) := by decide +kernel
theorem dX11_blows_30 : decode cX11_blows 30 = .ok (.iload_n 2, 1) := by decide +kernel
theorem dX11_blows_31 : decode cX11_blows 31 = .ok (.invokestatic 280, 3) := by decide +kernel
theorem dX11_blows_34 : decode cX11_blows 34 = .ok (.iaload, 1) := by decide +kernel
theorem dX11_blows_35 : decode cX11_blows 35 = .ok (.ifCond .ne 6, 3) := by decide +kernel
theorem dX11_blows_38 : decode cX11_blows 38 = .ok (.goto 28, 3) := by decide +kernel
theorem dX11_blows_41 : decode cX11_blows 41 = .ok (.aload_n 0, 1) := by decide +kernel
theorem dX11_blows_42 : decode cX11_blows 42 = .ok (.getfield 93, 3) := by decide +kernel
theorem dX11_blows_45 : decode cX11_blows 45 = .ok (.aload_n 0, 1) := by decide +kernel
theorem dX11_blows_46 : decode cX11_blows 46 = .ok (.getfield 422, 3) := by decide +kernel
theorem dX11_blows_49 : decode cX11_blows 49 = .ok (.bipush 8, 2) := by decide +kernel
theorem dX11_blows_51 : decode cX11_blows 51 = .ok (.iload_n 1, 1) := by decide +kernel
theorem dX11_blows_52 : decode cX11_blows 52 = .ok (.imul, 1) := by decide +kernel
theorem dX11_blows_53 : decode cX11_blows 53 = .ok (.iload_n 2, 1) := by decide +kernel
theorem dX11_blows_54 : decode cX11_blows 54 = .ok (.iadd, 1) := by decide +kernel
theorem dX11_blows_55 : decode cX11_blows 55 = .ok (.iastore, 1) := by decide +kernel
theorem dX11_blows_56 : decode cX11_blows 56 = .ok (.aload_n 0, 1) := by decide +kernel
theorem dX11_blows_57 : decode cX11_blows 57 = .ok (.dup, 1) := by decide +kernel
theorem dX11_blows_58 : decode cX11_blows 58 = .ok (.getfield 422, 3) := by decide +kernel
theorem dX11_blows_61 : decode cX11_blows 61 = .ok (.iconst 1, 1) := by decide +kernel
theorem dX11_blows_62 : decode cX11_blows 62 = .ok (.iadd, 1) := by decide +kernel
theorem dX11_blows_63 : decode cX11_blows 63 = .ok (.putfield 422, 3) := by decide +kernel
theorem dX11_blows_66 : decode cX11_blows 66 = .ok (.iinc 2 1, 3) := by decide +kernel
theorem dX11_blows_69 : decode cX11_blows 69 = .ok (.goto (-55), 3) := by decide +kernel
theorem dX11_blows_72 : decode cX11_blows 72 = .ok (.iinc 1 1, 3) := by decide +kernel
theorem dX11_blows_75 : decode cX11_blows 75 = .ok (.goto (-68), 3) := by decide +kernel
theorem dX11_blows_78 : decode cX11_blows 78 = .ok (.aload_n 0, 1) := by decide +kernel
theorem dX11_blows_79 : decode cX11_blows 79 = .ok (.getfield 90, 3) := by decide +kernel
theorem dX11_blows_82 : decode cX11_blows 82 = .ok (.iconst 0, 1) := by decide +kernel
theorem dX11_blows_83 : decode cX11_blows 83 = .ok (.ldc2_w 425, 3) := by decide +kernel
theorem dX11_blows_86 : decode cX11_blows 86 = .ok (.lastore, 1) := by decide +kernel
theorem dX11_blows_87 : decode cX11_blows 87 = .ok (.iconst 0, 1) := by decide +kernel
theorem dX11_blows_88 : decode cX11_blows 88 = .ok (.istore_n 1, 1) := by decide +kernel
theorem dX11_blows_89 : decode cX11_blows 89 = .ok (.iload_n 1, 1) := by decide +kernel
theorem dX11_blows_90 : decode cX11_blows 90 = .ok (.aload_n 0, 1) := by decide +kernel
theorem dX11_blows_91 : decode cX11_blows 91 = .ok (.getfield 422, 3) := by decide +kernel
theorem dX11_blows_94 : decode cX11_blows 94 = .ok (.if_icmp .ge 64, 3) := by decide +kernel
theorem dX11_blows_97 : decode cX11_blows 97 = .ok (.iconst 0, 1) := by decide +kernel
theorem dX11_blows_98 : decode cX11_blows 98 = .ok (.istore_n 2, 1) := by decide +kernel
theorem dX11_blows_99 : decode cX11_blows 99 = .ok (.iload_n 2, 1) := by decide +kernel
theorem dX11_blows_100 : decode cX11_blows 100 = .ok (.iconst 1, 1) := by decide +kernel
theorem dX11_blows_101 : decode cX11_blows 101 = .ok (.iload_n 1, 1) := by decide +kernel
theorem dX11_blows_102 : decode cX11_blows 102 = .ok (.ishl, 1) := by decide +kernel
theorem dX11_blows_103 : decode cX11_blows 103 = .ok (.if_icmp .ge 49, 3) := by decide +kernel
theorem dX11_blows_106 : decode cX11_blows 106 = .ok (.aload_n 0, 1) := by decide +kernel
theorem dX11_blows_107 : decode cX11_blows 107 = .ok (.getfield 90, 3) := by decide +kernel
theorem dX11_blows_110 : decode cX11_blows 110 = .ok (.iload_n 2, 1) := by decide +kernel
theorem dX11_blows_111 : decode cX11_blows 111 = .ok (.laload, 1) := by decide +kernel
theorem dX11_blows_112 : decode cX11_blows 112 = .ok (.aload_n 0, 1) := by decide +kernel
theorem dX11_blows_113 : decode cX11_blows 113 = .ok (.getfield 49, 3) := by decide +kernel
theorem dX11_blows_116 : decode cX11_blows 116 = .ok (.iconst 1, 1) := by decide +kernel
theorem dX11_blows_117 : decode cX11_blows 117 = .ok (.iaload, 1) := by decide +kernel
theorem dX11_blows_118 : decode cX11_blows 118 = .ok (.i2l, 1) := by decide +kernel
theorem dX11_blows_119 : decode cX11_blows 119 = .ok (.lmul, 1) := by decide +kernel
theorem dX11_blows_120 : decode cX11_blows 120 = .ok (.ldc2_w 427, 3) := by decide +kernel
theorem dX11_blows_123 : decode cX11_blows 123 = .ok (.ldiv, 1) := by decide +kernel
theorem dX11_blows_124 : decode cX11_blows 124 = .ok (.lstore_n 3, 1) := by decide +kernel
theorem dX11_blows_125 : decode cX11_blows 125 = .ok (.aload_n 0, 1) := by decide +kernel
theorem dX11_blows_126 : decode cX11_blows 126 = .ok (.getfield 90, 3) := by decide +kernel
theorem dX11_blows_129 : decode cX11_blows 129 = .ok (.iload_n 2, 1) := by decide +kernel
theorem dX11_blows_130 : decode cX11_blows 130 = .ok (.iconst 1, 1) := by decide +kernel
theorem dX11_blows_131 : decode cX11_blows 131 = .ok (.iload_n 1, 1) := by decide +kernel
theorem dX11_blows_132 : decode cX11_blows 132 = .ok (.ishl, 1) := by decide +kernel
theorem dX11_blows_133 : decode cX11_blows 133 = .ok (.ior, 1) := by decide +kernel
theorem dX11_blows_134 : decode cX11_blows 134 = .ok (.lload_n 3, 1) := by decide +kernel
theorem dX11_blows_135 : decode cX11_blows 135 = .ok (.lastore, 1) := by decide +kernel
theorem dX11_blows_136 : decode cX11_blows 136 = .ok (.aload_n 0, 1) := by decide +kernel
theorem dX11_blows_137 : decode cX11_blows 137 = .ok (.getfield 90, 3) := by decide +kernel
theorem dX11_blows_140 : decode cX11_blows 140 = .ok (.iload_n 2, 1) := by decide +kernel
theorem dX11_blows_141 : decode cX11_blows 141 = .ok (.dup2, 1) := by decide +kernel
theorem dX11_blows_142 : decode cX11_blows 142 = .ok (.laload, 1) := by decide +kernel
theorem dX11_blows_143 : decode cX11_blows 143 = .ok (.lload_n 3, 1) := by decide +kernel
theorem dX11_blows_144 : decode cX11_blows 144 = .ok (.lsub, 1) := by decide +kernel
theorem dX11_blows_145 : decode cX11_blows 145 = .ok (.lastore, 1) := by decide +kernel
theorem dX11_blows_146 : decode cX11_blows 146 = .ok (.iinc 2 1, 3) := by decide +kernel
theorem dX11_blows_149 : decode cX11_blows 149 = .ok (.goto (-50), 3) := by decide +kernel
theorem dX11_blows_152 : decode cX11_blows 152 = .ok (.iinc 1 1, 3) := by decide +kernel
theorem dX11_blows_155 : decode cX11_blows 155 = .ok (.goto (-66), 3) := by decide +kernel
theorem dX11_blows_158 : decode cX11_blows 158 = .ok (.return_, 1) := by decide +kernel
theorem dX11_countsWithout_0 : decode cX11_countsWithout 0 = .ok (.aload_n 0, 1) := by decide +kernel
theorem dX11_countsWithout_1 : decode cX11_countsWithout 1 = .ok (.iconst 0, 1) := by decide +kernel
theorem dX11_countsWithout_2 : decode cX11_countsWithout 2 = .ok (.iload_n 1, 1) := by decide +kernel
theorem dX11_countsWithout_3 : decode cX11_countsWithout 3 = .ok (.aload_n 0, 1) := by decide +kernel
theorem dX11_countsWithout_4 : decode cX11_countsWithout 4 = .ok (.getfield 49, 3) := by decide +kernel
theorem dX11_countsWithout_7 : decode cX11_countsWithout 7 = .ok (.iconst 0, 1) := by decide +kernel
theorem dX11_countsWithout_8 : decode cX11_countsWithout 8 = .ok (.iaload, 1) := by decide +kernel
theorem dX11_countsWithout_9 : decode cX11_countsWithout 9 = .ok (.invokevirtual 324, 3) := by decide +kernel
theorem dX11_countsWithout_12 : decode cX11_countsWithout 12 = .ok (.istore_n 3, 1) := by decide +kernel
theorem dX11_countsWithout_13 : decode cX11_countsWithout 13 = .ok (.aload_n 0, 1) := by decide +kernel
theorem dX11_countsWithout_14 : decode cX11_countsWithout 14 = .ok (.getfield 49, 3) := by decide +kernel
theorem dX11_countsWithout_17 : decode cX11_countsWithout 17 = .ok (.iconst 0, 1) := by decide +kernel
theorem dX11_countsWithout_18 : decode cX11_countsWithout 18 = .ok (.iaload, 1) := by decide +kernel
theorem dX11_countsWithout_19 : decode cX11_countsWithout 19 = .ok (.iconst 2, 1) := by decide +kernel
theorem dX11_countsWithout_20 : decode cX11_countsWithout 20 = .ok (.if_icmp .ne 5, 3) := by decide +kernel
theorem dX11_countsWithout_23 : decode cX11_countsWithout 23 = .ok (.iconst 0, 1) := by decide +kernel
theorem dX11_countsWithout_24 : decode cX11_countsWithout 24 = .ok (.istore_n 3, 1) := by decide +kernel
theorem dX11_countsWithout_25 : decode cX11_countsWithout 25 = .ok (.iconst 0, 1) := by decide +kernel
theorem dX11_countsWithout_26 : decode cX11_countsWithout 26 = .ok (.istore 4, 2) := by decide +kernel
theorem dX11_countsWithout_28 : decode cX11_countsWithout 28 = .ok (.iload 4, 2) := by decide +kernel
theorem dX11_countsWithout_30 : decode cX11_countsWithout 30 = .ok (.aload_n 0, 1) := by decide +kernel
theorem dX11_countsWithout_31 : decode cX11_countsWithout 31 = .ok (.getfield 422, 3) := by decide +kernel
theorem dX11_countsWithout_34 : decode cX11_countsWithout 34 = .ok (.if_icmp .ge 170, 3) := by decide +kernel
theorem dX11_countsWithout_37 : decode cX11_countsWithout 37 = .ok (.aload_n 0, 1) := by decide +kernel
theorem dX11_countsWithout_38 : decode cX11_countsWithout 38 = .ok (.getfield 93, 3) := by decide +kernel
theorem dX11_countsWithout_41 : decode cX11_countsWithout 41 = .ok (.iload 4, 2) := by decide +kernel
theorem dX11_countsWithout_43 : decode cX11_countsWithout 43 = .ok (.iaload, 1) := by decide +kernel
theorem dX11_countsWithout_44 : decode cX11_countsWithout 44 = .ok (.bipush 8, 2) := by decide +kernel
theorem dX11_countsWithout_46 : decode cX11_countsWithout 46 = .ok (.idiv, 1) := by decide +kernel
theorem dX11_countsWithout_47 : decode cX11_countsWithout 47 = .ok (.iload_n 1, 1) := by decide +kernel
theorem dX11_countsWithout_48 : decode cX11_countsWithout 48 = .ok (.if_icmp .eq 6, 3) := by decide +kernel
theorem dX11_countsWithout_51 : decode cX11_countsWithout 51 = .ok (.goto 147, 3) := by decide +kernel
theorem dX11_countsWithout_54 : decode cX11_countsWithout 54 = .ok (.iload_n 2, 1) := by decide +kernel
theorem dX11_countsWithout_55 : decode cX11_countsWithout 55 = .ok (.iload 4, 2) := by decide +kernel
theorem dX11_countsWithout_57 : decode cX11_countsWithout 57 = .ok (.ishr, 1) := by decide +kernel
theorem dX11_countsWithout_58 : decode cX11_countsWithout 58 = .ok (.iconst 1, 1) := by decide +kernel
theorem dX11_countsWithout_59 : decode cX11_countsWithout 59 = .ok (.iand, 1) := by decide +kernel
theorem dX11_countsWithout_60 : decode cX11_countsWithout 60 = .ok (.iconst 1, 1) := by decide +kernel
theorem dX11_countsWithout_61 : decode cX11_countsWithout 61 = .ok (.if_icmp .ne 7, 3) := by decide +kernel
theorem dX11_countsWithout_64 : decode cX11_countsWithout 64 = .ok (.iconst 1, 1) := by decide +kernel
theorem dX11_countsWithout_65 : decode cX11_countsWithout 65 = .ok (.goto 4, 3) := by decide +kernel
theorem dX11_countsWithout_68 : decode cX11_countsWithout 68 = .ok (.iconst 0, 1) := by decide +kernel
theorem dX11_countsWithout_69 : decode cX11_countsWithout 69 = .ok (.istore 5, 2) := by decide +kernel
theorem dX11_countsWithout_71 : decode cX11_countsWithout 71 = .ok (.aload_n 0, 1) := by decide +kernel
theorem dX11_countsWithout_72 : decode cX11_countsWithout 72 = .ok (.getfield 56, 3) := by decide +kernel
theorem dX11_countsWithout_75 : decode cX11_countsWithout 75 = .ok (.aload_n 0, 1) := by decide +kernel
theorem dX11_countsWithout_76 : decode cX11_countsWithout 76 = .ok (.getfield 93, 3) := by decide +kernel
theorem dX11_countsWithout_79 : decode cX11_countsWithout 79 = .ok (.iload 4, 2) := by decide +kernel
theorem dX11_countsWithout_81 : decode cX11_countsWithout 81 = .ok (.iaload, 1) := by decide +kernel
theorem dX11_countsWithout_82 : decode cX11_countsWithout 82 = .ok (.iaload, 1) := by decide +kernel
theorem dX11_countsWithout_83 : decode cX11_countsWithout 83 = .ok (.istore 6, 2) := by decide +kernel
theorem dX11_countsWithout_85 : decode cX11_countsWithout 85 = .ok (.aload_n 0, 1) := by decide +kernel
theorem dX11_countsWithout_86 : decode cX11_countsWithout 86 = .ok (.getfield 49, 3) := by decide +kernel
theorem dX11_countsWithout_89 : decode cX11_countsWithout 89 = .ok (.iconst 0, 1) := by decide +kernel
theorem dX11_countsWithout_90 : decode cX11_countsWithout 90 = .ok (.iaload, 1) := by decide +kernel
theorem dX11_countsWithout_91 : decode cX11_countsWithout 91 = .ok (.ifCond .ne 16, 3) := by decide +kernel
theorem dX11_countsWithout_94 : decode cX11_countsWithout 94 = .ok (.iload_n 3, 1) := by decide +kernel
theorem dX11_countsWithout_95 : decode cX11_countsWithout 95 = .ok (.iload 5, 2) := by decide +kernel
theorem dX11_countsWithout_97 : decode cX11_countsWithout 97 = .ok (.ifCond .eq 7, 3) := by decide +kernel
theorem dX11_countsWithout_100 : decode cX11_countsWithout 100 = .ok (.iconst 1, 1) := by decide +kernel
theorem dX11_countsWithout_101 : decode cX11_countsWithout 101 = .ok (.goto 4, 3) := by decide +kernel
theorem dX11_countsWithout_104 : decode cX11_countsWithout 104 = .ok (.iconst 0, 1) := by decide +kernel
theorem dX11_countsWithout_105 : decode cX11_countsWithout 105 = .ok (.isub, 1) := by decide +kernel
theorem dX11_countsWithout_106 : decode cX11_countsWithout 106 = .ok (.istore_n 3, 1) := by decide +kernel
theorem dX11_countsWithout_107 : decode cX11_countsWithout 107 = .ok (.aload_n 0, 1) := by decide +kernel
theorem dX11_countsWithout_108 : decode cX11_countsWithout 108 = .ok (.getfield 49, 3) := by decide +kernel
theorem dX11_countsWithout_111 : decode cX11_countsWithout 111 = .ok (.iconst 0, 1) := by decide +kernel
theorem dX11_countsWithout_112 : decode cX11_countsWithout 112 = .ok (.iaload, 1) := by decide +kernel
theorem dX11_countsWithout_113 : decode cX11_countsWithout 113 = .ok (.iconst 1, 1) := by decide +kernel
theorem dX11_countsWithout_114 : decode cX11_countsWithout 114 = .ok (.if_icmp .ne 39, 3) := by decide +kernel
theorem dX11_countsWithout_117 : decode cX11_countsWithout 117 = .ok (.iload_n 3, 1) := by decide +kernel
theorem dX11_countsWithout_118 : decode cX11_countsWithout 118 = .ok (.iload 5, 2) := by decide +kernel
theorem dX11_countsWithout_120 : decode cX11_countsWithout 120 = .ok (.ifCond .eq 30, 3) := by decide +kernel
theorem dX11_countsWithout_123 : decode cX11_countsWithout 123 = .ok (.aload_n 0, 1) := by decide +kernel
theorem dX11_countsWithout_124 : decode cX11_countsWithout 124 = .ok (.aload_n 0, 1) := by decide +kernel
theorem dX11_countsWithout_125 : decode cX11_countsWithout 125 = .ok (.getfield 59, 3) := by decide +kernel
theorem dX11_countsWithout_128 : decode cX11_countsWithout 128 = .ok (.bipush 12, 2) := by decide +kernel
theorem dX11_countsWithout_130 : decode cX11_countsWithout 130 = .ok (.aload_n 0, 1) := by decide +kernel
theorem dX11_countsWithout_131 : decode cX11_countsWithout 131 = .ok (.getfield 93, 3) := by decide +kernel
theorem dX11_countsWithout_134 : decode cX11_countsWithout 134 = .ok (.iload 4, 2) := by decide +kernel
theorem dX11_countsWithout_136 : decode cX11_countsWithout 136 = .ok (.iaload, 1) := by decide +kernel
theorem dX11_countsWithout_137 : decode cX11_countsWithout 137 = .ok (.imul, 1) := by decide +kernel
theorem dX11_countsWithout_138 : decode cX11_countsWithout 138 = .ok (.iload 6, 2) := by decide +kernel
theorem dX11_countsWithout_140 : decode cX11_countsWithout 140 = .ok (.iadd, 1) := by decide +kernel
theorem dX11_countsWithout_141 : decode cX11_countsWithout 141 = .ok (.iconst 1, 1) := by decide +kernel
theorem dX11_countsWithout_142 : decode cX11_countsWithout 142 = .ok (.isub, 1) := by decide +kernel
theorem dX11_countsWithout_143 : decode cX11_countsWithout 143 = .ok (.iaload, 1) := by decide +kernel
theorem dX11_countsWithout_144 : decode cX11_countsWithout 144 = .ok (.invokevirtual 289, 3) := by decide +kernel
theorem dX11_countsWithout_147 : decode cX11_countsWithout 147 = .ok (.goto 4, 3) := by decide +kernel
theorem dX11_countsWithout_150 : decode cX11_countsWithout 150 = .ok (.iconst 0, 1) := by decide +kernel
theorem dX11_countsWithout_151 : decode cX11_countsWithout 151 = .ok (.isub, 1) := by decide +kernel
theorem dX11_countsWithout_152 : decode cX11_countsWithout 152 = .ok (.istore_n 3, 1) := by decide +kernel
theorem dX11_countsWithout_153 : decode cX11_countsWithout 153 = .ok (.aload_n 0, 1) := by decide +kernel
theorem dX11_countsWithout_154 : decode cX11_countsWithout 154 = .ok (.getfield 49, 3) := by decide +kernel
theorem dX11_countsWithout_157 : decode cX11_countsWithout 157 = .ok (.iconst 0, 1) := by decide +kernel
theorem dX11_countsWithout_158 : decode cX11_countsWithout 158 = .ok (.iaload, 1) := by decide +kernel
theorem dX11_countsWithout_159 : decode cX11_countsWithout 159 = .ok (.iconst 2, 1) := by decide +kernel
theorem dX11_countsWithout_160 : decode cX11_countsWithout 160 = .ok (.if_icmp .ne 38, 3) := by decide +kernel
theorem dX11_countsWithout_163 : decode cX11_countsWithout 163 = .ok (.iload 6, 2) := by decide +kernel
theorem dX11_countsWithout_165 : decode cX11_countsWithout 165 = .ok (.iload 5, 2) := by decide +kernel
theorem dX11_countsWithout_167 : decode cX11_countsWithout 167 = .ok (.ifCond .eq 7, 3) := by decide +kernel
theorem dX11_countsWithout_170 : decode cX11_countsWithout 170 = .ok (.iconst 1, 1) := by decide +kernel
theorem dX11_countsWithout_171 : decode cX11_countsWithout 171 = .ok (.goto 4, 3) := by decide +kernel
theorem dX11_countsWithout_174 : decode cX11_countsWithout 174 = .ok (.iconst 0, 1) := by decide +kernel
theorem dX11_countsWithout_175 : decode cX11_countsWithout 175 = .ok (.isub, 1) := by decide +kernel
theorem dX11_countsWithout_176 : decode cX11_countsWithout 176 = .ok (.iload_n 3, 1) := by decide +kernel
theorem dX11_countsWithout_177 : decode cX11_countsWithout 177 = .ok (.if_icmp .le 19, 3) := by decide +kernel
theorem dX11_countsWithout_180 : decode cX11_countsWithout 180 = .ok (.iload 6, 2) := by decide +kernel
theorem dX11_countsWithout_182 : decode cX11_countsWithout 182 = .ok (.iload 5, 2) := by decide +kernel
theorem dX11_countsWithout_184 : decode cX11_countsWithout 184 = .ok (.ifCond .eq 7, 3) := by decide +kernel
theorem dX11_countsWithout_187 : decode cX11_countsWithout 187 = .ok (.iconst 1, 1) := by decide +kernel
theorem dX11_countsWithout_188 : decode cX11_countsWithout 188 = .ok (.goto 4, 3) := by decide +kernel
theorem dX11_countsWithout_191 : decode cX11_countsWithout 191 = .ok (.iconst 0, 1) := by decide +kernel
theorem dX11_countsWithout_192 : decode cX11_countsWithout 192 = .ok (.isub, 1) := by decide +kernel
theorem dX11_countsWithout_193 : decode cX11_countsWithout 193 = .ok (.goto 4, 3) := by decide +kernel
theorem dX11_countsWithout_196 : decode cX11_countsWithout 196 = .ok (.iload_n 3, 1) := by decide +kernel
theorem dX11_countsWithout_197 : decode cX11_countsWithout 197 = .ok (.istore_n 3, 1) := by decide +kernel
theorem dX11_countsWithout_198 : decode cX11_countsWithout 198 = .ok (.iinc 4 1, 3) := by decide +kernel
theorem dX11_countsWithout_201 : decode cX11_countsWithout 201 = .ok (.goto (-173), 3) := by decide +kernel
theorem dX11_countsWithout_204 : decode cX11_countsWithout 204 = .ok (.iload_n 3, 1) := by decide +kernel
theorem dX11_countsWithout_205 : decode cX11_countsWithout 205 = .ok (.ireturn, 1) := by decide +kernel
theorem dX11_falls_0 : decode cX11_falls 0 = .ok (.aload_n 0, 1) := by decide +kernel
theorem dX11_falls_1 : decode cX11_falls 1 = .ok (.iconst 0, 1) := by decide +kernel
theorem dX11_falls_2 : decode cX11_falls 2 = .ok (.putfield 99, 3) := by decide +kernel
theorem dX11_falls_5 : decode cX11_falls 5 = .ok (.aload_n 0, 1) := by decide +kernel
theorem dX11_falls_6 : decode cX11_falls 6 = .ok (.invokevirtual 316, 3) := by decide +kernel
theorem dX11_falls_9 : decode cX11_falls 9 = .ok (.ifCond .eq 15, 3) := by decide +kernel
theorem dX11_falls_12 : decode cX11_falls 12 = .ok (.iload_n 1, 1) := by decide +kernel
theorem dX11_falls_13 : decode cX11_falls 13 = .ok (.i2l, 1) := by decide +kernel
theorem dX11_falls_14 : decode cX11_falls 14 = .ok (.lconst 0, 1) := by decide +kernel
theorem dX11_falls_15 : decode cX11_falls 15 = .ok (.ldc2_w 435, 3) := by decide +kernel
theorem dX11_falls_18 : decode cX11_falls 18 = .ok (.invokestatic 104, 3) := by decide +kernel
theorem dX11_falls_21 : decode cX11_falls 21 = .ok (.ifCond .ne 7, 3) := by decide +kernel
theorem dX11_falls_24 : decode cX11_falls 24 = .ok (.ldc2_w 212, 3) := by decide +kernel
theorem dX11_falls_27 : decode cX11_falls 27 = .ok (.lreturn, 1) := by decide +kernel
theorem dX11_falls_28 : decode cX11_falls 28 = .ok (.aload_n 0, 1) := by decide +kernel
theorem dX11_falls_29 : decode cX11_falls 29 = .ok (.invokevirtual 429, 3) := by decide +kernel
theorem dX11_falls_32 : decode cX11_falls 32 = .ok (.lconst 0, 1) := by decide +kernel
theorem dX11_falls_33 : decode cX11_falls 33 = .ok (.lstore_n 2, 1) := by decide +kernel
theorem dX11_falls_34 : decode cX11_falls 34 = .ok (.iconst 0, 1) := by decide +kernel
theorem dX11_falls_35 : decode cX11_falls 35 = .ok (.istore 4, 2) := by decide +kernel
theorem dX11_falls_37 : decode cX11_falls 37 = .ok (.iload 4, 2) := by decide +kernel
theorem dX11_falls_39 : decode cX11_falls 39 = .ok (.iconst 1, 1) := by decide +kernel
theorem dX11_falls_40 : decode cX11_falls 40 = .ok (.aload_n 0, 1) := by decide +kernel
theorem dX11_falls_41 : decode cX11_falls 41 = .ok (.getfield 422, 3) := by decide +kernel
theorem dX11_falls_44 : decode cX11_falls 44 = .ok (.ishl, 1) := by decide +kernel
theorem dX11_falls_45 : decode cX11_falls 45 = .ok (.if_icmp .ge 32, 3) := by decide +kernel
theorem dX11_falls_48 : decode cX11_falls 48 = .ok (.lload_n 2, 1) := by decide +kernel
theorem dX11_falls_49 : decode cX11_falls 49 = .ok (.iload 4, 2) := by decide +kernel
theorem dX11_falls_51 : decode cX11_falls 51 = .ok (.invokestatic 379, 3) := by decide +kernel
theorem dX11_falls_54 : decode cX11_falls 54 = .ok (.iload_n 1, 1) := by decide +kernel
theorem dX11_falls_55 : decode cX11_falls 55 = .ok (.if_icmp .ne 13, 3) := by decide +kernel
theorem dX11_falls_58 : decode cX11_falls 58 = .ok (.aload_n 0, 1) := by decide +kernel
theorem dX11_falls_59 : decode cX11_falls 59 = .ok (.getfield 90, 3) := by decide +kernel
theorem dX11_falls_62 : decode cX11_falls 62 = .ok (.iload 4, 2) := by decide +kernel
theorem dX11_falls_64 : decode cX11_falls 64 = .ok (.laload, 1) := by decide +kernel
theorem dX11_falls_65 : decode cX11_falls 65 = .ok (.goto 4, 3) := by decide +kernel
theorem dX11_falls_68 : decode cX11_falls 68 = .ok (.lconst 0, 1) := by decide +kernel
theorem dX11_falls_69 : decode cX11_falls 69 = .ok (.ladd, 1) := by decide +kernel
theorem dX11_falls_70 : decode cX11_falls 70 = .ok (.lstore_n 2, 1) := by decide +kernel
theorem dX11_falls_71 : decode cX11_falls 71 = .ok (.iinc 4 1, 3) := by decide +kernel
theorem dX11_falls_74 : decode cX11_falls 74 = .ok (.goto (-37), 3) := by decide +kernel
theorem dX11_falls_77 : decode cX11_falls 77 = .ok (.lload_n 2, 1) := by decide +kernel
theorem dX11_falls_78 : decode cX11_falls 78 = .ok (.lreturn, 1) := by decide +kernel
theorem dX11_gale_0 : decode cX11_gale 0 = .ok (.aload_n 0, 1) := by decide +kernel
theorem dX11_gale_1 : decode cX11_gale 1 = .ok (.iconst 0, 1) := by decide +kernel
theorem dX11_gale_2 : decode cX11_gale 2 = .ok (.putfield 99, 3) := by decide +kernel
theorem dX11_gale_5 : decode cX11_gale 5 = .ok (.aload_n 0, 1) := by decide +kernel
theorem dX11_gale_6 : decode cX11_gale 6 = .ok (.invokevirtual 316, 3) := by decide +kernel
theorem dX11_gale_9 : decode cX11_gale 9 = .ok (.ifCond .eq 15, 3) := by decide +kernel
theorem dX11_gale_12 : decode cX11_gale 12 = .ok (.iload_n 1, 1) := by decide +kernel
theorem dX11_gale_13 : decode cX11_gale 13 = .ok (.i2l, 1) := by decide +kernel
theorem dX11_gale_14 : decode cX11_gale 14 = .ok (.lconst 0, 1) := by decide +kernel
theorem dX11_gale_15 : decode cX11_gale 15 = .ok (.ldc2_w 346, 3) := by decide +kernel
theorem dX11_gale_18 : decode cX11_gale 18 = .ok (.invokestatic 104, 3) := by decide +kernel
theorem dX11_gale_21 : decode cX11_gale 21 = .ok (.ifCond .ne 7, 3) := by decide +kernel
theorem dX11_gale_24 : decode cX11_gale 24 = .ok (.ldc2_w 212, 3) := by decide +kernel
theorem dX11_gale_27 : decode cX11_gale 27 = .ok (.lreturn, 1) := by decide +kernel
theorem dX11_gale_28 : decode cX11_gale 28 = .ok (.aload_n 0, 1) := by decide +kernel
theorem dX11_gale_29 : decode cX11_gale 29 = .ok (.invokevirtual 429, 3) := by decide +kernel
theorem dX11_gale_32 : decode cX11_gale 32 = .ok (.lconst 0, 1) := by decide +kernel
theorem dX11_gale_33 : decode cX11_gale 33 = .ok (.lstore_n 2, 1) := by decide +kernel
theorem dX11_gale_34 : decode cX11_gale 34 = .ok (.iconst 0, 1) := by decide +kernel
theorem dX11_gale_35 : decode cX11_gale 35 = .ok (.istore 4, 2) := by decide +kernel
theorem dX11_gale_37 : decode cX11_gale 37 = .ok (.iload 4, 2) := by decide +kernel
theorem dX11_gale_39 : decode cX11_gale 39 = .ok (.iconst 1, 1) := by decide +kernel
theorem dX11_gale_40 : decode cX11_gale 40 = .ok (.aload_n 0, 1) := by decide +kernel
theorem dX11_gale_41 : decode cX11_gale 41 = .ok (.getfield 422, 3) := by decide +kernel
theorem dX11_gale_44 : decode cX11_gale 44 = .ok (.ishl, 1) := by decide +kernel
theorem dX11_gale_45 : decode cX11_gale 45 = .ok (.if_icmp .ge 78, 3) := by decide +kernel
theorem dX11_gale_48 : decode cX11_gale 48 = .ok (.aload_n 0, 1) := by decide +kernel
theorem dX11_gale_49 : decode cX11_gale 49 = .ok (.getfield 90, 3) := by decide +kernel
theorem dX11_gale_52 : decode cX11_gale 52 = .ok (.iload 4, 2) := by decide +kernel
theorem dX11_gale_54 : decode cX11_gale 54 = .ok (.laload, 1) := by decide +kernel
theorem dX11_gale_55 : decode cX11_gale 55 = .ok (.lconst 0, 1) := by decide +kernel
theorem dX11_gale_56 : decode cX11_gale 56 = .ok (.lcmp, 1) := by decide +kernel
theorem dX11_gale_57 : decode cX11_gale 57 = .ok (.ifCond .ne 6, 3) := by decide +kernel
theorem dX11_gale_60 : decode cX11_gale 60 = .ok (.goto 57, 3) := by decide +kernel
theorem dX11_gale_63 : decode cX11_gale 63 = .ok (.aload_n 0, 1) := by decide +kernel
theorem dX11_gale_64 : decode cX11_gale 64 = .ok (.iconst 0, 1) := by decide +kernel
theorem dX11_gale_65 : decode cX11_gale 65 = .ok (.iload 4, 2) := by decide +kernel
theorem dX11_gale_67 : decode cX11_gale 67 = .ok (.invokevirtual 432, 3) := by decide +kernel
theorem dX11_gale_70 : decode cX11_gale 70 = .ok (.aload_n 0, 1) := by decide +kernel
theorem dX11_gale_71 : decode cX11_gale 71 = .ok (.iconst 1, 1) := by decide +kernel
theorem dX11_gale_72 : decode cX11_gale 72 = .ok (.iload 4, 2) := by decide +kernel
theorem dX11_gale_74 : decode cX11_gale 74 = .ok (.invokevirtual 432, 3) := by decide +kernel
theorem dX11_gale_77 : decode cX11_gale 77 = .ok (.isub, 1) := by decide +kernel
theorem dX11_gale_78 : decode cX11_gale 78 = .ok (.istore 5, 2) := by decide +kernel
theorem dX11_gale_80 : decode cX11_gale 80 = .ok (.lload_n 2, 1) := by decide +kernel
theorem dX11_gale_81 : decode cX11_gale 81 = .ok (.iload 5, 2) := by decide +kernel
theorem dX11_gale_83 : decode cX11_gale 83 = .ok (.ifCond .le 7, 3) := by decide +kernel
theorem dX11_gale_86 : decode cX11_gale 86 = .ok (.iconst 0, 1) := by decide +kernel
theorem dX11_gale_87 : decode cX11_gale 87 = .ok (.goto 13, 3) := by decide +kernel
theorem dX11_gale_90 : decode cX11_gale 90 = .ok (.iload 5, 2) := by decide +kernel
theorem dX11_gale_92 : decode cX11_gale 92 = .ok (.ifCond .ge 7, 3) := by decide +kernel
theorem dX11_gale_95 : decode cX11_gale 95 = .ok (.iconst 1, 1) := by decide +kernel
theorem dX11_gale_96 : decode cX11_gale 96 = .ok (.goto 4, 3) := by decide +kernel
theorem dX11_gale_99 : decode cX11_gale 99 = .ok (.iconst 2, 1) := by decide +kernel
theorem dX11_gale_100 : decode cX11_gale 100 = .ok (.iload_n 1, 1) := by decide +kernel
theorem dX11_gale_101 : decode cX11_gale 101 = .ok (.if_icmp .ne 13, 3) := by decide +kernel
theorem dX11_gale_104 : decode cX11_gale 104 = .ok (.aload_n 0, 1) := by decide +kernel
theorem dX11_gale_105 : decode cX11_gale 105 = .ok (.getfield 90, 3) := by decide +kernel
theorem dX11_gale_108 : decode cX11_gale 108 = .ok (.iload 4, 2) := by decide +kernel
theorem dX11_gale_110 : decode cX11_gale 110 = .ok (.laload, 1) := by decide +kernel
theorem dX11_gale_111 : decode cX11_gale 111 = .ok (.goto 4, 3) := by decide +kernel
theorem dX11_gale_114 : decode cX11_gale 114 = .ok (.lconst 0, 1) := by decide +kernel
theorem dX11_gale_115 : decode cX11_gale 115 = .ok (.ladd, 1) := by decide +kernel
theorem dX11_gale_116 : decode cX11_gale 116 = .ok (.lstore_n 2, 1) := by decide +kernel
theorem dX11_gale_117 : decode cX11_gale 117 = .ok (.iinc 4 1, 3) := by decide +kernel
theorem dX11_gale_120 : decode cX11_gale 120 = .ok (.goto (-83), 3) := by decide +kernel
theorem dX11_gale_123 : decode cX11_gale 123 = .ok (.lload_n 2, 1) := by decide +kernel
theorem dX11_gale_124 : decode cX11_gale 124 = .ok (.lreturn, 1) := by decide +kernel
theorem dX11_mean_0 : decode cX11_mean 0 = .ok (.aload_n 0, 1) := by decide +kernel
theorem dX11_mean_1 : decode cX11_mean 1 = .ok (.iconst 0, 1) := by decide +kernel
theorem dX11_mean_2 : decode cX11_mean 2 = .ok (.putfield 99, 3) := by decide +kernel
theorem dX11_mean_5 : decode cX11_mean 5 = .ok (.aload_n 0, 1) := by decide +kernel
theorem dX11_mean_6 : decode cX11_mean 6 = .ok (.invokevirtual 316, 3) := by decide +kernel
theorem dX11_mean_9 : decode cX11_mean 9 = .ok (.ifCond .eq 10, 3) := by decide +kernel
theorem dX11_mean_12 : decode cX11_mean 12 = .ok (.iload_n 1, 1) := by decide +kernel
theorem dX11_mean_13 : decode cX11_mean 13 = .ok (.invokestatic 283, 3) := by decide +kernel
theorem dX11_mean_16 : decode cX11_mean 16 = .ok (.ifCond .ne 7, 3) := by decide +kernel
theorem dX11_mean_19 : decode cX11_mean 19 = .ok (.ldc2_w 212, 3) := by decide +kernel
theorem dX11_mean_22 : decode cX11_mean 22 = .ok (.lreturn, 1) := by decide +kernel
theorem dX11_mean_23 : decode cX11_mean 23 = .ok (.aload_n 0, 1) := by decide +kernel
theorem dX11_mean_24 : decode cX11_mean 24 = .ok (.invokevirtual 429, 3) := by decide +kernel
theorem dX11_mean_27 : decode cX11_mean 27 = .ok (.lconst 0, 1) := by decide +kernel
theorem dX11_mean_28 : decode cX11_mean 28 = .ok (.lstore_n 2, 1) := by decide +kernel
theorem dX11_mean_29 : decode cX11_mean 29 = .ok (.iconst 0, 1) := by decide +kernel
theorem dX11_mean_30 : decode cX11_mean 30 = .ok (.istore 4, 2) := by decide +kernel
theorem dX11_mean_32 : decode cX11_mean 32 = .ok (.iload 4, 2) := by decide +kernel
theorem dX11_mean_34 : decode cX11_mean 34 = .ok (.iconst 1, 1) := by decide +kernel
theorem dX11_mean_35 : decode cX11_mean 35 = .ok (.aload_n 0, 1) := by decide +kernel
theorem dX11_mean_36 : decode cX11_mean 36 = .ok (.getfield 422, 3) := by decide +kernel
theorem dX11_mean_39 : decode cX11_mean 39 = .ok (.ishl, 1) := by decide +kernel
theorem dX11_mean_40 : decode cX11_mean 40 = .ok (.if_icmp .ge 40, 3) := by decide +kernel
theorem dX11_mean_43 : decode cX11_mean 43 = .ok (.aload_n 0, 1) := by decide +kernel
theorem dX11_mean_44 : decode cX11_mean 44 = .ok (.getfield 90, 3) := by decide +kernel
theorem dX11_mean_47 : decode cX11_mean 47 = .ok (.iload 4, 2) := by decide +kernel
theorem dX11_mean_49 : decode cX11_mean 49 = .ok (.laload, 1) := by decide +kernel
theorem dX11_mean_50 : decode cX11_mean 50 = .ok (.lconst 0, 1) := by decide +kernel
theorem dX11_mean_51 : decode cX11_mean 51 = .ok (.lcmp, 1) := by decide +kernel
theorem dX11_mean_52 : decode cX11_mean 52 = .ok (.ifCond .eq 22, 3) := by decide +kernel
theorem dX11_mean_55 : decode cX11_mean 55 = .ok (.lload_n 2, 1) := by decide +kernel
theorem dX11_mean_56 : decode cX11_mean 56 = .ok (.aload_n 0, 1) := by decide +kernel
theorem dX11_mean_57 : decode cX11_mean 57 = .ok (.getfield 90, 3) := by decide +kernel
theorem dX11_mean_60 : decode cX11_mean 60 = .ok (.iload 4, 2) := by decide +kernel
theorem dX11_mean_62 : decode cX11_mean 62 = .ok (.laload, 1) := by decide +kernel
theorem dX11_mean_63 : decode cX11_mean 63 = .ok (.aload_n 0, 1) := by decide +kernel
theorem dX11_mean_64 : decode cX11_mean 64 = .ok (.iload_n 1, 1) := by decide +kernel
theorem dX11_mean_65 : decode cX11_mean 65 = .ok (.iload 4, 2) := by decide +kernel
theorem dX11_mean_67 : decode cX11_mean 67 = .ok (.invokevirtual 432, 3) := by decide +kernel
theorem dX11_mean_70 : decode cX11_mean 70 = .ok (.i2l, 1) := by decide +kernel
theorem dX11_mean_71 : decode cX11_mean 71 = .ok (.lmul, 1) := by decide +kernel
theorem dX11_mean_72 : decode cX11_mean 72 = .ok (.ladd, 1) := by decide +kernel
theorem dX11_mean_73 : decode cX11_mean 73 = .ok (.lstore_n 2, 1) := by decide +kernel
theorem dX11_mean_74 : decode cX11_mean 74 = .ok (.iinc 4 1, 3) := by decide +kernel
theorem dX11_mean_77 : decode cX11_mean 77 = .ok (.goto (-45), 3) := by decide +kernel
theorem dX11_mean_80 : decode cX11_mean 80 = .ok (.lload_n 2, 1) := by decide +kernel
theorem dX11_mean_81 : decode cX11_mean 81 = .ok (.ldc2_w 442, 3) := by decide +kernel
theorem dX11_mean_84 : decode cX11_mean 84 = .ok (.ldiv, 1) := by decide +kernel
theorem dX11_mean_85 : decode cX11_mean 85 = .ok (.lreturn, 1) := by decide +kernel
