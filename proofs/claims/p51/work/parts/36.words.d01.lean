theorem dX1_readSort_84 : decode cX1_readSort 84 = .ok (.dup, 1) := by decide +kernel
theorem dX1_readSort_85 : decode cX1_readSort 85 = .ok (.getfield 127, 3) := by decide +kernel
theorem dX1_readSort_88 : decode cX1_readSort 88 = .ok (.iconst 1, 1) := by decide +kernel
theorem dX1_readSort_89 : decode cX1_readSort 89 = .ok (.iadd, 1) := by decide +kernel
theorem dX1_readSort_90 : decode cX1_readSort 90 = .ok (.putfield 127, 3) := by decide +kernel
theorem dX1_readSort_93 : decode cX1_readSort 93 = .ok (.return_, 1) := by decide +kernel
theorem dX1_readVoter_0 : decode cX1_readVoter 0 = .ok (.aload_n 0, 1) := by decide +kernel
theorem dX1_readVoter_1 : decode cX1_readVoter 1 = .ok (.getfield 12, 3) := by decide +kernel
theorem dX1_readVoter_4 : decode cX1_readVoter 4 = .ok (.getfield 143, 3) := by decide +kernel
theorem dX1_readVoter_7 : decode cX1_readVoter 7 = .ok (.istore_n 1, 1) := by decide +kernel
theorem dX1_readVoter_8 : decode cX1_readVoter 8 = .ok (.iload_n 1, 1) := by decide +kernel
theorem dX1_readVoter_9 : decode cX1_readVoter 9 = .ok (.bipush 10, 2) := by decide +kernel
theorem dX1_readVoter_11 : decode cX1_readVoter 11 = .ok (.if_icmp .lt 10, 3) := by decide +kernel
theorem dX1_readVoter_14 : decode cX1_readVoter 14 = .ok (.aload_n 0, 1) := by decide +kernel
theorem dX1_readVoter_15 : decode cX1_readVoter 15 = .ok (.iconst 1, 1) := by decide +kernel
theorem dX1_readVoter_16 : decode cX1_readVoter 16 = .ok (.iconst 3, 1) := by decide +kernel
theorem dX1_readVoter_17 : decode cX1_readVoter 17 = .ok (.invokevirtual 70, 3) := by decide +kernel
theorem dX1_readVoter_20 : decode cX1_readVoter 20 = .ok (.return_, 1) := by decide +kernel
theorem dX1_readVoter_21 : decode cX1_readVoter 21 = .ok (.aload_n 0, 1) := by decide +kernel
theorem dX1_readVoter_22 : decode cX1_readVoter 22 = .ok (.ldc 54, 2) := by decide +kernel
theorem dX1_readVoter_24 : decode cX1_readVoter 24 = .ok (.invokevirtual 106, 3) := by decide +kernel
theorem dX1_readVoter_27 : decode cX1_readVoter 27 = .ok (.aload_n 0, 1) := by decide +kernel
theorem dX1_readVoter_28 : decode cX1_readVoter 28 = .ok (.getfield 12, 3) := by decide +kernel
theorem dX1_readVoter_31 : decode cX1_readVoter 31 = .ok (.getfield 146, 3) := by decide +kernel
theorem dX1_readVoter_34 : decode cX1_readVoter 34 = .ok (.iload_n 1, 1) := by decide +kernel
theorem dX1_readVoter_35 : decode cX1_readVoter 35 = .ok (.aload_n 0, 1) := by decide +kernel
theorem dX1_readVoter_36 : decode cX1_readVoter 36 = .ok (.invokevirtual 149, 3) := by decide +kernel
theorem dX1_readVoter_39 : decode cX1_readVoter 39 = .ok (.iastore, 1) := by decide +kernel
theorem dX1_readVoter_40 : decode cX1_readVoter 40 = .ok (.aload_n 0, 1) := by decide +kernel
theorem dX1_readVoter_41 : decode cX1_readVoter 41 = .ok (.getfield 12, 3) := by decide +kernel
theorem dX1_readVoter_44 : decode cX1_readVoter 44 = .ok (.getfield 153, 3) := by decide +kernel
theorem dX1_readVoter_47 : decode cX1_readVoter 47 = .ok (.iload_n 1, 1) := by decide +kernel
theorem dX1_readVoter_48 : decode cX1_readVoter 48 = .ok (.aload_n 0, 1) := by decide +kernel
theorem dX1_readVoter_49 : decode cX1_readVoter 49 = .ok (.invokevirtual 156, 3) := by decide +kernel
theorem dX1_readVoter_52 : decode cX1_readVoter 52 = .ok (.iastore, 1) := by decide +kernel
theorem dX1_readVoter_53 : decode cX1_readVoter 53 = .ok (.aload_n 0, 1) := by decide +kernel
theorem dX1_readVoter_54 : decode cX1_readVoter 54 = .ok (.getfield 12, 3) := by decide +kernel
theorem dX1_readVoter_57 : decode cX1_readVoter 57 = .ok (.getfield 159, 3) := by decide +kernel
theorem dX1_readVoter_60 : decode cX1_readVoter 60 = .ok (.iload_n 1, 1) := by decide +kernel
theorem dX1_readVoter_61 : decode cX1_readVoter 61 = .ok (.aload_n 0, 1) := by decide +kernel
theorem dX1_readVoter_62 : decode cX1_readVoter 62 = .ok (.ldc 162, 2) := by decide +kernel
theorem dX1_readVoter_64 : decode cX1_readVoter 64 = .ok (.invokevirtual 47, 3) := by decide +kernel
theorem dX1_readVoter_67 : decode cX1_readVoter 67 = .ok (.ifCond .eq 7, 3) := by decide +kernel
theorem dX1_readVoter_70 : decode cX1_readVoter 70 = .ok (.iconst 1, 1) := by decide +kernel
theorem dX1_readVoter_71 : decode cX1_readVoter 71 = .ok (.goto 4, 3) := by decide +kernel
theorem dX1_readVoter_74 : decode cX1_readVoter 74 = .ok (.iconst 0, 1) := by decide +kernel
theorem dX1_readVoter_75 : decode cX1_readVoter 75 = .ok (.iastore, 1) := by decide +kernel
theorem dX1_readVoter_76 : decode cX1_readVoter 76 = .ok (.aload_n 0, 1) := by decide +kernel
theorem dX1_readVoter_77 : decode cX1_readVoter 77 = .ok (.aload_n 0, 1) := by decide +kernel
theorem dX1_readVoter_78 : decode cX1_readVoter 78 = .ok (.getfield 12, 3) := by decide +kernel
theorem dX1_readVoter_81 : decode cX1_readVoter 81 = .ok (.getfield 159, 3) := by decide +kernel
theorem dX1_readVoter_84 : decode cX1_readVoter 84 = .ok (.iload_n 1, 1) := by decide +kernel
theorem dX1_readVoter_85 : decode cX1_readVoter 85 = .ok (.iaload, 1) := by decide +kernel
theorem dX1_readVoter_86 : decode cX1_readVoter 86 = .ok (.iconst 1, 1) := by decide +kernel
theorem dX1_readVoter_87 : decode cX1_readVoter 87 = .ok (.if_icmp .ne 8, 3) := by decide +kernel
theorem dX1_readVoter_90 : decode cX1_readVoter 90 = .ok (.ldc 162, 2) := by decide +kernel
theorem dX1_readVoter_92 : decode cX1_readVoter 92 = .ok (.goto 5, 3) := by decide +kernel
theorem dX1_readVoter_95 : decode cX1_readVoter 95 = .ok (.ldc 164, 2) := by decide +kernel
theorem dX1_readVoter_97 : decode cX1_readVoter 97 = .ok (.invokevirtual 106, 3) := by decide +kernel
theorem dX1_readVoter_100 : decode cX1_readVoter 100 = .ok (.aload_n 0, 1) := by decide +kernel
theorem dX1_readVoter_101 : decode cX1_readVoter 101 = .ok (.getfield 12, 3) := by decide +kernel
theorem dX1_readVoter_104 : decode cX1_readVoter 104 = .ok (.getfield 166, 3) := by decide +kernel
theorem dX1_readVoter_107 : decode cX1_readVoter 107 = .ok (.iload_n 1, 1) := by decide +kernel
theorem dX1_readVoter_108 : decode cX1_readVoter 108 = .ok (.aload_n 0, 1) := by decide +kernel
theorem dX1_readVoter_109 : decode cX1_readVoter 109 = .ok (.ldc 169, 2) := by decide +kernel
theorem dX1_readVoter_111 : decode cX1_readVoter 111 = .ok (.iconst 1, 1) := by decide +kernel
theorem dX1_readVoter_112 : decode cX1_readVoter 112 = .ok (.bipush 9, 2) := by decide +kernel
theorem dX1_readVoter_114 : decode cX1_readVoter 114 = .ok (.invokevirtual 74, 3) := by decide +kernel
theorem dX1_readVoter_117 : decode cX1_readVoter 117 = .ok (.iastore, 1) := by decide +kernel
theorem dX1_readVoter_118 : decode cX1_readVoter 118 = .ok (.aload_n 0, 1) := by decide +kernel
theorem dX1_readVoter_119 : decode cX1_readVoter 119 = .ok (.getfield 12, 3) := by decide +kernel
theorem dX1_readVoter_122 : decode cX1_readVoter 122 = .ok (.getfield 170, 3) := by decide +kernel
theorem dX1_readVoter_125 : decode cX1_readVoter 125 = .ok (.iload_n 1, 1) := by decide +kernel
theorem dX1_readVoter_126 : decode cX1_readVoter 126 = .ok (.aload_n 0, 1) := by decide +kernel
theorem dX1_readVoter_127 : decode cX1_readVoter 127 = .ok (.ldc 173, 2) := by decide +kernel
theorem dX1_readVoter_129 : decode cX1_readVoter 129 = .ok (.iconst 0, 1) := by decide +kernel
theorem dX1_readVoter_130 : decode cX1_readVoter 130 = .ok (.bipush 99, 2) := by decide +kernel
theorem dX1_readVoter_132 : decode cX1_readVoter 132 = .ok (.invokevirtual 74, 3) := by decide +kernel
theorem dX1_readVoter_135 : decode cX1_readVoter 135 = .ok (.iastore, 1) := by decide +kernel
theorem dX1_readVoter_136 : decode cX1_readVoter 136 = .ok (.aload_n 0, 1) := by decide +kernel
theorem dX1_readVoter_137 : decode cX1_readVoter 137 = .ok (.getfield 12, 3) := by decide +kernel
theorem dX1_readVoter_140 : decode cX1_readVoter 140 = .ok (.getfield 174, 3) := by decide +kernel
theorem dX1_readVoter_143 : decode cX1_readVoter 143 = .ok (.iload_n 1, 1) := by decide +kernel
theorem dX1_readVoter_144 : decode cX1_readVoter 144 = .ok (.aload_n 0, 1) := by decide +kernel
theorem dX1_readVoter_145 : decode cX1_readVoter 145 = .ok (.ldc 177, 2) := by decide +kernel
theorem dX1_readVoter_147 : decode cX1_readVoter 147 = .ok (.invokevirtual 47, 3) := by decide +kernel
theorem dX1_readVoter_150 : decode cX1_readVoter 150 = .ok (.ifCond .eq 15, 3) := by decide +kernel
theorem dX1_readVoter_153 : decode cX1_readVoter 153 = .ok (.aload_n 0, 1) := by decide +kernel
theorem dX1_readVoter_154 : decode cX1_readVoter 154 = .ok (.ldc 177, 2) := by decide +kernel
theorem dX1_readVoter_156 : decode cX1_readVoter 156 = .ok (.iconst 0, 1) := by decide +kernel
theorem dX1_readVoter_157 : decode cX1_readVoter 157 = .ok (.bipush 99, 2) := by decide +kernel
theorem dX1_readVoter_159 : decode cX1_readVoter 159 = .ok (.invokevirtual 74, 3) := by decide +kernel
theorem dX1_readVoter_162 : decode cX1_readVoter 162 = .ok (.goto 4, 3) := by decide +kernel
theorem dX1_readVoter_165 : decode cX1_readVoter 165 = .ok (.iconst 0, 1) := by decide +kernel
theorem dX1_readVoter_166 : decode cX1_readVoter 166 = .ok (.iastore, 1) := by decide +kernel
theorem dX1_readVoter_167 : decode cX1_readVoter 167 = .ok (.aload_n 0, 1) := by decide +kernel
theorem dX1_readVoter_168 : decode cX1_readVoter 168 = .ok (.getfield 12, 3) := by decide +kernel
theorem dX1_readVoter_171 : decode cX1_readVoter 171 = .ok (.getfield 178, 3) := by decide +kernel
theorem dX1_readVoter_174 : decode cX1_readVoter 174 = .ok (.iload_n 1, 1) := by decide +kernel
theorem dX1_readVoter_175 : decode cX1_readVoter 175 = .ok (.aload_n 0, 1) := by decide +kernel
theorem dX1_readVoter_176 : decode cX1_readVoter 176 = .ok (.ldc 181, 2) := by decide +kernel
theorem dX1_readVoter_178 : decode cX1_readVoter 178 = .ok (.invokevirtual 47, 3) := by decide +kernel
theorem dX1_readVoter_181 : decode cX1_readVoter 181 = .ok (.ifCond .eq 23, 3) := by decide +kernel
theorem dX1_readVoter_184 : decode cX1_readVoter 184 = .ok (.aload_n 0, 1) := by decide +kernel
theorem dX1_readVoter_185 : decode cX1_readVoter 185 = .ok (.ldc 181, 2) := by decide +kernel
theorem dX1_readVoter_187 : decode cX1_readVoter 187 = .ok (.aload_n 0, 1) := by decide +kernel
theorem dX1_readVoter_188 : decode cX1_readVoter 188 = .ok (.getfield 12, 3) := by decide +kernel
theorem dX1_readVoter_191 : decode cX1_readVoter 191 = .ok (.getfield 174, 3) := by decide +kernel
theorem dX1_readVoter_194 : decode cX1_readVoter 194 = .ok (.iload_n 1, 1) := by decide +kernel
theorem dX1_readVoter_195 : decode cX1_readVoter 195 = .ok (.iaload, 1) := by decide +kernel
theorem dX1_readVoter_196 : decode cX1_readVoter 196 = .ok (.bipush 99, 2) := by decide +kernel
theorem dX1_readVoter_198 : decode cX1_readVoter 198 = .ok (.invokevirtual 74, 3) := by decide +kernel
theorem dX1_readVoter_201 : decode cX1_readVoter 201 = .ok (.goto 5, 3) := by decide +kernel
theorem dX1_readVoter_204 : decode cX1_readVoter 204 = .ok (.bipush 99, 2) := by decide +kernel
theorem dX1_readVoter_206 : decode cX1_readVoter 206 = .ok (.iastore, 1) := by decide +kernel
theorem dX1_readVoter_207 : decode cX1_readVoter 207 = .ok (.aload_n 0, 1) := by decide +kernel
theorem dX1_readVoter_208 : decode cX1_readVoter 208 = .ok (.getfield 12, 3) := by decide +kernel
theorem dX1_readVoter_211 : decode cX1_readVoter 211 = .ok (.dup, 1) := by decide +kernel
theorem dX1_readVoter_212 : decode cX1_readVoter 212 = .ok (.getfield 143, 3) := by decide +kernel
theorem dX1_readVoter_215 : decode cX1_readVoter 215 = .ok (.iconst 1, 1) := by decide +kernel
theorem dX1_readVoter_216 : decode cX1_readVoter 216 = .ok (.iadd, 1) := by decide +kernel
theorem dX1_readVoter_217 : decode cX1_readVoter 217 = .ok (.putfield 143, 3) := by decide +kernel
theorem dX1_readVoter_220 : decode cX1_readVoter 220 = .ok (.return_, 1) := by decide +kernel
theorem dX1_readWall_0 : decode cX1_readWall 0 = .ok (.aload_n 0, 1) := by decide +kernel
theorem dX1_readWall_1 : decode cX1_readWall 1 = .ok (.ldc 113, 2) := by decide +kernel
theorem dX1_readWall_3 : decode cX1_readWall 3 = .ok (.invokevirtual 106, 3) := by decide +kernel
theorem dX1_readWall_6 : decode cX1_readWall 6 = .ok (.aload_n 0, 1) := by decide +kernel
theorem dX1_readWall_7 : decode cX1_readWall 7 = .ok (.getfield 12, 3) := by decide +kernel
theorem dX1_readWall_10 : decode cX1_readWall 10 = .ok (.aload_n 0, 1) := by decide +kernel
theorem dX1_readWall_11 : decode cX1_readWall 11 = .ok (.ldc 115, 2) := by decide +kernel
theorem dX1_readWall_13 : decode cX1_readWall 13 = .ok (.iconst 1, 1) := by decide +kernel
theorem dX1_readWall_14 : decode cX1_readWall 14 = .ok (.bipush 8, 2) := by decide +kernel
theorem dX1_readWall_16 : decode cX1_readWall 16 = .ok (.invokevirtual 74, 3) := by decide +kernel
theorem dX1_readWall_19 : decode cX1_readWall 19 = .ok (.putfield 117, 3) := by decide +kernel
theorem dX1_readWall_22 : decode cX1_readWall 22 = .ok (.aload_n 0, 1) := by decide +kernel
theorem dX1_readWall_23 : decode cX1_readWall 23 = .ok (.getfield 12, 3) := by decide +kernel
theorem dX1_readWall_26 : decode cX1_readWall 26 = .ok (.aload_n 0, 1) := by decide +kernel
theorem dX1_readWall_27 : decode cX1_readWall 27 = .ok (.ldc 119, 2) := by decide +kernel
theorem dX1_readWall_29 : decode cX1_readWall 29 = .ok (.iconst 1, 1) := by decide +kernel
theorem dX1_readWall_30 : decode cX1_readWall 30 = .ok (.bipush 12, 2) := by decide +kernel
theorem dX1_readWall_32 : decode cX1_readWall 32 = .ok (.invokevirtual 74, 3) := by decide +kernel
theorem dX1_readWall_35 : decode cX1_readWall 35 = .ok (.putfield 121, 3) := by decide +kernel
theorem dX1_readWall_38 : decode cX1_readWall 38 = .ok (.aload_n 0, 1) := by decide +kernel
theorem dX1_readWall_39 : decode cX1_readWall 39 = .ok (.getfield 12, 3) := by decide +kernel
theorem dX1_readWall_42 : decode cX1_readWall 42 = .ok (.aload_n 0, 1) := by decide +kernel
theorem dX1_readWall_43 : decode cX1_readWall 43 = .ok (.ldc 123, 2) := by decide +kernel
theorem dX1_readWall_45 : decode cX1_readWall 45 = .ok (.iconst 1, 1) := by decide +kernel
theorem dX1_readWall_46 : decode cX1_readWall 46 = .ok (.bipush 12, 2) := by decide +kernel
theorem dX1_readWall_48 : decode cX1_readWall 48 = .ok (.invokevirtual 74, 3) := by decide +kernel
theorem dX1_readWall_51 : decode cX1_readWall 51 = .ok (.putfield 125, 3) := by decide +kernel
theorem dX1_readWall_54 : decode cX1_readWall 54 = .ok (.return_, 1) := by decide +kernel
theorem dX1_readWants_0 : decode cX1_readWants 0 = .ok (.iconst 0, 1) := by decide +kernel
theorem dX1_readWants_1 : decode cX1_readWants 1 = .ok (.istore_n 1, 1) := by decide +kernel
theorem dX1_readWants_2 : decode cX1_readWants 2 = .ok (.aload_n 0, 1) := by decide +kernel
theorem dX1_readWants_3 : decode cX1_readWants 3 = .ok (.ldc 183, 2) := by decide +kernel
theorem dX1_readWants_5 : decode cX1_readWants 5 = .ok (.invokevirtual 47, 3) := by decide +kernel
theorem dX1_readWants_8 : decode cX1_readWants 8 = .ok (.ifCond .eq 8, 3) := by decide +kernel
theorem dX1_readWants_11 : decode cX1_readWants 11 = .ok (.iconst 1, 1) := by decide +kernel
theorem dX1_readWants_12 : decode cX1_readWants 12 = .ok (.istore_n 1, 1) := by decide +kernel
theorem dX1_readWants_13 : decode cX1_readWants 13 = .ok (.goto 50, 3) := by decide +kernel
theorem dX1_readWants_16 : decode cX1_readWants 16 = .ok (.aload_n 0, 1) := by decide +kernel
theorem dX1_readWants_17 : decode cX1_readWants 17 = .ok (.ldc 185, 2) := by decide +kernel
theorem dX1_readWants_19 : decode cX1_readWants 19 = .ok (.invokevirtual 47, 3) := by decide +kernel
theorem dX1_readWants_22 : decode cX1_readWants 22 = .ok (.ifCond .eq 8, 3) := by decide +kernel
theorem dX1_readWants_25 : decode cX1_readWants 25 = .ok (.iconst 2, 1) := by decide +kernel
theorem dX1_readWants_26 : decode cX1_readWants 26 = .ok (.istore_n 1, 1) := by decide +kernel
theorem dX1_readWants_27 : decode cX1_readWants 27 = .ok (.goto 36, 3) := by decide +kernel
theorem dX1_readWants_30 : decode cX1_readWants 30 = .ok (.aload_n 0, 1) := by decide +kernel
theorem dX1_readWants_31 : decode cX1_readWants 31 = .ok (.ldc 187, 2) := by decide +kernel
theorem dX1_readWants_33 : decode cX1_readWants 33 = .ok (.invokevirtual 47, 3) := by decide +kernel
theorem dX1_readWants_36 : decode cX1_readWants 36 = .ok (.ifCond .eq 8, 3) := by decide +kernel
theorem dX1_readWants_39 : decode cX1_readWants 39 = .ok (.iconst 3, 1) := by decide +kernel
theorem dX1_readWants_40 : decode cX1_readWants 40 = .ok (.istore_n 1, 1) := by decide +kernel
theorem dX1_readWants_41 : decode cX1_readWants 41 = .ok (.goto 22, 3) := by decide +kernel
theorem dX1_readWants_44 : decode cX1_readWants 44 = .ok (.aload_n 0, 1) := by decide +kernel
theorem dX1_readWants_45 : decode cX1_readWants 45 = .ok (.aload_n 0, 1) := by decide +kernel
theorem dX1_readWants_46 : decode cX1_readWants 46 = .ok (.ldc 189, 2) := by decide +kernel
theorem dX1_readWants_48 : decode cX1_readWants 48 = .ok (.invokevirtual 47, 3) := by decide +kernel
theorem dX1_readWants_51 : decode cX1_readWants 51 = .ok (.ifCond .ne 7, 3) := by decide +kernel
theorem dX1_readWants_54 : decode cX1_readWants 54 = .ok (.iconst 1, 1) := by decide +kernel
theorem dX1_readWants_55 : decode cX1_readWants 55 = .ok (.goto 4, 3) := by decide +kernel
theorem dX1_readWants_58 : decode cX1_readWants 58 = .ok (.iconst 0, 1) := by decide +kernel
theorem dX1_readWants_59 : decode cX1_readWants 59 = .ok (.iconst 1, 1) := by decide +kernel
theorem dX1_readWants_60 : decode cX1_readWants 60 = .ok (.invokevirtual 70, 3) := by decide +kernel
theorem dX1_readWants_63 : decode cX1_readWants 63 = .ok (.aload_n 0, 1) := by decide +kernel
theorem dX1_readWants_64 : decode cX1_readWants 64 = .ok (.invokevirtual 101, 3) := by decide +kernel
theorem dX1_readWants_67 : decode cX1_readWants 67 = .ok (.iload_n 1, 1) := by decide +kernel
theorem dX1_readWants_68 : decode cX1_readWants 68 = .ok (.ireturn, 1) := by decide +kernel
theorem dX1_reads_0 : decode cX1_reads 0 = .ok (.aload_n 0, 1) := by decide +kernel
theorem dX1_reads_1 : decode cX1_reads 1 = .ok (.aload_n 1, 1) := by decide +kernel
theorem dX1_reads_2 : decode cX1_reads 2 = .ok (.invokevirtual 26, 3) := by decide +kernel
theorem dX1_reads_5 : decode cX1_reads 5 = .ok (.aload_n 0, 1) := by decide +kernel
theorem dX1_reads_6 : decode cX1_reads 6 = .ok (.getfield 30, 3) := by decide +kernel
theorem dX1_reads_9 : decode cX1_reads 9 = .ok (.aload_n 0, 1) := by decide +kernel
theorem dX1_reads_10 : decode cX1_reads 10 = .ok (.getfield 33, 3) := by decide +kernel
theorem dX1_reads_13 : decode cX1_reads 13 = .ok (.if_icmp .ge 11, 3) := by decide +kernel
theorem dX1_reads_16 : decode cX1_reads 16 = .ok (.aload_n 0, 1) := by decide +kernel
theorem dX1_reads_17 : decode cX1_reads 17 = .ok (.invokevirtual 36, 3) := by decide +kernel
theorem dX1_reads_20 : decode cX1_reads 20 = .ok (.aload_n 0, 1) := by decide +kernel
theorem dX1_reads_21 : decode cX1_reads 21 = .ok (.invokevirtual 39, 3) := by decide +kernel
theorem dX1_reads_24 : decode cX1_reads 24 = .ok (.iconst 0, 1) := by decide +kernel
theorem dX1_reads_25 : decode cX1_reads 25 = .ok (.istore_n 2, 1) := by decide +kernel
theorem dX1_reads_26 : decode cX1_reads 26 = .ok (.iload_n 2, 1) := by decide +kernel
theorem dX1_reads_27 : decode cX1_reads 27 = .ok (.sipush 1600, 3) := by decide +kernel
theorem dX1_reads_30 : decode cX1_reads 30 = .ok (.if_icmp .ge 168, 3) := by decide +kernel
theorem dX1_reads_33 : decode cX1_reads 33 = .ok (.aload_n 0, 1) := by decide +kernel
theorem dX1_reads_34 : decode cX1_reads 34 = .ok (.getfield 42, 3) := by decide +kernel
theorem dX1_reads_37 : decode cX1_reads 37 = .ok (.ifCond .ne 161, 3) := by decide +kernel
theorem dX1_reads_40 : decode cX1_reads 40 = .ok (.aload_n 0, 1) := by decide +kernel
theorem dX1_reads_41 : decode cX1_reads 41 = .ok (.getfield 30, 3) := by decide +kernel
theorem dX1_reads_44 : decode cX1_reads 44 = .ok (.aload_n 0, 1) := by decide +kernel
theorem dX1_reads_45 : decode cX1_reads 45 = .ok (.getfield 33, 3) := by decide +kernel
theorem dX1_reads_48 : decode cX1_reads 48 = .ok (.if_icmp .ge 150, 3) := by decide +kernel
theorem dX1_reads_51 : decode cX1_reads 51 = .ok (.aload_n 0, 1) := by decide +kernel
theorem dX1_reads_52 : decode cX1_reads 52 = .ok (.ldc 45, 2) := by decide +kernel
theorem dX1_reads_54 : decode cX1_reads 54 = .ok (.invokevirtual 47, 3) := by decide +kernel
theorem dX1_reads_57 : decode cX1_reads 57 = .ok (.ifCond .eq 10, 3) := by decide +kernel
theorem dX1_reads_60 : decode cX1_reads 60 = .ok (.aload_n 0, 1) := by decide +kernel
theorem dX1_reads_61 : decode cX1_reads 61 = .ok (.invokevirtual 51, 3) := by decide +kernel
theorem dX1_reads_64 : decode cX1_reads 64 = .ok (.goto 124, 3) := by decide +kernel
theorem dX1_reads_67 : decode cX1_reads 67 = .ok (.aload_n 0, 1) := by decide +kernel
theorem dX1_reads_68 : decode cX1_reads 68 = .ok (.ldc 54, 2) := by decide +kernel
theorem dX1_reads_70 : decode cX1_reads 70 = .ok (.invokevirtual 47, 3) := by decide +kernel
theorem dX1_reads_73 : decode cX1_reads 73 = .ok (.ifCond .eq 10, 3) := by decide +kernel
theorem dX1_reads_76 : decode cX1_reads 76 = .ok (.aload_n 0, 1) := by decide +kernel
theorem dX1_reads_77 : decode cX1_reads 77 = .ok (.invokevirtual 56, 3) := by decide +kernel
theorem dX1_reads_80 : decode cX1_reads 80 = .ok (.goto 108, 3) := by decide +kernel
theorem dX1_reads_83 : decode cX1_reads 83 = .ok (.aload_n 0, 1) := by decide +kernel
theorem dX1_reads_84 : decode cX1_reads 84 = .ok (.ldc 59, 2) := by decide +kernel
theorem dX1_reads_86 : decode cX1_reads 86 = .ok (.invokevirtual 47, 3) := by decide +kernel
theorem dX1_reads_89 : decode cX1_reads 89 = .ok (.ifCond .eq 10, 3) := by decide +kernel
theorem dX1_reads_92 : decode cX1_reads 92 = .ok (.aload_n 0, 1) := by decide +kernel
theorem dX1_reads_93 : decode cX1_reads 93 = .ok (.invokevirtual 61, 3) := by decide +kernel
theorem dX1_reads_96 : decode cX1_reads 96 = .ok (.goto 92, 3) := by decide +kernel
theorem dX1_reads_99 : decode cX1_reads 99 = .ok (.aload_n 0, 1) := by decide +kernel
theorem dX1_reads_100 : decode cX1_reads 100 = .ok (.ldc 64, 2) := by decide +kernel
theorem dX1_reads_102 : decode cX1_reads 102 = .ok (.invokevirtual 47, 3) := by decide +kernel
theorem dX1_reads_105 : decode cX1_reads 105 = .ok (.ifCond .eq 36, 3) := by decide +kernel
theorem dX1_reads_108 : decode cX1_reads 108 = .ok (.aload_n 0, 1) := by decide +kernel
theorem dX1_reads_109 : decode cX1_reads 109 = .ok (.aload_n 0, 1) := by decide +kernel
theorem dX1_reads_110 : decode cX1_reads 110 = .ok (.getfield 66, 3) := by decide +kernel
theorem dX1_reads_113 : decode cX1_reads 113 = .ok (.iconst 2, 1) := by decide +kernel
theorem dX1_reads_114 : decode cX1_reads 114 = .ok (.invokevirtual 70, 3) := by decide +kernel
theorem dX1_reads_117 : decode cX1_reads 117 = .ok (.aload_n 0, 1) := by decide +kernel
theorem dX1_reads_118 : decode cX1_reads 118 = .ok (.iconst 1, 1) := by decide +kernel
theorem dX1_reads_119 : decode cX1_reads 119 = .ok (.putfield 66, 3) := by decide +kernel
theorem dX1_reads_122 : decode cX1_reads 122 = .ok (.aload_n 0, 1) := by decide +kernel
theorem dX1_reads_123 : decode cX1_reads 123 = .ok (.getfield 12, 3) := by decide +kernel
theorem dX1_reads_126 : decode cX1_reads 126 = .ok (.aload_n 0, 1) := by decide +kernel
theorem dX1_reads_127 : decode cX1_reads 127 = .ok (.ldc 64, 2) := by decide +kernel
theorem dX1_reads_129 : decode cX1_reads 129 = .ok (.iconst 0, 1) := by decide +kernel
theorem dX1_reads_130 : decode cX1_reads 130 = .ok (.bipush 100, 2) := by decide +kernel
theorem dX1_reads_132 : decode cX1_reads 132 = .ok (.invokevirtual 74, 3) := by decide +kernel
theorem dX1_reads_135 : decode cX1_reads 135 = .ok (.putfield 78, 3) := by decide +kernel
theorem dX1_reads_138 : decode cX1_reads 138 = .ok (.goto 50, 3) := by decide +kernel
theorem dX1_reads_141 : decode cX1_reads 141 = .ok (.aload_n 0, 1) := by decide +kernel
theorem dX1_reads_142 : decode cX1_reads 142 = .ok (.aload_n 0, 1) := by decide +kernel
theorem dX1_reads_143 : decode cX1_reads 143 = .ok (.getfield 81, 3) := by decide +kernel
theorem dX1_reads_146 : decode cX1_reads 146 = .ok (.ifCond .eq 16, 3) := by decide +kernel
theorem dX1_reads_149 : decode cX1_reads 149 = .ok (.aload_n 0, 1) := by decide +kernel
theorem dX1_reads_150 : decode cX1_reads 150 = .ok (.ldc 84, 2) := by decide +kernel
theorem dX1_reads_152 : decode cX1_reads 152 = .ok (.invokevirtual 47, 3) := by decide +kernel
theorem dX1_reads_155 : decode cX1_reads 155 = .ok (.ifCond .eq 7, 3) := by decide +kernel
theorem dX1_reads_158 : decode cX1_reads 158 = .ok (.iconst 1, 1) := by decide +kernel
theorem dX1_reads_159 : decode cX1_reads 159 = .ok (.goto 4, 3) := by decide +kernel
theorem dX1_reads_162 : decode cX1_reads 162 = .ok (.iconst 0, 1) := by decide +kernel
theorem dX1_reads_163 : decode cX1_reads 163 = .ok (.iconst 2, 1) := by decide +kernel
theorem dX1_reads_164 : decode cX1_reads 164 = .ok (.invokevirtual 70, 3) := by decide +kernel
theorem dX1_reads_167 : decode cX1_reads 167 = .ok (.aload_n 0, 1) := by decide +kernel
theorem dX1_reads_168 : decode cX1_reads 168 = .ok (.iconst 1, 1) := by decide +kernel
theorem dX1_reads_169 : decode cX1_reads 169 = .ok (.putfield 81, 3) := by decide +kernel
theorem dX1_reads_172 : decode cX1_reads 172 = .ok (.aload_n 0, 1) := by decide +kernel
theorem dX1_reads_173 : decode cX1_reads 173 = .ok (.getfield 12, 3) := by decide +kernel
theorem dX1_reads_176 : decode cX1_reads 176 = .ok (.aload_n 0, 1) := by decide +kernel
theorem dX1_reads_177 : decode cX1_reads 177 = .ok (.ldc 84, 2) := by decide +kernel
theorem dX1_reads_179 : decode cX1_reads 179 = .ok (.iconst 0, 1) := by decide +kernel
theorem dX1_reads_180 : decode cX1_reads 180 = .ok (.bipush 99, 2) := by decide +kernel
theorem dX1_reads_182 : decode cX1_reads 182 = .ok (.invokevirtual 74, 3) := by decide +kernel
theorem dX1_reads_185 : decode cX1_reads 185 = .ok (.putfield 86, 3) := by decide +kernel
theorem dX1_reads_188 : decode cX1_reads 188 = .ok (.aload_n 0, 1) := by decide +kernel
theorem dX1_reads_189 : decode cX1_reads 189 = .ok (.invokevirtual 39, 3) := by decide +kernel
theorem dX1_reads_192 : decode cX1_reads 192 = .ok (.iinc 2 1, 3) := by decide +kernel
theorem dX1_reads_195 : decode cX1_reads 195 = .ok (.goto (-169), 3) := by decide +kernel
theorem dX1_reads_198 : decode cX1_reads 198 = .ok (.aload_n 0, 1) := by decide +kernel
theorem dX1_reads_199 : decode cX1_reads 199 = .ok (.getfield 42, 3) := by decide +kernel
theorem dX1_reads_202 : decode cX1_reads 202 = .ok (.ifCond .ne 7, 3) := by decide +kernel
theorem dX1_reads_205 : decode cX1_reads 205 = .ok (.iconst 1, 1) := by decide +kernel
theorem dX1_reads_206 : decode cX1_reads 206 = .ok (.goto 4, 3) := by decide +kernel
theorem dX1_reads_209 : decode cX1_reads 209 = .ok (.iconst 0, 1) := by decide +kernel
theorem dX1_reads_210 : decode cX1_reads 210 = .ok (.ireturn, 1) := by decide +kernel
theorem dX1_refuseIf_0 : decode cX1_refuseIf 0 = .ok (.iload_n 1, 1) := by decide +kernel
theorem dX1_refuseIf_1 : decode cX1_refuseIf 1 = .ok (.ifCond .eq 23, 3) := by decide +kernel
theorem dX1_refuseIf_4 : decode cX1_refuseIf 4 = .ok (.aload_n 0, 1) := by decide +kernel
theorem dX1_refuseIf_5 : decode cX1_refuseIf 5 = .ok (.getfield 42, 3) := by decide +kernel
theorem dX1_refuseIf_8 : decode cX1_refuseIf 8 = .ok (.ifCond .ne 16, 3) := by decide +kernel
theorem dX1_refuseIf_11 : decode cX1_refuseIf 11 = .ok (.aload_n 0, 1) := by decide +kernel
theorem dX1_refuseIf_12 : decode cX1_refuseIf 12 = .ok (.iload_n 2, 1) := by decide +kernel
theorem dX1_refuseIf_13 : decode cX1_refuseIf 13 = .ok (.putfield 42, 3) := by decide +kernel
theorem dX1_refuseIf_16 : decode cX1_refuseIf 16 = .ok (.aload_n 0, 1) := by decide +kernel
theorem dX1_refuseIf_17 : decode cX1_refuseIf 17 = .ok (.aload_n 0, 1) := by decide +kernel
theorem dX1_refuseIf_18 : decode cX1_refuseIf 18 = .ok (.getfield 30, 3) := by decide +kernel
theorem dX1_refuseIf_21 : decode cX1_refuseIf 21 = .ok (.putfield 18, 3) := by decide +kernel
theorem dX1_refuseIf_24 : decode cX1_refuseIf 24 = .ok (.return_, 1) := by decide +kernel
