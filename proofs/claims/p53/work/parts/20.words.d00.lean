theorem dX0_fewestToLead_0 : decode cX0_fewestToLead 0 = .ok (.iconst 0, 1) := by decide +kernel
theorem dX0_fewestToLead_1 : decode cX0_fewestToLead 1 = .ok (.istore_n 3, 1) := by decide +kernel
theorem dX0_fewestToLead_2 : decode cX0_fewestToLead 2 = .ok (.iload_n 3, 1) := by decide +kernel
theorem dX0_fewestToLead_3 : decode cX0_fewestToLead 3 = .ok (.iconst 3, 1) := by decide +kernel
theorem dX0_fewestToLead_4 : decode cX0_fewestToLead 4 = .ok (.if_icmp .gt 21, 3) := by decide +kernel
theorem dX0_fewestToLead_7 : decode cX0_fewestToLead 7 = .ok (.aload_n 0, 1) := by decide +kernel
theorem dX0_fewestToLead_8 : decode cX0_fewestToLead 8 = .ok (.aload_n 1, 1) := by decide +kernel
theorem dX0_fewestToLead_9 : decode cX0_fewestToLead 9 = .ok (.iload_n 2, 1) := by decide +kernel
theorem dX0_fewestToLead_10 : decode cX0_fewestToLead 10 = .ok (.iload_n 3, 1) := by decide +kernel
theorem dX0_fewestToLead_11 : decode cX0_fewestToLead 11 = .ok (.invokevirtual 9, 3) := by decide +kernel
theorem dX0_fewestToLead_14 : decode cX0_fewestToLead 14 = .ok (.ifCond .eq 5, 3) := by decide +kernel
theorem dX0_fewestToLead_17 : decode cX0_fewestToLead 17 = .ok (.iload_n 3, 1) := by decide +kernel
theorem dX0_fewestToLead_18 : decode cX0_fewestToLead 18 = .ok (.ireturn, 1) := by decide +kernel
theorem dX0_fewestToLead_19 : decode cX0_fewestToLead 19 = .ok (.iinc 3 1, 3) := by decide +kernel
theorem dX0_fewestToLead_22 : decode cX0_fewestToLead 22 = .ok (.goto (-20), 3) := by decide +kernel
theorem dX0_fewestToLead_25 : decode cX0_fewestToLead 25 = .ok (.bipush (-3), 2) := by decide +kernel
theorem dX0_fewestToLead_27 : decode cX0_fewestToLead 27 = .ok (.ireturn, 1) := by decide +kernel
theorem dX0_leadsBy_0 : decode cX0_leadsBy 0 = .ok (.iload_n 3, 1) := by decide +kernel
theorem dX0_leadsBy_1 : decode cX0_leadsBy 1 = .ok (.ifCond .gt 17, 3) := by decide +kernel
theorem dX0_leadsBy_4 : decode cX0_leadsBy 4 = .ok (.aload_n 1, 1) := by decide +kernel
theorem dX0_leadsBy_5 : decode cX0_leadsBy 5 = .ok (.iload_n 2, 1) := by decide +kernel
theorem dX0_leadsBy_6 : decode cX0_leadsBy 6 = .ok (.invokestatic 15, 3) := by decide +kernel
theorem dX0_leadsBy_9 : decode cX0_leadsBy 9 = .ok (.ifCond .le 7, 3) := by decide +kernel
theorem dX0_leadsBy_12 : decode cX0_leadsBy 12 = .ok (.iconst 1, 1) := by decide +kernel
theorem dX0_leadsBy_13 : decode cX0_leadsBy 13 = .ok (.goto 4, 3) := by decide +kernel
theorem dX0_leadsBy_16 : decode cX0_leadsBy 16 = .ok (.iconst 0, 1) := by decide +kernel
theorem dX0_leadsBy_17 : decode cX0_leadsBy 17 = .ok (.ireturn, 1) := by decide +kernel
theorem dX0_leadsBy_18 : decode cX0_leadsBy 18 = .ok (.aload_n 1, 1) := by decide +kernel
theorem dX0_leadsBy_19 : decode cX0_leadsBy 19 = .ok (.iload_n 2, 1) := by decide +kernel
theorem dX0_leadsBy_20 : decode cX0_leadsBy 20 = .ok (.invokestatic 15, 3) := by decide +kernel
theorem dX0_leadsBy_23 : decode cX0_leadsBy 23 = .ok (.iload_n 3, 1) := by decide +kernel
theorem dX0_leadsBy_24 : decode cX0_leadsBy 24 = .ok (.aload_n 1, 1) := by decide +kernel
theorem dX0_leadsBy_25 : decode cX0_leadsBy 25 = .ok (.invokestatic 19, 3) := by decide +kernel
theorem dX0_leadsBy_28 : decode cX0_leadsBy 28 = .ok (.imul, 1) := by decide +kernel
theorem dX0_leadsBy_29 : decode cX0_leadsBy 29 = .ok (.iadd, 1) := by decide +kernel
theorem dX0_leadsBy_30 : decode cX0_leadsBy 30 = .ok (.ifCond .gt 5, 3) := by decide +kernel
theorem dX0_leadsBy_33 : decode cX0_leadsBy 33 = .ok (.iconst 0, 1) := by decide +kernel
theorem dX0_leadsBy_34 : decode cX0_leadsBy 34 = .ok (.ireturn, 1) := by decide +kernel
theorem dX0_leadsBy_35 : decode cX0_leadsBy 35 = .ok (.iconst 0, 1) := by decide +kernel
theorem dX0_leadsBy_36 : decode cX0_leadsBy 36 = .ok (.istore 4, 2) := by decide +kernel
theorem dX0_leadsBy_38 : decode cX0_leadsBy 38 = .ok (.iload 4, 2) := by decide +kernel
theorem dX0_leadsBy_40 : decode cX0_leadsBy 40 = .ok (.aload_n 1, 1) := by decide +kernel
theorem dX0_leadsBy_41 : decode cX0_leadsBy 41 = .ok (.getfield 23, 3) := by decide +kernel
theorem dX0_leadsBy_44 : decode cX0_leadsBy 44 = .ok (.getfield 29, 3) := by decide +kernel
theorem dX0_leadsBy_47 : decode cX0_leadsBy 47 = .ok (.if_icmp .ge 112, 3) := by decide +kernel
theorem dX0_leadsBy_50 : decode cX0_leadsBy 50 = .ok (.iload_n 2, 1) := by decide +kernel
theorem dX0_leadsBy_51 : decode cX0_leadsBy 51 = .ok (.iload 4, 2) := by decide +kernel
theorem dX0_leadsBy_53 : decode cX0_leadsBy 53 = .ok (.invokestatic 35, 3) := by decide +kernel
theorem dX0_leadsBy_56 : decode cX0_leadsBy 56 = .ok (.istore 5, 2) := by decide +kernel
theorem dX0_leadsBy_58 : decode cX0_leadsBy 58 = .ok (.iconst 0, 1) := by decide +kernel
theorem dX0_leadsBy_59 : decode cX0_leadsBy 59 = .ok (.istore 6, 2) := by decide +kernel
theorem dX0_leadsBy_61 : decode cX0_leadsBy 61 = .ok (.iload 6, 2) := by decide +kernel
theorem dX0_leadsBy_63 : decode cX0_leadsBy 63 = .ok (.aload_n 1, 1) := by decide +kernel
theorem dX0_leadsBy_64 : decode cX0_leadsBy 64 = .ok (.getfield 23, 3) := by decide +kernel
theorem dX0_leadsBy_67 : decode cX0_leadsBy 67 = .ok (.getfield 39, 3) := by decide +kernel
theorem dX0_leadsBy_70 : decode cX0_leadsBy 70 = .ok (.if_icmp .ge 83, 3) := by decide +kernel
theorem dX0_leadsBy_73 : decode cX0_leadsBy 73 = .ok (.aload_n 1, 1) := by decide +kernel
theorem dX0_leadsBy_74 : decode cX0_leadsBy 74 = .ok (.getfield 42, 3) := by decide +kernel
theorem dX0_leadsBy_77 : decode cX0_leadsBy 77 = .ok (.iload 5, 2) := by decide +kernel
theorem dX0_leadsBy_79 : decode cX0_leadsBy 79 = .ok (.iload 6, 2) := by decide +kernel
theorem dX0_leadsBy_81 : decode cX0_leadsBy 81 = .ok (.invokevirtual 46, 3) := by decide +kernel
theorem dX0_leadsBy_84 : decode cX0_leadsBy 84 = .ok (.ifCond .ne 6, 3) := by decide +kernel
theorem dX0_leadsBy_87 : decode cX0_leadsBy 87 = .ok (.goto 60, 3) := by decide +kernel
theorem dX0_leadsBy_90 : decode cX0_leadsBy 90 = .ok (.aload_n 1, 1) := by decide +kernel
theorem dX0_leadsBy_91 : decode cX0_leadsBy 91 = .ok (.getfield 42, 3) := by decide +kernel
theorem dX0_leadsBy_94 : decode cX0_leadsBy 94 = .ok (.iload 5, 2) := by decide +kernel
theorem dX0_leadsBy_96 : decode cX0_leadsBy 96 = .ok (.iload 6, 2) := by decide +kernel
theorem dX0_leadsBy_98 : decode cX0_leadsBy 98 = .ok (.iconst (-1), 1) := by decide +kernel
theorem dX0_leadsBy_99 : decode cX0_leadsBy 99 = .ok (.aload_n 1, 1) := by decide +kernel
theorem dX0_leadsBy_100 : decode cX0_leadsBy 100 = .ok (.getfield 52, 3) := by decide +kernel
theorem dX0_leadsBy_103 : decode cX0_leadsBy 103 = .ok (.invokevirtual 55, 3) := by decide +kernel
theorem dX0_leadsBy_106 : decode cX0_leadsBy 106 = .ok (.pop, 1) := by decide +kernel
theorem dX0_leadsBy_107 : decode cX0_leadsBy 107 = .ok (.aload_n 0, 1) := by decide +kernel
theorem dX0_leadsBy_108 : decode cX0_leadsBy 108 = .ok (.aload_n 1, 1) := by decide +kernel
theorem dX0_leadsBy_109 : decode cX0_leadsBy 109 = .ok (.iload_n 2, 1) := by decide +kernel
theorem dX0_leadsBy_110 : decode cX0_leadsBy 110 = .ok (.iload_n 3, 1) := by decide +kernel
theorem dX0_leadsBy_111 : decode cX0_leadsBy 111 = .ok (.iconst 1, 1) := by decide +kernel
theorem dX0_leadsBy_112 : decode cX0_leadsBy 112 = .ok (.isub, 1) := by decide +kernel
theorem dX0_leadsBy_113 : decode cX0_leadsBy 113 = .ok (.invokevirtual 9, 3) := by decide +kernel
theorem dX0_leadsBy_116 : decode cX0_leadsBy 116 = .ok (.istore 7, 2) := by decide +kernel
theorem dX0_leadsBy_118 : decode cX0_leadsBy 118 = .ok (.aload_n 1, 1) := by decide +kernel
theorem dX0_leadsBy_119 : decode cX0_leadsBy 119 = .ok (.getfield 42, 3) := by decide +kernel
theorem dX0_leadsBy_122 : decode cX0_leadsBy 122 = .ok (.iload 5, 2) := by decide +kernel
theorem dX0_leadsBy_124 : decode cX0_leadsBy 124 = .ok (.invokevirtual 59, 3) := by decide +kernel
theorem dX0_leadsBy_127 : decode cX0_leadsBy 127 = .ok (.pop, 1) := by decide +kernel
theorem dX0_leadsBy_128 : decode cX0_leadsBy 128 = .ok (.iload 7, 2) := by decide +kernel
theorem dX0_leadsBy_130 : decode cX0_leadsBy 130 = .ok (.ifCond .eq 17, 3) := by decide +kernel
theorem dX0_leadsBy_133 : decode cX0_leadsBy 133 = .ok (.aload_n 0, 1) := by decide +kernel
theorem dX0_leadsBy_134 : decode cX0_leadsBy 134 = .ok (.bipush 10, 2) := by decide +kernel
theorem dX0_leadsBy_136 : decode cX0_leadsBy 136 = .ok (.iload 4, 2) := by decide +kernel
theorem dX0_leadsBy_138 : decode cX0_leadsBy 138 = .ok (.imul, 1) := by decide +kernel
theorem dX0_leadsBy_139 : decode cX0_leadsBy 139 = .ok (.iload 6, 2) := by decide +kernel
theorem dX0_leadsBy_141 : decode cX0_leadsBy 141 = .ok (.iadd, 1) := by decide +kernel
theorem dX0_leadsBy_142 : decode cX0_leadsBy 142 = .ok (.putfield 63, 3) := by decide +kernel
theorem dX0_leadsBy_145 : decode cX0_leadsBy 145 = .ok (.iconst 1, 1) := by decide +kernel
theorem dX0_leadsBy_146 : decode cX0_leadsBy 146 = .ok (.ireturn, 1) := by decide +kernel
theorem dX0_leadsBy_147 : decode cX0_leadsBy 147 = .ok (.iinc 6 1, 3) := by decide +kernel
theorem dX0_leadsBy_150 : decode cX0_leadsBy 150 = .ok (.goto (-89), 3) := by decide +kernel
theorem dX0_leadsBy_153 : decode cX0_leadsBy 153 = .ok (.iinc 4 1, 3) := by decide +kernel
theorem dX0_leadsBy_156 : decode cX0_leadsBy 156 = .ok (.goto (-118), 3) := by decide +kernel
theorem dX0_leadsBy_159 : decode cX0_leadsBy 159 = .ok (.iconst 0, 1) := by decide +kernel
theorem dX0_leadsBy_160 : decode cX0_leadsBy 160 = .ok (.ireturn, 1) := by decide +kernel
theorem dX0_leastWeightToLead_0 : decode cX0_leastWeightToLead 0 = .ok (.aload_n 0, 1) := by decide +kernel
theorem dX0_leastWeightToLead_1 : decode cX0_leastWeightToLead 1 = .ok (.bipush (-3), 2) := by decide +kernel
theorem dX0_leastWeightToLead_3 : decode cX0_leastWeightToLead 3 = .ok (.putfield 66, 3) := by decide +kernel
theorem dX0_leastWeightToLead_6 : decode cX0_leastWeightToLead 6 = .ok (.aload_n 0, 1) := by decide +kernel
theorem dX0_leastWeightToLead_7 : decode cX0_leastWeightToLead 7 = .ok (.aload_n 1, 1) := by decide +kernel
theorem dX0_leastWeightToLead_8 : decode cX0_leastWeightToLead 8 = .ok (.iload_n 2, 1) := by decide +kernel
theorem dX0_leastWeightToLead_9 : decode cX0_leastWeightToLead 9 = .ok (.iconst 3, 1) := by decide +kernel
theorem dX0_leastWeightToLead_10 : decode cX0_leastWeightToLead 10 = .ok (.iconst 0, 1) := by decide +kernel
theorem dX0_leastWeightToLead_11 : decode cX0_leastWeightToLead 11 = .ok (.invokevirtual 69, 3) := by decide +kernel
theorem dX0_leastWeightToLead_14 : decode cX0_leastWeightToLead 14 = .ok (.aload_n 0, 1) := by decide +kernel
theorem dX0_leastWeightToLead_15 : decode cX0_leastWeightToLead 15 = .ok (.getfield 66, 3) := by decide +kernel
theorem dX0_leastWeightToLead_18 : decode cX0_leastWeightToLead 18 = .ok (.ireturn, 1) := by decide +kernel
theorem dX0_lighten_0 : decode cX0_lighten 0 = .ok (.aload_n 1, 1) := by decide +kernel
theorem dX0_lighten_1 : decode cX0_lighten 1 = .ok (.iload_n 2, 1) := by decide +kernel
theorem dX0_lighten_2 : decode cX0_lighten 2 = .ok (.invokestatic 15, 3) := by decide +kernel
theorem dX0_lighten_5 : decode cX0_lighten 5 = .ok (.istore 5, 2) := by decide +kernel
theorem dX0_lighten_7 : decode cX0_lighten 7 = .ok (.iload 5, 2) := by decide +kernel
theorem dX0_lighten_9 : decode cX0_lighten 9 = .ok (.ifCond .le 10, 3) := by decide +kernel
theorem dX0_lighten_12 : decode cX0_lighten 12 = .ok (.aload_n 0, 1) := by decide +kernel
theorem dX0_lighten_13 : decode cX0_lighten 13 = .ok (.iload 4, 2) := by decide +kernel
theorem dX0_lighten_15 : decode cX0_lighten 15 = .ok (.putfield 66, 3) := by decide +kernel
theorem dX0_lighten_18 : decode cX0_lighten 18 = .ok (.return_, 1) := by decide +kernel
theorem dX0_lighten_19 : decode cX0_lighten 19 = .ok (.iload_n 3, 1) := by decide +kernel
theorem dX0_lighten_20 : decode cX0_lighten 20 = .ok (.ifCond .le 15, 3) := by decide +kernel
theorem dX0_lighten_23 : decode cX0_lighten 23 = .ok (.iload 5, 2) := by decide +kernel
theorem dX0_lighten_25 : decode cX0_lighten 25 = .ok (.iload_n 3, 1) := by decide +kernel
theorem dX0_lighten_26 : decode cX0_lighten 26 = .ok (.aload_n 1, 1) := by decide +kernel
theorem dX0_lighten_27 : decode cX0_lighten 27 = .ok (.invokestatic 19, 3) := by decide +kernel
theorem dX0_lighten_30 : decode cX0_lighten 30 = .ok (.imul, 1) := by decide +kernel
theorem dX0_lighten_31 : decode cX0_lighten 31 = .ok (.iadd, 1) := by decide +kernel
theorem dX0_lighten_32 : decode cX0_lighten 32 = .ok (.ifCond .gt 4, 3) := by decide +kernel
theorem dX0_lighten_35 : decode cX0_lighten 35 = .ok (.return_, 1) := by decide +kernel
theorem dX0_lighten_36 : decode cX0_lighten 36 = .ok (.iconst 0, 1) := by decide +kernel
theorem dX0_lighten_37 : decode cX0_lighten 37 = .ok (.istore 6, 2) := by decide +kernel
theorem dX0_lighten_39 : decode cX0_lighten 39 = .ok (.iload 6, 2) := by decide +kernel
theorem dX0_lighten_41 : decode cX0_lighten 41 = .ok (.aload_n 1, 1) := by decide +kernel
theorem dX0_lighten_42 : decode cX0_lighten 42 = .ok (.getfield 23, 3) := by decide +kernel
theorem dX0_lighten_45 : decode cX0_lighten 45 = .ok (.getfield 29, 3) := by decide +kernel
theorem dX0_lighten_48 : decode cX0_lighten 48 = .ok (.if_icmp .ge 135, 3) := by decide +kernel
theorem dX0_lighten_51 : decode cX0_lighten 51 = .ok (.iload_n 2, 1) := by decide +kernel
theorem dX0_lighten_52 : decode cX0_lighten 52 = .ok (.iload 6, 2) := by decide +kernel
theorem dX0_lighten_54 : decode cX0_lighten 54 = .ok (.invokestatic 35, 3) := by decide +kernel
theorem dX0_lighten_57 : decode cX0_lighten 57 = .ok (.istore 7, 2) := by decide +kernel
theorem dX0_lighten_59 : decode cX0_lighten 59 = .ok (.iconst 0, 1) := by decide +kernel
theorem dX0_lighten_60 : decode cX0_lighten 60 = .ok (.istore 8, 2) := by decide +kernel
theorem dX0_lighten_62 : decode cX0_lighten 62 = .ok (.iload 8, 2) := by decide +kernel
theorem dX0_lighten_64 : decode cX0_lighten 64 = .ok (.aload_n 1, 1) := by decide +kernel
theorem dX0_lighten_65 : decode cX0_lighten 65 = .ok (.getfield 23, 3) := by decide +kernel
theorem dX0_lighten_68 : decode cX0_lighten 68 = .ok (.getfield 39, 3) := by decide +kernel
theorem dX0_lighten_71 : decode cX0_lighten 71 = .ok (.if_icmp .ge 106, 3) := by decide +kernel
theorem dX0_lighten_74 : decode cX0_lighten 74 = .ok (.iload 4, 2) := by decide +kernel
theorem dX0_lighten_76 : decode cX0_lighten 76 = .ok (.aload_n 1, 1) := by decide +kernel
theorem dX0_lighten_77 : decode cX0_lighten 77 = .ok (.getfield 23, 3) := by decide +kernel
theorem dX0_lighten_80 : decode cX0_lighten 80 = .ok (.getfield 73, 3) := by decide +kernel
theorem dX0_lighten_83 : decode cX0_lighten 83 = .ok (.iload 8, 2) := by decide +kernel
theorem dX0_lighten_85 : decode cX0_lighten 85 = .ok (.iaload, 1) := by decide +kernel
theorem dX0_lighten_86 : decode cX0_lighten 86 = .ok (.iadd, 1) := by decide +kernel
theorem dX0_lighten_87 : decode cX0_lighten 87 = .ok (.istore 9, 2) := by decide +kernel
theorem dX0_lighten_89 : decode cX0_lighten 89 = .ok (.aload_n 0, 1) := by decide +kernel
theorem dX0_lighten_90 : decode cX0_lighten 90 = .ok (.getfield 66, 3) := by decide +kernel
theorem dX0_lighten_93 : decode cX0_lighten 93 = .ok (.bipush (-3), 2) := by decide +kernel
theorem dX0_lighten_95 : decode cX0_lighten 95 = .ok (.if_icmp .eq 12, 3) := by decide +kernel
theorem dX0_lighten_98 : decode cX0_lighten 98 = .ok (.iload 9, 2) := by decide +kernel
theorem dX0_lighten_100 : decode cX0_lighten 100 = .ok (.aload_n 0, 1) := by decide +kernel
theorem dX0_lighten_101 : decode cX0_lighten 101 = .ok (.getfield 66, 3) := by decide +kernel
theorem dX0_lighten_104 : decode cX0_lighten 104 = .ok (.if_icmp .ge 7, 3) := by decide +kernel
theorem dX0_lighten_107 : decode cX0_lighten 107 = .ok (.iconst 1, 1) := by decide +kernel
theorem dX0_lighten_108 : decode cX0_lighten 108 = .ok (.goto 4, 3) := by decide +kernel
theorem dX0_lighten_111 : decode cX0_lighten 111 = .ok (.iconst 0, 1) := by decide +kernel
theorem dX0_lighten_112 : decode cX0_lighten 112 = .ok (.istore 10, 2) := by decide +kernel
theorem dX0_lighten_114 : decode cX0_lighten 114 = .ok (.iload 10, 2) := by decide +kernel
theorem dX0_lighten_116 : decode cX0_lighten 116 = .ok (.ifCond .eq 55, 3) := by decide +kernel
theorem dX0_lighten_119 : decode cX0_lighten 119 = .ok (.aload_n 1, 1) := by decide +kernel
theorem dX0_lighten_120 : decode cX0_lighten 120 = .ok (.getfield 42, 3) := by decide +kernel
theorem dX0_lighten_123 : decode cX0_lighten 123 = .ok (.iload 7, 2) := by decide +kernel
theorem dX0_lighten_125 : decode cX0_lighten 125 = .ok (.iload 8, 2) := by decide +kernel
theorem dX0_lighten_127 : decode cX0_lighten 127 = .ok (.invokevirtual 46, 3) := by decide +kernel
theorem dX0_lighten_130 : decode cX0_lighten 130 = .ok (.ifCond .eq 41, 3) := by decide +kernel
theorem dX0_lighten_133 : decode cX0_lighten 133 = .ok (.aload_n 1, 1) := by decide +kernel
theorem dX0_lighten_134 : decode cX0_lighten 134 = .ok (.getfield 42, 3) := by decide +kernel
theorem dX0_lighten_137 : decode cX0_lighten 137 = .ok (.iload 7, 2) := by decide +kernel
theorem dX0_lighten_139 : decode cX0_lighten 139 = .ok (.iload 8, 2) := by decide +kernel
theorem dX0_lighten_141 : decode cX0_lighten 141 = .ok (.iconst (-1), 1) := by decide +kernel
theorem dX0_lighten_142 : decode cX0_lighten 142 = .ok (.aload_n 1, 1) := by decide +kernel
theorem dX0_lighten_143 : decode cX0_lighten 143 = .ok (.getfield 52, 3) := by decide +kernel
theorem dX0_lighten_146 : decode cX0_lighten 146 = .ok (.invokevirtual 55, 3) := by decide +kernel
theorem dX0_lighten_149 : decode cX0_lighten 149 = .ok (.pop, 1) := by decide +kernel
theorem dX0_lighten_150 : decode cX0_lighten 150 = .ok (.aload_n 0, 1) := by decide +kernel
theorem dX0_lighten_151 : decode cX0_lighten 151 = .ok (.aload_n 1, 1) := by decide +kernel
theorem dX0_lighten_152 : decode cX0_lighten 152 = .ok (.iload_n 2, 1) := by decide +kernel
theorem dX0_lighten_153 : decode cX0_lighten 153 = .ok (.iload_n 3, 1) := by decide +kernel
theorem dX0_lighten_154 : decode cX0_lighten 154 = .ok (.iconst 1, 1) := by decide +kernel
theorem dX0_lighten_155 : decode cX0_lighten 155 = .ok (.isub, 1) := by decide +kernel
theorem dX0_lighten_156 : decode cX0_lighten 156 = .ok (.iload 9, 2) := by decide +kernel
theorem dX0_lighten_158 : decode cX0_lighten 158 = .ok (.invokevirtual 69, 3) := by decide +kernel
theorem dX0_lighten_161 : decode cX0_lighten 161 = .ok (.aload_n 1, 1) := by decide +kernel
theorem dX0_lighten_162 : decode cX0_lighten 162 = .ok (.getfield 42, 3) := by decide +kernel
theorem dX0_lighten_165 : decode cX0_lighten 165 = .ok (.iload 7, 2) := by decide +kernel
theorem dX0_lighten_167 : decode cX0_lighten 167 = .ok (.invokevirtual 59, 3) := by decide +kernel
theorem dX0_lighten_170 : decode cX0_lighten 170 = .ok (.pop, 1) := by decide +kernel
theorem dX0_lighten_171 : decode cX0_lighten 171 = .ok (.iinc 8 1, 3) := by decide +kernel
theorem dX0_lighten_174 : decode cX0_lighten 174 = .ok (.goto (-112), 3) := by decide +kernel
theorem dX0_lighten_177 : decode cX0_lighten 177 = .ok (.iinc 6 1, 3) := by decide +kernel
theorem dX0_lighten_180 : decode cX0_lighten 180 = .ok (.goto (-141), 3) := by decide +kernel
theorem dX0_lighten_183 : decode cX0_lighten 183 = .ok (.return_, 1) := by decide +kernel
theorem dX8_blow_0 : decode cX8_blow 0 = .ok (.aload_n 0, 1) := by decide +kernel
theorem dX8_blow_1 : decode cX8_blow 1 = .ok (.iconst 0, 1) := by decide +kernel
theorem dX8_blow_2 : decode cX8_blow 2 = .ok (.putfield 32, 3) := by decide +kernel
theorem dX8_blow_5 : decode cX8_blow 5 = .ok (.aload_n 0, 1) := by decide +kernel
theorem dX8_blow_6 : decode cX8_blow 6 = .ok (.aload_n 1, 1) := by decide +kernel
theorem dX8_blow_7 : decode cX8_blow 7 = .ok (.iconst 0, 1) := by decide +kernel
theorem dX8_blow_8 : decode cX8_blow 8 = .ok (.iconst 0, 1) := by decide +kernel
theorem dX8_blow_9 : decode cX8_blow 9 = .ok (.invokevirtual 36, 3) := by decide +kernel
theorem dX8_blow_12 : decode cX8_blow 12 = .ok (.istore_n 2, 1) := by decide +kernel
theorem dX8_blow_13 : decode cX8_blow 13 = .ok (.aload_n 0, 1) := by decide +kernel
theorem dX8_blow_14 : decode cX8_blow 14 = .ok (.aload_n 0, 1) := by decide +kernel
theorem dX8_blow_15 : decode cX8_blow 15 = .ok (.aload_n 0, 1) := by decide +kernel
theorem dX8_blow_16 : decode cX8_blow 16 = .ok (.getfield 40, 3) := by decide +kernel
theorem dX8_blow_19 : decode cX8_blow 19 = .ok (.aload_n 1, 1) := by decide +kernel
theorem dX8_blow_20 : decode cX8_blow 20 = .ok (.getfield 43, 3) := by decide +kernel
theorem dX8_blow_23 : decode cX8_blow 23 = .ok (.getfield 49, 3) := by decide +kernel
theorem dX8_blow_26 : decode cX8_blow 26 = .ok (.invokevirtual 52, 3) := by decide +kernel
theorem dX8_blow_29 : decode cX8_blow 29 = .ok (.putfield 40, 3) := by decide +kernel
theorem dX8_blow_32 : decode cX8_blow 32 = .ok (.aload_n 0, 1) := by decide +kernel
theorem dX8_blow_33 : decode cX8_blow 33 = .ok (.aload_n 0, 1) := by decide +kernel
theorem dX8_blow_34 : decode cX8_blow 34 = .ok (.aload_n 0, 1) := by decide +kernel
theorem dX8_blow_35 : decode cX8_blow 35 = .ok (.getfield 56, 3) := by decide +kernel
theorem dX8_blow_38 : decode cX8_blow 38 = .ok (.aload_n 1, 1) := by decide +kernel
theorem dX8_blow_39 : decode cX8_blow 39 = .ok (.getfield 59, 3) := by decide +kernel
theorem dX8_blow_42 : decode cX8_blow 42 = .ok (.iconst 2, 1) := by decide +kernel
theorem dX8_blow_43 : decode cX8_blow 43 = .ok (.if_icmp .ne 7, 3) := by decide +kernel
theorem dX8_blow_46 : decode cX8_blow 46 = .ok (.iconst 1, 1) := by decide +kernel
theorem dX8_blow_47 : decode cX8_blow 47 = .ok (.goto 4, 3) := by decide +kernel
theorem dX8_blow_50 : decode cX8_blow 50 = .ok (.iconst 0, 1) := by decide +kernel
theorem dX8_blow_51 : decode cX8_blow 51 = .ok (.invokevirtual 52, 3) := by decide +kernel
theorem dX8_blow_54 : decode cX8_blow 54 = .ok (.putfield 56, 3) := by decide +kernel
theorem dX8_blow_57 : decode cX8_blow 57 = .ok (.aload_n 0, 1) := by decide +kernel
theorem dX8_blow_58 : decode cX8_blow 58 = .ok (.aload_n 0, 1) := by decide +kernel
theorem dX8_blow_59 : decode cX8_blow 59 = .ok (.aload_n 0, 1) := by decide +kernel
theorem dX8_blow_60 : decode cX8_blow 60 = .ok (.getfield 62, 3) := by decide +kernel
theorem dX8_blow_63 : decode cX8_blow 63 = .ok (.iload_n 2, 1) := by decide +kernel
theorem dX8_blow_64 : decode cX8_blow 64 = .ok (.invokevirtual 52, 3) := by decide +kernel
theorem dX8_blow_67 : decode cX8_blow 67 = .ok (.putfield 62, 3) := by decide +kernel
theorem dX8_blow_70 : decode cX8_blow 70 = .ok (.aload_n 0, 1) := by decide +kernel
theorem dX8_blow_71 : decode cX8_blow 71 = .ok (.aload_n 0, 1) := by decide +kernel
theorem dX8_blow_72 : decode cX8_blow 72 = .ok (.aload_n 0, 1) := by decide +kernel
theorem dX8_blow_73 : decode cX8_blow 73 = .ok (.getfield 28, 3) := by decide +kernel
theorem dX8_blow_76 : decode cX8_blow 76 = .ok (.aload_n 0, 1) := by decide +kernel
theorem dX8_blow_77 : decode cX8_blow 77 = .ok (.aload_n 1, 1) := by decide +kernel
theorem dX8_blow_78 : decode cX8_blow 78 = .ok (.iconst 1, 1) := by decide +kernel
theorem dX8_blow_79 : decode cX8_blow 79 = .ok (.iload_n 2, 1) := by decide +kernel
theorem dX8_blow_80 : decode cX8_blow 80 = .ok (.invokevirtual 36, 3) := by decide +kernel
theorem dX8_blow_83 : decode cX8_blow 83 = .ok (.invokevirtual 52, 3) := by decide +kernel
theorem dX8_blow_86 : decode cX8_blow 86 = .ok (.putfield 28, 3) := by decide +kernel
theorem dX8_blow_89 : decode cX8_blow 89 = .ok (.aload_n 0, 1) := by decide +kernel
theorem dX8_blow_90 : decode cX8_blow 90 = .ok (.getfield 32, 3) := by decide +kernel
theorem dX8_blow_93 : decode cX8_blow 93 = .ok (.ifCond .eq 38, 3) := by decide +kernel
theorem dX8_blow_96 : decode cX8_blow 96 = .ok (.aload_n 0, 1) := by decide +kernel
theorem dX8_blow_97 : decode cX8_blow 97 = .ok (.getfield 9, 3) := by decide +kernel
theorem dX8_blow_100 : decode cX8_blow 100 = .ok (.lconst 0, 1) := by decide +kernel
theorem dX8_blow_101 : decode cX8_blow 101 = .ok (.invokestatic 65, 3) := by decide +kernel
theorem dX8_blow_104 : decode cX8_blow 104 = .ok (.aload_n 0, 1) := by decide +kernel
theorem dX8_blow_105 : decode cX8_blow 105 = .ok (.getfield 15, 3) := by decide +kernel
theorem dX8_blow_108 : decode cX8_blow 108 = .ok (.lconst 0, 1) := by decide +kernel
theorem dX8_blow_109 : decode cX8_blow 109 = .ok (.invokestatic 65, 3) := by decide +kernel
theorem dX8_blow_112 : decode cX8_blow 112 = .ok (.aload_n 0, 1) := by decide +kernel
theorem dX8_blow_113 : decode cX8_blow 113 = .ok (.getfield 18, 3) := by decide +kernel
theorem dX8_blow_116 : decode cX8_blow 116 = .ok (.lconst 0, 1) := by decide +kernel
theorem dX8_blow_117 : decode cX8_blow 117 = .ok (.invokestatic 65, 3) := by decide +kernel
theorem dX8_blow_120 : decode cX8_blow 120 = .ok (.aload_n 0, 1) := by decide +kernel
theorem dX8_blow_121 : decode cX8_blow 121 = .ok (.iconst 0, 1) := by decide +kernel
theorem dX8_blow_122 : decode cX8_blow 122 = .ok (.ldc2_w 71, 3) := by decide +kernel
theorem dX8_blow_125 : decode cX8_blow 125 = .ok (.iconst 0, 1) := by decide +kernel
theorem dX8_blow_126 : decode cX8_blow 126 = .ok (.iconst 0, 1) := by decide +kernel
theorem dX8_blow_127 : decode cX8_blow 127 = .ok (.iconst 0, 1) := by decide +kernel
theorem dX8_blow_128 : decode cX8_blow 128 = .ok (.invokevirtual 73, 3) := by decide +kernel
theorem dX8_blow_131 : decode cX8_blow 131 = .ok (.return_, 1) := by decide +kernel
theorem dX8_spread_0 : decode cX8_spread 0 = .ok (.lload_n 2, 1) := by decide +kernel
theorem dX8_spread_1 : decode cX8_spread 1 = .ok (.lconst 0, 1) := by decide +kernel
theorem dX8_spread_2 : decode cX8_spread 2 = .ok (.lcmp, 1) := by decide +kernel
theorem dX8_spread_3 : decode cX8_spread 3 = .ok (.ifCond .gt 4, 3) := by decide +kernel
theorem dX8_spread_6 : decode cX8_spread 6 = .ok (.return_, 1) := by decide +kernel
theorem dX8_spread_7 : decode cX8_spread 7 = .ok (.iload_n 1, 1) := by decide +kernel
theorem dX8_spread_8 : decode cX8_spread 8 = .ok (.aload_n 0, 1) := by decide +kernel
theorem dX8_spread_9 : decode cX8_spread 9 = .ok (.getfield 28, 3) := by decide +kernel
theorem dX8_spread_12 : decode cX8_spread 12 = .ok (.if_icmp .lt 15, 3) := by decide +kernel
theorem dX8_spread_15 : decode cX8_spread 15 = .ok (.aload_n 0, 1) := by decide +kernel
theorem dX8_spread_16 : decode cX8_spread 16 = .ok (.lload_n 2, 1) := by decide +kernel
theorem dX8_spread_17 : decode cX8_spread 17 = .ok (.iload 4, 2) := by decide +kernel
theorem dX8_spread_19 : decode cX8_spread 19 = .ok (.iload 5, 2) := by decide +kernel
theorem dX8_spread_21 : decode cX8_spread 21 = .ok (.iload 6, 2) := by decide +kernel
theorem dX8_spread_23 : decode cX8_spread 23 = .ok (.invokevirtual 98, 3) := by decide +kernel
theorem dX8_spread_26 : decode cX8_spread 26 = .ok (.return_, 1) := by decide +kernel
theorem dX8_spread_27 : decode cX8_spread 27 = .ok (.lload_n 2, 1) := by decide +kernel
theorem dX8_spread_28 : decode cX8_spread 28 = .ok (.aload_n 0, 1) := by decide +kernel
theorem dX8_spread_29 : decode cX8_spread 29 = .ok (.getfield 40, 3) := by decide +kernel
theorem dX8_spread_32 : decode cX8_spread 32 = .ok (.i2l, 1) := by decide +kernel
theorem dX8_spread_33 : decode cX8_spread 33 = .ok (.lmul, 1) := by decide +kernel
theorem dX8_spread_34 : decode cX8_spread 34 = .ok (.ldc2_w 102, 3) := by decide +kernel
theorem dX8_spread_37 : decode cX8_spread 37 = .ok (.ldiv, 1) := by decide +kernel
theorem dX8_spread_38 : decode cX8_spread 38 = .ok (.lstore 7, 2) := by decide +kernel
theorem dX8_spread_40 : decode cX8_spread 40 = .ok (.iload_n 1, 1) := by decide +kernel
theorem dX8_spread_41 : decode cX8_spread 41 = .ok (.aload_n 0, 1) := by decide +kernel
theorem dX8_spread_42 : decode cX8_spread 42 = .ok (.getfield 62, 3) := by decide +kernel
theorem dX8_spread_45 : decode cX8_spread 45 = .ok (.if_icmp .ge 60, 3) := by decide +kernel
theorem dX8_spread_48 : decode cX8_spread 48 = .ok (.aload_n 0, 1) := by decide +kernel
theorem dX8_spread_49 : decode cX8_spread 49 = .ok (.iload_n 1, 1) := by decide +kernel
theorem dX8_spread_50 : decode cX8_spread 50 = .ok (.iconst 1, 1) := by decide +kernel
theorem dX8_spread_51 : decode cX8_spread 51 = .ok (.iadd, 1) := by decide +kernel
theorem dX8_spread_52 : decode cX8_spread 52 = .ok (.lload 7, 2) := by decide +kernel
theorem dX8_spread_54 : decode cX8_spread 54 = .ok (.iload 4, 2) := by decide +kernel
theorem dX8_spread_56 : decode cX8_spread 56 = .ok (.iconst 1, 1) := by decide +kernel
theorem dX8_spread_57 : decode cX8_spread 57 = .ok (.iadd, 1) := by decide +kernel
theorem dX8_spread_58 : decode cX8_spread 58 = .ok (.aload_n 0, 1) := by decide +kernel
theorem dX8_spread_59 : decode cX8_spread 59 = .ok (.iload 5, 2) := by decide +kernel
theorem dX8_spread_61 : decode cX8_spread 61 = .ok (.aload_n 0, 1) := by decide +kernel
theorem dX8_spread_62 : decode cX8_spread 62 = .ok (.getfield 25, 3) := by decide +kernel
theorem dX8_spread_65 : decode cX8_spread 65 = .ok (.iload_n 1, 1) := by decide +kernel
theorem dX8_spread_66 : decode cX8_spread 66 = .ok (.iaload, 1) := by decide +kernel
theorem dX8_spread_67 : decode cX8_spread 67 = .ok (.invokevirtual 104, 3) := by decide +kernel
theorem dX8_spread_70 : decode cX8_spread 70 = .ok (.iload 6, 2) := by decide +kernel
theorem dX8_spread_72 : decode cX8_spread 72 = .ok (.invokevirtual 73, 3) := by decide +kernel
theorem dX8_spread_75 : decode cX8_spread 75 = .ok (.aload_n 0, 1) := by decide +kernel
theorem dX8_spread_76 : decode cX8_spread 76 = .ok (.iload_n 1, 1) := by decide +kernel
theorem dX8_spread_77 : decode cX8_spread 77 = .ok (.iconst 1, 1) := by decide +kernel
theorem dX8_spread_78 : decode cX8_spread 78 = .ok (.iadd, 1) := by decide +kernel
theorem dX8_spread_79 : decode cX8_spread 79 = .ok (.lload_n 2, 1) := by decide +kernel
theorem dX8_spread_80 : decode cX8_spread 80 = .ok (.lload 7, 2) := by decide +kernel
theorem dX8_spread_82 : decode cX8_spread 82 = .ok (.lsub, 1) := by decide +kernel
theorem dX8_spread_83 : decode cX8_spread 83 = .ok (.iload 4, 2) := by decide +kernel
theorem dX8_spread_85 : decode cX8_spread 85 = .ok (.aload_n 0, 1) := by decide +kernel
theorem dX8_spread_86 : decode cX8_spread 86 = .ok (.iload 5, 2) := by decide +kernel
theorem dX8_spread_88 : decode cX8_spread 88 = .ok (.aload_n 0, 1) := by decide +kernel
theorem dX8_spread_89 : decode cX8_spread 89 = .ok (.getfield 21, 3) := by decide +kernel
theorem dX8_spread_92 : decode cX8_spread 92 = .ok (.iload_n 1, 1) := by decide +kernel
theorem dX8_spread_93 : decode cX8_spread 93 = .ok (.iaload, 1) := by decide +kernel
theorem dX8_spread_94 : decode cX8_spread 94 = .ok (.invokevirtual 104, 3) := by decide +kernel
theorem dX8_spread_97 : decode cX8_spread 97 = .ok (.iload 6, 2) := by decide +kernel
theorem dX8_spread_99 : decode cX8_spread 99 = .ok (.invokevirtual 73, 3) := by decide +kernel
theorem dX8_spread_102 : decode cX8_spread 102 = .ok (.goto 57, 3) := by decide +kernel
theorem dX8_spread_105 : decode cX8_spread 105 = .ok (.aload_n 0, 1) := by decide +kernel
theorem dX8_spread_106 : decode cX8_spread 106 = .ok (.iload_n 1, 1) := by decide +kernel
theorem dX8_spread_107 : decode cX8_spread 107 = .ok (.iconst 1, 1) := by decide +kernel
theorem dX8_spread_108 : decode cX8_spread 108 = .ok (.iadd, 1) := by decide +kernel
theorem dX8_spread_109 : decode cX8_spread 109 = .ok (.lload 7, 2) := by decide +kernel
theorem dX8_spread_111 : decode cX8_spread 111 = .ok (.iload 4, 2) := by decide +kernel
theorem dX8_spread_113 : decode cX8_spread 113 = .ok (.iconst 1, 1) := by decide +kernel
theorem dX8_spread_114 : decode cX8_spread 114 = .ok (.iadd, 1) := by decide +kernel
theorem dX8_spread_115 : decode cX8_spread 115 = .ok (.iload 5, 2) := by decide +kernel
theorem dX8_spread_117 : decode cX8_spread 117 = .ok (.aload_n 0, 1) := by decide +kernel
theorem dX8_spread_118 : decode cX8_spread 118 = .ok (.iload 6, 2) := by decide +kernel
theorem dX8_spread_120 : decode cX8_spread 120 = .ok (.aload_n 0, 1) := by decide +kernel
theorem dX8_spread_121 : decode cX8_spread 121 = .ok (.getfield 25, 3) := by decide +kernel
theorem dX8_spread_124 : decode cX8_spread 124 = .ok (.iload_n 1, 1) := by decide +kernel
theorem dX8_spread_125 : decode cX8_spread 125 = .ok (.iaload, 1) := by decide +kernel
theorem dX8_spread_126 : decode cX8_spread 126 = .ok (.invokevirtual 104, 3) := by decide +kernel
theorem dX8_spread_129 : decode cX8_spread 129 = .ok (.invokevirtual 73, 3) := by decide +kernel
theorem dX8_spread_132 : decode cX8_spread 132 = .ok (.aload_n 0, 1) := by decide +kernel
theorem dX8_spread_133 : decode cX8_spread 133 = .ok (.iload_n 1, 1) := by decide +kernel
theorem dX8_spread_134 : decode cX8_spread 134 = .ok (.iconst 1, 1) := by decide +kernel
theorem dX8_spread_135 : decode cX8_spread 135 = .ok (.iadd, 1) := by decide +kernel
theorem dX8_spread_136 : decode cX8_spread 136 = .ok (.lload_n 2, 1) := by decide +kernel
theorem dX8_spread_137 : decode cX8_spread 137 = .ok (.lload 7, 2) := by decide +kernel
theorem dX8_spread_139 : decode cX8_spread 139 = .ok (.lsub, 1) := by decide +kernel
theorem dX8_spread_140 : decode cX8_spread 140 = .ok (.iload 4, 2) := by decide +kernel
theorem dX8_spread_142 : decode cX8_spread 142 = .ok (.iload 5, 2) := by decide +kernel
theorem dX8_spread_144 : decode cX8_spread 144 = .ok (.aload_n 0, 1) := by decide +kernel
theorem dX8_spread_145 : decode cX8_spread 145 = .ok (.iload 6, 2) := by decide +kernel
theorem dX8_spread_147 : decode cX8_spread 147 = .ok (.aload_n 0, 1) := by decide +kernel
theorem dX8_spread_148 : decode cX8_spread 148 = .ok (.getfield 21, 3) := by decide +kernel
theorem dX8_spread_151 : decode cX8_spread 151 = .ok (.iload_n 1, 1) := by decide +kernel
theorem dX8_spread_152 : decode cX8_spread 152 = .ok (.iaload, 1) := by decide +kernel
theorem dX8_spread_153 : decode cX8_spread 153 = .ok (.invokevirtual 104, 3) := by decide +kernel
theorem dX8_spread_156 : decode cX8_spread 156 = .ok (.invokevirtual 73, 3) := by decide +kernel
theorem dX8_spread_159 : decode cX8_spread 159 = .ok (.return_, 1) := by decide +kernel
