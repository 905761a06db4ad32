theorem dX11_bears_0 : decode cX11_bears 0 = .ok (.aload_n 0, 1) := by decide +kernel
theorem dX11_bears_1 : decode cX11_bears 1 = .ok (.getfield 56, 3) := by decide +kernel
theorem dX11_bears_4 : decode cX11_bears 4 = .ok (.iload_n 1, 1) := by decide +kernel
theorem dX11_bears_5 : decode cX11_bears 5 = .ok (.iload_n 2, 1) := by decide +kernel
theorem dX11_bears_6 : decode cX11_bears 6 = .ok (.iload_n 3, 1) := by decide +kernel
theorem dX11_bears_7 : decode cX11_bears 7 = .ok (.invokestatic 280, 3) := by decide +kernel
theorem dX11_bears_10 : decode cX11_bears 10 = .ok (.iaload, 1) := by decide +kernel
theorem dX11_bears_11 : decode cX11_bears 11 = .ok (.istore 5, 2) := by decide +kernel
theorem dX11_bears_13 : decode cX11_bears 13 = .ok (.iload 5, 2) := by decide +kernel
theorem dX11_bears_15 : decode cX11_bears 15 = .ok (.aload_n 0, 1) := by decide +kernel
theorem dX11_bears_16 : decode cX11_bears 16 = .ok (.getfield 34, 3) := by decide +kernel
theorem dX11_bears_19 : decode cX11_bears 19 = .ok (.iconst 1, 1) := by decide +kernel
theorem dX11_bears_20 : decode cX11_bears 20 = .ok (.iaload, 1) := by decide +kernel
theorem dX11_bears_21 : decode cX11_bears 21 = .ok (.if_icmp .lt 5, 3) := by decide +kernel
theorem dX11_bears_24 : decode cX11_bears 24 = .ok (.iconst 0, 1) := by decide +kernel
theorem dX11_bears_25 : decode cX11_bears 25 = .ok (.ireturn, 1) := by decide +kernel
theorem dX11_bears_26 : decode cX11_bears 26 = .ok (.iload 4, 2) := by decide +kernel
theorem dX11_bears_28 : decode cX11_bears 28 = .ok (.istore 6, 2) := by decide +kernel
theorem dX11_bears_30 : decode cX11_bears 30 = .ok (.iload 5, 2) := by decide +kernel
theorem dX11_bears_32 : decode cX11_bears 32 = .ok (.iconst 1, 1) := by decide +kernel
theorem dX11_bears_33 : decode cX11_bears 33 = .ok (.isub, 1) := by decide +kernel
theorem dX11_bears_34 : decode cX11_bears 34 = .ok (.istore 7, 2) := by decide +kernel
theorem dX11_bears_36 : decode cX11_bears 36 = .ok (.iload 7, 2) := by decide +kernel
theorem dX11_bears_38 : decode cX11_bears 38 = .ok (.ifCond .lt 53, 3) := by decide +kernel
theorem dX11_bears_41 : decode cX11_bears 41 = .ok (.aload_n 0, 1) := by decide +kernel
theorem dX11_bears_42 : decode cX11_bears 42 = .ok (.getfield 59, 3) := by decide +kernel
theorem dX11_bears_45 : decode cX11_bears 45 = .ok (.iload_n 1, 1) := by decide +kernel
theorem dX11_bears_46 : decode cX11_bears 46 = .ok (.iload_n 2, 1) := by decide +kernel
theorem dX11_bears_47 : decode cX11_bears 47 = .ok (.iload_n 3, 1) := by decide +kernel
theorem dX11_bears_48 : decode cX11_bears 48 = .ok (.iload 7, 2) := by decide +kernel
theorem dX11_bears_50 : decode cX11_bears 50 = .ok (.invokestatic 286, 3) := by decide +kernel
theorem dX11_bears_53 : decode cX11_bears 53 = .ok (.iaload, 1) := by decide +kernel
theorem dX11_bears_54 : decode cX11_bears 54 = .ok (.istore 8, 2) := by decide +kernel
theorem dX11_bears_56 : decode cX11_bears 56 = .ok (.iload 6, 2) := by decide +kernel
theorem dX11_bears_58 : decode cX11_bears 58 = .ok (.aload_n 0, 1) := by decide +kernel
theorem dX11_bears_59 : decode cX11_bears 59 = .ok (.getfield 40, 3) := by decide +kernel
theorem dX11_bears_62 : decode cX11_bears 62 = .ok (.iconst 3, 1) := by decide +kernel
theorem dX11_bears_63 : decode cX11_bears 63 = .ok (.iload 8, 2) := by decide +kernel
theorem dX11_bears_65 : decode cX11_bears 65 = .ok (.imul, 1) := by decide +kernel
theorem dX11_bears_66 : decode cX11_bears 66 = .ok (.iconst 1, 1) := by decide +kernel
theorem dX11_bears_67 : decode cX11_bears 67 = .ok (.iadd, 1) := by decide +kernel
theorem dX11_bears_68 : decode cX11_bears 68 = .ok (.iaload, 1) := by decide +kernel
theorem dX11_bears_69 : decode cX11_bears 69 = .ok (.if_icmp .le 5, 3) := by decide +kernel
theorem dX11_bears_72 : decode cX11_bears 72 = .ok (.iconst 0, 1) := by decide +kernel
theorem dX11_bears_73 : decode cX11_bears 73 = .ok (.ireturn, 1) := by decide +kernel
theorem dX11_bears_74 : decode cX11_bears 74 = .ok (.iload 6, 2) := by decide +kernel
theorem dX11_bears_76 : decode cX11_bears 76 = .ok (.aload_n 0, 1) := by decide +kernel
theorem dX11_bears_77 : decode cX11_bears 77 = .ok (.iload 8, 2) := by decide +kernel
theorem dX11_bears_79 : decode cX11_bears 79 = .ok (.invokevirtual 289, 3) := by decide +kernel
theorem dX11_bears_82 : decode cX11_bears 82 = .ok (.iadd, 1) := by decide +kernel
theorem dX11_bears_83 : decode cX11_bears 83 = .ok (.istore 6, 2) := by decide +kernel
theorem dX11_bears_85 : decode cX11_bears 85 = .ok (.iinc 7 (-1), 3) := by decide +kernel
theorem dX11_bears_88 : decode cX11_bears 88 = .ok (.goto (-52), 3) := by decide +kernel
theorem dX11_bears_91 : decode cX11_bears 91 = .ok (.iload_n 3, 1) := by decide +kernel
theorem dX11_bears_92 : decode cX11_bears 92 = .ok (.iconst 1, 1) := by decide +kernel
theorem dX11_bears_93 : decode cX11_bears 93 = .ok (.isub, 1) := by decide +kernel
theorem dX11_bears_94 : decode cX11_bears 94 = .ok (.istore 7, 2) := by decide +kernel
theorem dX11_bears_96 : decode cX11_bears 96 = .ok (.iload 7, 2) := by decide +kernel
theorem dX11_bears_98 : decode cX11_bears 98 = .ok (.iload_n 3, 1) := by decide +kernel
theorem dX11_bears_99 : decode cX11_bears 99 = .ok (.iconst 1, 1) := by decide +kernel
theorem dX11_bears_100 : decode cX11_bears 100 = .ok (.iadd, 1) := by decide +kernel
theorem dX11_bears_101 : decode cX11_bears 101 = .ok (.if_icmp .gt 56, 3) := by decide +kernel
theorem dX11_bears_104 : decode cX11_bears 104 = .ok (.iload 7, 2) := by decide +kernel
theorem dX11_bears_106 : decode cX11_bears 106 = .ok (.i2l, 1) := by decide +kernel
theorem dX11_bears_107 : decode cX11_bears 107 = .ok (.lconst 0, 1) := by decide +kernel
theorem dX11_bears_108 : decode cX11_bears 108 = .ok (.aload_n 0, 1) := by decide +kernel
theorem dX11_bears_109 : decode cX11_bears 109 = .ok (.getfield 34, 3) := by decide +kernel
theorem dX11_bears_112 : decode cX11_bears 112 = .ok (.iconst 0, 1) := by decide +kernel
theorem dX11_bears_113 : decode cX11_bears 113 = .ok (.iaload, 1) := by decide +kernel
theorem dX11_bears_114 : decode cX11_bears 114 = .ok (.iconst 1, 1) := by decide +kernel
theorem dX11_bears_115 : decode cX11_bears 115 = .ok (.isub, 1) := by decide +kernel
theorem dX11_bears_116 : decode cX11_bears 116 = .ok (.i2l, 1) := by decide +kernel
theorem dX11_bears_117 : decode cX11_bears 117 = .ok (.invokestatic 104, 3) := by decide +kernel
theorem dX11_bears_120 : decode cX11_bears 120 = .ok (.ifCond .eq 31, 3) := by decide +kernel
theorem dX11_bears_123 : decode cX11_bears 123 = .ok (.iload 5, 2) := by decide +kernel
theorem dX11_bears_125 : decode cX11_bears 125 = .ok (.iconst 1, 1) := by decide +kernel
theorem dX11_bears_126 : decode cX11_bears 126 = .ok (.iadd, 1) := by decide +kernel
theorem dX11_bears_127 : decode cX11_bears 127 = .ok (.aload_n 0, 1) := by decide +kernel
theorem dX11_bears_128 : decode cX11_bears 128 = .ok (.getfield 56, 3) := by decide +kernel
theorem dX11_bears_131 : decode cX11_bears 131 = .ok (.iload_n 1, 1) := by decide +kernel
theorem dX11_bears_132 : decode cX11_bears 132 = .ok (.iload_n 2, 1) := by decide +kernel
theorem dX11_bears_133 : decode cX11_bears 133 = .ok (.iload 7, 2) := by decide +kernel
theorem dX11_bears_135 : decode cX11_bears 135 = .ok (.invokestatic 280, 3) := by decide +kernel
theorem dX11_bears_138 : decode cX11_bears 138 = .ok (.iaload, 1) := by decide +kernel
theorem dX11_bears_139 : decode cX11_bears 139 = .ok (.aload_n 0, 1) := by decide +kernel
theorem dX11_bears_140 : decode cX11_bears 140 = .ok (.getfield 34, 3) := by decide +kernel
theorem dX11_bears_143 : decode cX11_bears 143 = .ok (.iconst 2, 1) := by decide +kernel
theorem dX11_bears_144 : decode cX11_bears 144 = .ok (.iaload, 1) := by decide +kernel
theorem dX11_bears_145 : decode cX11_bears 145 = .ok (.iadd, 1) := by decide +kernel
theorem dX11_bears_146 : decode cX11_bears 146 = .ok (.if_icmp .le 5, 3) := by decide +kernel
theorem dX11_bears_149 : decode cX11_bears 149 = .ok (.iconst 0, 1) := by decide +kernel
theorem dX11_bears_150 : decode cX11_bears 150 = .ok (.ireturn, 1) := by decide +kernel
theorem dX11_bears_151 : decode cX11_bears 151 = .ok (.iinc 7 2, 3) := by decide +kernel
theorem dX11_bears_154 : decode cX11_bears 154 = .ok (.goto (-58), 3) := by decide +kernel
theorem dX11_bears_157 : decode cX11_bears 157 = .ok (.iconst 1, 1) := by decide +kernel
theorem dX11_bears_158 : decode cX11_bears 158 = .ok (.ireturn, 1) := by decide +kernel
theorem dX11_columnFor_0 : decode cX11_columnFor 0 = .ok (.iconst (-1), 1) := by decide +kernel
theorem dX11_columnFor_1 : decode cX11_columnFor 1 = .ok (.istore 6, 2) := by decide +kernel
theorem dX11_columnFor_3 : decode cX11_columnFor 3 = .ok (.iconst 0, 1) := by decide +kernel
theorem dX11_columnFor_4 : decode cX11_columnFor 4 = .ok (.istore 7, 2) := by decide +kernel
theorem dX11_columnFor_6 : decode cX11_columnFor 6 = .ok (.iconst 0, 1) := by decide +kernel
theorem dX11_columnFor_7 : decode cX11_columnFor 7 = .ok (.istore 8, 2) := by decide +kernel
theorem dX11_columnFor_9 : decode cX11_columnFor 9 = .ok (.iload 8, 2) := by decide +kernel
theorem dX11_columnFor_11 : decode cX11_columnFor 11 = .ok (.aload_n 0, 1) := by decide +kernel
theorem dX11_columnFor_12 : decode cX11_columnFor 12 = .ok (.getfield 34, 3) := by decide +kernel
theorem dX11_columnFor_15 : decode cX11_columnFor 15 = .ok (.iconst 0, 1) := by decide +kernel
theorem dX11_columnFor_16 : decode cX11_columnFor 16 = .ok (.iaload, 1) := by decide +kernel
theorem dX11_columnFor_17 : decode cX11_columnFor 17 = .ok (.if_icmp .ge 106, 3) := by decide +kernel
theorem dX11_columnFor_20 : decode cX11_columnFor 20 = .ok (.aload_n 0, 1) := by decide +kernel
theorem dX11_columnFor_21 : decode cX11_columnFor 21 = .ok (.iload_n 1, 1) := by decide +kernel
theorem dX11_columnFor_22 : decode cX11_columnFor 22 = .ok (.iload_n 2, 1) := by decide +kernel
theorem dX11_columnFor_23 : decode cX11_columnFor 23 = .ok (.iload 8, 2) := by decide +kernel
theorem dX11_columnFor_25 : decode cX11_columnFor 25 = .ok (.iload_n 3, 1) := by decide +kernel
theorem dX11_columnFor_26 : decode cX11_columnFor 26 = .ok (.invokevirtual 304, 3) := by decide +kernel
theorem dX11_columnFor_29 : decode cX11_columnFor 29 = .ok (.ifCond .ne 6, 3) := by decide +kernel
theorem dX11_columnFor_32 : decode cX11_columnFor 32 = .ok (.goto 85, 3) := by decide +kernel
theorem dX11_columnFor_35 : decode cX11_columnFor 35 = .ok (.aload_n 0, 1) := by decide +kernel
theorem dX11_columnFor_36 : decode cX11_columnFor 36 = .ok (.getfield 56, 3) := by decide +kernel
theorem dX11_columnFor_39 : decode cX11_columnFor 39 = .ok (.iload_n 1, 1) := by decide +kernel
theorem dX11_columnFor_40 : decode cX11_columnFor 40 = .ok (.iload_n 2, 1) := by decide +kernel
theorem dX11_columnFor_41 : decode cX11_columnFor 41 = .ok (.iload 8, 2) := by decide +kernel
theorem dX11_columnFor_43 : decode cX11_columnFor 43 = .ok (.invokestatic 280, 3) := by decide +kernel
theorem dX11_columnFor_46 : decode cX11_columnFor 46 = .ok (.iaload, 1) := by decide +kernel
theorem dX11_columnFor_47 : decode cX11_columnFor 47 = .ok (.istore 9, 2) := by decide +kernel
theorem dX11_columnFor_49 : decode cX11_columnFor 49 = .ok (.iload 4, 2) := by decide +kernel
theorem dX11_columnFor_51 : decode cX11_columnFor 51 = .ok (.ifCond .ne 8, 3) := by decide +kernel
theorem dX11_columnFor_54 : decode cX11_columnFor 54 = .ok (.iload 9, 2) := by decide +kernel
theorem dX11_columnFor_56 : decode cX11_columnFor 56 = .ok (.goto 35, 3) := by decide +kernel
theorem dX11_columnFor_59 : decode cX11_columnFor 59 = .ok (.iload 4, 2) := by decide +kernel
theorem dX11_columnFor_61 : decode cX11_columnFor 61 = .ok (.iconst 1, 1) := by decide +kernel
theorem dX11_columnFor_62 : decode cX11_columnFor 62 = .ok (.if_icmp .ne 9, 3) := by decide +kernel
theorem dX11_columnFor_65 : decode cX11_columnFor 65 = .ok (.iload 9, 2) := by decide +kernel
theorem dX11_columnFor_67 : decode cX11_columnFor 67 = .ok (.ineg, 1) := by decide +kernel
theorem dX11_columnFor_68 : decode cX11_columnFor 68 = .ok (.goto 23, 3) := by decide +kernel
theorem dX11_columnFor_71 : decode cX11_columnFor 71 = .ok (.iload 8, 2) := by decide +kernel
theorem dX11_columnFor_73 : decode cX11_columnFor 73 = .ok (.iload 5, 2) := by decide +kernel
theorem dX11_columnFor_75 : decode cX11_columnFor 75 = .ok (.if_icmp .ge 11, 3) := by decide +kernel
theorem dX11_columnFor_78 : decode cX11_columnFor 78 = .ok (.iload 5, 2) := by decide +kernel
theorem dX11_columnFor_80 : decode cX11_columnFor 80 = .ok (.iload 8, 2) := by decide +kernel
theorem dX11_columnFor_82 : decode cX11_columnFor 82 = .ok (.isub, 1) := by decide +kernel
theorem dX11_columnFor_83 : decode cX11_columnFor 83 = .ok (.goto 8, 3) := by decide +kernel
theorem dX11_columnFor_86 : decode cX11_columnFor 86 = .ok (.iload 8, 2) := by decide +kernel
theorem dX11_columnFor_88 : decode cX11_columnFor 88 = .ok (.iload 5, 2) := by decide +kernel
theorem dX11_columnFor_90 : decode cX11_columnFor 90 = .ok (.isub, 1) := by decide +kernel
theorem dX11_columnFor_91 : decode cX11_columnFor 91 = .ok (.istore 10, 2) := by decide +kernel
theorem dX11_columnFor_93 : decode cX11_columnFor 93 = .ok (.iload 6, 2) := by decide +kernel
theorem dX11_columnFor_95 : decode cX11_columnFor 95 = .ok (.iconst (-1), 1) := by decide +kernel
theorem dX11_columnFor_96 : decode cX11_columnFor 96 = .ok (.if_icmp .eq 13, 3) := by decide +kernel
theorem dX11_columnFor_99 : decode cX11_columnFor 99 = .ok (.iload 10, 2) := by decide +kernel
theorem dX11_columnFor_101 : decode cX11_columnFor 101 = .ok (.iload 7, 2) := by decide +kernel
theorem dX11_columnFor_103 : decode cX11_columnFor 103 = .ok (.if_icmp .lt 6, 3) := by decide +kernel
theorem dX11_columnFor_106 : decode cX11_columnFor 106 = .ok (.goto 11, 3) := by decide +kernel
theorem dX11_columnFor_109 : decode cX11_columnFor 109 = .ok (.iload 8, 2) := by decide +kernel
theorem dX11_columnFor_111 : decode cX11_columnFor 111 = .ok (.istore 6, 2) := by decide +kernel
theorem dX11_columnFor_113 : decode cX11_columnFor 113 = .ok (.iload 10, 2) := by decide +kernel
theorem dX11_columnFor_115 : decode cX11_columnFor 115 = .ok (.istore 7, 2) := by decide +kernel
theorem dX11_columnFor_117 : decode cX11_columnFor 117 = .ok (.iinc 8 1, 3) := by decide +kernel
theorem dX11_columnFor_120 : decode cX11_columnFor 120 = .ok (.goto (-111), 3) := by decide +kernel
theorem dX11_columnFor_123 : decode cX11_columnFor 123 = .ok (.iload 6, 2) := by decide +kernel
theorem dX11_columnFor_125 : decode cX11_columnFor 125 = .ok (.ireturn, 1) := by decide +kernel
theorem dX11_countOf_0 : decode cX11_countOf 0 = .ok (.iconst 0, 1) := by decide +kernel
theorem dX11_countOf_1 : decode cX11_countOf 1 = .ok (.istore 4, 2) := by decide +kernel
theorem dX11_countOf_3 : decode cX11_countOf 3 = .ok (.iconst 0, 1) := by decide +kernel
theorem dX11_countOf_4 : decode cX11_countOf 4 = .ok (.istore 5, 2) := by decide +kernel
theorem dX11_countOf_6 : decode cX11_countOf 6 = .ok (.iload 5, 2) := by decide +kernel
theorem dX11_countOf_8 : decode cX11_countOf 8 = .ok (.aload_n 0, 1) := by decide +kernel
theorem dX11_countOf_9 : decode cX11_countOf 9 = .ok (.getfield 34, 3) := by decide +kernel
theorem dX11_countOf_12 : decode cX11_countOf 12 = .ok (.iconst 0, 1) := by decide +kernel
theorem dX11_countOf_13 : decode cX11_countOf 13 = .ok (.iaload, 1) := by decide +kernel
theorem dX11_countOf_14 : decode cX11_countOf 14 = .ok (.if_icmp .ge 99, 3) := by decide +kernel
theorem dX11_countOf_17 : decode cX11_countOf 17 = .ok (.aload_n 0, 1) := by decide +kernel
theorem dX11_countOf_18 : decode cX11_countOf 18 = .ok (.getfield 56, 3) := by decide +kernel
theorem dX11_countOf_21 : decode cX11_countOf 21 = .ok (.iload_n 1, 1) := by decide +kernel
theorem dX11_countOf_22 : decode cX11_countOf 22 = .ok (.iload_n 2, 1) := by decide +kernel
theorem dX11_countOf_23 : decode cX11_countOf 23 = .ok (.iload 5, 2) := by decide +kernel
theorem dX11_countOf_25 : decode cX11_countOf 25 = .ok (.invokestatic 280, 3) := by decide +kernel
theorem dX11_countOf_28 : decode cX11_countOf 28 = .ok (.iaload, 1) := by decide +kernel
theorem dX11_countOf_29 : decode cX11_countOf 29 = .ok (.istore 6, 2) := by decide +kernel
theorem dX11_countOf_31 : decode cX11_countOf 31 = .ok (.iload_n 3, 1) := by decide +kernel
theorem dX11_countOf_32 : decode cX11_countOf 32 = .ok (.ifCond .ne 10, 3) := by decide +kernel
theorem dX11_countOf_35 : decode cX11_countOf 35 = .ok (.iload 4, 2) := by decide +kernel
theorem dX11_countOf_37 : decode cX11_countOf 37 = .ok (.iload 6, 2) := by decide +kernel
theorem dX11_countOf_39 : decode cX11_countOf 39 = .ok (.iadd, 1) := by decide +kernel
theorem dX11_countOf_40 : decode cX11_countOf 40 = .ok (.istore 4, 2) := by decide +kernel
theorem dX11_countOf_42 : decode cX11_countOf 42 = .ok (.iload_n 3, 1) := by decide +kernel
theorem dX11_countOf_43 : decode cX11_countOf 43 = .ok (.iconst 2, 1) := by decide +kernel
theorem dX11_countOf_44 : decode cX11_countOf 44 = .ok (.if_icmp .ne 19, 3) := by decide +kernel
theorem dX11_countOf_47 : decode cX11_countOf 47 = .ok (.iload 6, 2) := by decide +kernel
theorem dX11_countOf_49 : decode cX11_countOf 49 = .ok (.iload 4, 2) := by decide +kernel
theorem dX11_countOf_51 : decode cX11_countOf 51 = .ok (.if_icmp .le 8, 3) := by decide +kernel
theorem dX11_countOf_54 : decode cX11_countOf 54 = .ok (.iload 6, 2) := by decide +kernel
theorem dX11_countOf_56 : decode cX11_countOf 56 = .ok (.goto 5, 3) := by decide +kernel
theorem dX11_countOf_59 : decode cX11_countOf 59 = .ok (.iload 4, 2) := by decide +kernel
theorem dX11_countOf_61 : decode cX11_countOf 61 = .ok (.istore 4, 2) := by decide +kernel
theorem dX11_countOf_63 : decode cX11_countOf 63 = .ok (.iconst 0, 1) := by decide +kernel
theorem dX11_countOf_64 : decode cX11_countOf 64 = .ok (.istore 7, 2) := by decide +kernel
theorem dX11_countOf_66 : decode cX11_countOf 66 = .ok (.iload 7, 2) := by decide +kernel
theorem dX11_countOf_68 : decode cX11_countOf 68 = .ok (.iload 6, 2) := by decide +kernel
theorem dX11_countOf_70 : decode cX11_countOf 70 = .ok (.if_icmp .ge 37, 3) := by decide +kernel
theorem dX11_countOf_73 : decode cX11_countOf 73 = .ok (.iload_n 3, 1) := by decide +kernel
theorem dX11_countOf_74 : decode cX11_countOf 74 = .ok (.iconst 1, 1) := by decide +kernel
theorem dX11_countOf_75 : decode cX11_countOf 75 = .ok (.if_icmp .ne 32, 3) := by decide +kernel
theorem dX11_countOf_78 : decode cX11_countOf 78 = .ok (.iload 4, 2) := by decide +kernel
theorem dX11_countOf_80 : decode cX11_countOf 80 = .ok (.aload_n 0, 1) := by decide +kernel
theorem dX11_countOf_81 : decode cX11_countOf 81 = .ok (.aload_n 0, 1) := by decide +kernel
theorem dX11_countOf_82 : decode cX11_countOf 82 = .ok (.getfield 59, 3) := by decide +kernel
theorem dX11_countOf_85 : decode cX11_countOf 85 = .ok (.iload_n 1, 1) := by decide +kernel
theorem dX11_countOf_86 : decode cX11_countOf 86 = .ok (.iload_n 2, 1) := by decide +kernel
theorem dX11_countOf_87 : decode cX11_countOf 87 = .ok (.iload 5, 2) := by decide +kernel
theorem dX11_countOf_89 : decode cX11_countOf 89 = .ok (.iload 7, 2) := by decide +kernel
theorem dX11_countOf_91 : decode cX11_countOf 91 = .ok (.invokestatic 286, 3) := by decide +kernel
theorem dX11_countOf_94 : decode cX11_countOf 94 = .ok (.iaload, 1) := by decide +kernel
theorem dX11_countOf_95 : decode cX11_countOf 95 = .ok (.invokevirtual 289, 3) := by decide +kernel
theorem dX11_countOf_98 : decode cX11_countOf 98 = .ok (.iadd, 1) := by decide +kernel
theorem dX11_countOf_99 : decode cX11_countOf 99 = .ok (.istore 4, 2) := by decide +kernel
theorem dX11_countOf_101 : decode cX11_countOf 101 = .ok (.iinc 7 1, 3) := by decide +kernel
theorem dX11_countOf_104 : decode cX11_countOf 104 = .ok (.goto (-38), 3) := by decide +kernel
theorem dX11_countOf_107 : decode cX11_countOf 107 = .ok (.iinc 5 1, 3) := by decide +kernel
theorem dX11_countOf_110 : decode cX11_countOf 110 = .ok (.goto (-104), 3) := by decide +kernel
theorem dX11_countOf_113 : decode cX11_countOf 113 = .ok (.iload 4, 2) := by decide +kernel
theorem dX11_countOf_115 : decode cX11_countOf 115 = .ok (.ireturn, 1) := by decide +kernel
theorem dX11_fill_0 : decode cX11_fill 0 = .ok (.aload_n 0, 1) := by decide +kernel
theorem dX11_fill_1 : decode cX11_fill 1 = .ok (.iconst 0, 1) := by decide +kernel
theorem dX11_fill_2 : decode cX11_fill 2 = .ok (.putfield 99, 3) := by decide +kernel
theorem dX11_fill_5 : decode cX11_fill 5 = .ok (.iload_n 1, 1) := by decide +kernel
theorem dX11_fill_6 : decode cX11_fill 6 = .ok (.invokestatic 283, 3) := by decide +kernel
theorem dX11_fill_9 : decode cX11_fill 9 = .ok (.ifCond .eq 11, 3) := by decide +kernel
theorem dX11_fill_12 : decode cX11_fill 12 = .ok (.aload_n 0, 1) := by decide +kernel
theorem dX11_fill_13 : decode cX11_fill 13 = .ok (.iload_n 2, 1) := by decide +kernel
theorem dX11_fill_14 : decode cX11_fill 14 = .ok (.invokevirtual 301, 3) := by decide +kernel
theorem dX11_fill_17 : decode cX11_fill 17 = .ok (.ifCond .ne 6, 3) := by decide +kernel
theorem dX11_fill_20 : decode cX11_fill 20 = .ok (.bipush (-2), 2) := by decide +kernel
theorem dX11_fill_22 : decode cX11_fill 22 = .ok (.ireturn, 1) := by decide +kernel
theorem dX11_fill_23 : decode cX11_fill 23 = .ok (.aload_n 0, 1) := by decide +kernel
theorem dX11_fill_24 : decode cX11_fill 24 = .ok (.iconst 0, 1) := by decide +kernel
theorem dX11_fill_25 : decode cX11_fill 25 = .ok (.iconst 4, 1) := by decide +kernel
theorem dX11_fill_26 : decode cX11_fill 26 = .ok (.invokevirtual 327, 3) := by decide +kernel
theorem dX11_fill_29 : decode cX11_fill 29 = .ok (.iconst 0, 1) := by decide +kernel
theorem dX11_fill_30 : decode cX11_fill 30 = .ok (.istore_n 3, 1) := by decide +kernel
theorem dX11_fill_31 : decode cX11_fill 31 = .ok (.aload_n 0, 1) := by decide +kernel
theorem dX11_fill_32 : decode cX11_fill 32 = .ok (.iconst 4, 1) := by decide +kernel
theorem dX11_fill_33 : decode cX11_fill 33 = .ok (.iload_n 1, 1) := by decide +kernel
theorem dX11_fill_34 : decode cX11_fill 34 = .ok (.iload_n 2, 1) := by decide +kernel
theorem dX11_fill_35 : decode cX11_fill 35 = .ok (.iconst 0, 1) := by decide +kernel
theorem dX11_fill_36 : decode cX11_fill 36 = .ok (.iconst 0, 1) := by decide +kernel
theorem dX11_fill_37 : decode cX11_fill 37 = .ok (.invokevirtual 330, 3) := by decide +kernel
theorem dX11_fill_40 : decode cX11_fill 40 = .ok (.istore 4, 2) := by decide +kernel
theorem dX11_fill_42 : decode cX11_fill 42 = .ok (.iload_n 3, 1) := by decide +kernel
theorem dX11_fill_43 : decode cX11_fill 43 = .ok (.sipush 200, 3) := by decide +kernel
theorem dX11_fill_46 : decode cX11_fill 46 = .ok (.if_icmp .ge 36, 3) := by decide +kernel
theorem dX11_fill_49 : decode cX11_fill 49 = .ok (.iload 4, 2) := by decide +kernel
theorem dX11_fill_51 : decode cX11_fill 51 = .ok (.iconst (-1), 1) := by decide +kernel
theorem dX11_fill_52 : decode cX11_fill 52 = .ok (.if_icmp .eq 30, 3) := by decide +kernel
theorem dX11_fill_55 : decode cX11_fill 55 = .ok (.aload_n 0, 1) := by decide +kernel
theorem dX11_fill_56 : decode cX11_fill 56 = .ok (.iconst 4, 1) := by decide +kernel
theorem dX11_fill_57 : decode cX11_fill 57 = .ok (.iload_n 1, 1) := by decide +kernel
theorem dX11_fill_58 : decode cX11_fill 58 = .ok (.iload 4, 2) := by decide +kernel
theorem dX11_fill_60 : decode cX11_fill 60 = .ok (.iload_n 2, 1) := by decide +kernel
theorem dX11_fill_61 : decode cX11_fill 61 = .ok (.iconst (-1), 1) := by decide +kernel
theorem dX11_fill_62 : decode cX11_fill 62 = .ok (.invokevirtual 307, 3) := by decide +kernel
theorem dX11_fill_65 : decode cX11_fill 65 = .ok (.iinc 3 1, 3) := by decide +kernel
theorem dX11_fill_68 : decode cX11_fill 68 = .ok (.aload_n 0, 1) := by decide +kernel
theorem dX11_fill_69 : decode cX11_fill 69 = .ok (.iconst 4, 1) := by decide +kernel
theorem dX11_fill_70 : decode cX11_fill 70 = .ok (.iload_n 1, 1) := by decide +kernel
theorem dX11_fill_71 : decode cX11_fill 71 = .ok (.iload_n 2, 1) := by decide +kernel
theorem dX11_fill_72 : decode cX11_fill 72 = .ok (.iconst 0, 1) := by decide +kernel
theorem dX11_fill_73 : decode cX11_fill 73 = .ok (.iconst 0, 1) := by decide +kernel
theorem dX11_fill_74 : decode cX11_fill 74 = .ok (.invokevirtual 330, 3) := by decide +kernel
theorem dX11_fill_77 : decode cX11_fill 77 = .ok (.istore 4, 2) := by decide +kernel
theorem dX11_fill_79 : decode cX11_fill 79 = .ok (.goto (-37), 3) := by decide +kernel
theorem dX11_fill_82 : decode cX11_fill 82 = .ok (.iload_n 3, 1) := by decide +kernel
theorem dX11_fill_83 : decode cX11_fill 83 = .ok (.ireturn, 1) := by decide +kernel
theorem dX11_joints_0 : decode cX11_joints 0 = .ok (.iconst 0, 1) := by decide +kernel
theorem dX11_joints_1 : decode cX11_joints 1 = .ok (.istore_n 2, 1) := by decide +kernel
theorem dX11_joints_2 : decode cX11_joints 2 = .ok (.iconst 0, 1) := by decide +kernel
theorem dX11_joints_3 : decode cX11_joints 3 = .ok (.istore_n 3, 1) := by decide +kernel
theorem dX11_joints_4 : decode cX11_joints 4 = .ok (.iload_n 3, 1) := by decide +kernel
theorem dX11_joints_5 : decode cX11_joints 5 = .ok (.iconst 1, 1) := by decide +kernel
theorem dX11_joints_6 : decode cX11_joints 6 = .ok (.iadd, 1) := by decide +kernel
theorem dX11_joints_7 : decode cX11_joints 7 = .ok (.aload_n 0, 1) := by decide +kernel
theorem dX11_joints_8 : decode cX11_joints 8 = .ok (.getfield 34, 3) := by decide +kernel
theorem dX11_joints_11 : decode cX11_joints 11 = .ok (.iconst 0, 1) := by decide +kernel
theorem dX11_joints_12 : decode cX11_joints 12 = .ok (.iaload, 1) := by decide +kernel
theorem dX11_joints_13 : decode cX11_joints 13 = .ok (.if_icmp .ge 67, 3) := by decide +kernel
theorem dX11_joints_16 : decode cX11_joints 16 = .ok (.aload_n 0, 1) := by decide +kernel
theorem dX11_joints_17 : decode cX11_joints 17 = .ok (.getfield 56, 3) := by decide +kernel
theorem dX11_joints_20 : decode cX11_joints 20 = .ok (.iconst 0, 1) := by decide +kernel
theorem dX11_joints_21 : decode cX11_joints 21 = .ok (.iload_n 1, 1) := by decide +kernel
theorem dX11_joints_22 : decode cX11_joints 22 = .ok (.iload_n 3, 1) := by decide +kernel
theorem dX11_joints_23 : decode cX11_joints 23 = .ok (.invokestatic 280, 3) := by decide +kernel
theorem dX11_joints_26 : decode cX11_joints 26 = .ok (.iaload, 1) := by decide +kernel
theorem dX11_joints_27 : decode cX11_joints 27 = .ok (.aload_n 0, 1) := by decide +kernel
theorem dX11_joints_28 : decode cX11_joints 28 = .ok (.getfield 56, 3) := by decide +kernel
theorem dX11_joints_31 : decode cX11_joints 31 = .ok (.iconst 0, 1) := by decide +kernel
theorem dX11_joints_32 : decode cX11_joints 32 = .ok (.iload_n 1, 1) := by decide +kernel
theorem dX11_joints_33 : decode cX11_joints 33 = .ok (.iload_n 3, 1) := by decide +kernel
theorem dX11_joints_34 : decode cX11_joints 34 = .ok (.iconst 1, 1) := by decide +kernel
theorem dX11_joints_35 : decode cX11_joints 35 = .ok (.iadd, 1) := by decide +kernel
theorem dX11_joints_36 : decode cX11_joints 36 = .ok (.invokestatic 280, 3) := by decide +kernel
theorem dX11_joints_39 : decode cX11_joints 39 = .ok (.iaload, 1) := by decide +kernel
theorem dX11_joints_40 : decode cX11_joints 40 = .ok (.isub, 1) := by decide +kernel
theorem dX11_joints_41 : decode cX11_joints 41 = .ok (.istore 4, 2) := by decide +kernel
theorem dX11_joints_43 : decode cX11_joints 43 = .ok (.iload_n 2, 1) := by decide +kernel
theorem dX11_joints_44 : decode cX11_joints 44 = .ok (.iload 4, 2) := by decide +kernel
theorem dX11_joints_46 : decode cX11_joints 46 = .ok (.aload_n 0, 1) := by decide +kernel
theorem dX11_joints_47 : decode cX11_joints 47 = .ok (.getfield 34, 3) := by decide +kernel
theorem dX11_joints_50 : decode cX11_joints 50 = .ok (.iconst 2, 1) := by decide +kernel
theorem dX11_joints_51 : decode cX11_joints 51 = .ok (.iaload, 1) := by decide +kernel
theorem dX11_joints_52 : decode cX11_joints 52 = .ok (.if_icmp .gt 15, 3) := by decide +kernel
theorem dX11_joints_55 : decode cX11_joints 55 = .ok (.iload 4, 2) := by decide +kernel
theorem dX11_joints_57 : decode cX11_joints 57 = .ok (.ineg, 1) := by decide +kernel
theorem dX11_joints_58 : decode cX11_joints 58 = .ok (.aload_n 0, 1) := by decide +kernel
theorem dX11_joints_59 : decode cX11_joints 59 = .ok (.getfield 34, 3) := by decide +kernel
theorem dX11_joints_62 : decode cX11_joints 62 = .ok (.iconst 2, 1) := by decide +kernel
theorem dX11_joints_63 : decode cX11_joints 63 = .ok (.iaload, 1) := by decide +kernel
theorem dX11_joints_64 : decode cX11_joints 64 = .ok (.if_icmp .le 7, 3) := by decide +kernel
theorem dX11_joints_67 : decode cX11_joints 67 = .ok (.iconst 1, 1) := by decide +kernel
theorem dX11_joints_68 : decode cX11_joints 68 = .ok (.goto 4, 3) := by decide +kernel
theorem dX11_joints_71 : decode cX11_joints 71 = .ok (.iconst 0, 1) := by decide +kernel
theorem dX11_joints_72 : decode cX11_joints 72 = .ok (.iadd, 1) := by decide +kernel
theorem dX11_joints_73 : decode cX11_joints 73 = .ok (.istore_n 2, 1) := by decide +kernel
theorem dX11_joints_74 : decode cX11_joints 74 = .ok (.iinc 3 1, 3) := by decide +kernel
theorem dX11_joints_77 : decode cX11_joints 77 = .ok (.goto (-73), 3) := by decide +kernel
theorem dX11_joints_80 : decode cX11_joints 80 = .ok (.iload_n 2, 1) := by decide +kernel
theorem dX11_joints_81 : decode cX11_joints 81 = .ok (.ireturn, 1) := by decide +kernel
theorem dX11_lay_0 : decode cX11_lay 0 = .ok (.aload_n 0, 1) := by decide +kernel
theorem dX11_lay_1 : decode cX11_lay 1 = .ok (.iconst 0, 1) := by decide +kernel
theorem dX11_lay_2 : decode cX11_lay 2 = .ok (.putfield 99, 3) := by decide +kernel
theorem dX11_lay_5 : decode cX11_lay 5 = .ok (.aload_n 0, 1) := by decide +kernel
theorem dX11_lay_6 : decode cX11_lay 6 = .ok (.iload_n 1, 1) := by decide +kernel
theorem dX11_lay_7 : decode cX11_lay 7 = .ok (.iload_n 2, 1) := by decide +kernel
theorem dX11_lay_8 : decode cX11_lay 8 = .ok (.invokevirtual 297, 3) := by decide +kernel
theorem dX11_lay_11 : decode cX11_lay 11 = .ok (.ifCond .eq 11, 3) := by decide +kernel
theorem dX11_lay_14 : decode cX11_lay 14 = .ok (.aload_n 0, 1) := by decide +kernel
theorem dX11_lay_15 : decode cX11_lay 15 = .ok (.iload_n 3, 1) := by decide +kernel
theorem dX11_lay_16 : decode cX11_lay 16 = .ok (.invokevirtual 301, 3) := by decide +kernel
theorem dX11_lay_19 : decode cX11_lay 19 = .ok (.ifCond .ne 6, 3) := by decide +kernel
theorem dX11_lay_22 : decode cX11_lay 22 = .ok (.bipush (-2), 2) := by decide +kernel
theorem dX11_lay_24 : decode cX11_lay 24 = .ok (.ireturn, 1) := by decide +kernel
theorem dX11_lay_25 : decode cX11_lay 25 = .ok (.aload_n 0, 1) := by decide +kernel
theorem dX11_lay_26 : decode cX11_lay 26 = .ok (.getfield 68, 3) := by decide +kernel
theorem dX11_lay_29 : decode cX11_lay 29 = .ok (.iload_n 3, 1) := by decide +kernel
theorem dX11_lay_30 : decode cX11_lay 30 = .ok (.iaload, 1) := by decide +kernel
theorem dX11_lay_31 : decode cX11_lay 31 = .ok (.ifCond .ne 6, 3) := by decide +kernel
theorem dX11_lay_34 : decode cX11_lay 34 = .ok (.bipush (-3), 2) := by decide +kernel
theorem dX11_lay_36 : decode cX11_lay 36 = .ok (.ireturn, 1) := by decide +kernel
theorem dX11_lay_37 : decode cX11_lay 37 = .ok (.aload_n 0, 1) := by decide +kernel
theorem dX11_lay_38 : decode cX11_lay 38 = .ok (.iconst 0, 1) := by decide +kernel
theorem dX11_lay_39 : decode cX11_lay 39 = .ok (.iload_n 1, 1) := by decide +kernel
theorem dX11_lay_40 : decode cX11_lay 40 = .ok (.iload_n 2, 1) := by decide +kernel
theorem dX11_lay_41 : decode cX11_lay 41 = .ok (.iload_n 3, 1) := by decide +kernel
theorem dX11_lay_42 : decode cX11_lay 42 = .ok (.invokevirtual 304, 3) := by decide +kernel
theorem dX11_lay_45 : decode cX11_lay 45 = .ok (.ifCond .ne 6, 3) := by decide +kernel
theorem dX11_lay_48 : decode cX11_lay 48 = .ok (.bipush (-5), 2) := by decide +kernel
theorem dX11_lay_50 : decode cX11_lay 50 = .ok (.ireturn, 1) := by decide +kernel
theorem dX11_lay_51 : decode cX11_lay 51 = .ok (.aload_n 0, 1) := by decide +kernel
theorem dX11_lay_52 : decode cX11_lay 52 = .ok (.iconst 0, 1) := by decide +kernel
theorem dX11_lay_53 : decode cX11_lay 53 = .ok (.iload_n 1, 1) := by decide +kernel
theorem dX11_lay_54 : decode cX11_lay 54 = .ok (.iload_n 2, 1) := by decide +kernel
theorem dX11_lay_55 : decode cX11_lay 55 = .ok (.iload_n 3, 1) := by decide +kernel
theorem dX11_lay_56 : decode cX11_lay 56 = .ok (.iconst (-1), 1) := by decide +kernel
theorem dX11_lay_57 : decode cX11_lay 57 = .ok (.invokevirtual 307, 3) := by decide +kernel
theorem dX11_lay_60 : decode cX11_lay 60 = .ok (.aload_n 0, 1) := by decide +kernel
theorem dX11_lay_61 : decode cX11_lay 61 = .ok (.getfield 56, 3) := by decide +kernel
theorem dX11_lay_64 : decode cX11_lay 64 = .ok (.iconst 0, 1) := by decide +kernel
theorem dX11_lay_65 : decode cX11_lay 65 = .ok (.iload_n 1, 1) := by decide +kernel
theorem dX11_lay_66 : decode cX11_lay 66 = .ok (.iload_n 2, 1) := by decide +kernel
theorem dX11_lay_67 : decode cX11_lay 67 = .ok (.invokestatic 280, 3) := by decide +kernel
theorem dX11_lay_70 : decode cX11_lay 70 = .ok (.iaload, 1) := by decide +kernel
theorem dX11_lay_71 : decode cX11_lay 71 = .ok (.ireturn, 1) := by decide +kernel
theorem dX11_lays_0 : decode cX11_lays 0 = .ok (.iload_n 1, 1) := by decide +kernel
theorem dX11_lays_1 : decode cX11_lays 1 = .ok (.iload_n 2, 1) := by decide +kernel
theorem dX11_lays_2 : decode cX11_lays 2 = .ok (.iload_n 3, 1) := by decide +kernel
theorem dX11_lays_3 : decode cX11_lays 3 = .ok (.invokestatic 280, 3) := by decide +kernel
theorem dX11_lays_6 : decode cX11_lays 6 = .ok (.istore 6, 2) := by decide +kernel
theorem dX11_lays_8 : decode cX11_lays 8 = .ok (.iload_n 1, 1) := by decide +kernel
theorem dX11_lays_9 : decode cX11_lays 9 = .ok (.iload_n 2, 1) := by decide +kernel
theorem dX11_lays_10 : decode cX11_lays 10 = .ok (.iload_n 3, 1) := by decide +kernel
theorem dX11_lays_11 : decode cX11_lays 11 = .ok (.aload_n 0, 1) := by decide +kernel
theorem dX11_lays_12 : decode cX11_lays 12 = .ok (.getfield 56, 3) := by decide +kernel
theorem dX11_lays_15 : decode cX11_lays 15 = .ok (.iload 6, 2) := by decide +kernel
theorem dX11_lays_17 : decode cX11_lays 17 = .ok (.iaload, 1) := by decide +kernel
theorem dX11_lays_18 : decode cX11_lays 18 = .ok (.invokestatic 286, 3) := by decide +kernel
theorem dX11_lays_21 : decode cX11_lays 21 = .ok (.istore 7, 2) := by decide +kernel
theorem dX11_lays_23 : decode cX11_lays 23 = .ok (.aload_n 0, 1) := by decide +kernel
theorem dX11_lays_24 : decode cX11_lays 24 = .ok (.getfield 59, 3) := by decide +kernel
theorem dX11_lays_27 : decode cX11_lays 27 = .ok (.iload 7, 2) := by decide +kernel
theorem dX11_lays_29 : decode cX11_lays 29 = .ok (.iload 4, 2) := by decide +kernel
theorem dX11_lays_31 : decode cX11_lays 31 = .ok (.iastore, 1) := by decide +kernel
theorem dX11_lays_32 : decode cX11_lays 32 = .ok (.aload_n 0, 1) := by decide +kernel
theorem dX11_lays_33 : decode cX11_lays 33 = .ok (.getfield 62, 3) := by decide +kernel
theorem dX11_lays_36 : decode cX11_lays 36 = .ok (.iload 7, 2) := by decide +kernel
theorem dX11_lays_38 : decode cX11_lays 38 = .ok (.iload 5, 2) := by decide +kernel
theorem dX11_lays_40 : decode cX11_lays 40 = .ok (.iastore, 1) := by decide +kernel
theorem dX11_lays_41 : decode cX11_lays 41 = .ok (.aload_n 0, 1) := by decide +kernel
theorem dX11_lays_42 : decode cX11_lays 42 = .ok (.getfield 65, 3) := by decide +kernel
theorem dX11_lays_45 : decode cX11_lays 45 = .ok (.iload 7, 2) := by decide +kernel
theorem dX11_lays_47 : decode cX11_lays 47 = .ok (.aload_n 0, 1) := by decide +kernel
theorem dX11_lays_48 : decode cX11_lays 48 = .ok (.getfield 71, 3) := by decide +kernel
theorem dX11_lays_51 : decode cX11_lays 51 = .ok (.iconst 3, 1) := by decide +kernel
