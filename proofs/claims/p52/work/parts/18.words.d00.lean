theorem dX8_joined_0 : decode cX8_joined 0 = .ok (.aload_n 0, 1) := by decide +kernel
theorem dX8_joined_1 : decode cX8_joined 1 = .ok (.getfield 56, 3) := by decide +kernel
theorem dX8_joined_4 : decode cX8_joined 4 = .ok (.iconst 1, 1) := by decide +kernel
theorem dX8_joined_5 : decode cX8_joined 5 = .ok (.if_icmp .ne 11, 3) := by decide +kernel
theorem dX8_joined_8 : decode cX8_joined 8 = .ok (.iload_n 1, 1) := by decide +kernel
theorem dX8_joined_9 : decode cX8_joined 9 = .ok (.iload_n 2, 1) := by decide +kernel
theorem dX8_joined_10 : decode cX8_joined 10 = .ok (.invokestatic 107, 3) := by decide +kernel
theorem dX8_joined_13 : decode cX8_joined 13 = .ok (.goto 6, 3) := by decide +kernel
theorem dX8_joined_16 : decode cX8_joined 16 = .ok (.iload_n 1, 1) := by decide +kernel
theorem dX8_joined_17 : decode cX8_joined 17 = .ok (.iload_n 2, 1) := by decide +kernel
theorem dX8_joined_18 : decode cX8_joined 18 = .ok (.iadd, 1) := by decide +kernel
theorem dX8_joined_19 : decode cX8_joined 19 = .ok (.ireturn, 1) := by decide +kernel
theorem dX8_listColumns_0 : decode cX8_listColumns 0 = .ok (.aload_n 1, 1) := by decide +kernel
theorem dX8_listColumns_1 : decode cX8_listColumns 1 = .ok (.getfield 59, 3) := by decide +kernel
theorem dX8_listColumns_4 : decode cX8_listColumns 4 = .ok (.iconst 1, 1) := by decide +kernel
theorem dX8_listColumns_5 : decode cX8_listColumns 5 = .ok (.if_icmp .ne 7, 3) := by decide +kernel
theorem dX8_listColumns_8 : decode cX8_listColumns 8 = .ok (.iconst 1, 1) := by decide +kernel
theorem dX8_listColumns_9 : decode cX8_listColumns 9 = .ok (.goto 4, 3) := by decide +kernel
theorem dX8_listColumns_12 : decode cX8_listColumns 12 = .ok (.iconst 0, 1) := by decide +kernel
theorem dX8_listColumns_13 : decode cX8_listColumns 13 = .ok (.istore 4, 2) := by decide +kernel
theorem dX8_listColumns_15 : decode cX8_listColumns 15 = .ok (.iload_n 3, 1) := by decide +kernel
theorem dX8_listColumns_16 : decode cX8_listColumns 16 = .ok (.istore 5, 2) := by decide +kernel
theorem dX8_listColumns_18 : decode cX8_listColumns 18 = .ok (.iconst 0, 1) := by decide +kernel
theorem dX8_listColumns_19 : decode cX8_listColumns 19 = .ok (.istore 6, 2) := by decide +kernel
theorem dX8_listColumns_21 : decode cX8_listColumns 21 = .ok (.iload 6, 2) := by decide +kernel
theorem dX8_listColumns_23 : decode cX8_listColumns 23 = .ok (.aload_n 1, 1) := by decide +kernel
theorem dX8_listColumns_24 : decode cX8_listColumns 24 = .ok (.getfield 43, 3) := by decide +kernel
theorem dX8_listColumns_27 : decode cX8_listColumns 27 = .ok (.getfield 77, 3) := by decide +kernel
theorem dX8_listColumns_30 : decode cX8_listColumns 30 = .ok (.if_icmp .ge 126, 3) := by decide +kernel
theorem dX8_listColumns_33 : decode cX8_listColumns 33 = .ok (.iload_n 2, 1) := by decide +kernel
theorem dX8_listColumns_34 : decode cX8_listColumns 34 = .ok (.iload 6, 2) := by decide +kernel
theorem dX8_listColumns_36 : decode cX8_listColumns 36 = .ok (.invokestatic 80, 3) := by decide +kernel
theorem dX8_listColumns_39 : decode cX8_listColumns 39 = .ok (.istore 7, 2) := by decide +kernel
theorem dX8_listColumns_41 : decode cX8_listColumns 41 = .ok (.aload_n 1, 1) := by decide +kernel
theorem dX8_listColumns_42 : decode cX8_listColumns 42 = .ok (.getfield 83, 3) := by decide +kernel
theorem dX8_listColumns_45 : decode cX8_listColumns 45 = .ok (.getfield 87, 3) := by decide +kernel
theorem dX8_listColumns_48 : decode cX8_listColumns 48 = .ok (.iload 7, 2) := by decide +kernel
theorem dX8_listColumns_50 : decode cX8_listColumns 50 = .ok (.iaload, 1) := by decide +kernel
theorem dX8_listColumns_51 : decode cX8_listColumns 51 = .ok (.istore 8, 2) := by decide +kernel
theorem dX8_listColumns_53 : decode cX8_listColumns 53 = .ok (.iload 8, 2) := by decide +kernel
theorem dX8_listColumns_55 : decode cX8_listColumns 55 = .ok (.ifCond .le 95, 3) := by decide +kernel
theorem dX8_listColumns_58 : decode cX8_listColumns 58 = .ok (.iload 4, 2) := by decide +kernel
theorem dX8_listColumns_60 : decode cX8_listColumns 60 = .ok (.ifCond .eq 16, 3) := by decide +kernel
theorem dX8_listColumns_63 : decode cX8_listColumns 63 = .ok (.aload_n 1, 1) := by decide +kernel
theorem dX8_listColumns_64 : decode cX8_listColumns 64 = .ok (.getfield 83, 3) := by decide +kernel
theorem dX8_listColumns_67 : decode cX8_listColumns 67 = .ok (.iload 7, 2) := by decide +kernel
theorem dX8_listColumns_69 : decode cX8_listColumns 69 = .ok (.iconst 0, 1) := by decide +kernel
theorem dX8_listColumns_70 : decode cX8_listColumns 70 = .ok (.invokevirtual 92, 3) := by decide +kernel
theorem dX8_listColumns_73 : decode cX8_listColumns 73 = .ok (.goto 5, 3) := by decide +kernel
theorem dX8_listColumns_76 : decode cX8_listColumns 76 = .ok (.iload 8, 2) := by decide +kernel
theorem dX8_listColumns_78 : decode cX8_listColumns 78 = .ok (.istore 9, 2) := by decide +kernel
theorem dX8_listColumns_80 : decode cX8_listColumns 80 = .ok (.iload 4, 2) := by decide +kernel
theorem dX8_listColumns_82 : decode cX8_listColumns 82 = .ok (.ifCond .eq 19, 3) := by decide +kernel
theorem dX8_listColumns_85 : decode cX8_listColumns 85 = .ok (.aload_n 1, 1) := by decide +kernel
theorem dX8_listColumns_86 : decode cX8_listColumns 86 = .ok (.getfield 83, 3) := by decide +kernel
theorem dX8_listColumns_89 : decode cX8_listColumns 89 = .ok (.iload 7, 2) := by decide +kernel
theorem dX8_listColumns_91 : decode cX8_listColumns 91 = .ok (.iload 8, 2) := by decide +kernel
theorem dX8_listColumns_93 : decode cX8_listColumns 93 = .ok (.iconst 1, 1) := by decide +kernel
theorem dX8_listColumns_94 : decode cX8_listColumns 94 = .ok (.isub, 1) := by decide +kernel
theorem dX8_listColumns_95 : decode cX8_listColumns 95 = .ok (.invokevirtual 95, 3) := by decide +kernel
theorem dX8_listColumns_98 : decode cX8_listColumns 98 = .ok (.goto 4, 3) := by decide +kernel
theorem dX8_listColumns_101 : decode cX8_listColumns 101 = .ok (.iconst 1, 1) := by decide +kernel
theorem dX8_listColumns_102 : decode cX8_listColumns 102 = .ok (.istore 10, 2) := by decide +kernel
theorem dX8_listColumns_104 : decode cX8_listColumns 104 = .ok (.aload_n 0, 1) := by decide +kernel
theorem dX8_listColumns_105 : decode cX8_listColumns 105 = .ok (.getfield 21, 3) := by decide +kernel
theorem dX8_listColumns_108 : decode cX8_listColumns 108 = .ok (.iload 5, 2) := by decide +kernel
theorem dX8_listColumns_110 : decode cX8_listColumns 110 = .ok (.aload_n 0, 1) := by decide +kernel
theorem dX8_listColumns_111 : decode cX8_listColumns 111 = .ok (.aload_n 0, 1) := by decide +kernel
theorem dX8_listColumns_112 : decode cX8_listColumns 112 = .ok (.getfield 21, 3) := by decide +kernel
theorem dX8_listColumns_115 : decode cX8_listColumns 115 = .ok (.iload 5, 2) := by decide +kernel
theorem dX8_listColumns_117 : decode cX8_listColumns 117 = .ok (.iaload, 1) := by decide +kernel
theorem dX8_listColumns_118 : decode cX8_listColumns 118 = .ok (.iload 9, 2) := by decide +kernel
theorem dX8_listColumns_120 : decode cX8_listColumns 120 = .ok (.invokevirtual 52, 3) := by decide +kernel
theorem dX8_listColumns_123 : decode cX8_listColumns 123 = .ok (.iastore, 1) := by decide +kernel
theorem dX8_listColumns_124 : decode cX8_listColumns 124 = .ok (.aload_n 0, 1) := by decide +kernel
theorem dX8_listColumns_125 : decode cX8_listColumns 125 = .ok (.getfield 25, 3) := by decide +kernel
theorem dX8_listColumns_128 : decode cX8_listColumns 128 = .ok (.iload 5, 2) := by decide +kernel
theorem dX8_listColumns_130 : decode cX8_listColumns 130 = .ok (.aload_n 0, 1) := by decide +kernel
theorem dX8_listColumns_131 : decode cX8_listColumns 131 = .ok (.aload_n 0, 1) := by decide +kernel
theorem dX8_listColumns_132 : decode cX8_listColumns 132 = .ok (.getfield 25, 3) := by decide +kernel
theorem dX8_listColumns_135 : decode cX8_listColumns 135 = .ok (.iload 5, 2) := by decide +kernel
theorem dX8_listColumns_137 : decode cX8_listColumns 137 = .ok (.iaload, 1) := by decide +kernel
theorem dX8_listColumns_138 : decode cX8_listColumns 138 = .ok (.iload 9, 2) := by decide +kernel
theorem dX8_listColumns_140 : decode cX8_listColumns 140 = .ok (.iload 10, 2) := by decide +kernel
theorem dX8_listColumns_142 : decode cX8_listColumns 142 = .ok (.isub, 1) := by decide +kernel
theorem dX8_listColumns_143 : decode cX8_listColumns 143 = .ok (.invokevirtual 52, 3) := by decide +kernel
theorem dX8_listColumns_146 : decode cX8_listColumns 146 = .ok (.iastore, 1) := by decide +kernel
theorem dX8_listColumns_147 : decode cX8_listColumns 147 = .ok (.iinc 5 1, 3) := by decide +kernel
theorem dX8_listColumns_150 : decode cX8_listColumns 150 = .ok (.iinc 6 1, 3) := by decide +kernel
theorem dX8_listColumns_153 : decode cX8_listColumns 153 = .ok (.goto (-132), 3) := by decide +kernel
theorem dX8_listColumns_156 : decode cX8_listColumns 156 = .ok (.iload 5, 2) := by decide +kernel
theorem dX8_listColumns_158 : decode cX8_listColumns 158 = .ok (.ireturn, 1) := by decide +kernel
theorem dX8_noted_0 : decode cX8_noted 0 = .ok (.aload_n 0, 1) := by decide +kernel
theorem dX8_noted_1 : decode cX8_noted 1 = .ok (.aload_n 0, 1) := by decide +kernel
theorem dX8_noted_2 : decode cX8_noted 2 = .ok (.getfield 32, 3) := by decide +kernel
theorem dX8_noted_5 : decode cX8_noted 5 = .ok (.ifCond .ne 8, 3) := by decide +kernel
theorem dX8_noted_8 : decode cX8_noted 8 = .ok (.iload_n 1, 1) := by decide +kernel
theorem dX8_noted_9 : decode cX8_noted 9 = .ok (.iload_n 2, 1) := by decide +kernel
theorem dX8_noted_10 : decode cX8_noted 10 = .ok (.if_icmp .eq 7, 3) := by decide +kernel
theorem dX8_noted_13 : decode cX8_noted 13 = .ok (.iconst 1, 1) := by decide +kernel
theorem dX8_noted_14 : decode cX8_noted 14 = .ok (.goto 4, 3) := by decide +kernel
theorem dX8_noted_17 : decode cX8_noted 17 = .ok (.iconst 0, 1) := by decide +kernel
theorem dX8_noted_18 : decode cX8_noted 18 = .ok (.putfield 32, 3) := by decide +kernel
theorem dX8_noted_21 : decode cX8_noted 21 = .ok (.iload_n 2, 1) := by decide +kernel
theorem dX8_noted_22 : decode cX8_noted 22 = .ok (.ireturn, 1) := by decide +kernel
theorem dX8_settle_0 : decode cX8_settle 0 = .ok (.iload 4, 2) := by decide +kernel
theorem dX8_settle_2 : decode cX8_settle 2 = .ok (.iload 5, 2) := by decide +kernel
theorem dX8_settle_4 : decode cX8_settle 4 = .ok (.if_icmp .ne 7, 3) := by decide +kernel
theorem dX8_settle_7 : decode cX8_settle 7 = .ok (.iconst 2, 1) := by decide +kernel
theorem dX8_settle_8 : decode cX8_settle 8 = .ok (.goto 15, 3) := by decide +kernel
theorem dX8_settle_11 : decode cX8_settle 11 = .ok (.iload 4, 2) := by decide +kernel
theorem dX8_settle_13 : decode cX8_settle 13 = .ok (.iload 5, 2) := by decide +kernel
theorem dX8_settle_15 : decode cX8_settle 15 = .ok (.if_icmp .le 7, 3) := by decide +kernel
theorem dX8_settle_18 : decode cX8_settle 18 = .ok (.iconst 0, 1) := by decide +kernel
theorem dX8_settle_19 : decode cX8_settle 19 = .ok (.goto 4, 3) := by decide +kernel
theorem dX8_settle_22 : decode cX8_settle 22 = .ok (.iconst 1, 1) := by decide +kernel
theorem dX8_settle_23 : decode cX8_settle 23 = .ok (.istore 6, 2) := by decide +kernel
theorem dX8_settle_25 : decode cX8_settle 25 = .ok (.aload_n 0, 1) := by decide +kernel
theorem dX8_settle_26 : decode cX8_settle 26 = .ok (.getfield 9, 3) := by decide +kernel
theorem dX8_settle_29 : decode cX8_settle 29 = .ok (.iload 6, 2) := by decide +kernel
theorem dX8_settle_31 : decode cX8_settle 31 = .ok (.dup2, 1) := by decide +kernel
theorem dX8_settle_32 : decode cX8_settle 32 = .ok (.laload, 1) := by decide +kernel
theorem dX8_settle_33 : decode cX8_settle 33 = .ok (.lload_n 1, 1) := by decide +kernel
theorem dX8_settle_34 : decode cX8_settle 34 = .ok (.ladd, 1) := by decide +kernel
theorem dX8_settle_35 : decode cX8_settle 35 = .ok (.lastore, 1) := by decide +kernel
theorem dX8_settle_36 : decode cX8_settle 36 = .ok (.aload_n 0, 1) := by decide +kernel
theorem dX8_settle_37 : decode cX8_settle 37 = .ok (.getfield 15, 3) := by decide +kernel
theorem dX8_settle_40 : decode cX8_settle 40 = .ok (.iload_n 3, 1) := by decide +kernel
theorem dX8_settle_41 : decode cX8_settle 41 = .ok (.dup2, 1) := by decide +kernel
theorem dX8_settle_42 : decode cX8_settle 42 = .ok (.laload, 1) := by decide +kernel
theorem dX8_settle_43 : decode cX8_settle 43 = .ok (.lload_n 1, 1) := by decide +kernel
theorem dX8_settle_44 : decode cX8_settle 44 = .ok (.ladd, 1) := by decide +kernel
theorem dX8_settle_45 : decode cX8_settle 45 = .ok (.lastore, 1) := by decide +kernel
theorem dX8_settle_46 : decode cX8_settle 46 = .ok (.aload_n 0, 1) := by decide +kernel
theorem dX8_settle_47 : decode cX8_settle 47 = .ok (.getfield 18, 3) := by decide +kernel
theorem dX8_settle_50 : decode cX8_settle 50 = .ok (.iconst 0, 1) := by decide +kernel
theorem dX8_settle_51 : decode cX8_settle 51 = .ok (.dup2, 1) := by decide +kernel
theorem dX8_settle_52 : decode cX8_settle 52 = .ok (.laload, 1) := by decide +kernel
theorem dX8_settle_53 : decode cX8_settle 53 = .ok (.lload_n 1, 1) := by decide +kernel
theorem dX8_settle_54 : decode cX8_settle 54 = .ok (.iload 4, 2) := by decide +kernel
theorem dX8_settle_56 : decode cX8_settle 56 = .ok (.i2l, 1) := by decide +kernel
theorem dX8_settle_57 : decode cX8_settle 57 = .ok (.lmul, 1) := by decide +kernel
theorem dX8_settle_58 : decode cX8_settle 58 = .ok (.ladd, 1) := by decide +kernel
theorem dX8_settle_59 : decode cX8_settle 59 = .ok (.lastore, 1) := by decide +kernel
theorem dX8_settle_60 : decode cX8_settle 60 = .ok (.aload_n 0, 1) := by decide +kernel
theorem dX8_settle_61 : decode cX8_settle 61 = .ok (.getfield 18, 3) := by decide +kernel
theorem dX8_settle_64 : decode cX8_settle 64 = .ok (.iconst 1, 1) := by decide +kernel
theorem dX8_settle_65 : decode cX8_settle 65 = .ok (.dup2, 1) := by decide +kernel
theorem dX8_settle_66 : decode cX8_settle 66 = .ok (.laload, 1) := by decide +kernel
theorem dX8_settle_67 : decode cX8_settle 67 = .ok (.lload_n 1, 1) := by decide +kernel
theorem dX8_settle_68 : decode cX8_settle 68 = .ok (.iload 5, 2) := by decide +kernel
theorem dX8_settle_70 : decode cX8_settle 70 = .ok (.i2l, 1) := by decide +kernel
theorem dX8_settle_71 : decode cX8_settle 71 = .ok (.lmul, 1) := by decide +kernel
theorem dX8_settle_72 : decode cX8_settle 72 = .ok (.ladd, 1) := by decide +kernel
theorem dX8_settle_73 : decode cX8_settle 73 = .ok (.lastore, 1) := by decide +kernel
theorem dX8_settle_74 : decode cX8_settle 74 = .ok (.return_, 1) := by decide +kernel
