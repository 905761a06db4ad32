theorem dX10_town_0 : decode cX10_town 0 = .ok (.aload_n 0, 1) := by decide +kernel
theorem dX10_town_1 : decode cX10_town 1 = .ok (.getfield 19, 3) := by decide +kernel
theorem dX10_town_4 : decode cX10_town 4 = .ok (.aload_n 0, 1) := by decide +kernel
theorem dX10_town_5 : decode cX10_town 5 = .ok (.getfield 12, 3) := by decide +kernel
theorem dX10_town_8 : decode cX10_town 8 = .ok (.invokevirtual 87, 3) := by decide +kernel
theorem dX10_town_11 : decode cX10_town 11 = .ok (.ifCond .ne 6, 3) := by decide +kernel
theorem dX10_town_14 : decode cX10_town 14 = .ok (.bipush (-4), 2) := by decide +kernel
theorem dX10_town_16 : decode cX10_town 16 = .ok (.ireturn, 1) := by decide +kernel
theorem dX10_town_17 : decode cX10_town 17 = .ok (.aload_n 0, 1) := by decide +kernel
theorem dX10_town_18 : decode cX10_town 18 = .ok (.getfield 12, 3) := by decide +kernel
theorem dX10_town_21 : decode cX10_town 21 = .ok (.iconst 0, 1) := by decide +kernel
theorem dX10_town_22 : decode cX10_town 22 = .ok (.putfield 79, 3) := by decide +kernel
theorem dX10_town_25 : decode cX10_town 25 = .ok (.aload_n 0, 1) := by decide +kernel
theorem dX10_town_26 : decode cX10_town 26 = .ok (.getfield 27, 3) := by decide +kernel
theorem dX10_town_29 : decode cX10_town 29 = .ok (.aload_n 0, 1) := by decide +kernel
theorem dX10_town_30 : decode cX10_town 30 = .ok (.getfield 19, 3) := by decide +kernel
theorem dX10_town_33 : decode cX10_town 33 = .ok (.getfield 91, 3) := by decide +kernel
theorem dX10_town_36 : decode cX10_town 36 = .ok (.invokevirtual 95, 3) := by decide +kernel
theorem dX10_town_39 : decode cX10_town 39 = .ok (.aload_n 0, 1) := by decide +kernel
theorem dX10_town_40 : decode cX10_town 40 = .ok (.getfield 27, 3) := by decide +kernel
theorem dX10_town_43 : decode cX10_town 43 = .ok (.getfield 99, 3) := by decide +kernel
theorem dX10_town_46 : decode cX10_town 46 = .ok (.getfield 102, 3) := by decide +kernel
theorem dX10_town_49 : decode cX10_town 49 = .ok (.ireturn, 1) := by decide +kernel
theorem dX1_advance_0 : decode cX1_advance 0 = .ok (.aload_n 0, 1) := by decide +kernel
theorem dX1_advance_1 : decode cX1_advance 1 = .ok (.aload_n 0, 1) := by decide +kernel
theorem dX1_advance_2 : decode cX1_advance 2 = .ok (.getfield 95, 3) := by decide +kernel
theorem dX1_advance_5 : decode cX1_advance 5 = .ok (.putfield 30, 3) := by decide +kernel
theorem dX1_advance_8 : decode cX1_advance 8 = .ok (.aload_n 0, 1) := by decide +kernel
theorem dX1_advance_9 : decode cX1_advance 9 = .ok (.getfield 30, 3) := by decide +kernel
theorem dX1_advance_12 : decode cX1_advance 12 = .ok (.aload_n 0, 1) := by decide +kernel
theorem dX1_advance_13 : decode cX1_advance 13 = .ok (.getfield 33, 3) := by decide +kernel
theorem dX1_advance_16 : decode cX1_advance 16 = .ok (.if_icmp .ge 31, 3) := by decide +kernel
theorem dX1_advance_19 : decode cX1_advance 19 = .ok (.aload_n 0, 1) := by decide +kernel
theorem dX1_advance_20 : decode cX1_advance 20 = .ok (.getfield 22, 3) := by decide +kernel
theorem dX1_advance_23 : decode cX1_advance 23 = .ok (.aload_n 0, 1) := by decide +kernel
theorem dX1_advance_24 : decode cX1_advance 24 = .ok (.getfield 30, 3) := by decide +kernel
theorem dX1_advance_27 : decode cX1_advance 27 = .ok (.baload, 1) := by decide +kernel
theorem dX1_advance_28 : decode cX1_advance 28 = .ok (.invokestatic 223, 3) := by decide +kernel
theorem dX1_advance_31 : decode cX1_advance 31 = .ok (.ifCond .eq 16, 3) := by decide +kernel
theorem dX1_advance_34 : decode cX1_advance 34 = .ok (.aload_n 0, 1) := by decide +kernel
theorem dX1_advance_35 : decode cX1_advance 35 = .ok (.dup, 1) := by decide +kernel
theorem dX1_advance_36 : decode cX1_advance 36 = .ok (.getfield 30, 3) := by decide +kernel
theorem dX1_advance_39 : decode cX1_advance 39 = .ok (.iconst 1, 1) := by decide +kernel
theorem dX1_advance_40 : decode cX1_advance 40 = .ok (.iadd, 1) := by decide +kernel
theorem dX1_advance_41 : decode cX1_advance 41 = .ok (.putfield 30, 3) := by decide +kernel
theorem dX1_advance_44 : decode cX1_advance 44 = .ok (.goto (-36), 3) := by decide +kernel
theorem dX1_advance_47 : decode cX1_advance 47 = .ok (.aload_n 0, 1) := by decide +kernel
theorem dX1_advance_48 : decode cX1_advance 48 = .ok (.aload_n 0, 1) := by decide +kernel
theorem dX1_advance_49 : decode cX1_advance 49 = .ok (.getfield 30, 3) := by decide +kernel
theorem dX1_advance_52 : decode cX1_advance 52 = .ok (.putfield 95, 3) := by decide +kernel
theorem dX1_advance_55 : decode cX1_advance 55 = .ok (.aload_n 0, 1) := by decide +kernel
theorem dX1_advance_56 : decode cX1_advance 56 = .ok (.getfield 30, 3) := by decide +kernel
theorem dX1_advance_59 : decode cX1_advance 59 = .ok (.aload_n 0, 1) := by decide +kernel
theorem dX1_advance_60 : decode cX1_advance 60 = .ok (.getfield 33, 3) := by decide +kernel
theorem dX1_advance_63 : decode cX1_advance 63 = .ok (.if_icmp .lt 4, 3) := by decide +kernel
theorem dX1_advance_66 : decode cX1_advance 66 = .ok (.return_, 1) := by decide +kernel
theorem dX1_advance_67 : decode cX1_advance 67 = .ok (.aload_n 0, 1) := by decide +kernel
theorem dX1_advance_68 : decode cX1_advance 68 = .ok (.dup, 1) := by decide +kernel
theorem dX1_advance_69 : decode cX1_advance 69 = .ok (.getfield 95, 3) := by decide +kernel
theorem dX1_advance_72 : decode cX1_advance 72 = .ok (.iconst 1, 1) := by decide +kernel
theorem dX1_advance_73 : decode cX1_advance 73 = .ok (.iadd, 1) := by decide +kernel
theorem dX1_advance_74 : decode cX1_advance 74 = .ok (.putfield 95, 3) := by decide +kernel
theorem dX1_advance_77 : decode cX1_advance 77 = .ok (.aload_n 0, 1) := by decide +kernel
theorem dX1_advance_78 : decode cX1_advance 78 = .ok (.getfield 22, 3) := by decide +kernel
theorem dX1_advance_81 : decode cX1_advance 81 = .ok (.aload_n 0, 1) := by decide +kernel
theorem dX1_advance_82 : decode cX1_advance 82 = .ok (.getfield 30, 3) := by decide +kernel
theorem dX1_advance_85 : decode cX1_advance 85 = .ok (.baload, 1) := by decide +kernel
theorem dX1_advance_86 : decode cX1_advance 86 = .ok (.invokestatic 226, 3) := by decide +kernel
theorem dX1_advance_89 : decode cX1_advance 89 = .ok (.ifCond .eq 42, 3) := by decide +kernel
theorem dX1_advance_92 : decode cX1_advance 92 = .ok (.aload_n 0, 1) := by decide +kernel
theorem dX1_advance_93 : decode cX1_advance 93 = .ok (.getfield 95, 3) := by decide +kernel
theorem dX1_advance_96 : decode cX1_advance 96 = .ok (.aload_n 0, 1) := by decide +kernel
theorem dX1_advance_97 : decode cX1_advance 97 = .ok (.getfield 33, 3) := by decide +kernel
theorem dX1_advance_100 : decode cX1_advance 100 = .ok (.if_icmp .ge 85, 3) := by decide +kernel
theorem dX1_advance_103 : decode cX1_advance 103 = .ok (.aload_n 0, 1) := by decide +kernel
theorem dX1_advance_104 : decode cX1_advance 104 = .ok (.getfield 22, 3) := by decide +kernel
theorem dX1_advance_107 : decode cX1_advance 107 = .ok (.aload_n 0, 1) := by decide +kernel
theorem dX1_advance_108 : decode cX1_advance 108 = .ok (.getfield 95, 3) := by decide +kernel
theorem dX1_advance_111 : decode cX1_advance 111 = .ok (.baload, 1) := by decide +kernel
theorem dX1_advance_112 : decode cX1_advance 112 = .ok (.invokestatic 226, 3) := by decide +kernel
theorem dX1_advance_115 : decode cX1_advance 115 = .ok (.ifCond .eq 70, 3) := by decide +kernel
theorem dX1_advance_118 : decode cX1_advance 118 = .ok (.aload_n 0, 1) := by decide +kernel
theorem dX1_advance_119 : decode cX1_advance 119 = .ok (.dup, 1) := by decide +kernel
theorem dX1_advance_120 : decode cX1_advance 120 = .ok (.getfield 95, 3) := by decide +kernel
theorem dX1_advance_123 : decode cX1_advance 123 = .ok (.iconst 1, 1) := by decide +kernel
theorem dX1_advance_124 : decode cX1_advance 124 = .ok (.iadd, 1) := by decide +kernel
theorem dX1_advance_125 : decode cX1_advance 125 = .ok (.putfield 95, 3) := by decide +kernel
theorem dX1_advance_128 : decode cX1_advance 128 = .ok (.goto (-36), 3) := by decide +kernel
theorem dX1_advance_131 : decode cX1_advance 131 = .ok (.aload_n 0, 1) := by decide +kernel
theorem dX1_advance_132 : decode cX1_advance 132 = .ok (.getfield 22, 3) := by decide +kernel
theorem dX1_advance_135 : decode cX1_advance 135 = .ok (.aload_n 0, 1) := by decide +kernel
theorem dX1_advance_136 : decode cX1_advance 136 = .ok (.getfield 30, 3) := by decide +kernel
theorem dX1_advance_139 : decode cX1_advance 139 = .ok (.baload, 1) := by decide +kernel
theorem dX1_advance_140 : decode cX1_advance 140 = .ok (.invokestatic 204, 3) := by decide +kernel
theorem dX1_advance_143 : decode cX1_advance 143 = .ok (.ifCond .eq 42, 3) := by decide +kernel
theorem dX1_advance_146 : decode cX1_advance 146 = .ok (.aload_n 0, 1) := by decide +kernel
theorem dX1_advance_147 : decode cX1_advance 147 = .ok (.getfield 95, 3) := by decide +kernel
theorem dX1_advance_150 : decode cX1_advance 150 = .ok (.aload_n 0, 1) := by decide +kernel
theorem dX1_advance_151 : decode cX1_advance 151 = .ok (.getfield 33, 3) := by decide +kernel
theorem dX1_advance_154 : decode cX1_advance 154 = .ok (.if_icmp .ge 31, 3) := by decide +kernel
theorem dX1_advance_157 : decode cX1_advance 157 = .ok (.aload_n 0, 1) := by decide +kernel
theorem dX1_advance_158 : decode cX1_advance 158 = .ok (.getfield 22, 3) := by decide +kernel
theorem dX1_advance_161 : decode cX1_advance 161 = .ok (.aload_n 0, 1) := by decide +kernel
theorem dX1_advance_162 : decode cX1_advance 162 = .ok (.getfield 95, 3) := by decide +kernel
theorem dX1_advance_165 : decode cX1_advance 165 = .ok (.baload, 1) := by decide +kernel
theorem dX1_advance_166 : decode cX1_advance 166 = .ok (.invokestatic 204, 3) := by decide +kernel
theorem dX1_advance_169 : decode cX1_advance 169 = .ok (.ifCond .eq 16, 3) := by decide +kernel
theorem dX1_advance_172 : decode cX1_advance 172 = .ok (.aload_n 0, 1) := by decide +kernel
theorem dX1_advance_173 : decode cX1_advance 173 = .ok (.dup, 1) := by decide +kernel
theorem dX1_advance_174 : decode cX1_advance 174 = .ok (.getfield 95, 3) := by decide +kernel
theorem dX1_advance_177 : decode cX1_advance 177 = .ok (.iconst 1, 1) := by decide +kernel
theorem dX1_advance_178 : decode cX1_advance 178 = .ok (.iadd, 1) := by decide +kernel
theorem dX1_advance_179 : decode cX1_advance 179 = .ok (.putfield 95, 3) := by decide +kernel
theorem dX1_advance_182 : decode cX1_advance 182 = .ok (.goto (-36), 3) := by decide +kernel
theorem dX1_advance_185 : decode cX1_advance 185 = .ok (.return_, 1) := by decide +kernel
theorem dX1_begin_0 : decode cX1_begin 0 = .ok (.aload_n 0, 1) := by decide +kernel
theorem dX1_begin_1 : decode cX1_begin 1 = .ok (.getfield 12, 3) := by decide +kernel
theorem dX1_begin_4 : decode cX1_begin 4 = .ok (.invokevirtual 88, 3) := by decide +kernel
theorem dX1_begin_7 : decode cX1_begin 7 = .ok (.aload_n 0, 1) := by decide +kernel
theorem dX1_begin_8 : decode cX1_begin 8 = .ok (.iconst 0, 1) := by decide +kernel
theorem dX1_begin_9 : decode cX1_begin 9 = .ok (.putfield 42, 3) := by decide +kernel
theorem dX1_begin_12 : decode cX1_begin 12 = .ok (.aload_n 0, 1) := by decide +kernel
theorem dX1_begin_13 : decode cX1_begin 13 = .ok (.iconst (-1), 1) := by decide +kernel
theorem dX1_begin_14 : decode cX1_begin 14 = .ok (.putfield 18, 3) := by decide +kernel
theorem dX1_begin_17 : decode cX1_begin 17 = .ok (.aload_n 0, 1) := by decide +kernel
theorem dX1_begin_18 : decode cX1_begin 18 = .ok (.aload_n 1, 1) := by decide +kernel
theorem dX1_begin_19 : decode cX1_begin 19 = .ok (.getfield 91, 3) := by decide +kernel
theorem dX1_begin_22 : decode cX1_begin 22 = .ok (.putfield 22, 3) := by decide +kernel
theorem dX1_begin_25 : decode cX1_begin 25 = .ok (.aload_n 0, 1) := by decide +kernel
theorem dX1_begin_26 : decode cX1_begin 26 = .ok (.aload_n 1, 1) := by decide +kernel
theorem dX1_begin_27 : decode cX1_begin 27 = .ok (.getfield 94, 3) := by decide +kernel
theorem dX1_begin_30 : decode cX1_begin 30 = .ok (.putfield 33, 3) := by decide +kernel
theorem dX1_begin_33 : decode cX1_begin 33 = .ok (.aload_n 0, 1) := by decide +kernel
theorem dX1_begin_34 : decode cX1_begin 34 = .ok (.iconst 0, 1) := by decide +kernel
theorem dX1_begin_35 : decode cX1_begin 35 = .ok (.putfield 95, 3) := by decide +kernel
theorem dX1_begin_38 : decode cX1_begin 38 = .ok (.aload_n 0, 1) := by decide +kernel
theorem dX1_begin_39 : decode cX1_begin 39 = .ok (.iconst 0, 1) := by decide +kernel
theorem dX1_begin_40 : decode cX1_begin 40 = .ok (.putfield 98, 3) := by decide +kernel
theorem dX1_begin_43 : decode cX1_begin 43 = .ok (.aload_n 0, 1) := by decide +kernel
theorem dX1_begin_44 : decode cX1_begin 44 = .ok (.iconst 0, 1) := by decide +kernel
theorem dX1_begin_45 : decode cX1_begin 45 = .ok (.putfield 66, 3) := by decide +kernel
theorem dX1_begin_48 : decode cX1_begin 48 = .ok (.aload_n 0, 1) := by decide +kernel
theorem dX1_begin_49 : decode cX1_begin 49 = .ok (.iconst 0, 1) := by decide +kernel
theorem dX1_begin_50 : decode cX1_begin 50 = .ok (.putfield 81, 3) := by decide +kernel
theorem dX1_begin_53 : decode cX1_begin 53 = .ok (.aload_n 0, 1) := by decide +kernel
theorem dX1_begin_54 : decode cX1_begin 54 = .ok (.invokevirtual 101, 3) := by decide +kernel
theorem dX1_begin_57 : decode cX1_begin 57 = .ok (.return_, 1) := by decide +kernel
theorem dX1_expect_0 : decode cX1_expect 0 = .ok (.aload_n 0, 1) := by decide +kernel
theorem dX1_expect_1 : decode cX1_expect 1 = .ok (.aload_n 0, 1) := by decide +kernel
theorem dX1_expect_2 : decode cX1_expect 2 = .ok (.aload_n 1, 1) := by decide +kernel
theorem dX1_expect_3 : decode cX1_expect 3 = .ok (.invokevirtual 47, 3) := by decide +kernel
theorem dX1_expect_6 : decode cX1_expect 6 = .ok (.ifCond .ne 7, 3) := by decide +kernel
theorem dX1_expect_9 : decode cX1_expect 9 = .ok (.iconst 1, 1) := by decide +kernel
theorem dX1_expect_10 : decode cX1_expect 10 = .ok (.goto 4, 3) := by decide +kernel
theorem dX1_expect_13 : decode cX1_expect 13 = .ok (.iconst 0, 1) := by decide +kernel
theorem dX1_expect_14 : decode cX1_expect 14 = .ok (.iconst 1, 1) := by decide +kernel
theorem dX1_expect_15 : decode cX1_expect 15 = .ok (.invokevirtual 70, 3) := by decide +kernel
theorem dX1_expect_18 : decode cX1_expect 18 = .ok (.aload_n 0, 1) := by decide +kernel
theorem dX1_expect_19 : decode cX1_expect 19 = .ok (.invokevirtual 101, 3) := by decide +kernel
theorem dX1_expect_22 : decode cX1_expect 22 = .ok (.return_, 1) := by decide +kernel
theorem dX1_finishLine_0 : decode cX1_finishLine 0 = .ok (.aload_n 0, 1) := by decide +kernel
theorem dX1_finishLine_1 : decode cX1_finishLine 1 = .ok (.ldc 104, 2) := by decide +kernel
theorem dX1_finishLine_3 : decode cX1_finishLine 3 = .ok (.invokevirtual 106, 3) := by decide +kernel
theorem dX1_finishLine_6 : decode cX1_finishLine 6 = .ok (.aload_n 0, 1) := by decide +kernel
theorem dX1_finishLine_7 : decode cX1_finishLine 7 = .ok (.getfield 12, 3) := by decide +kernel
theorem dX1_finishLine_10 : decode cX1_finishLine 10 = .ok (.dup, 1) := by decide +kernel
theorem dX1_finishLine_11 : decode cX1_finishLine 11 = .ok (.getfield 110, 3) := by decide +kernel
theorem dX1_finishLine_14 : decode cX1_finishLine 14 = .ok (.iconst 1, 1) := by decide +kernel
theorem dX1_finishLine_15 : decode cX1_finishLine 15 = .ok (.iadd, 1) := by decide +kernel
theorem dX1_finishLine_16 : decode cX1_finishLine 16 = .ok (.putfield 110, 3) := by decide +kernel
theorem dX1_finishLine_19 : decode cX1_finishLine 19 = .ok (.return_, 1) := by decide +kernel
theorem dX1_is_0 : decode cX1_is 0 = .ok (.aload_n 0, 1) := by decide +kernel
theorem dX1_is_1 : decode cX1_is 1 = .ok (.getfield 95, 3) := by decide +kernel
theorem dX1_is_4 : decode cX1_is 4 = .ok (.aload_n 0, 1) := by decide +kernel
theorem dX1_is_5 : decode cX1_is 5 = .ok (.getfield 30, 3) := by decide +kernel
theorem dX1_is_8 : decode cX1_is 8 = .ok (.isub, 1) := by decide +kernel
theorem dX1_is_9 : decode cX1_is 9 = .ok (.aload_n 1, 1) := by decide +kernel
theorem dX1_is_10 : decode cX1_is 10 = .ok (.invokevirtual 214, 3) := by decide +kernel
theorem dX1_is_13 : decode cX1_is 13 = .ok (.if_icmp .eq 5, 3) := by decide +kernel
theorem dX1_is_16 : decode cX1_is 16 = .ok (.iconst 0, 1) := by decide +kernel
theorem dX1_is_17 : decode cX1_is 17 = .ok (.ireturn, 1) := by decide +kernel
theorem dX1_is_18 : decode cX1_is 18 = .ok (.iconst 0, 1) := by decide +kernel
theorem dX1_is_19 : decode cX1_is 19 = .ok (.istore_n 2, 1) := by decide +kernel
theorem dX1_is_20 : decode cX1_is 20 = .ok (.iload_n 2, 1) := by decide +kernel
theorem dX1_is_21 : decode cX1_is 21 = .ok (.aload_n 1, 1) := by decide +kernel
theorem dX1_is_22 : decode cX1_is 22 = .ok (.invokevirtual 214, 3) := by decide +kernel
theorem dX1_is_25 : decode cX1_is 25 = .ok (.if_icmp .ge 30, 3) := by decide +kernel
theorem dX1_is_28 : decode cX1_is 28 = .ok (.aload_n 0, 1) := by decide +kernel
theorem dX1_is_29 : decode cX1_is 29 = .ok (.getfield 22, 3) := by decide +kernel
theorem dX1_is_32 : decode cX1_is 32 = .ok (.aload_n 0, 1) := by decide +kernel
theorem dX1_is_33 : decode cX1_is 33 = .ok (.getfield 30, 3) := by decide +kernel
theorem dX1_is_36 : decode cX1_is 36 = .ok (.iload_n 2, 1) := by decide +kernel
theorem dX1_is_37 : decode cX1_is 37 = .ok (.iadd, 1) := by decide +kernel
theorem dX1_is_38 : decode cX1_is 38 = .ok (.baload, 1) := by decide +kernel
theorem dX1_is_39 : decode cX1_is 39 = .ok (.aload_n 1, 1) := by decide +kernel
theorem dX1_is_40 : decode cX1_is 40 = .ok (.iload_n 2, 1) := by decide +kernel
theorem dX1_is_41 : decode cX1_is 41 = .ok (.invokevirtual 219, 3) := by decide +kernel
theorem dX1_is_44 : decode cX1_is 44 = .ok (.if_icmp .eq 5, 3) := by decide +kernel
theorem dX1_is_47 : decode cX1_is 47 = .ok (.iconst 0, 1) := by decide +kernel
theorem dX1_is_48 : decode cX1_is 48 = .ok (.ireturn, 1) := by decide +kernel
theorem dX1_is_49 : decode cX1_is 49 = .ok (.iinc 2 1, 3) := by decide +kernel
theorem dX1_is_52 : decode cX1_is 52 = .ok (.goto (-32), 3) := by decide +kernel
theorem dX1_is_55 : decode cX1_is 55 = .ok (.iconst 1, 1) := by decide +kernel
theorem dX1_is_56 : decode cX1_is 56 = .ok (.ireturn, 1) := by decide +kernel
theorem dX1_named_0 : decode cX1_named 0 = .ok (.aload_n 0, 1) := by decide +kernel
theorem dX1_named_1 : decode cX1_named 1 = .ok (.aload_n 0, 1) := by decide +kernel
theorem dX1_named_2 : decode cX1_named 2 = .ok (.aload_n 1, 1) := by decide +kernel
theorem dX1_named_3 : decode cX1_named 3 = .ok (.invokevirtual 47, 3) := by decide +kernel
theorem dX1_named_6 : decode cX1_named 6 = .ok (.ifCond .ne 7, 3) := by decide +kernel
theorem dX1_named_9 : decode cX1_named 9 = .ok (.iconst 1, 1) := by decide +kernel
theorem dX1_named_10 : decode cX1_named 10 = .ok (.goto 4, 3) := by decide +kernel
theorem dX1_named_13 : decode cX1_named 13 = .ok (.iconst 0, 1) := by decide +kernel
theorem dX1_named_14 : decode cX1_named 14 = .ok (.iconst 1, 1) := by decide +kernel
theorem dX1_named_15 : decode cX1_named 15 = .ok (.invokevirtual 70, 3) := by decide +kernel
theorem dX1_named_18 : decode cX1_named 18 = .ok (.aload_n 0, 1) := by decide +kernel
theorem dX1_named_19 : decode cX1_named 19 = .ok (.invokevirtual 101, 3) := by decide +kernel
theorem dX1_named_22 : decode cX1_named 22 = .ok (.aload_n 0, 1) := by decide +kernel
theorem dX1_named_23 : decode cX1_named 23 = .ok (.aload_n 0, 1) := by decide +kernel
theorem dX1_named_24 : decode cX1_named 24 = .ok (.getfield 30, 3) := by decide +kernel
theorem dX1_named_27 : decode cX1_named 27 = .ok (.aload_n 0, 1) := by decide +kernel
theorem dX1_named_28 : decode cX1_named 28 = .ok (.getfield 33, 3) := by decide +kernel
theorem dX1_named_31 : decode cX1_named 31 = .ok (.if_icmp .ge 18, 3) := by decide +kernel
theorem dX1_named_34 : decode cX1_named 34 = .ok (.aload_n 0, 1) := by decide +kernel
theorem dX1_named_35 : decode cX1_named 35 = .ok (.getfield 22, 3) := by decide +kernel
theorem dX1_named_38 : decode cX1_named 38 = .ok (.aload_n 0, 1) := by decide +kernel
theorem dX1_named_39 : decode cX1_named 39 = .ok (.getfield 30, 3) := by decide +kernel
theorem dX1_named_42 : decode cX1_named 42 = .ok (.baload, 1) := by decide +kernel
theorem dX1_named_43 : decode cX1_named 43 = .ok (.invokestatic 204, 3) := by decide +kernel
theorem dX1_named_46 : decode cX1_named 46 = .ok (.ifCond .ne 7, 3) := by decide +kernel
theorem dX1_named_49 : decode cX1_named 49 = .ok (.iconst 1, 1) := by decide +kernel
theorem dX1_named_50 : decode cX1_named 50 = .ok (.goto 4, 3) := by decide +kernel
theorem dX1_named_53 : decode cX1_named 53 = .ok (.iconst 0, 1) := by decide +kernel
theorem dX1_named_54 : decode cX1_named 54 = .ok (.iconst 1, 1) := by decide +kernel
theorem dX1_named_55 : decode cX1_named 55 = .ok (.invokevirtual 70, 3) := by decide +kernel
theorem dX1_named_58 : decode cX1_named 58 = .ok (.aload_n 0, 1) := by decide +kernel
theorem dX1_named_59 : decode cX1_named 59 = .ok (.getfield 42, 3) := by decide +kernel
theorem dX1_named_62 : decode cX1_named 62 = .ok (.ifCond .eq 5, 3) := by decide +kernel
theorem dX1_named_65 : decode cX1_named 65 = .ok (.iconst 0, 1) := by decide +kernel
theorem dX1_named_66 : decode cX1_named 66 = .ok (.ireturn, 1) := by decide +kernel
theorem dX1_named_67 : decode cX1_named 67 = .ok (.iconst 0, 1) := by decide +kernel
theorem dX1_named_68 : decode cX1_named 68 = .ok (.istore 4, 2) := by decide +kernel
theorem dX1_named_70 : decode cX1_named 70 = .ok (.aload_n 0, 1) := by decide +kernel
theorem dX1_named_71 : decode cX1_named 71 = .ok (.getfield 30, 3) := by decide +kernel
theorem dX1_named_74 : decode cX1_named 74 = .ok (.istore 5, 2) := by decide +kernel
theorem dX1_named_76 : decode cX1_named 76 = .ok (.iload 5, 2) := by decide +kernel
theorem dX1_named_78 : decode cX1_named 78 = .ok (.aload_n 0, 1) := by decide +kernel
theorem dX1_named_79 : decode cX1_named 79 = .ok (.getfield 95, 3) := by decide +kernel
theorem dX1_named_82 : decode cX1_named 82 = .ok (.if_icmp .ge 33, 3) := by decide +kernel
theorem dX1_named_85 : decode cX1_named 85 = .ok (.sipush 1000, 3) := by decide +kernel
theorem dX1_named_88 : decode cX1_named 88 = .ok (.iload 4, 2) := by decide +kernel
theorem dX1_named_90 : decode cX1_named 90 = .ok (.bipush 10, 2) := by decide +kernel
theorem dX1_named_92 : decode cX1_named 92 = .ok (.imul, 1) := by decide +kernel
theorem dX1_named_93 : decode cX1_named 93 = .ok (.aload_n 0, 1) := by decide +kernel
theorem dX1_named_94 : decode cX1_named 94 = .ok (.getfield 22, 3) := by decide +kernel
theorem dX1_named_97 : decode cX1_named 97 = .ok (.iload 5, 2) := by decide +kernel
theorem dX1_named_99 : decode cX1_named 99 = .ok (.baload, 1) := by decide +kernel
theorem dX1_named_100 : decode cX1_named 100 = .ok (.bipush 48, 2) := by decide +kernel
theorem dX1_named_102 : decode cX1_named 102 = .ok (.isub, 1) := by decide +kernel
theorem dX1_named_103 : decode cX1_named 103 = .ok (.iadd, 1) := by decide +kernel
theorem dX1_named_104 : decode cX1_named 104 = .ok (.invokestatic 208, 3) := by decide +kernel
theorem dX1_named_107 : decode cX1_named 107 = .ok (.istore 4, 2) := by decide +kernel
theorem dX1_named_109 : decode cX1_named 109 = .ok (.iinc 5 1, 3) := by decide +kernel
theorem dX1_named_112 : decode cX1_named 112 = .ok (.goto (-36), 3) := by decide +kernel
theorem dX1_named_115 : decode cX1_named 115 = .ok (.aload_n 0, 1) := by decide +kernel
theorem dX1_named_116 : decode cX1_named 116 = .ok (.iload 4, 2) := by decide +kernel
theorem dX1_named_118 : decode cX1_named 118 = .ok (.iload_n 2, 1) := by decide +kernel
theorem dX1_named_119 : decode cX1_named 119 = .ok (.if_icmp .lt 9, 3) := by decide +kernel
theorem dX1_named_122 : decode cX1_named 122 = .ok (.iload 4, 2) := by decide +kernel
theorem dX1_named_124 : decode cX1_named 124 = .ok (.iload_n 3, 1) := by decide +kernel
theorem dX1_named_125 : decode cX1_named 125 = .ok (.if_icmp .le 7, 3) := by decide +kernel
theorem dX1_named_128 : decode cX1_named 128 = .ok (.iconst 1, 1) := by decide +kernel
theorem dX1_named_129 : decode cX1_named 129 = .ok (.goto 4, 3) := by decide +kernel
theorem dX1_named_132 : decode cX1_named 132 = .ok (.iconst 0, 1) := by decide +kernel
theorem dX1_named_133 : decode cX1_named 133 = .ok (.iconst 2, 1) := by decide +kernel
theorem dX1_named_134 : decode cX1_named 134 = .ok (.invokevirtual 70, 3) := by decide +kernel
theorem dX1_named_137 : decode cX1_named 137 = .ok (.aload_n 0, 1) := by decide +kernel
theorem dX1_named_138 : decode cX1_named 138 = .ok (.invokevirtual 101, 3) := by decide +kernel
theorem dX1_named_141 : decode cX1_named 141 = .ok (.iload 4, 2) := by decide +kernel
theorem dX1_named_143 : decode cX1_named 143 = .ok (.ireturn, 1) := by decide +kernel
theorem dX1_readPlaces_0 : decode cX1_readPlaces 0 = .ok (.aload_n 0, 1) := by decide +kernel
theorem dX1_readPlaces_1 : decode cX1_readPlaces 1 = .ok (.ldc 191, 2) := by decide +kernel
theorem dX1_readPlaces_3 : decode cX1_readPlaces 3 = .ok (.invokevirtual 47, 3) := by decide +kernel
theorem dX1_readPlaces_6 : decode cX1_readPlaces 6 = .ok (.ifCond .eq 20, 3) := by decide +kernel
theorem dX1_readPlaces_9 : decode cX1_readPlaces 9 = .ok (.aload_n 0, 1) := by decide +kernel
theorem dX1_readPlaces_10 : decode cX1_readPlaces 10 = .ok (.ldc 191, 2) := by decide +kernel
theorem dX1_readPlaces_12 : decode cX1_readPlaces 12 = .ok (.iconst 0, 1) := by decide +kernel
theorem dX1_readPlaces_13 : decode cX1_readPlaces 13 = .ok (.aload_n 0, 1) := by decide +kernel
theorem dX1_readPlaces_14 : decode cX1_readPlaces 14 = .ok (.getfield 12, 3) := by decide +kernel
theorem dX1_readPlaces_17 : decode cX1_readPlaces 17 = .ok (.getfield 117, 3) := by decide +kernel
theorem dX1_readPlaces_20 : decode cX1_readPlaces 20 = .ok (.iconst 1, 1) := by decide +kernel
theorem dX1_readPlaces_21 : decode cX1_readPlaces 21 = .ok (.isub, 1) := by decide +kernel
theorem dX1_readPlaces_22 : decode cX1_readPlaces 22 = .ok (.invokevirtual 74, 3) := by decide +kernel
theorem dX1_readPlaces_25 : decode cX1_readPlaces 25 = .ok (.ireturn, 1) := by decide +kernel
theorem dX1_readPlaces_26 : decode cX1_readPlaces 26 = .ok (.aload_n 0, 1) := by decide +kernel
theorem dX1_readPlaces_27 : decode cX1_readPlaces 27 = .ok (.ldc 119, 2) := by decide +kernel
theorem dX1_readPlaces_29 : decode cX1_readPlaces 29 = .ok (.invokevirtual 47, 3) := by decide +kernel
theorem dX1_readPlaces_32 : decode cX1_readPlaces 32 = .ok (.ifCond .eq 8, 3) := by decide +kernel
theorem dX1_readPlaces_35 : decode cX1_readPlaces 35 = .ok (.bipush 9, 2) := by decide +kernel
theorem dX1_readPlaces_37 : decode cX1_readPlaces 37 = .ok (.goto 5, 3) := by decide +kernel
theorem dX1_readPlaces_40 : decode cX1_readPlaces 40 = .ok (.bipush 8, 2) := by decide +kernel
theorem dX1_readPlaces_42 : decode cX1_readPlaces 42 = .ok (.istore_n 1, 1) := by decide +kernel
theorem dX1_readPlaces_43 : decode cX1_readPlaces 43 = .ok (.aload_n 0, 1) := by decide +kernel
theorem dX1_readPlaces_44 : decode cX1_readPlaces 44 = .ok (.iload_n 1, 1) := by decide +kernel
theorem dX1_readPlaces_45 : decode cX1_readPlaces 45 = .ok (.bipush 9, 2) := by decide +kernel
theorem dX1_readPlaces_47 : decode cX1_readPlaces 47 = .ok (.if_icmp .ne 8, 3) := by decide +kernel
theorem dX1_readPlaces_50 : decode cX1_readPlaces 50 = .ok (.ldc 119, 2) := by decide +kernel
theorem dX1_readPlaces_52 : decode cX1_readPlaces 52 = .ok (.goto 5, 3) := by decide +kernel
theorem dX1_readPlaces_55 : decode cX1_readPlaces 55 = .ok (.ldc 193, 2) := by decide +kernel
theorem dX1_readPlaces_57 : decode cX1_readPlaces 57 = .ok (.invokevirtual 106, 3) := by decide +kernel
theorem dX1_readPlaces_60 : decode cX1_readPlaces 60 = .ok (.iload_n 1, 1) := by decide +kernel
theorem dX1_readPlaces_61 : decode cX1_readPlaces 61 = .ok (.ireturn, 1) := by decide +kernel
theorem dX1_readRule_0 : decode cX1_readRule 0 = .ok (.aload_n 0, 1) := by decide +kernel
theorem dX1_readRule_1 : decode cX1_readRule 1 = .ok (.aload_n 0, 1) := by decide +kernel
theorem dX1_readRule_2 : decode cX1_readRule 2 = .ok (.getfield 98, 3) := by decide +kernel
theorem dX1_readRule_5 : decode cX1_readRule 5 = .ok (.iconst 2, 1) := by decide +kernel
theorem dX1_readRule_6 : decode cX1_readRule 6 = .ok (.invokevirtual 70, 3) := by decide +kernel
theorem dX1_readRule_9 : decode cX1_readRule 9 = .ok (.aload_n 0, 1) := by decide +kernel
theorem dX1_readRule_10 : decode cX1_readRule 10 = .ok (.iconst 1, 1) := by decide +kernel
theorem dX1_readRule_11 : decode cX1_readRule 11 = .ok (.putfield 98, 3) := by decide +kernel
theorem dX1_readRule_14 : decode cX1_readRule 14 = .ok (.aload_n 0, 1) := by decide +kernel
theorem dX1_readRule_15 : decode cX1_readRule 15 = .ok (.ldc 59, 2) := by decide +kernel
theorem dX1_readRule_17 : decode cX1_readRule 17 = .ok (.invokevirtual 106, 3) := by decide +kernel
theorem dX1_readRule_20 : decode cX1_readRule 20 = .ok (.aload_n 0, 1) := by decide +kernel
theorem dX1_readRule_21 : decode cX1_readRule 21 = .ok (.ldc 195, 2) := by decide +kernel
theorem dX1_readRule_23 : decode cX1_readRule 23 = .ok (.invokevirtual 47, 3) := by decide +kernel
theorem dX1_readRule_26 : decode cX1_readRule 26 = .ok (.ifCond .eq 14, 3) := by decide +kernel
theorem dX1_readRule_29 : decode cX1_readRule 29 = .ok (.aload_n 0, 1) := by decide +kernel
theorem dX1_readRule_30 : decode cX1_readRule 30 = .ok (.getfield 12, 3) := by decide +kernel
theorem dX1_readRule_33 : decode cX1_readRule 33 = .ok (.iconst 1, 1) := by decide +kernel
theorem dX1_readRule_34 : decode cX1_readRule 34 = .ok (.putfield 197, 3) := by decide +kernel
theorem dX1_readRule_37 : decode cX1_readRule 37 = .ok (.goto 42, 3) := by decide +kernel
theorem dX1_readRule_40 : decode cX1_readRule 40 = .ok (.aload_n 0, 1) := by decide +kernel
theorem dX1_readRule_41 : decode cX1_readRule 41 = .ok (.ldc 200, 2) := by decide +kernel
theorem dX1_readRule_43 : decode cX1_readRule 43 = .ok (.invokevirtual 47, 3) := by decide +kernel
theorem dX1_readRule_46 : decode cX1_readRule 46 = .ok (.ifCond .eq 14, 3) := by decide +kernel
theorem dX1_readRule_49 : decode cX1_readRule 49 = .ok (.aload_n 0, 1) := by decide +kernel
theorem dX1_readRule_50 : decode cX1_readRule 50 = .ok (.getfield 12, 3) := by decide +kernel
theorem dX1_readRule_53 : decode cX1_readRule 53 = .ok (.iconst 2, 1) := by decide +kernel
theorem dX1_readRule_54 : decode cX1_readRule 54 = .ok (.putfield 197, 3) := by decide +kernel
theorem dX1_readRule_57 : decode cX1_readRule 57 = .ok (.goto 22, 3) := by decide +kernel
theorem dX1_readRule_60 : decode cX1_readRule 60 = .ok (.aload_n 0, 1) := by decide +kernel
theorem dX1_readRule_61 : decode cX1_readRule 61 = .ok (.aload_n 0, 1) := by decide +kernel
theorem dX1_readRule_62 : decode cX1_readRule 62 = .ok (.ldc 202, 2) := by decide +kernel
theorem dX1_readRule_64 : decode cX1_readRule 64 = .ok (.invokevirtual 47, 3) := by decide +kernel
theorem dX1_readRule_67 : decode cX1_readRule 67 = .ok (.ifCond .ne 7, 3) := by decide +kernel
theorem dX1_readRule_70 : decode cX1_readRule 70 = .ok (.iconst 1, 1) := by decide +kernel
theorem dX1_readRule_71 : decode cX1_readRule 71 = .ok (.goto 4, 3) := by decide +kernel
theorem dX1_readRule_74 : decode cX1_readRule 74 = .ok (.iconst 0, 1) := by decide +kernel
theorem dX1_readRule_75 : decode cX1_readRule 75 = .ok (.iconst 1, 1) := by decide +kernel
theorem dX1_readRule_76 : decode cX1_readRule 76 = .ok (.invokevirtual 70, 3) := by decide +kernel
theorem dX1_readRule_79 : decode cX1_readRule 79 = .ok (.aload_n 0, 1) := by decide +kernel
theorem dX1_readRule_80 : decode cX1_readRule 80 = .ok (.invokevirtual 101, 3) := by decide +kernel
theorem dX1_readRule_83 : decode cX1_readRule 83 = .ok (.return_, 1) := by decide +kernel
theorem dX1_readSort_0 : decode cX1_readSort 0 = .ok (.aload_n 0, 1) := by decide +kernel
theorem dX1_readSort_1 : decode cX1_readSort 1 = .ok (.getfield 12, 3) := by decide +kernel
theorem dX1_readSort_4 : decode cX1_readSort 4 = .ok (.getfield 127, 3) := by decide +kernel
theorem dX1_readSort_7 : decode cX1_readSort 7 = .ok (.istore_n 1, 1) := by decide +kernel
theorem dX1_readSort_8 : decode cX1_readSort 8 = .ok (.iload_n 1, 1) := by decide +kernel
theorem dX1_readSort_9 : decode cX1_readSort 9 = .ok (.iconst 5, 1) := by decide +kernel
theorem dX1_readSort_10 : decode cX1_readSort 10 = .ok (.if_icmp .lt 10, 3) := by decide +kernel
theorem dX1_readSort_13 : decode cX1_readSort 13 = .ok (.aload_n 0, 1) := by decide +kernel
theorem dX1_readSort_14 : decode cX1_readSort 14 = .ok (.iconst 1, 1) := by decide +kernel
theorem dX1_readSort_15 : decode cX1_readSort 15 = .ok (.iconst 3, 1) := by decide +kernel
theorem dX1_readSort_16 : decode cX1_readSort 16 = .ok (.invokevirtual 70, 3) := by decide +kernel
theorem dX1_readSort_19 : decode cX1_readSort 19 = .ok (.return_, 1) := by decide +kernel
theorem dX1_readSort_20 : decode cX1_readSort 20 = .ok (.aload_n 0, 1) := by decide +kernel
theorem dX1_readSort_21 : decode cX1_readSort 21 = .ok (.ldc 45, 2) := by decide +kernel
theorem dX1_readSort_23 : decode cX1_readSort 23 = .ok (.invokevirtual 106, 3) := by decide +kernel
theorem dX1_readSort_26 : decode cX1_readSort 26 = .ok (.aload_n 0, 1) := by decide +kernel
theorem dX1_readSort_27 : decode cX1_readSort 27 = .ok (.getfield 12, 3) := by decide +kernel
theorem dX1_readSort_30 : decode cX1_readSort 30 = .ok (.getfield 130, 3) := by decide +kernel
theorem dX1_readSort_33 : decode cX1_readSort 33 = .ok (.iload_n 1, 1) := by decide +kernel
theorem dX1_readSort_34 : decode cX1_readSort 34 = .ok (.aload_n 0, 1) := by decide +kernel
theorem dX1_readSort_35 : decode cX1_readSort 35 = .ok (.ldc 134, 2) := by decide +kernel
theorem dX1_readSort_37 : decode cX1_readSort 37 = .ok (.iconst 1, 1) := by decide +kernel
theorem dX1_readSort_38 : decode cX1_readSort 38 = .ok (.bipush 9, 2) := by decide +kernel
theorem dX1_readSort_40 : decode cX1_readSort 40 = .ok (.invokevirtual 74, 3) := by decide +kernel
theorem dX1_readSort_43 : decode cX1_readSort 43 = .ok (.iastore, 1) := by decide +kernel
theorem dX1_readSort_44 : decode cX1_readSort 44 = .ok (.aload_n 0, 1) := by decide +kernel
theorem dX1_readSort_45 : decode cX1_readSort 45 = .ok (.getfield 12, 3) := by decide +kernel
theorem dX1_readSort_48 : decode cX1_readSort 48 = .ok (.getfield 135, 3) := by decide +kernel
theorem dX1_readSort_51 : decode cX1_readSort 51 = .ok (.iload_n 1, 1) := by decide +kernel
theorem dX1_readSort_52 : decode cX1_readSort 52 = .ok (.aload_n 0, 1) := by decide +kernel
theorem dX1_readSort_53 : decode cX1_readSort 53 = .ok (.ldc 138, 2) := by decide +kernel
theorem dX1_readSort_55 : decode cX1_readSort 55 = .ok (.iconst 0, 1) := by decide +kernel
theorem dX1_readSort_56 : decode cX1_readSort 56 = .ok (.bipush 99, 2) := by decide +kernel
theorem dX1_readSort_58 : decode cX1_readSort 58 = .ok (.invokevirtual 74, 3) := by decide +kernel
theorem dX1_readSort_61 : decode cX1_readSort 61 = .ok (.iastore, 1) := by decide +kernel
theorem dX1_readSort_62 : decode cX1_readSort 62 = .ok (.aload_n 0, 1) := by decide +kernel
theorem dX1_readSort_63 : decode cX1_readSort 63 = .ok (.getfield 12, 3) := by decide +kernel
theorem dX1_readSort_66 : decode cX1_readSort 66 = .ok (.getfield 139, 3) := by decide +kernel
theorem dX1_readSort_69 : decode cX1_readSort 69 = .ok (.iload_n 1, 1) := by decide +kernel
theorem dX1_readSort_70 : decode cX1_readSort 70 = .ok (.aload_n 0, 1) := by decide +kernel
theorem dX1_readSort_71 : decode cX1_readSort 71 = .ok (.ldc 142, 2) := by decide +kernel
theorem dX1_readSort_73 : decode cX1_readSort 73 = .ok (.iconst 0, 1) := by decide +kernel
theorem dX1_readSort_74 : decode cX1_readSort 74 = .ok (.bipush 60, 2) := by decide +kernel
theorem dX1_readSort_76 : decode cX1_readSort 76 = .ok (.invokevirtual 74, 3) := by decide +kernel
theorem dX1_readSort_79 : decode cX1_readSort 79 = .ok (.iastore, 1) := by decide +kernel
theorem dX1_readSort_80 : decode cX1_readSort 80 = .ok (.aload_n 0, 1) := by decide +kernel
theorem dX1_readSort_81 : decode cX1_readSort 81 = .ok (.getfield 12, 3) := by decide +kernel
