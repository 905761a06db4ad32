theorem dX11_asks_0 : decode cX11_asks 0 = .ok (.aload_n 0, 1) := by decide +kernel
theorem dX11_asks_1 : decode cX11_asks 1 = .ok (.lload_n 1, 1) := by decide +kernel
theorem dX11_asks_2 : decode cX11_asks 2 = .ok (.invokevirtual 164, 3) := by decide +kernel
theorem dX11_asks_5 : decode cX11_asks 5 = .ok (.ifCond .ne 8, 3) := by decide +kernel
theorem dX11_asks_8 : decode cX11_asks 8 = .ok (.aload_n 0, 1) := by decide +kernel
theorem dX11_asks_9 : decode cX11_asks 9 = .ok (.iconst 1, 1) := by decide +kernel
theorem dX11_asks_10 : decode cX11_asks 10 = .ok (.invokevirtual 167, 3) := by decide +kernel
theorem dX11_asks_13 : decode cX11_asks 13 = .ok (.return_, 1) := by decide +kernel
theorem dX11_begins_0 : decode cX11_begins 0 = .ok (.aload_n 0, 1) := by decide +kernel
theorem dX11_begins_1 : decode cX11_begins 1 = .ok (.iconst 0, 1) := by decide +kernel
theorem dX11_begins_2 : decode cX11_begins 2 = .ok (.putfield 151, 3) := by decide +kernel
theorem dX11_begins_5 : decode cX11_begins 5 = .ok (.aload_n 0, 1) := by decide +kernel
theorem dX11_begins_6 : decode cX11_begins 6 = .ok (.iconst (-1), 1) := by decide +kernel
theorem dX11_begins_7 : decode cX11_begins 7 = .ok (.putfield 154, 3) := by decide +kernel
theorem dX11_begins_10 : decode cX11_begins 10 = .ok (.aload_n 0, 1) := by decide +kernel
theorem dX11_begins_11 : decode cX11_begins 11 = .ok (.iconst 0, 1) := by decide +kernel
theorem dX11_begins_12 : decode cX11_begins 12 = .ok (.putfield 123, 3) := by decide +kernel
theorem dX11_begins_15 : decode cX11_begins 15 = .ok (.aload_n 0, 1) := by decide +kernel
theorem dX11_begins_16 : decode cX11_begins 16 = .ok (.invokevirtual 161, 3) := by decide +kernel
theorem dX11_begins_19 : decode cX11_begins 19 = .ok (.return_, 1) := by decide +kernel
theorem dX11_ends_0 : decode cX11_ends 0 = .ok (.aload_n 0, 1) := by decide +kernel
theorem dX11_ends_1 : decode cX11_ends 1 = .ok (.getfield 140, 3) := by decide +kernel
theorem dX11_ends_4 : decode cX11_ends 4 = .ok (.iconst 3, 1) := by decide +kernel
theorem dX11_ends_5 : decode cX11_ends 5 = .ok (.if_icmp .eq 8, 3) := by decide +kernel
theorem dX11_ends_8 : decode cX11_ends 8 = .ok (.aload_n 0, 1) := by decide +kernel
theorem dX11_ends_9 : decode cX11_ends 9 = .ok (.iconst 1, 1) := by decide +kernel
theorem dX11_ends_10 : decode cX11_ends 10 = .ok (.invokevirtual 167, 3) := by decide +kernel
theorem dX11_ends_13 : decode cX11_ends 13 = .ok (.aload_n 0, 1) := by decide +kernel
theorem dX11_ends_14 : decode cX11_ends 14 = .ok (.getfield 151, 3) := by decide +kernel
theorem dX11_ends_17 : decode cX11_ends 17 = .ok (.ifCond .ne 7, 3) := by decide +kernel
theorem dX11_ends_20 : decode cX11_ends 20 = .ok (.aload_n 0, 1) := by decide +kernel
theorem dX11_ends_21 : decode cX11_ends 21 = .ok (.invokevirtual 161, 3) := by decide +kernel
theorem dX11_ends_24 : decode cX11_ends 24 = .ok (.return_, 1) := by decide +kernel
theorem dX11_fails_0 : decode cX11_fails 0 = .ok (.aload_n 0, 1) := by decide +kernel
theorem dX11_fails_1 : decode cX11_fails 1 = .ok (.getfield 151, 3) := by decide +kernel
theorem dX11_fails_4 : decode cX11_fails 4 = .ok (.ifCond .eq 4, 3) := by decide +kernel
theorem dX11_fails_7 : decode cX11_fails 7 = .ok (.return_, 1) := by decide +kernel
theorem dX11_fails_8 : decode cX11_fails 8 = .ok (.aload_n 0, 1) := by decide +kernel
theorem dX11_fails_9 : decode cX11_fails 9 = .ok (.iload_n 1, 1) := by decide +kernel
theorem dX11_fails_10 : decode cX11_fails 10 = .ok (.putfield 151, 3) := by decide +kernel
theorem dX11_fails_13 : decode cX11_fails 13 = .ok (.aload_n 0, 1) := by decide +kernel
theorem dX11_fails_14 : decode cX11_fails 14 = .ok (.aload_n 0, 1) := by decide +kernel
theorem dX11_fails_15 : decode cX11_fails 15 = .ok (.getfield 130, 3) := by decide +kernel
theorem dX11_fails_18 : decode cX11_fails 18 = .ok (.putfield 154, 3) := by decide +kernel
theorem dX11_fails_21 : decode cX11_fails 21 = .ok (.return_, 1) := by decide +kernel
theorem dX11_is_0 : decode cX11_is 0 = .ok (.aload_n 0, 1) := by decide +kernel
theorem dX11_is_1 : decode cX11_is 1 = .ok (.getfield 151, 3) := by decide +kernel
theorem dX11_is_4 : decode cX11_is 4 = .ok (.ifCond .ne 24, 3) := by decide +kernel
theorem dX11_is_7 : decode cX11_is 7 = .ok (.aload_n 0, 1) := by decide +kernel
theorem dX11_is_8 : decode cX11_is 8 = .ok (.getfield 140, 3) := by decide +kernel
theorem dX11_is_11 : decode cX11_is 11 = .ok (.iconst 1, 1) := by decide +kernel
theorem dX11_is_12 : decode cX11_is 12 = .ok (.if_icmp .ne 16, 3) := by decide +kernel
theorem dX11_is_15 : decode cX11_is 15 = .ok (.aload_n 0, 1) := by decide +kernel
theorem dX11_is_16 : decode cX11_is 16 = .ok (.getfield 136, 3) := by decide +kernel
theorem dX11_is_19 : decode cX11_is 19 = .ok (.lload_n 1, 1) := by decide +kernel
theorem dX11_is_20 : decode cX11_is 20 = .ok (.lcmp, 1) := by decide +kernel
theorem dX11_is_21 : decode cX11_is 21 = .ok (.ifCond .ne 7, 3) := by decide +kernel
theorem dX11_is_24 : decode cX11_is 24 = .ok (.iconst 1, 1) := by decide +kernel
theorem dX11_is_25 : decode cX11_is 25 = .ok (.goto 4, 3) := by decide +kernel
theorem dX11_is_28 : decode cX11_is 28 = .ok (.iconst 0, 1) := by decide +kernel
theorem dX11_is_29 : decode cX11_is 29 = .ok (.ireturn, 1) := by decide +kernel
theorem dX11_isByte_0 : decode cX11_isByte 0 = .ok (.iload_n 1, 1) := by decide +kernel
theorem dX11_isByte_1 : decode cX11_isByte 1 = .ok (.aload_n 0, 1) := by decide +kernel
theorem dX11_isByte_2 : decode cX11_isByte 2 = .ok (.getfield 116, 3) := by decide +kernel
theorem dX11_isByte_5 : decode cX11_isByte 5 = .ok (.if_icmp .ge 27, 3) := by decide +kernel
theorem dX11_isByte_8 : decode cX11_isByte 8 = .ok (.aload_n 0, 1) := by decide +kernel
theorem dX11_isByte_9 : decode cX11_isByte 9 = .ok (.getfield 23, 3) := by decide +kernel
theorem dX11_isByte_12 : decode cX11_isByte 12 = .ok (.iload_n 1, 1) := by decide +kernel
theorem dX11_isByte_13 : decode cX11_isByte 13 = .ok (.baload, 1) := by decide +kernel
theorem dX11_isByte_14 : decode cX11_isByte 14 = .ok (.iload_n 2, 1) := by decide +kernel
theorem dX11_isByte_15 : decode cX11_isByte 15 = .ok (.if_icmp .lt 17, 3) := by decide +kernel
theorem dX11_isByte_18 : decode cX11_isByte 18 = .ok (.aload_n 0, 1) := by decide +kernel
theorem dX11_isByte_19 : decode cX11_isByte 19 = .ok (.getfield 23, 3) := by decide +kernel
theorem dX11_isByte_22 : decode cX11_isByte 22 = .ok (.iload_n 1, 1) := by decide +kernel
theorem dX11_isByte_23 : decode cX11_isByte 23 = .ok (.baload, 1) := by decide +kernel
theorem dX11_isByte_24 : decode cX11_isByte 24 = .ok (.iload_n 3, 1) := by decide +kernel
theorem dX11_isByte_25 : decode cX11_isByte 25 = .ok (.if_icmp .gt 7, 3) := by decide +kernel
theorem dX11_isByte_28 : decode cX11_isByte 28 = .ok (.iconst 1, 1) := by decide +kernel
theorem dX11_isByte_29 : decode cX11_isByte 29 = .ok (.goto 4, 3) := by decide +kernel
theorem dX11_isByte_32 : decode cX11_isByte 32 = .ok (.iconst 0, 1) := by decide +kernel
theorem dX11_isByte_33 : decode cX11_isByte 33 = .ok (.ireturn, 1) := by decide +kernel
theorem dX11_isGood_0 : decode cX11_isGood 0 = .ok (.aload_n 0, 1) := by decide +kernel
theorem dX11_isGood_1 : decode cX11_isGood 1 = .ok (.getfield 151, 3) := by decide +kernel
theorem dX11_isGood_4 : decode cX11_isGood 4 = .ok (.ifCond .ne 7, 3) := by decide +kernel
theorem dX11_isGood_7 : decode cX11_isGood 7 = .ok (.iconst 1, 1) := by decide +kernel
theorem dX11_isGood_8 : decode cX11_isGood 8 = .ok (.goto 4, 3) := by decide +kernel
theorem dX11_isGood_11 : decode cX11_isGood 11 = .ok (.iconst 0, 1) := by decide +kernel
theorem dX11_isGood_12 : decode cX11_isGood 12 = .ok (.ireturn, 1) := by decide +kernel
theorem dX11_isOver_0 : decode cX11_isOver 0 = .ok (.aload_n 0, 1) := by decide +kernel
theorem dX11_isOver_1 : decode cX11_isOver 1 = .ok (.iconst 0, 1) := by decide +kernel
theorem dX11_isOver_2 : decode cX11_isOver 2 = .ok (.putfield 116, 3) := by decide +kernel
theorem dX11_isOver_5 : decode cX11_isOver 5 = .ok (.aload_n 0, 1) := by decide +kernel
theorem dX11_isOver_6 : decode cX11_isOver 6 = .ok (.aload_n 0, 1) := by decide +kernel
theorem dX11_isOver_7 : decode cX11_isOver 7 = .ok (.getfield 151, 3) := by decide +kernel
theorem dX11_isOver_10 : decode cX11_isOver 10 = .ok (.putfield 178, 3) := by decide +kernel
theorem dX11_isOver_13 : decode cX11_isOver 13 = .ok (.aload_n 0, 1) := by decide +kernel
theorem dX11_isOver_14 : decode cX11_isOver 14 = .ok (.aload_n 0, 1) := by decide +kernel
theorem dX11_isOver_15 : decode cX11_isOver 15 = .ok (.getfield 151, 3) := by decide +kernel
theorem dX11_isOver_18 : decode cX11_isOver 18 = .ok (.ifCond .ne 7, 3) := by decide +kernel
theorem dX11_isOver_21 : decode cX11_isOver 21 = .ok (.iconst (-1), 1) := by decide +kernel
theorem dX11_isOver_22 : decode cX11_isOver 22 = .ok (.goto 7, 3) := by decide +kernel
theorem dX11_isOver_25 : decode cX11_isOver 25 = .ok (.aload_n 0, 1) := by decide +kernel
theorem dX11_isOver_26 : decode cX11_isOver 26 = .ok (.getfield 154, 3) := by decide +kernel
theorem dX11_isOver_29 : decode cX11_isOver 29 = .ok (.putfield 27, 3) := by decide +kernel
theorem dX11_isOver_32 : decode cX11_isOver 32 = .ok (.return_, 1) := by decide +kernel
theorem dX11_line_0 : decode cX11_line 0 = .ok (.aload_n 0, 1) := by decide +kernel
theorem dX11_line_1 : decode cX11_line 1 = .ok (.ldc2_w 232, 3) := by decide +kernel
theorem dX11_line_4 : decode cX11_line 4 = .ok (.invokevirtual 157, 3) := by decide +kernel
theorem dX11_line_7 : decode cX11_line 7 = .ok (.ifCond .eq 7, 3) := by decide +kernel
theorem dX11_line_10 : decode cX11_line 10 = .ok (.iconst 0, 1) := by decide +kernel
theorem dX11_line_11 : decode cX11_line 11 = .ok (.goto 32, 3) := by decide +kernel
theorem dX11_line_14 : decode cX11_line 14 = .ok (.aload_n 0, 1) := by decide +kernel
theorem dX11_line_15 : decode cX11_line 15 = .ok (.ldc2_w 234, 3) := by decide +kernel
theorem dX11_line_18 : decode cX11_line 18 = .ok (.invokevirtual 157, 3) := by decide +kernel
theorem dX11_line_21 : decode cX11_line 21 = .ok (.ifCond .eq 7, 3) := by decide +kernel
theorem dX11_line_24 : decode cX11_line 24 = .ok (.iconst 1, 1) := by decide +kernel
theorem dX11_line_25 : decode cX11_line 25 = .ok (.goto 18, 3) := by decide +kernel
theorem dX11_line_28 : decode cX11_line 28 = .ok (.aload_n 0, 1) := by decide +kernel
theorem dX11_line_29 : decode cX11_line 29 = .ok (.ldc2_w 236, 3) := by decide +kernel
theorem dX11_line_32 : decode cX11_line 32 = .ok (.invokevirtual 157, 3) := by decide +kernel
theorem dX11_line_35 : decode cX11_line 35 = .ok (.ifCond .eq 7, 3) := by decide +kernel
theorem dX11_line_38 : decode cX11_line 38 = .ok (.iconst 2, 1) := by decide +kernel
theorem dX11_line_39 : decode cX11_line 39 = .ok (.goto 4, 3) := by decide +kernel
theorem dX11_line_42 : decode cX11_line 42 = .ok (.iconst (-1), 1) := by decide +kernel
theorem dX11_line_43 : decode cX11_line 43 = .ok (.istore_n 1, 1) := by decide +kernel
theorem dX11_line_44 : decode cX11_line 44 = .ok (.iload_n 1, 1) := by decide +kernel
theorem dX11_line_45 : decode cX11_line 45 = .ok (.iconst (-1), 1) := by decide +kernel
theorem dX11_line_46 : decode cX11_line 46 = .ok (.if_icmp .eq 9, 3) := by decide +kernel
theorem dX11_line_49 : decode cX11_line 49 = .ok (.aload_n 0, 1) := by decide +kernel
theorem dX11_line_50 : decode cX11_line 50 = .ok (.iload_n 1, 1) := by decide +kernel
theorem dX11_line_51 : decode cX11_line 51 = .ok (.invokevirtual 238, 3) := by decide +kernel
theorem dX11_line_54 : decode cX11_line 54 = .ok (.return_, 1) := by decide +kernel
theorem dX11_line_55 : decode cX11_line 55 = .ok (.aload_n 0, 1) := by decide +kernel
theorem dX11_line_56 : decode cX11_line 56 = .ok (.ldc2_w 241, 3) := by decide +kernel
theorem dX11_line_59 : decode cX11_line 59 = .ok (.invokevirtual 157, 3) := by decide +kernel
theorem dX11_line_62 : decode cX11_line 62 = .ok (.istore_n 2, 1) := by decide +kernel
theorem dX11_line_63 : decode cX11_line 63 = .ok (.iload_n 2, 1) := by decide +kernel
theorem dX11_line_64 : decode cX11_line 64 = .ok (.ifCond .ne 18, 3) := by decide +kernel
theorem dX11_line_67 : decode cX11_line 67 = .ok (.aload_n 0, 1) := by decide +kernel
theorem dX11_line_68 : decode cX11_line 68 = .ok (.ldc2_w 243, 3) := by decide +kernel
theorem dX11_line_71 : decode cX11_line 71 = .ok (.invokevirtual 157, 3) := by decide +kernel
theorem dX11_line_74 : decode cX11_line 74 = .ok (.ifCond .ne 8, 3) := by decide +kernel
theorem dX11_line_77 : decode cX11_line 77 = .ok (.aload_n 0, 1) := by decide +kernel
theorem dX11_line_78 : decode cX11_line 78 = .ok (.iconst 1, 1) := by decide +kernel
theorem dX11_line_79 : decode cX11_line 79 = .ok (.invokevirtual 167, 3) := by decide +kernel
theorem dX11_line_82 : decode cX11_line 82 = .ok (.iload_n 2, 1) := by decide +kernel
theorem dX11_line_83 : decode cX11_line 83 = .ok (.ifCond .eq 16, 3) := by decide +kernel
theorem dX11_line_86 : decode cX11_line 86 = .ok (.aload_n 0, 1) := by decide +kernel
theorem dX11_line_87 : decode cX11_line 87 = .ok (.getfield 37, 3) := by decide +kernel
theorem dX11_line_90 : decode cX11_line 90 = .ok (.iconst 4, 1) := by decide +kernel
theorem dX11_line_91 : decode cX11_line 91 = .ok (.iaload, 1) := by decide +kernel
theorem dX11_line_92 : decode cX11_line 92 = .ok (.iconst 5, 1) := by decide +kernel
theorem dX11_line_93 : decode cX11_line 93 = .ok (.if_icmp .ne 22, 3) := by decide +kernel
theorem dX11_line_96 : decode cX11_line 96 = .ok (.goto 14, 3) := by decide +kernel
theorem dX11_line_99 : decode cX11_line 99 = .ok (.aload_n 0, 1) := by decide +kernel
theorem dX11_line_100 : decode cX11_line 100 = .ok (.getfield 43, 3) := by decide +kernel
theorem dX11_line_103 : decode cX11_line 103 = .ok (.iconst 4, 1) := by decide +kernel
theorem dX11_line_104 : decode cX11_line 104 = .ok (.iaload, 1) := by decide +kernel
theorem dX11_line_105 : decode cX11_line 105 = .ok (.bipush 10, 2) := by decide +kernel
theorem dX11_line_107 : decode cX11_line 107 = .ok (.if_icmp .ne 8, 3) := by decide +kernel
theorem dX11_line_110 : decode cX11_line 110 = .ok (.aload_n 0, 1) := by decide +kernel
theorem dX11_line_111 : decode cX11_line 111 = .ok (.iconst 3, 1) := by decide +kernel
theorem dX11_line_112 : decode cX11_line 112 = .ok (.invokevirtual 167, 3) := by decide +kernel
theorem dX11_line_115 : decode cX11_line 115 = .ok (.aload_n 0, 1) := by decide +kernel
theorem dX11_line_116 : decode cX11_line 116 = .ok (.getfield 151, 3) := by decide +kernel
theorem dX11_line_119 : decode cX11_line 119 = .ok (.ifCond .eq 4, 3) := by decide +kernel
theorem dX11_line_122 : decode cX11_line 122 = .ok (.return_, 1) := by decide +kernel
theorem dX11_line_123 : decode cX11_line 123 = .ok (.aload_n 0, 1) := by decide +kernel
theorem dX11_line_124 : decode cX11_line 124 = .ok (.invokevirtual 161, 3) := by decide +kernel
theorem dX11_line_127 : decode cX11_line 127 = .ok (.iload_n 2, 1) := by decide +kernel
theorem dX11_line_128 : decode cX11_line 128 = .ok (.ifCond .eq 10, 3) := by decide +kernel
theorem dX11_line_131 : decode cX11_line 131 = .ok (.aload_n 0, 1) := by decide +kernel
theorem dX11_line_132 : decode cX11_line 132 = .ok (.invokevirtual 245, 3) := by decide +kernel
theorem dX11_line_135 : decode cX11_line 135 = .ok (.goto 7, 3) := by decide +kernel
theorem dX11_line_138 : decode cX11_line 138 = .ok (.aload_n 0, 1) := by decide +kernel
theorem dX11_line_139 : decode cX11_line 139 = .ok (.invokevirtual 248, 3) := by decide +kernel
theorem dX11_line_142 : decode cX11_line 142 = .ok (.return_, 1) := by decide +kernel
theorem dX11_next_0 : decode cX11_next 0 = .ok (.aload_n 0, 1) := by decide +kernel
theorem dX11_next_1 : decode cX11_next 1 = .ok (.aload_n 0, 1) := by decide +kernel
theorem dX11_next_2 : decode cX11_next 2 = .ok (.getfield 123, 3) := by decide +kernel
theorem dX11_next_5 : decode cX11_next 5 = .ok (.bipush 32, 2) := by decide +kernel
theorem dX11_next_7 : decode cX11_next 7 = .ok (.bipush 32, 2) := by decide +kernel
theorem dX11_next_9 : decode cX11_next 9 = .ok (.invokevirtual 126, 3) := by decide +kernel
theorem dX11_next_12 : decode cX11_next 12 = .ok (.ifCond .ne 18, 3) := by decide +kernel
theorem dX11_next_15 : decode cX11_next 15 = .ok (.aload_n 0, 1) := by decide +kernel
theorem dX11_next_16 : decode cX11_next 16 = .ok (.aload_n 0, 1) := by decide +kernel
theorem dX11_next_17 : decode cX11_next 17 = .ok (.getfield 123, 3) := by decide +kernel
theorem dX11_next_20 : decode cX11_next 20 = .ok (.bipush 10, 2) := by decide +kernel
theorem dX11_next_22 : decode cX11_next 22 = .ok (.bipush 10, 2) := by decide +kernel
theorem dX11_next_24 : decode cX11_next 24 = .ok (.invokevirtual 126, 3) := by decide +kernel
theorem dX11_next_27 : decode cX11_next 27 = .ok (.ifCond .eq 16, 3) := by decide +kernel
theorem dX11_next_30 : decode cX11_next 30 = .ok (.aload_n 0, 1) := by decide +kernel
theorem dX11_next_31 : decode cX11_next 31 = .ok (.dup, 1) := by decide +kernel
theorem dX11_next_32 : decode cX11_next 32 = .ok (.getfield 123, 3) := by decide +kernel
theorem dX11_next_35 : decode cX11_next 35 = .ok (.iconst 1, 1) := by decide +kernel
theorem dX11_next_36 : decode cX11_next 36 = .ok (.iadd, 1) := by decide +kernel
theorem dX11_next_37 : decode cX11_next 37 = .ok (.putfield 123, 3) := by decide +kernel
theorem dX11_next_40 : decode cX11_next 40 = .ok (.goto (-40), 3) := by decide +kernel
theorem dX11_next_43 : decode cX11_next 43 = .ok (.aload_n 0, 1) := by decide +kernel
theorem dX11_next_44 : decode cX11_next 44 = .ok (.aload_n 0, 1) := by decide +kernel
theorem dX11_next_45 : decode cX11_next 45 = .ok (.getfield 123, 3) := by decide +kernel
theorem dX11_next_48 : decode cX11_next 48 = .ok (.putfield 130, 3) := by decide +kernel
theorem dX11_next_51 : decode cX11_next 51 = .ok (.aload_n 0, 1) := by decide +kernel
theorem dX11_next_52 : decode cX11_next 52 = .ok (.iconst 0, 1) := by decide +kernel
theorem dX11_next_53 : decode cX11_next 53 = .ok (.putfield 133, 3) := by decide +kernel
theorem dX11_next_56 : decode cX11_next 56 = .ok (.aload_n 0, 1) := by decide +kernel
theorem dX11_next_57 : decode cX11_next 57 = .ok (.lconst 0, 1) := by decide +kernel
theorem dX11_next_58 : decode cX11_next 58 = .ok (.putfield 136, 3) := by decide +kernel
theorem dX11_next_61 : decode cX11_next 61 = .ok (.aload_n 0, 1) := by decide +kernel
theorem dX11_next_62 : decode cX11_next 62 = .ok (.getfield 123, 3) := by decide +kernel
theorem dX11_next_65 : decode cX11_next 65 = .ok (.aload_n 0, 1) := by decide +kernel
theorem dX11_next_66 : decode cX11_next 66 = .ok (.getfield 116, 3) := by decide +kernel
theorem dX11_next_69 : decode cX11_next 69 = .ok (.if_icmp .ne 11, 3) := by decide +kernel
theorem dX11_next_72 : decode cX11_next 72 = .ok (.aload_n 0, 1) := by decide +kernel
theorem dX11_next_73 : decode cX11_next 73 = .ok (.iconst 0, 1) := by decide +kernel
theorem dX11_next_74 : decode cX11_next 74 = .ok (.putfield 140, 3) := by decide +kernel
theorem dX11_next_77 : decode cX11_next 77 = .ok (.goto 230, 3) := by decide +kernel
theorem dX11_next_80 : decode cX11_next 80 = .ok (.aload_n 0, 1) := by decide +kernel
theorem dX11_next_81 : decode cX11_next 81 = .ok (.aload_n 0, 1) := by decide +kernel
theorem dX11_next_82 : decode cX11_next 82 = .ok (.getfield 123, 3) := by decide +kernel
theorem dX11_next_85 : decode cX11_next 85 = .ok (.bipush 97, 2) := by decide +kernel
theorem dX11_next_87 : decode cX11_next 87 = .ok (.bipush 122, 2) := by decide +kernel
theorem dX11_next_89 : decode cX11_next 89 = .ok (.invokevirtual 126, 3) := by decide +kernel
theorem dX11_next_92 : decode cX11_next 92 = .ok (.ifCond .eq 96, 3) := by decide +kernel
theorem dX11_next_95 : decode cX11_next 95 = .ok (.aload_n 0, 1) := by decide +kernel
theorem dX11_next_96 : decode cX11_next 96 = .ok (.iconst 1, 1) := by decide +kernel
theorem dX11_next_97 : decode cX11_next 97 = .ok (.putfield 140, 3) := by decide +kernel
theorem dX11_next_100 : decode cX11_next 100 = .ok (.iconst 0, 1) := by decide +kernel
theorem dX11_next_101 : decode cX11_next 101 = .ok (.istore_n 1, 1) := by decide +kernel
theorem dX11_next_102 : decode cX11_next 102 = .ok (.aload_n 0, 1) := by decide +kernel
theorem dX11_next_103 : decode cX11_next 103 = .ok (.aload_n 0, 1) := by decide +kernel
theorem dX11_next_104 : decode cX11_next 104 = .ok (.getfield 123, 3) := by decide +kernel
theorem dX11_next_107 : decode cX11_next 107 = .ok (.bipush 97, 2) := by decide +kernel
theorem dX11_next_109 : decode cX11_next 109 = .ok (.bipush 122, 2) := by decide +kernel
theorem dX11_next_111 : decode cX11_next 111 = .ok (.invokevirtual 126, 3) := by decide +kernel
theorem dX11_next_114 : decode cX11_next 114 = .ok (.ifCond .eq 71, 3) := by decide +kernel
theorem dX11_next_117 : decode cX11_next 117 = .ok (.aload_n 0, 1) := by decide +kernel
theorem dX11_next_118 : decode cX11_next 118 = .ok (.iload_n 1, 1) := by decide +kernel
theorem dX11_next_119 : decode cX11_next 119 = .ok (.bipush 11, 2) := by decide +kernel
theorem dX11_next_121 : decode cX11_next 121 = .ok (.if_icmp .le 9, 3) := by decide +kernel
theorem dX11_next_124 : decode cX11_next 124 = .ok (.ldc2_w 143, 3) := by decide +kernel
theorem dX11_next_127 : decode cX11_next 127 = .ok (.goto 26, 3) := by decide +kernel
theorem dX11_next_130 : decode cX11_next 130 = .ok (.ldc2_w 145, 3) := by decide +kernel
theorem dX11_next_133 : decode cX11_next 133 = .ok (.aload_n 0, 1) := by decide +kernel
theorem dX11_next_134 : decode cX11_next 134 = .ok (.getfield 136, 3) := by decide +kernel
theorem dX11_next_137 : decode cX11_next 137 = .ok (.lmul, 1) := by decide +kernel
theorem dX11_next_138 : decode cX11_next 138 = .ok (.aload_n 0, 1) := by decide +kernel
theorem dX11_next_139 : decode cX11_next 139 = .ok (.getfield 23, 3) := by decide +kernel
theorem dX11_next_142 : decode cX11_next 142 = .ok (.aload_n 0, 1) := by decide +kernel
theorem dX11_next_143 : decode cX11_next 143 = .ok (.getfield 123, 3) := by decide +kernel
theorem dX11_next_146 : decode cX11_next 146 = .ok (.baload, 1) := by decide +kernel
theorem dX11_next_147 : decode cX11_next 147 = .ok (.i2l, 1) := by decide +kernel
theorem dX11_next_148 : decode cX11_next 148 = .ok (.ladd, 1) := by decide +kernel
theorem dX11_next_149 : decode cX11_next 149 = .ok (.ldc2_w 147, 3) := by decide +kernel
theorem dX11_next_152 : decode cX11_next 152 = .ok (.lsub, 1) := by decide +kernel
theorem dX11_next_153 : decode cX11_next 153 = .ok (.putfield 136, 3) := by decide +kernel
theorem dX11_next_156 : decode cX11_next 156 = .ok (.iload_n 1, 1) := by decide +kernel
theorem dX11_next_157 : decode cX11_next 157 = .ok (.bipush 11, 2) := by decide +kernel
theorem dX11_next_159 : decode cX11_next 159 = .ok (.if_icmp .le 10, 3) := by decide +kernel
theorem dX11_next_162 : decode cX11_next 162 = .ok (.aload_n 0, 1) := by decide +kernel
theorem dX11_next_163 : decode cX11_next 163 = .ok (.ldc2_w 143, 3) := by decide +kernel
theorem dX11_next_166 : decode cX11_next 166 = .ok (.putfield 136, 3) := by decide +kernel
theorem dX11_next_169 : decode cX11_next 169 = .ok (.aload_n 0, 1) := by decide +kernel
theorem dX11_next_170 : decode cX11_next 170 = .ok (.dup, 1) := by decide +kernel
theorem dX11_next_171 : decode cX11_next 171 = .ok (.getfield 123, 3) := by decide +kernel
theorem dX11_next_174 : decode cX11_next 174 = .ok (.iconst 1, 1) := by decide +kernel
theorem dX11_next_175 : decode cX11_next 175 = .ok (.iadd, 1) := by decide +kernel
theorem dX11_next_176 : decode cX11_next 176 = .ok (.putfield 123, 3) := by decide +kernel
theorem dX11_next_179 : decode cX11_next 179 = .ok (.iinc 1 1, 3) := by decide +kernel
theorem dX11_next_182 : decode cX11_next 182 = .ok (.goto (-80), 3) := by decide +kernel
theorem dX11_next_185 : decode cX11_next 185 = .ok (.goto 122, 3) := by decide +kernel
theorem dX11_next_188 : decode cX11_next 188 = .ok (.aload_n 0, 1) := by decide +kernel
theorem dX11_next_189 : decode cX11_next 189 = .ok (.aload_n 0, 1) := by decide +kernel
theorem dX11_next_190 : decode cX11_next 190 = .ok (.getfield 123, 3) := by decide +kernel
theorem dX11_next_193 : decode cX11_next 193 = .ok (.bipush 48, 2) := by decide +kernel
theorem dX11_next_195 : decode cX11_next 195 = .ok (.bipush 57, 2) := by decide +kernel
theorem dX11_next_197 : decode cX11_next 197 = .ok (.invokevirtual 126, 3) := by decide +kernel
theorem dX11_next_200 : decode cX11_next 200 = .ok (.ifCond .eq 74, 3) := by decide +kernel
theorem dX11_next_203 : decode cX11_next 203 = .ok (.aload_n 0, 1) := by decide +kernel
theorem dX11_next_204 : decode cX11_next 204 = .ok (.iconst 2, 1) := by decide +kernel
theorem dX11_next_205 : decode cX11_next 205 = .ok (.putfield 140, 3) := by decide +kernel
theorem dX11_next_208 : decode cX11_next 208 = .ok (.aload_n 0, 1) := by decide +kernel
theorem dX11_next_209 : decode cX11_next 209 = .ok (.aload_n 0, 1) := by decide +kernel
theorem dX11_next_210 : decode cX11_next 210 = .ok (.getfield 123, 3) := by decide +kernel
theorem dX11_next_213 : decode cX11_next 213 = .ok (.bipush 48, 2) := by decide +kernel
theorem dX11_next_215 : decode cX11_next 215 = .ok (.bipush 57, 2) := by decide +kernel
theorem dX11_next_217 : decode cX11_next 217 = .ok (.invokevirtual 126, 3) := by decide +kernel
theorem dX11_next_220 : decode cX11_next 220 = .ok (.ifCond .eq 87, 3) := by decide +kernel
theorem dX11_next_223 : decode cX11_next 223 = .ok (.aload_n 0, 1) := by decide +kernel
theorem dX11_next_224 : decode cX11_next 224 = .ok (.aload_n 0, 1) := by decide +kernel
theorem dX11_next_225 : decode cX11_next 225 = .ok (.getfield 133, 3) := by decide +kernel
theorem dX11_next_228 : decode cX11_next 228 = .ok (.ldc 149, 2) := by decide +kernel
theorem dX11_next_230 : decode cX11_next 230 = .ok (.if_icmp .le 8, 3) := by decide +kernel
theorem dX11_next_233 : decode cX11_next 233 = .ok (.ldc 150, 2) := by decide +kernel
theorem dX11_next_235 : decode cX11_next 235 = .ok (.goto 23, 3) := by decide +kernel
theorem dX11_next_238 : decode cX11_next 238 = .ok (.bipush 10, 2) := by decide +kernel
theorem dX11_next_240 : decode cX11_next 240 = .ok (.aload_n 0, 1) := by decide +kernel
theorem dX11_next_241 : decode cX11_next 241 = .ok (.getfield 133, 3) := by decide +kernel
theorem dX11_next_244 : decode cX11_next 244 = .ok (.imul, 1) := by decide +kernel
theorem dX11_next_245 : decode cX11_next 245 = .ok (.aload_n 0, 1) := by decide +kernel
theorem dX11_next_246 : decode cX11_next 246 = .ok (.getfield 23, 3) := by decide +kernel
theorem dX11_next_249 : decode cX11_next 249 = .ok (.aload_n 0, 1) := by decide +kernel
theorem dX11_next_250 : decode cX11_next 250 = .ok (.getfield 123, 3) := by decide +kernel
theorem dX11_next_253 : decode cX11_next 253 = .ok (.baload, 1) := by decide +kernel
theorem dX11_next_254 : decode cX11_next 254 = .ok (.iadd, 1) := by decide +kernel
theorem dX11_next_255 : decode cX11_next 255 = .ok (.bipush 48, 2) := by decide +kernel
theorem dX11_next_257 : decode cX11_next 257 = .ok (.isub, 1) := by decide +kernel
theorem dX11_next_258 : decode cX11_next 258 = .ok (.putfield 133, 3) := by decide +kernel
theorem dX11_next_261 : decode cX11_next 261 = .ok (.aload_n 0, 1) := by decide +kernel
theorem dX11_next_262 : decode cX11_next 262 = .ok (.dup, 1) := by decide +kernel
theorem dX11_next_263 : decode cX11_next 263 = .ok (.getfield 123, 3) := by decide +kernel
theorem dX11_next_266 : decode cX11_next 266 = .ok (.iconst 1, 1) := by decide +kernel
theorem dX11_next_267 : decode cX11_next 267 = .ok (.iadd, 1) := by decide +kernel
theorem dX11_next_268 : decode cX11_next 268 = .ok (.putfield 123, 3) := by decide +kernel
theorem dX11_next_271 : decode cX11_next 271 = .ok (.goto (-63), 3) := by decide +kernel
theorem dX11_next_274 : decode cX11_next 274 = .ok (.aload_n 0, 1) := by decide +kernel
theorem dX11_next_275 : decode cX11_next 275 = .ok (.aload_n 0, 1) := by decide +kernel
theorem dX11_next_276 : decode cX11_next 276 = .ok (.getfield 23, 3) := by decide +kernel
theorem dX11_next_279 : decode cX11_next 279 = .ok (.aload_n 0, 1) := by decide +kernel
theorem dX11_next_280 : decode cX11_next 280 = .ok (.getfield 123, 3) := by decide +kernel
theorem dX11_next_283 : decode cX11_next 283 = .ok (.baload, 1) := by decide +kernel
theorem dX11_next_284 : decode cX11_next 284 = .ok (.bipush 59, 2) := by decide +kernel
theorem dX11_next_286 : decode cX11_next 286 = .ok (.if_icmp .ne 7, 3) := by decide +kernel
theorem dX11_next_289 : decode cX11_next 289 = .ok (.iconst 3, 1) := by decide +kernel
theorem dX11_next_290 : decode cX11_next 290 = .ok (.goto 4, 3) := by decide +kernel
theorem dX11_next_293 : decode cX11_next 293 = .ok (.iconst 4, 1) := by decide +kernel
theorem dX11_next_294 : decode cX11_next 294 = .ok (.putfield 140, 3) := by decide +kernel
theorem dX11_next_297 : decode cX11_next 297 = .ok (.aload_n 0, 1) := by decide +kernel
theorem dX11_next_298 : decode cX11_next 298 = .ok (.dup, 1) := by decide +kernel
theorem dX11_next_299 : decode cX11_next 299 = .ok (.getfield 123, 3) := by decide +kernel
theorem dX11_next_302 : decode cX11_next 302 = .ok (.iconst 1, 1) := by decide +kernel
theorem dX11_next_303 : decode cX11_next 303 = .ok (.iadd, 1) := by decide +kernel
theorem dX11_next_304 : decode cX11_next 304 = .ok (.putfield 123, 3) := by decide +kernel
theorem dX11_next_307 : decode cX11_next 307 = .ok (.return_, 1) := by decide +kernel
theorem dX11_number_0 : decode cX11_number 0 = .ok (.aload_n 0, 1) := by decide +kernel
theorem dX11_number_1 : decode cX11_number 1 = .ok (.getfield 151, 3) := by decide +kernel
theorem dX11_number_4 : decode cX11_number 4 = .ok (.ifCond .eq 5, 3) := by decide +kernel
theorem dX11_number_7 : decode cX11_number 7 = .ok (.iload_n 1, 1) := by decide +kernel
theorem dX11_number_8 : decode cX11_number 8 = .ok (.ireturn, 1) := by decide +kernel
theorem dX11_number_9 : decode cX11_number 9 = .ok (.aload_n 0, 1) := by decide +kernel
theorem dX11_number_10 : decode cX11_number 10 = .ok (.getfield 140, 3) := by decide +kernel
theorem dX11_number_13 : decode cX11_number 13 = .ok (.iconst 2, 1) := by decide +kernel
theorem dX11_number_14 : decode cX11_number 14 = .ok (.if_icmp .eq 10, 3) := by decide +kernel
theorem dX11_number_17 : decode cX11_number 17 = .ok (.aload_n 0, 1) := by decide +kernel
theorem dX11_number_18 : decode cX11_number 18 = .ok (.iconst 1, 1) := by decide +kernel
theorem dX11_number_19 : decode cX11_number 19 = .ok (.invokevirtual 167, 3) := by decide +kernel
theorem dX11_number_22 : decode cX11_number 22 = .ok (.iload_n 1, 1) := by decide +kernel
theorem dX11_number_23 : decode cX11_number 23 = .ok (.ireturn, 1) := by decide +kernel
theorem dX11_number_24 : decode cX11_number 24 = .ok (.aload_n 0, 1) := by decide +kernel
theorem dX11_number_25 : decode cX11_number 25 = .ok (.getfield 133, 3) := by decide +kernel
theorem dX11_number_28 : decode cX11_number 28 = .ok (.i2l, 1) := by decide +kernel
theorem dX11_number_29 : decode cX11_number 29 = .ok (.iload_n 1, 1) := by decide +kernel
theorem dX11_number_30 : decode cX11_number 30 = .ok (.i2l, 1) := by decide +kernel
theorem dX11_number_31 : decode cX11_number 31 = .ok (.iload_n 2, 1) := by decide +kernel
theorem dX11_number_32 : decode cX11_number 32 = .ok (.i2l, 1) := by decide +kernel
theorem dX11_number_33 : decode cX11_number 33 = .ok (.invokestatic 104, 3) := by decide +kernel
theorem dX11_number_36 : decode cX11_number 36 = .ok (.ifCond .ne 10, 3) := by decide +kernel
theorem dX11_number_39 : decode cX11_number 39 = .ok (.aload_n 0, 1) := by decide +kernel
theorem dX11_number_40 : decode cX11_number 40 = .ok (.iconst 2, 1) := by decide +kernel
theorem dX11_number_41 : decode cX11_number 41 = .ok (.invokevirtual 167, 3) := by decide +kernel
theorem dX11_number_44 : decode cX11_number 44 = .ok (.iload_n 1, 1) := by decide +kernel
theorem dX11_number_45 : decode cX11_number 45 = .ok (.ireturn, 1) := by decide +kernel
theorem dX11_number_46 : decode cX11_number 46 = .ok (.aload_n 0, 1) := by decide +kernel
theorem dX11_number_47 : decode cX11_number 47 = .ok (.getfield 133, 3) := by decide +kernel
theorem dX11_number_50 : decode cX11_number 50 = .ok (.istore_n 3, 1) := by decide +kernel
theorem dX11_number_51 : decode cX11_number 51 = .ok (.aload_n 0, 1) := by decide +kernel
theorem dX11_number_52 : decode cX11_number 52 = .ok (.invokevirtual 161, 3) := by decide +kernel
theorem dX11_number_55 : decode cX11_number 55 = .ok (.iload_n 3, 1) := by decide +kernel
theorem dX11_number_56 : decode cX11_number 56 = .ok (.ireturn, 1) := by decide +kernel
theorem dX11_number__0 : decode cX11_number_ 0 = .ok (.aload_n 0, 1) := by decide +kernel
theorem dX11_number__1 : decode cX11_number_ 1 = .ok (.lload_n 1, 1) := by decide +kernel
theorem dX11_number__2 : decode cX11_number_ 2 = .ok (.invokevirtual 170, 3) := by decide +kernel
theorem dX11_number__5 : decode cX11_number_ 5 = .ok (.aload_n 0, 1) := by decide +kernel
theorem dX11_number__6 : decode cX11_number_ 6 = .ok (.iload_n 3, 1) := by decide +kernel
theorem dX11_number__7 : decode cX11_number_ 7 = .ok (.iload 4, 2) := by decide +kernel
theorem dX11_number__9 : decode cX11_number_ 9 = .ok (.invokevirtual 174, 3) := by decide +kernel
theorem dX11_number__12 : decode cX11_number_ 12 = .ok (.ireturn, 1) := by decide +kernel
theorem dX11_onceLine_0 : decode cX11_onceLine 0 = .ok (.aload_n 0, 1) := by decide +kernel
theorem dX11_onceLine_1 : decode cX11_onceLine 1 = .ok (.getfield 52, 3) := by decide +kernel
theorem dX11_onceLine_4 : decode cX11_onceLine 4 = .ok (.bipush 12, 2) := by decide +kernel
theorem dX11_onceLine_6 : decode cX11_onceLine 6 = .ok (.iload_n 1, 1) := by decide +kernel
theorem dX11_onceLine_7 : decode cX11_onceLine 7 = .ok (.iadd, 1) := by decide +kernel
theorem dX11_onceLine_8 : decode cX11_onceLine 8 = .ok (.baload, 1) := by decide +kernel
theorem dX11_onceLine_9 : decode cX11_onceLine 9 = .ok (.ifCond .eq 8, 3) := by decide +kernel
theorem dX11_onceLine_12 : decode cX11_onceLine 12 = .ok (.aload_n 0, 1) := by decide +kernel
theorem dX11_onceLine_13 : decode cX11_onceLine 13 = .ok (.iconst 2, 1) := by decide +kernel
theorem dX11_onceLine_14 : decode cX11_onceLine 14 = .ok (.invokevirtual 167, 3) := by decide +kernel
theorem dX11_onceLine_17 : decode cX11_onceLine 17 = .ok (.aload_n 0, 1) := by decide +kernel
theorem dX11_onceLine_18 : decode cX11_onceLine 18 = .ok (.getfield 151, 3) := by decide +kernel
theorem dX11_onceLine_21 : decode cX11_onceLine 21 = .ok (.ifCond .eq 4, 3) := by decide +kernel
theorem dX11_onceLine_24 : decode cX11_onceLine 24 = .ok (.return_, 1) := by decide +kernel
theorem dX11_onceLine_25 : decode cX11_onceLine 25 = .ok (.aload_n 0, 1) := by decide +kernel
theorem dX11_onceLine_26 : decode cX11_onceLine 26 = .ok (.invokevirtual 161, 3) := by decide +kernel
theorem dX11_onceLine_29 : decode cX11_onceLine 29 = .ok (.aload_n 0, 1) := by decide +kernel
theorem dX11_onceLine_30 : decode cX11_onceLine 30 = .ok (.getfield 52, 3) := by decide +kernel
theorem dX11_onceLine_33 : decode cX11_onceLine 33 = .ok (.bipush 12, 2) := by decide +kernel
theorem dX11_onceLine_35 : decode cX11_onceLine 35 = .ok (.iload_n 1, 1) := by decide +kernel
theorem dX11_onceLine_36 : decode cX11_onceLine 36 = .ok (.iadd, 1) := by decide +kernel
theorem dX11_onceLine_37 : decode cX11_onceLine 37 = .ok (.iconst 1, 1) := by decide +kernel
theorem dX11_onceLine_38 : decode cX11_onceLine 38 = .ok (.bastore, 1) := by decide +kernel
