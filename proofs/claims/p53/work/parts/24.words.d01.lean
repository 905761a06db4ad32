theorem dX10_slack_48 : decode cX10_slack 48 = .ok (.istore 5, 2) := by decide +kernel
theorem dX10_slack_50 : decode cX10_slack 50 = .ok (.aload_n 0, 1) := by decide +kernel
theorem dX10_slack_51 : decode cX10_slack 51 = .ok (.getfield 27, 3) := by decide +kernel
theorem dX10_slack_54 : decode cX10_slack 54 = .ok (.getfield 121, 3) := by decide +kernel
theorem dX10_slack_57 : decode cX10_slack 57 = .ok (.getfield 148, 3) := by decide +kernel
theorem dX10_slack_60 : decode cX10_slack 60 = .ok (.iload 4, 2) := by decide +kernel
theorem dX10_slack_62 : decode cX10_slack 62 = .ok (.iaload, 1) := by decide +kernel
theorem dX10_slack_63 : decode cX10_slack 63 = .ok (.ifCond .le 17, 3) := by decide +kernel
theorem dX10_slack_66 : decode cX10_slack 66 = .ok (.iload_n 2, 1) := by decide +kernel
theorem dX10_slack_67 : decode cX10_slack 67 = .ok (.iconst (-1), 1) := by decide +kernel
theorem dX10_slack_68 : decode cX10_slack 68 = .ok (.if_icmp .eq 9, 3) := by decide +kernel
theorem dX10_slack_71 : decode cX10_slack 71 = .ok (.iload 5, 2) := by decide +kernel
theorem dX10_slack_73 : decode cX10_slack 73 = .ok (.iload_n 2, 1) := by decide +kernel
theorem dX10_slack_74 : decode cX10_slack 74 = .ok (.if_icmp .ge 6, 3) := by decide +kernel
theorem dX10_slack_77 : decode cX10_slack 77 = .ok (.iload 5, 2) := by decide +kernel
theorem dX10_slack_79 : decode cX10_slack 79 = .ok (.istore_n 2, 1) := by decide +kernel
theorem dX10_slack_80 : decode cX10_slack 80 = .ok (.iinc 3 1, 3) := by decide +kernel
theorem dX10_slack_83 : decode cX10_slack 83 = .ok (.goto (-68), 3) := by decide +kernel
theorem dX10_slack_86 : decode cX10_slack 86 = .ok (.iload_n 2, 1) := by decide +kernel
theorem dX10_slack_87 : decode cX10_slack 87 = .ok (.ireturn, 1) := by decide +kernel
theorem dX10_span_0 : decode cX10_span 0 = .ok (.aload_n 0, 1) := by decide +kernel
theorem dX10_span_1 : decode cX10_span 1 = .ok (.iload_n 1, 1) := by decide +kernel
theorem dX10_span_2 : decode cX10_span 2 = .ok (.invokevirtual 227, 3) := by decide +kernel
theorem dX10_span_5 : decode cX10_span 5 = .ok (.ifCond .eq 20, 3) := by decide +kernel
theorem dX10_span_8 : decode cX10_span 8 = .ok (.aload_n 0, 1) := by decide +kernel
theorem dX10_span_9 : decode cX10_span 9 = .ok (.iload_n 2, 1) := by decide +kernel
theorem dX10_span_10 : decode cX10_span 10 = .ok (.invokevirtual 170, 3) := by decide +kernel
theorem dX10_span_13 : decode cX10_span 13 = .ok (.ifCond .eq 12, 3) := by decide +kernel
theorem dX10_span_16 : decode cX10_span 16 = .ok (.iload_n 3, 1) := by decide +kernel
theorem dX10_span_17 : decode cX10_span 17 = .ok (.ifCond .lt 8, 3) := by decide +kernel
theorem dX10_span_20 : decode cX10_span 20 = .ok (.iload_n 3, 1) := by decide +kernel
theorem dX10_span_21 : decode cX10_span 21 = .ok (.iconst 1, 1) := by decide +kernel
theorem dX10_span_22 : decode cX10_span 22 = .ok (.if_icmp .le 6, 3) := by decide +kernel
theorem dX10_span_25 : decode cX10_span 25 = .ok (.bipush (-2), 2) := by decide +kernel
theorem dX10_span_27 : decode cX10_span 27 = .ok (.ireturn, 1) := by decide +kernel
theorem dX10_span_28 : decode cX10_span 28 = .ok (.aload_n 0, 1) := by decide +kernel
theorem dX10_span_29 : decode cX10_span 29 = .ok (.getfield 27, 3) := by decide +kernel
theorem dX10_span_32 : decode cX10_span 32 = .ok (.getfield 121, 3) := by decide +kernel
theorem dX10_span_35 : decode cX10_span 35 = .ok (.iload_n 2, 1) := by decide +kernel
theorem dX10_span_36 : decode cX10_span 36 = .ok (.iload_n 1, 1) := by decide +kernel
theorem dX10_span_37 : decode cX10_span 37 = .ok (.invokevirtual 236, 3) := by decide +kernel
theorem dX10_span_40 : decode cX10_span 40 = .ok (.istore 4, 2) := by decide +kernel
theorem dX10_span_42 : decode cX10_span 42 = .ok (.iload_n 3, 1) := by decide +kernel
theorem dX10_span_43 : decode cX10_span 43 = .ok (.ifCond .ne 8, 3) := by decide +kernel
theorem dX10_span_46 : decode cX10_span 46 = .ok (.iload 4, 2) := by decide +kernel
theorem dX10_span_48 : decode cX10_span 48 = .ok (.goto 13, 3) := by decide +kernel
theorem dX10_span_51 : decode cX10_span 51 = .ok (.iload 4, 2) := by decide +kernel
theorem dX10_span_53 : decode cX10_span 53 = .ok (.aload_n 0, 1) := by decide +kernel
theorem dX10_span_54 : decode cX10_span 54 = .ok (.getfield 27, 3) := by decide +kernel
theorem dX10_span_57 : decode cX10_span 57 = .ok (.invokevirtual 239, 3) := by decide +kernel
theorem dX10_span_60 : decode cX10_span 60 = .ok (.iadd, 1) := by decide +kernel
theorem dX10_span_61 : decode cX10_span 61 = .ok (.ireturn, 1) := by decide +kernel
theorem dX10_spare_0 : decode cX10_spare 0 = .ok (.aload_n 0, 1) := by decide +kernel
theorem dX10_spare_1 : decode cX10_spare 1 = .ok (.iload_n 1, 1) := by decide +kernel
theorem dX10_spare_2 : decode cX10_spare 2 = .ok (.iload_n 2, 1) := by decide +kernel
theorem dX10_spare_3 : decode cX10_spare 3 = .ok (.invokevirtual 113, 3) := by decide +kernel
theorem dX10_spare_6 : decode cX10_spare 6 = .ok (.ifCond .ne 6, 3) := by decide +kernel
theorem dX10_spare_9 : decode cX10_spare 9 = .ok (.bipush (-2), 2) := by decide +kernel
theorem dX10_spare_11 : decode cX10_spare 11 = .ok (.ireturn, 1) := by decide +kernel
theorem dX10_spare_12 : decode cX10_spare 12 = .ok (.iload_n 1, 1) := by decide +kernel
theorem dX10_spare_13 : decode cX10_spare 13 = .ok (.iload_n 2, 1) := by decide +kernel
theorem dX10_spare_14 : decode cX10_spare 14 = .ok (.invokestatic 125, 3) := by decide +kernel
theorem dX10_spare_17 : decode cX10_spare 17 = .ok (.istore_n 3, 1) := by decide +kernel
theorem dX10_spare_18 : decode cX10_spare 18 = .ok (.bipush 9, 2) := by decide +kernel
theorem dX10_spare_20 : decode cX10_spare 20 = .ok (.istore 4, 2) := by decide +kernel
theorem dX10_spare_22 : decode cX10_spare 22 = .ok (.iload 4, 2) := by decide +kernel
theorem dX10_spare_24 : decode cX10_spare 24 = .ok (.ifCond .le 25, 3) := by decide +kernel
theorem dX10_spare_27 : decode cX10_spare 27 = .ok (.aload_n 0, 1) := by decide +kernel
theorem dX10_spare_28 : decode cX10_spare 28 = .ok (.getfield 27, 3) := by decide +kernel
theorem dX10_spare_31 : decode cX10_spare 31 = .ok (.getfield 121, 3) := by decide +kernel
theorem dX10_spare_34 : decode cX10_spare 34 = .ok (.iload_n 3, 1) := by decide +kernel
theorem dX10_spare_35 : decode cX10_spare 35 = .ok (.iload 4, 2) := by decide +kernel
theorem dX10_spare_37 : decode cX10_spare 37 = .ok (.invokevirtual 133, 3) := by decide +kernel
theorem dX10_spare_40 : decode cX10_spare 40 = .ok (.ifCond .ne 9, 3) := by decide +kernel
theorem dX10_spare_43 : decode cX10_spare 43 = .ok (.iinc 4 (-1), 3) := by decide +kernel
theorem dX10_spare_46 : decode cX10_spare 46 = .ok (.goto (-24), 3) := by decide +kernel
theorem dX10_spare_49 : decode cX10_spare 49 = .ok (.iload 4, 2) := by decide +kernel
theorem dX10_spare_51 : decode cX10_spare 51 = .ok (.ireturn, 1) := by decide +kernel
theorem dX10_still_0 : decode cX10_still 0 = .ok (.aload_n 0, 1) := by decide +kernel
theorem dX10_still_1 : decode cX10_still 1 = .ok (.iload_n 1, 1) := by decide +kernel
theorem dX10_still_2 : decode cX10_still 2 = .ok (.invokevirtual 227, 3) := by decide +kernel
theorem dX10_still_5 : decode cX10_still 5 = .ok (.ifCond .eq 26, 3) := by decide +kernel
theorem dX10_still_8 : decode cX10_still 8 = .ok (.aload_n 0, 1) := by decide +kernel
theorem dX10_still_9 : decode cX10_still 9 = .ok (.iload_n 2, 1) := by decide +kernel
theorem dX10_still_10 : decode cX10_still 10 = .ok (.invokevirtual 170, 3) := by decide +kernel
theorem dX10_still_13 : decode cX10_still 13 = .ok (.ifCond .eq 18, 3) := by decide +kernel
theorem dX10_still_16 : decode cX10_still 16 = .ok (.aload_n 0, 1) := by decide +kernel
theorem dX10_still_17 : decode cX10_still 17 = .ok (.getfield 27, 3) := by decide +kernel
theorem dX10_still_20 : decode cX10_still 20 = .ok (.getfield 121, 3) := by decide +kernel
theorem dX10_still_23 : decode cX10_still 23 = .ok (.iload_n 2, 1) := by decide +kernel
theorem dX10_still_24 : decode cX10_still 24 = .ok (.iload_n 1, 1) := by decide +kernel
theorem dX10_still_25 : decode cX10_still 25 = .ok (.invokevirtual 236, 3) := by decide +kernel
theorem dX10_still_28 : decode cX10_still 28 = .ok (.goto 5, 3) := by decide +kernel
theorem dX10_still_31 : decode cX10_still 31 = .ok (.bipush (-2), 2) := by decide +kernel
theorem dX10_still_33 : decode cX10_still 33 = .ok (.ireturn, 1) := by decide +kernel
theorem dX10_stone_0 : decode cX10_stone 0 = .ok (.aload_n 0, 1) := by decide +kernel
theorem dX10_stone_1 : decode cX10_stone 1 = .ok (.iload_n 1, 1) := by decide +kernel
theorem dX10_stone_2 : decode cX10_stone 2 = .ok (.iload_n 2, 1) := by decide +kernel
theorem dX10_stone_3 : decode cX10_stone 3 = .ok (.invokevirtual 113, 3) := by decide +kernel
theorem dX10_stone_6 : decode cX10_stone 6 = .ok (.ifCond .eq 14, 3) := by decide +kernel
theorem dX10_stone_9 : decode cX10_stone 9 = .ok (.iload 4, 2) := by decide +kernel
theorem dX10_stone_11 : decode cX10_stone 11 = .ok (.ifCond .lt 9, 3) := by decide +kernel
theorem dX10_stone_14 : decode cX10_stone 14 = .ok (.iload 4, 2) := by decide +kernel
theorem dX10_stone_16 : decode cX10_stone 16 = .ok (.iconst 3, 1) := by decide +kernel
theorem dX10_stone_17 : decode cX10_stone 17 = .ok (.if_icmp .le 6, 3) := by decide +kernel
theorem dX10_stone_20 : decode cX10_stone 20 = .ok (.bipush (-2), 2) := by decide +kernel
theorem dX10_stone_22 : decode cX10_stone 22 = .ok (.ireturn, 1) := by decide +kernel
theorem dX10_stone_23 : decode cX10_stone 23 = .ok (.iload_n 1, 1) := by decide +kernel
theorem dX10_stone_24 : decode cX10_stone 24 = .ok (.iload_n 2, 1) := by decide +kernel
theorem dX10_stone_25 : decode cX10_stone 25 = .ok (.invokestatic 125, 3) := by decide +kernel
theorem dX10_stone_28 : decode cX10_stone 28 = .ok (.istore 5, 2) := by decide +kernel
theorem dX10_stone_30 : decode cX10_stone 30 = .ok (.iload_n 3, 1) := by decide +kernel
theorem dX10_stone_31 : decode cX10_stone 31 = .ok (.ifCond .lt 20, 3) := by decide +kernel
theorem dX10_stone_34 : decode cX10_stone 34 = .ok (.iload_n 3, 1) := by decide +kernel
theorem dX10_stone_35 : decode cX10_stone 35 = .ok (.aload_n 0, 1) := by decide +kernel
theorem dX10_stone_36 : decode cX10_stone 36 = .ok (.getfield 27, 3) := by decide +kernel
theorem dX10_stone_39 : decode cX10_stone 39 = .ok (.getfield 121, 3) := by decide +kernel
theorem dX10_stone_42 : decode cX10_stone 42 = .ok (.getfield 148, 3) := by decide +kernel
theorem dX10_stone_45 : decode cX10_stone 45 = .ok (.iload 5, 2) := by decide +kernel
theorem dX10_stone_47 : decode cX10_stone 47 = .ok (.iaload, 1) := by decide +kernel
theorem dX10_stone_48 : decode cX10_stone 48 = .ok (.if_icmp .lt 5, 3) := by decide +kernel
theorem dX10_stone_51 : decode cX10_stone 51 = .ok (.iconst (-1), 1) := by decide +kernel
theorem dX10_stone_52 : decode cX10_stone 52 = .ok (.ireturn, 1) := by decide +kernel
theorem dX10_stone_53 : decode cX10_stone 53 = .ok (.iload 4, 2) := by decide +kernel
theorem dX10_stone_55 : decode cX10_stone 55 = .ok (.tableswitch 79 0 2 #[25, 43, 61], 25) := by decide +kernel
theorem dX10_stone_80 : decode cX10_stone 80 = .ok (.aload_n 0, 1) := by decide +kernel
theorem dX10_stone_81 : decode cX10_stone 81 = .ok (.getfield 27, 3) := by decide +kernel
theorem dX10_stone_84 : decode cX10_stone 84 = .ok (.getfield 121, 3) := by decide +kernel
theorem dX10_stone_87 : decode cX10_stone 87 = .ok (.getfield 155, 3) := by decide +kernel
theorem dX10_stone_90 : decode cX10_stone 90 = .ok (.iload 5, 2) := by decide +kernel
theorem dX10_stone_92 : decode cX10_stone 92 = .ok (.iload_n 3, 1) := by decide +kernel
theorem dX10_stone_93 : decode cX10_stone 93 = .ok (.invokestatic 158, 3) := by decide +kernel
theorem dX10_stone_96 : decode cX10_stone 96 = .ok (.iaload, 1) := by decide +kernel
theorem dX10_stone_97 : decode cX10_stone 97 = .ok (.ireturn, 1) := by decide +kernel
theorem dX10_stone_98 : decode cX10_stone 98 = .ok (.aload_n 0, 1) := by decide +kernel
theorem dX10_stone_99 : decode cX10_stone 99 = .ok (.getfield 27, 3) := by decide +kernel
theorem dX10_stone_102 : decode cX10_stone 102 = .ok (.getfield 121, 3) := by decide +kernel
theorem dX10_stone_105 : decode cX10_stone 105 = .ok (.getfield 161, 3) := by decide +kernel
theorem dX10_stone_108 : decode cX10_stone 108 = .ok (.iload 5, 2) := by decide +kernel
theorem dX10_stone_110 : decode cX10_stone 110 = .ok (.iload_n 3, 1) := by decide +kernel
theorem dX10_stone_111 : decode cX10_stone 111 = .ok (.invokestatic 158, 3) := by decide +kernel
theorem dX10_stone_114 : decode cX10_stone 114 = .ok (.iaload, 1) := by decide +kernel
theorem dX10_stone_115 : decode cX10_stone 115 = .ok (.ireturn, 1) := by decide +kernel
theorem dX10_stone_116 : decode cX10_stone 116 = .ok (.aload_n 0, 1) := by decide +kernel
theorem dX10_stone_117 : decode cX10_stone 117 = .ok (.getfield 27, 3) := by decide +kernel
theorem dX10_stone_120 : decode cX10_stone 120 = .ok (.getfield 121, 3) := by decide +kernel
theorem dX10_stone_123 : decode cX10_stone 123 = .ok (.getfield 164, 3) := by decide +kernel
theorem dX10_stone_126 : decode cX10_stone 126 = .ok (.iload 5, 2) := by decide +kernel
theorem dX10_stone_128 : decode cX10_stone 128 = .ok (.iload_n 3, 1) := by decide +kernel
theorem dX10_stone_129 : decode cX10_stone 129 = .ok (.invokestatic 158, 3) := by decide +kernel
theorem dX10_stone_132 : decode cX10_stone 132 = .ok (.iaload, 1) := by decide +kernel
theorem dX10_stone_133 : decode cX10_stone 133 = .ok (.ireturn, 1) := by decide +kernel
theorem dX10_stone_134 : decode cX10_stone 134 = .ok (.aload_n 0, 1) := by decide +kernel
theorem dX10_stone_135 : decode cX10_stone 135 = .ok (.getfield 27, 3) := by decide +kernel
theorem dX10_stone_138 : decode cX10_stone 138 = .ok (.getfield 121, 3) := by decide +kernel
theorem dX10_stone_141 : decode cX10_stone 141 = .ok (.iload 5, 2) := by decide +kernel
theorem dX10_stone_143 : decode cX10_stone 143 = .ok (.iload_n 3, 1) := by decide +kernel
theorem dX10_stone_144 : decode cX10_stone 144 = .ok (.iconst 1, 1) := by decide +kernel
theorem dX10_stone_145 : decode cX10_stone 145 = .ok (.iadd, 1) := by decide +kernel
theorem dX10_stone_146 : decode cX10_stone 146 = .ok (.invokevirtual 167, 3) := by decide +kernel
theorem dX10_stone_149 : decode cX10_stone 149 = .ok (.ireturn, 1) := by decide +kernel
theorem dX10_suits_0 : decode cX10_suits 0 = .ok (.aload_n 0, 1) := by decide +kernel
theorem dX10_suits_1 : decode cX10_suits 1 = .ok (.iload_n 1, 1) := by decide +kernel
theorem dX10_suits_2 : decode cX10_suits 2 = .ok (.invokevirtual 170, 3) := by decide +kernel
theorem dX10_suits_5 : decode cX10_suits 5 = .ok (.ifCond .ne 6, 3) := by decide +kernel
theorem dX10_suits_8 : decode cX10_suits 8 = .ok (.bipush (-2), 2) := by decide +kernel
theorem dX10_suits_10 : decode cX10_suits 10 = .ok (.ireturn, 1) := by decide +kernel
theorem dX10_suits_11 : decode cX10_suits 11 = .ok (.iconst 0, 1) := by decide +kernel
theorem dX10_suits_12 : decode cX10_suits 12 = .ok (.istore_n 2, 1) := by decide +kernel
theorem dX10_suits_13 : decode cX10_suits 13 = .ok (.iload_n 2, 1) := by decide +kernel
theorem dX10_suits_14 : decode cX10_suits 14 = .ok (.iconst 2, 1) := by decide +kernel
theorem dX10_suits_15 : decode cX10_suits 15 = .ok (.if_icmp .gt 23, 3) := by decide +kernel
theorem dX10_suits_18 : decode cX10_suits 18 = .ok (.aload_n 0, 1) := by decide +kernel
theorem dX10_suits_19 : decode cX10_suits 19 = .ok (.getfield 27, 3) := by decide +kernel
theorem dX10_suits_22 : decode cX10_suits 22 = .ok (.iload_n 2, 1) := by decide +kernel
theorem dX10_suits_23 : decode cX10_suits 23 = .ok (.invokevirtual 200, 3) := by decide +kernel
theorem dX10_suits_26 : decode cX10_suits 26 = .ok (.iload_n 1, 1) := by decide +kernel
theorem dX10_suits_27 : decode cX10_suits 27 = .ok (.if_icmp .ne 5, 3) := by decide +kernel
theorem dX10_suits_30 : decode cX10_suits 30 = .ok (.iload_n 2, 1) := by decide +kernel
theorem dX10_suits_31 : decode cX10_suits 31 = .ok (.ireturn, 1) := by decide +kernel
theorem dX10_suits_32 : decode cX10_suits 32 = .ok (.iinc 2 1, 3) := by decide +kernel
theorem dX10_suits_35 : decode cX10_suits 35 = .ok (.goto (-22), 3) := by decide +kernel
theorem dX10_suits_38 : decode cX10_suits 38 = .ok (.iconst (-1), 1) := by decide +kernel
theorem dX10_suits_39 : decode cX10_suits 39 = .ok (.ireturn, 1) := by decide +kernel
theorem dX10_votes_0 : decode cX10_votes 0 = .ok (.aload_n 0, 1) := by decide +kernel
theorem dX10_votes_1 : decode cX10_votes 1 = .ok (.iload_n 1, 1) := by decide +kernel
theorem dX10_votes_2 : decode cX10_votes 2 = .ok (.invokevirtual 227, 3) := by decide +kernel
theorem dX10_votes_5 : decode cX10_votes 5 = .ok (.ifCond .eq 27, 3) := by decide +kernel
theorem dX10_votes_8 : decode cX10_votes 8 = .ok (.aload_n 0, 1) := by decide +kernel
theorem dX10_votes_9 : decode cX10_votes 9 = .ok (.iload_n 2, 1) := by decide +kernel
theorem dX10_votes_10 : decode cX10_votes 10 = .ok (.invokevirtual 170, 3) := by decide +kernel
theorem dX10_votes_13 : decode cX10_votes 13 = .ok (.ifCond .eq 19, 3) := by decide +kernel
theorem dX10_votes_16 : decode cX10_votes 16 = .ok (.aload_n 0, 1) := by decide +kernel
theorem dX10_votes_17 : decode cX10_votes 17 = .ok (.getfield 27, 3) := by decide +kernel
theorem dX10_votes_20 : decode cX10_votes 20 = .ok (.getfield 233, 3) := by decide +kernel
theorem dX10_votes_23 : decode cX10_votes 23 = .ok (.iconst 2, 1) := by decide +kernel
theorem dX10_votes_24 : decode cX10_votes 24 = .ok (.iload_n 1, 1) := by decide +kernel
theorem dX10_votes_25 : decode cX10_votes 25 = .ok (.imul, 1) := by decide +kernel
theorem dX10_votes_26 : decode cX10_votes 26 = .ok (.iload_n 2, 1) := by decide +kernel
theorem dX10_votes_27 : decode cX10_votes 27 = .ok (.iadd, 1) := by decide +kernel
theorem dX10_votes_28 : decode cX10_votes 28 = .ok (.iaload, 1) := by decide +kernel
theorem dX10_votes_29 : decode cX10_votes 29 = .ok (.goto 5, 3) := by decide +kernel
theorem dX10_votes_32 : decode cX10_votes 32 = .ok (.bipush (-2), 2) := by decide +kernel
theorem dX10_votes_34 : decode cX10_votes 34 = .ok (.ireturn, 1) := by decide +kernel
theorem dX10_won_0 : decode cX10_won 0 = .ok (.aload_n 0, 1) := by decide +kernel
theorem dX10_won_1 : decode cX10_won 1 = .ok (.iload_n 1, 1) := by decide +kernel
theorem dX10_won_2 : decode cX10_won 2 = .ok (.invokevirtual 227, 3) := by decide +kernel
theorem dX10_won_5 : decode cX10_won 5 = .ok (.ifCond .eq 15, 3) := by decide +kernel
theorem dX10_won_8 : decode cX10_won 8 = .ok (.aload_n 0, 1) := by decide +kernel
theorem dX10_won_9 : decode cX10_won 9 = .ok (.getfield 27, 3) := by decide +kernel
theorem dX10_won_12 : decode cX10_won 12 = .ok (.getfield 230, 3) := by decide +kernel
theorem dX10_won_15 : decode cX10_won 15 = .ok (.iload_n 1, 1) := by decide +kernel
theorem dX10_won_16 : decode cX10_won 16 = .ok (.iaload, 1) := by decide +kernel
theorem dX10_won_17 : decode cX10_won 17 = .ok (.goto 5, 3) := by decide +kernel
theorem dX10_won_20 : decode cX10_won 20 = .ok (.bipush (-2), 2) := by decide +kernel
theorem dX10_won_22 : decode cX10_won 22 = .ok (.ireturn, 1) := by decide +kernel
theorem dX10_would_0 : decode cX10_would 0 = .ok (.aload_n 0, 1) := by decide +kernel
theorem dX10_would_1 : decode cX10_would 1 = .ok (.iload_n 1, 1) := by decide +kernel
theorem dX10_would_2 : decode cX10_would 2 = .ok (.invokevirtual 203, 3) := by decide +kernel
theorem dX10_would_5 : decode cX10_would 5 = .ok (.ifCond .ne 6, 3) := by decide +kernel
theorem dX10_would_8 : decode cX10_would 8 = .ok (.bipush (-2), 2) := by decide +kernel
theorem dX10_would_10 : decode cX10_would 10 = .ok (.ireturn, 1) := by decide +kernel
theorem dX10_would_11 : decode cX10_would 11 = .ok (.iload_n 2, 1) := by decide +kernel
theorem dX10_would_12 : decode cX10_would 12 = .ok (.tableswitch 63 0 2 #[28, 37, 46], 28) := by decide +kernel
theorem dX10_would_40 : decode cX10_would 40 = .ok (.aload_n 0, 1) := by decide +kernel
theorem dX10_would_41 : decode cX10_would 41 = .ok (.getfield 27, 3) := by decide +kernel
theorem dX10_would_44 : decode cX10_would 44 = .ok (.iload_n 1, 1) := by decide +kernel
theorem dX10_would_45 : decode cX10_would 45 = .ok (.invokevirtual 206, 3) := by decide +kernel
theorem dX10_would_48 : decode cX10_would 48 = .ok (.ireturn, 1) := by decide +kernel
theorem dX10_would_49 : decode cX10_would 49 = .ok (.aload_n 0, 1) := by decide +kernel
theorem dX10_would_50 : decode cX10_would 50 = .ok (.getfield 27, 3) := by decide +kernel
theorem dX10_would_53 : decode cX10_would 53 = .ok (.iload_n 1, 1) := by decide +kernel
theorem dX10_would_54 : decode cX10_would 54 = .ok (.invokevirtual 209, 3) := by decide +kernel
theorem dX10_would_57 : decode cX10_would 57 = .ok (.ireturn, 1) := by decide +kernel
theorem dX10_would_58 : decode cX10_would 58 = .ok (.aload_n 0, 1) := by decide +kernel
theorem dX10_would_59 : decode cX10_would 59 = .ok (.getfield 27, 3) := by decide +kernel
theorem dX10_would_62 : decode cX10_would 62 = .ok (.iload_n 1, 1) := by decide +kernel
theorem dX10_would_63 : decode cX10_would 63 = .ok (.aload_n 0, 1) := by decide +kernel
theorem dX10_would_64 : decode cX10_would 64 = .ok (.getfield 27, 3) := by decide +kernel
theorem dX10_would_67 : decode cX10_would 67 = .ok (.iload_n 1, 1) := by decide +kernel
theorem dX10_would_68 : decode cX10_would 68 = .ok (.invokevirtual 209, 3) := by decide +kernel
theorem dX10_would_71 : decode cX10_would 71 = .ok (.invokevirtual 212, 3) := by decide +kernel
theorem dX10_would_74 : decode cX10_would 74 = .ok (.ireturn, 1) := by decide +kernel
theorem dX10_would_75 : decode cX10_would 75 = .ok (.bipush (-2), 2) := by decide +kernel
theorem dX10_would_77 : decode cX10_would 77 = .ok (.ireturn, 1) := by decide +kernel
