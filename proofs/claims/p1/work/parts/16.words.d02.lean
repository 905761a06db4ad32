theorem dX11_row_37 : decode cX11_row 37 = .ok (.bipush (-3), 2) := by decide +kernel
theorem dX11_row_39 : decode cX11_row 39 = .ok (.ireturn, 1) := by decide +kernel
theorem dX11_row_40 : decode cX11_row 40 = .ok (.aload_n 0, 1) := by decide +kernel
theorem dX11_row_41 : decode cX11_row 41 = .ok (.getfield 7, 3) := by decide +kernel
theorem dX11_row_44 : decode cX11_row 44 = .ok (.iload_n 1, 1) := by decide +kernel
theorem dX11_row_45 : decode cX11_row 45 = .ok (.iload_n 2, 1) := by decide +kernel
theorem dX11_row_46 : decode cX11_row 46 = .ok (.iastore, 1) := by decide +kernel
theorem dX11_row_47 : decode cX11_row 47 = .ok (.aload_n 0, 1) := by decide +kernel
theorem dX11_row_48 : decode cX11_row 48 = .ok (.getfield 13, 3) := by decide +kernel
theorem dX11_row_51 : decode cX11_row 51 = .ok (.iload_n 1, 1) := by decide +kernel
theorem dX11_row_52 : decode cX11_row 52 = .ok (.iload_n 3, 1) := by decide +kernel
theorem dX11_row_53 : decode cX11_row 53 = .ok (.iastore, 1) := by decide +kernel
theorem dX11_row_54 : decode cX11_row 54 = .ok (.iconst 0, 1) := by decide +kernel
theorem dX11_row_55 : decode cX11_row 55 = .ok (.istore 4, 2) := by decide +kernel
theorem dX11_row_57 : decode cX11_row 57 = .ok (.iload 4, 2) := by decide +kernel
theorem dX11_row_59 : decode cX11_row 59 = .ok (.iload_n 3, 1) := by decide +kernel
theorem dX11_row_60 : decode cX11_row 60 = .ok (.if_icmp .ge 22, 3) := by decide +kernel
theorem dX11_row_63 : decode cX11_row 63 = .ok (.aload_n 0, 1) := by decide +kernel
theorem dX11_row_64 : decode cX11_row 64 = .ok (.getfield 16, 3) := by decide +kernel
theorem dX11_row_67 : decode cX11_row 67 = .ok (.bipush 60, 2) := by decide +kernel
theorem dX11_row_69 : decode cX11_row 69 = .ok (.iload_n 1, 1) := by decide +kernel
theorem dX11_row_70 : decode cX11_row 70 = .ok (.imul, 1) := by decide +kernel
theorem dX11_row_71 : decode cX11_row 71 = .ok (.iload 4, 2) := by decide +kernel
theorem dX11_row_73 : decode cX11_row 73 = .ok (.iadd, 1) := by decide +kernel
theorem dX11_row_74 : decode cX11_row 74 = .ok (.lconst 0, 1) := by decide +kernel
theorem dX11_row_75 : decode cX11_row 75 = .ok (.lastore, 1) := by decide +kernel
theorem dX11_row_76 : decode cX11_row 76 = .ok (.iinc 4 1, 3) := by decide +kernel
theorem dX11_row_79 : decode cX11_row 79 = .ok (.goto (-22), 3) := by decide +kernel
theorem dX11_row_82 : decode cX11_row 82 = .ok (.iconst 0, 1) := by decide +kernel
theorem dX11_row_83 : decode cX11_row 83 = .ok (.ireturn, 1) := by decide +kernel
theorem dX11_rule_0 : decode cX11_rule 0 = .ok (.aload_n 0, 1) := by decide +kernel
theorem dX11_rule_1 : decode cX11_rule 1 = .ok (.iconst 0, 1) := by decide +kernel
theorem dX11_rule_2 : decode cX11_rule 2 = .ok (.putfield 99, 3) := by decide +kernel
theorem dX11_rule_5 : decode cX11_rule 5 = .ok (.aload_n 0, 1) := by decide +kernel
theorem dX11_rule_6 : decode cX11_rule 6 = .ok (.invokevirtual 316, 3) := by decide +kernel
theorem dX11_rule_9 : decode cX11_rule 9 = .ok (.ifCond .eq 15, 3) := by decide +kernel
theorem dX11_rule_24 : decode cX11_rule 24 = .ok (.bipush (-2), 2) := by decide +kernel
theorem dX11_rule_26 : decode cX11_rule 26 = .ok (.ireturn, 1) := by decide +kernel
theorem dX11_run_0 : decode cX11_run 0 = .ok (.aload_n 0, 1) := by decide +kernel
theorem dX11_run_1 : decode cX11_run 1 = .ok (.iconst 0, 1) := by decide +kernel
theorem dX11_run_2 : decode cX11_run 2 = .ok (.putfield 99, 3) := by decide +kernel
theorem dX11_run_5 : decode cX11_run 5 = .ok (.aload_n 0, 1) := by decide +kernel
theorem dX11_run_6 : decode cX11_run 6 = .ok (.iload_n 1, 1) := by decide +kernel
theorem dX11_run_7 : decode cX11_run 7 = .ok (.iload_n 2, 1) := by decide +kernel
theorem dX11_run_8 : decode cX11_run 8 = .ok (.invokevirtual 468, 3) := by decide +kernel
theorem dX11_run_11 : decode cX11_run 11 = .ok (.istore_n 3, 1) := by decide +kernel
theorem dX11_run_12 : decode cX11_run 12 = .ok (.iload_n 3, 1) := by decide +kernel
theorem dX11_run_13 : decode cX11_run 13 = .ok (.ifCond .eq 5, 3) := by decide +kernel
theorem dX11_run_16 : decode cX11_run 16 = .ok (.iload_n 3, 1) := by decide +kernel
theorem dX11_run_17 : decode cX11_run 17 = .ok (.ireturn, 1) := by decide +kernel
theorem dX11_runs_0 : decode cX11_runs 0 = .ok (.aload_n 0, 1) := by decide +kernel
theorem dX11_runs_1 : decode cX11_runs 1 = .ok (.iconst 0, 1) := by decide +kernel
theorem dX11_runs_2 : decode cX11_runs 2 = .ok (.putfield 99, 3) := by decide +kernel
theorem dX11_runs_5 : decode cX11_runs 5 = .ok (.iload_n 2, 1) := by decide +kernel
theorem dX11_runs_6 : decode cX11_runs 6 = .ok (.i2l, 1) := by decide +kernel
theorem dX11_runs_7 : decode cX11_runs 7 = .ok (.lconst 1, 1) := by decide +kernel
theorem dX11_runs_8 : decode cX11_runs 8 = .ok (.ldc2_w 474, 3) := by decide +kernel
theorem dX11_runs_11 : decode cX11_runs 11 = .ok (.invokestatic 104, 3) := by decide +kernel
theorem dX11_runs_14 : decode cX11_runs 14 = .ok (.ifCond .eq 16, 3) := by decide +kernel
theorem dX11_runs_17 : decode cX11_runs 17 = .ok (.iload 4, 2) := by decide +kernel
theorem dX11_runs_19 : decode cX11_runs 19 = .ok (.i2l, 1) := by decide +kernel
theorem dX11_runs_20 : decode cX11_runs 20 = .ok (.lconst 0, 1) := by decide +kernel
theorem dX11_runs_21 : decode cX11_runs 21 = .ok (.ldc2_w 346, 3) := by decide +kernel
theorem dX11_runs_24 : decode cX11_runs 24 = .ok (.invokestatic 104, 3) := by decide +kernel
theorem dX11_runs_27 : decode cX11_runs 27 = .ok (.ifCond .ne 6, 3) := by decide +kernel
theorem dX11_runs_30 : decode cX11_runs 30 = .ok (.bipush (-2), 2) := by decide +kernel
theorem dX11_runs_32 : decode cX11_runs 32 = .ok (.ireturn, 1) := by decide +kernel
theorem dX11_runs_33 : decode cX11_runs 33 = .ok (.aload_n 0, 1) := by decide +kernel
theorem dX11_runs_34 : decode cX11_runs 34 = .ok (.iload_n 1, 1) := by decide +kernel
theorem dX11_runs_35 : decode cX11_runs 35 = .ok (.iload_n 3, 1) := by decide +kernel
theorem dX11_runs_36 : decode cX11_runs 36 = .ok (.invokevirtual 468, 3) := by decide +kernel
theorem dX11_runs_39 : decode cX11_runs 39 = .ok (.istore 5, 2) := by decide +kernel
theorem dX11_runs_41 : decode cX11_runs 41 = .ok (.iload 5, 2) := by decide +kernel
theorem dX11_runs_43 : decode cX11_runs 43 = .ok (.ifCond .eq 6, 3) := by decide +kernel
theorem dX11_runs_46 : decode cX11_runs 46 = .ok (.iload 5, 2) := by decide +kernel
theorem dX11_runs_48 : decode cX11_runs 48 = .ok (.ireturn, 1) := by decide +kernel
theorem dX11_side_0 : decode cX11_side 0 = .ok (.aload_n 0, 1) := by decide +kernel
theorem dX11_side_1 : decode cX11_side 1 = .ok (.iconst 0, 1) := by decide +kernel
theorem dX11_side_2 : decode cX11_side 2 = .ok (.putfield 99, 3) := by decide +kernel
theorem dX11_side_5 : decode cX11_side 5 = .ok (.aload_n 0, 1) := by decide +kernel
theorem dX11_side_6 : decode cX11_side 6 = .ok (.invokevirtual 316, 3) := by decide +kernel
theorem dX11_side_9 : decode cX11_side 9 = .ok (.ifCond .eq 22, 3) := by decide +kernel
theorem dX11_side_31 : decode cX11_side 31 = .ok (.bipush (-2), 2) := by decide +kernel
theorem dX11_side_33 : decode cX11_side 33 = .ok (.ireturn, 1) := by decide +kernel
theorem dX11_slack_0 : decode cX11_slack 0 = .ok (.aload_n 0, 1) := by decide +kernel
theorem dX11_slack_1 : decode cX11_slack 1 = .ok (.iconst 0, 1) := by decide +kernel
theorem dX11_slack_2 : decode cX11_slack 2 = .ok (.putfield 99, 3) := by decide +kernel
theorem dX11_slack_5 : decode cX11_slack 5 = .ok (.aload_n 0, 1) := by decide +kernel
theorem dX11_slack_6 : decode cX11_slack 6 = .ok (.invokevirtual 316, 3) := by decide +kernel
theorem dX11_slack_9 : decode cX11_slack 9 = .ok (.ifCond .eq 10, 3) := by decide +kernel
theorem dX11_slack_19 : decode cX11_slack 19 = .ok (.bipush (-2), 2) := by decide +kernel
theorem dX11_slack_21 : decode cX11_slack 21 = .ok (.ireturn, 1) := by decide +kernel
theorem dX11_span_0 : decode cX11_span 0 = .ok (.aload_n 0, 1) := by decide +kernel
theorem dX11_span_1 : decode cX11_span 1 = .ok (.iconst 0, 1) := by decide +kernel
theorem dX11_span_2 : decode cX11_span 2 = .ok (.putfield 99, 3) := by decide +kernel
theorem dX11_span_5 : decode cX11_span 5 = .ok (.aload_n 0, 1) := by decide +kernel
theorem dX11_span_6 : decode cX11_span 6 = .ok (.iload_n 1, 1) := by decide +kernel
theorem dX11_span_7 : decode cX11_span 7 = .ok (.invokevirtual 370, 3) := by decide +kernel
theorem dX11_span_10 : decode cX11_span 10 = .ok (.ifCond .eq 20, 3) := by decide +kernel
theorem dX11_span_30 : decode cX11_span 30 = .ok (.bipush (-2), 2) := by decide +kernel
theorem dX11_span_32 : decode cX11_span 32 = .ok (.ireturn, 1) := by decide +kernel
theorem dX11_spare_0 : decode cX11_spare 0 = .ok (.aload_n 0, 1) := by decide +kernel
theorem dX11_spare_1 : decode cX11_spare 1 = .ok (.iconst 0, 1) := by decide +kernel
theorem dX11_spare_2 : decode cX11_spare 2 = .ok (.putfield 99, 3) := by decide +kernel
theorem dX11_spare_5 : decode cX11_spare 5 = .ok (.aload_n 0, 1) := by decide +kernel
theorem dX11_spare_6 : decode cX11_spare 6 = .ok (.iload_n 1, 1) := by decide +kernel
theorem dX11_spare_7 : decode cX11_spare 7 = .ok (.iload_n 2, 1) := by decide +kernel
theorem dX11_spare_8 : decode cX11_spare 8 = .ok (.invokevirtual 297, 3) := by decide +kernel
theorem dX11_spare_11 : decode cX11_spare 11 = .ok (.ifCond .ne 6, 3) := by decide +kernel
theorem dX11_spare_14 : decode cX11_spare 14 = .ok (.bipush (-2), 2) := by decide +kernel
theorem dX11_spare_16 : decode cX11_spare 16 = .ok (.ireturn, 1) := by decide +kernel
theorem dX11_still_0 : decode cX11_still 0 = .ok (.aload_n 0, 1) := by decide +kernel
theorem dX11_still_1 : decode cX11_still 1 = .ok (.iconst 0, 1) := by decide +kernel
theorem dX11_still_2 : decode cX11_still 2 = .ok (.putfield 99, 3) := by decide +kernel
theorem dX11_still_5 : decode cX11_still 5 = .ok (.aload_n 0, 1) := by decide +kernel
theorem dX11_still_6 : decode cX11_still 6 = .ok (.iload_n 1, 1) := by decide +kernel
theorem dX11_still_7 : decode cX11_still 7 = .ok (.invokevirtual 370, 3) := by decide +kernel
theorem dX11_still_10 : decode cX11_still 10 = .ok (.ifCond .eq 19, 3) := by decide +kernel
theorem dX11_still_29 : decode cX11_still 29 = .ok (.bipush (-2), 2) := by decide +kernel
theorem dX11_still_31 : decode cX11_still 31 = .ok (.ireturn, 1) := by decide +kernel
theorem dX11_stone_0 : decode cX11_stone 0 = .ok (.aload_n 0, 1) := by decide +kernel
theorem dX11_stone_1 : decode cX11_stone 1 = .ok (.iconst 0, 1) := by decide +kernel
theorem dX11_stone_2 : decode cX11_stone 2 = .ok (.putfield 99, 3) := by decide +kernel
theorem dX11_stone_5 : decode cX11_stone 5 = .ok (.aload_n 0, 1) := by decide +kernel
theorem dX11_stone_6 : decode cX11_stone 6 = .ok (.iload_n 1, 1) := by decide +kernel
theorem dX11_stone_7 : decode cX11_stone 7 = .ok (.iload_n 2, 1) := by decide +kernel
theorem dX11_stone_8 : decode cX11_stone 8 = .ok (.invokevirtual 297, 3) := by decide +kernel
theorem dX11_stone_11 : decode cX11_stone 11 = .ok (.ifCond .eq 16, 3) := by decide +kernel
theorem dX11_stone_27 : decode cX11_stone 27 = .ok (.bipush (-2), 2) := by decide +kernel
theorem dX11_stone_29 : decode cX11_stone 29 = .ok (.ireturn, 1) := by decide +kernel
theorem dX11_storm_0 : decode cX11_storm 0 = .ok (.aload_n 0, 1) := by decide +kernel
theorem dX11_storm_1 : decode cX11_storm 1 = .ok (.iconst 0, 1) := by decide +kernel
theorem dX11_storm_2 : decode cX11_storm 2 = .ok (.putfield 99, 3) := by decide +kernel
theorem dX11_storm_5 : decode cX11_storm 5 = .ok (.aload_n 0, 1) := by decide +kernel
theorem dX11_storm_6 : decode cX11_storm 6 = .ok (.invokevirtual 316, 3) := by decide +kernel
theorem dX11_storm_9 : decode cX11_storm 9 = .ok (.ifCond .eq 10, 3) := by decide +kernel
theorem dX11_storm_19 : decode cX11_storm 19 = .ok (.bipush (-2), 2) := by decide +kernel
theorem dX11_storm_21 : decode cX11_storm 21 = .ok (.ireturn, 1) := by decide +kernel
theorem dX11_suits_0 : decode cX11_suits 0 = .ok (.aload_n 0, 1) := by decide +kernel
theorem dX11_suits_1 : decode cX11_suits 1 = .ok (.iconst 0, 1) := by decide +kernel
theorem dX11_suits_2 : decode cX11_suits 2 = .ok (.putfield 99, 3) := by decide +kernel
theorem dX11_suits_5 : decode cX11_suits 5 = .ok (.aload_n 0, 1) := by decide +kernel
theorem dX11_suits_6 : decode cX11_suits 6 = .ok (.invokevirtual 316, 3) := by decide +kernel
theorem dX11_suits_9 : decode cX11_suits 9 = .ok (.ifCond .eq 10, 3) := by decide +kernel
theorem dX11_suits_19 : decode cX11_suits 19 = .ok (.bipush (-2), 2) := by decide +kernel
theorem dX11_suits_21 : decode cX11_suits 21 = .ok (.ireturn, 1) := by decide +kernel
theorem dX11_take_0 : decode cX11_take 0 = .ok (.aload_n 0, 1) := by decide +kernel
theorem dX11_take_1 : decode cX11_take 1 = .ok (.iconst 0, 1) := by decide +kernel
theorem dX11_take_2 : decode cX11_take 2 = .ok (.putfield 99, 3) := by decide +kernel
theorem dX11_take_5 : decode cX11_take 5 = .ok (.aload_n 0, 1) := by decide +kernel
theorem dX11_take_6 : decode cX11_take 6 = .ok (.iload_n 1, 1) := by decide +kernel
theorem dX11_take_7 : decode cX11_take 7 = .ok (.iload_n 2, 1) := by decide +kernel
theorem dX11_take_8 : decode cX11_take 8 = .ok (.invokevirtual 297, 3) := by decide +kernel
theorem dX11_take_11 : decode cX11_take 11 = .ok (.ifCond .ne 6, 3) := by decide +kernel
theorem dX11_take_14 : decode cX11_take 14 = .ok (.bipush (-2), 2) := by decide +kernel
theorem dX11_take_16 : decode cX11_take 16 = .ok (.ireturn, 1) := by decide +kernel
theorem dX11_tear_0 : decode cX11_tear 0 = .ok (.aload_n 0, 1) := by decide +kernel
theorem dX11_tear_1 : decode cX11_tear 1 = .ok (.iconst 0, 1) := by decide +kernel
theorem dX11_tear_2 : decode cX11_tear 2 = .ok (.putfield 99, 3) := by decide +kernel
theorem dX11_tear_5 : decode cX11_tear 5 = .ok (.aload_n 0, 1) := by decide +kernel
theorem dX11_tear_6 : decode cX11_tear 6 = .ok (.invokevirtual 316, 3) := by decide +kernel
theorem dX11_tear_9 : decode cX11_tear 9 = .ok (.ifCond .eq 10, 3) := by decide +kernel
theorem dX11_tear_19 : decode cX11_tear 19 = .ok (.bipush (-2), 2) := by decide +kernel
theorem dX11_tear_21 : decode cX11_tear 21 = .ok (.ireturn, 1) := by decide +kernel
theorem dX11_then_0 : decode cX11_then 0 = .ok (.aload_n 0, 1) := by decide +kernel
theorem dX11_then_1 : decode cX11_then 1 = .ok (.iconst 0, 1) := by decide +kernel
theorem dX11_then_2 : decode cX11_then 2 = .ok (.putfield 99, 3) := by decide +kernel
theorem dX11_then_5 : decode cX11_then 5 = .ok (.aload_n 0, 1) := by decide +kernel
theorem dX11_then_6 : decode cX11_then 6 = .ok (.iload_n 1, 1) := by decide +kernel
theorem dX11_then_7 : decode cX11_then 7 = .ok (.invokevirtual 478, 3) := by decide +kernel
theorem dX11_then_10 : decode cX11_then 10 = .ok (.istore_n 2, 1) := by decide +kernel
theorem dX11_then_11 : decode cX11_then 11 = .ok (.iload_n 2, 1) := by decide +kernel
theorem dX11_then_12 : decode cX11_then 12 = .ok (.ifCond .eq 5, 3) := by decide +kernel
theorem dX11_then_15 : decode cX11_then 15 = .ok (.iload_n 2, 1) := by decide +kernel
theorem dX11_then_16 : decode cX11_then 16 = .ok (.ireturn, 1) := by decide +kernel
theorem dX11_town_0 : decode cX11_town 0 = .ok (.aload_n 0, 1) := by decide +kernel
theorem dX11_town_1 : decode cX11_town 1 = .ok (.iconst 0, 1) := by decide +kernel
theorem dX11_town_2 : decode cX11_town 2 = .ok (.putfield 99, 3) := by decide +kernel
theorem dX11_town_5 : decode cX11_town 5 = .ok (.aload_n 0, 1) := by decide +kernel
theorem dX11_town_6 : decode cX11_town 6 = .ok (.invokevirtual 251, 3) := by decide +kernel
theorem dX11_town_9 : decode cX11_town 9 = .ok (.aload_n 0, 1) := by decide +kernel
theorem dX11_town_10 : decode cX11_town 10 = .ok (.invokevirtual 254, 3) := by decide +kernel
theorem dX11_town_13 : decode cX11_town 13 = .ok (.aload_n 0, 1) := by decide +kernel
theorem dX11_town_14 : decode cX11_town 14 = .ok (.invokevirtual 181, 3) := by decide +kernel
theorem dX11_town_17 : decode cX11_town 17 = .ok (.ifCond .eq 108, 3) := by decide +kernel
theorem dX11_town_20 : decode cX11_town 20 = .ok (.aload_n 0, 1) := by decide +kernel
theorem dX11_town_21 : decode cX11_town 21 = .ok (.getfield 140, 3) := by decide +kernel
theorem dX11_town_24 : decode cX11_town 24 = .ok (.ifCond .eq 101, 3) := by decide +kernel
theorem dX11_town_125 : decode cX11_town 125 = .ok (.aload_n 0, 1) := by decide +kernel
theorem dX11_town_126 : decode cX11_town 126 = .ok (.invokevirtual 269, 3) := by decide +kernel
theorem dX11_town_129 : decode cX11_town 129 = .ok (.aload_n 0, 1) := by decide +kernel
theorem dX11_town_130 : decode cX11_town 130 = .ok (.getfield 151, 3) := by decide +kernel
theorem dX11_town_133 : decode cX11_town 133 = .ok (.ifCond .eq 6, 3) := by decide +kernel
theorem dX11_town_139 : decode cX11_town 139 = .ok (.aload_n 0, 1) := by decide +kernel
theorem dX11_town_140 : decode cX11_town 140 = .ok (.iconst 4, 1) := by decide +kernel
theorem dX11_town_141 : decode cX11_town 141 = .ok (.iconst 0, 1) := by decide +kernel
theorem dX11_town_142 : decode cX11_town 142 = .ok (.invokevirtual 272, 3) := by decide +kernel
theorem dX11_town_145 : decode cX11_town 145 = .ok (.aload_n 0, 1) := by decide +kernel
theorem dX11_town_146 : decode cX11_town 146 = .ok (.invokevirtual 96, 3) := by decide +kernel
theorem dX11_town_149 : decode cX11_town 149 = .ok (.aload_n 0, 1) := by decide +kernel
theorem dX11_town_150 : decode cX11_town 150 = .ok (.getfield 31, 3) := by decide +kernel
theorem dX11_town_153 : decode cX11_town 153 = .ok (.iconst 0, 1) := by decide +kernel
theorem dX11_town_154 : decode cX11_town 154 = .ok (.iaload, 1) := by decide +kernel
theorem dX11_town_155 : decode cX11_town 155 = .ok (.ireturn, 1) := by decide +kernel
theorem dX11_turn_0 : decode cX11_turn 0 = .ok (.aload_n 0, 1) := by decide +kernel
theorem dX11_turn_1 : decode cX11_turn 1 = .ok (.iconst 0, 1) := by decide +kernel
theorem dX11_turn_2 : decode cX11_turn 2 = .ok (.putfield 99, 3) := by decide +kernel
theorem dX11_turn_5 : decode cX11_turn 5 = .ok (.aload_n 0, 1) := by decide +kernel
theorem dX11_turn_6 : decode cX11_turn 6 = .ok (.invokevirtual 316, 3) := by decide +kernel
theorem dX11_turn_9 : decode cX11_turn 9 = .ok (.ifCond .eq 20, 3) := by decide +kernel
theorem dX11_turn_29 : decode cX11_turn 29 = .ok (.bipush (-2), 2) := by decide +kernel
theorem dX11_turn_31 : decode cX11_turn 31 = .ok (.ireturn, 1) := by decide +kernel
theorem dX11_vote_0 : decode cX11_vote 0 = .ok (.aload_n 0, 1) := by decide +kernel
theorem dX11_vote_1 : decode cX11_vote 1 = .ok (.iconst 0, 1) := by decide +kernel
theorem dX11_vote_2 : decode cX11_vote 2 = .ok (.putfield 99, 3) := by decide +kernel
theorem dX11_vote_5 : decode cX11_vote 5 = .ok (.aload_n 0, 1) := by decide +kernel
theorem dX11_vote_6 : decode cX11_vote 6 = .ok (.iload_n 1, 1) := by decide +kernel
theorem dX11_vote_7 : decode cX11_vote 7 = .ok (.invokevirtual 343, 3) := by decide +kernel
theorem dX11_vote_10 : decode cX11_vote 10 = .ok (.ifCond .eq 12, 3) := by decide +kernel
theorem dX11_vote_22 : decode cX11_vote 22 = .ok (.bipush (-2), 2) := by decide +kernel
theorem dX11_vote_24 : decode cX11_vote 24 = .ok (.ireturn, 1) := by decide +kernel
theorem dX11_votes_0 : decode cX11_votes 0 = .ok (.aload_n 0, 1) := by decide +kernel
theorem dX11_votes_1 : decode cX11_votes 1 = .ok (.iconst 0, 1) := by decide +kernel
theorem dX11_votes_2 : decode cX11_votes 2 = .ok (.putfield 99, 3) := by decide +kernel
theorem dX11_votes_5 : decode cX11_votes 5 = .ok (.aload_n 0, 1) := by decide +kernel
theorem dX11_votes_6 : decode cX11_votes 6 = .ok (.iload_n 1, 1) := by decide +kernel
theorem dX11_votes_7 : decode cX11_votes 7 = .ok (.invokevirtual 370, 3) := by decide +kernel
theorem dX11_votes_10 : decode cX11_votes 10 = .ok (.ifCond .eq 23, 3) := by decide +kernel
theorem dX11_votes_33 : decode cX11_votes 33 = .ok (.bipush (-2), 2) := by decide +kernel
theorem dX11_votes_35 : decode cX11_votes 35 = .ok (.ireturn, 1) := by decide +kernel
theorem dX11_whyNot_0 : decode cX11_whyNot 0 = .ok (.aload_n 0, 1) := by decide +kernel
theorem dX11_whyNot_1 : decode cX11_whyNot 1 = .ok (.invokevirtual 316, 3) := by decide +kernel
theorem dX11_whyNot_4 : decode cX11_whyNot 4 = .ok (.ifCond .eq 17, 3) := by decide +kernel
theorem dX11_whyNot_21 : decode cX11_whyNot 21 = .ok (.bipush (-2), 2) := by decide +kernel
theorem dX11_whyNot_23 : decode cX11_whyNot 23 = .ok (.goto 20, 3) := by decide +kernel
theorem dX11_whyNot_43 : decode cX11_whyNot 43 = .ok (.ireturn, 1) := by decide +kernel
theorem dX11_whyNotFetched_0 : decode cX11_whyNotFetched 0 = .ok (.aload_n 0, 1) := by decide +kernel
theorem dX11_whyNotFetched_1 : decode cX11_whyNotFetched 1 = .ok (.invokevirtual 316, 3) := by decide +kernel
theorem dX11_whyNotFetched_4 : decode cX11_whyNotFetched 4 = .ok (.ifCond .eq 22, 3) := by decide +kernel
theorem dX11_whyNotFetched_26 : decode cX11_whyNotFetched 26 = .ok (.bipush (-2), 2) := by decide +kernel
theorem dX11_whyNotFetched_28 : decode cX11_whyNotFetched 28 = .ok (.goto 20, 3) := by decide +kernel
theorem dX11_whyNotFetched_48 : decode cX11_whyNotFetched 48 = .ok (.ireturn, 1) := by decide +kernel
theorem dX11_whyNotJudged_0 : decode cX11_whyNotJudged 0 = .ok (.iload_n 1, 1) := by decide +kernel
theorem dX11_whyNotJudged_1 : decode cX11_whyNotJudged 1 = .ok (.invokestatic 108, 3) := by decide +kernel
theorem dX11_whyNotJudged_4 : decode cX11_whyNotJudged 4 = .ok (.ifCond .eq 10, 3) := by decide +kernel
theorem dX11_whyNotJudged_7 : decode cX11_whyNotJudged 7 = .ok (.aload_n 0, 1) := by decide +kernel
theorem dX11_whyNotJudged_8 : decode cX11_whyNotJudged 8 = .ok (.invokevirtual 316, 3) := by decide +kernel
theorem dX11_whyNotJudged_11 : decode cX11_whyNotJudged 11 = .ok (.ifCond .ne 8, 3) := by decide +kernel
theorem dX11_whyNotJudged_14 : decode cX11_whyNotJudged 14 = .ok (.bipush (-2), 2) := by decide +kernel
theorem dX11_whyNotJudged_16 : decode cX11_whyNotJudged 16 = .ok (.goto 19, 3) := by decide +kernel
theorem dX11_whyNotJudged_35 : decode cX11_whyNotJudged 35 = .ok (.ireturn, 1) := by decide +kernel
theorem dX11_whyNotRun_0 : decode cX11_whyNotRun 0 = .ok (.aload_n 0, 1) := by decide +kernel
theorem dX11_whyNotRun_1 : decode cX11_whyNotRun 1 = .ok (.invokevirtual 316, 3) := by decide +kernel
theorem dX11_whyNotRun_4 : decode cX11_whyNotRun 4 = .ok (.ifCond .eq 22, 3) := by decide +kernel
theorem dX11_whyNotRun_26 : decode cX11_whyNotRun 26 = .ok (.bipush (-2), 2) := by decide +kernel
theorem dX11_whyNotRun_28 : decode cX11_whyNotRun 28 = .ok (.goto 22, 3) := by decide +kernel
theorem dX11_whyNotRun_50 : decode cX11_whyNotRun 50 = .ok (.ireturn, 1) := by decide +kernel
theorem dX11_won_0 : decode cX11_won 0 = .ok (.aload_n 0, 1) := by decide +kernel
theorem dX11_won_1 : decode cX11_won 1 = .ok (.iconst 0, 1) := by decide +kernel
theorem dX11_won_2 : decode cX11_won 2 = .ok (.putfield 99, 3) := by decide +kernel
theorem dX11_won_5 : decode cX11_won 5 = .ok (.aload_n 0, 1) := by decide +kernel
theorem dX11_won_6 : decode cX11_won 6 = .ok (.iload_n 1, 1) := by decide +kernel
theorem dX11_won_7 : decode cX11_won 7 = .ok (.invokevirtual 370, 3) := by decide +kernel
theorem dX11_won_10 : decode cX11_won 10 = .ok (.ifCond .eq 12, 3) := by decide +kernel
theorem dX11_won_22 : decode cX11_won 22 = .ok (.bipush (-2), 2) := by decide +kernel
theorem dX11_won_24 : decode cX11_won 24 = .ok (.ireturn, 1) := by decide +kernel
theorem dX11_would_0 : decode cX11_would 0 = .ok (.aload_n 0, 1) := by decide +kernel
theorem dX11_would_1 : decode cX11_would 1 = .ok (.iconst 0, 1) := by decide +kernel
theorem dX11_would_2 : decode cX11_would 2 = .ok (.putfield 99, 3) := by decide +kernel
theorem dX11_would_5 : decode cX11_would 5 = .ok (.aload_n 0, 1) := by decide +kernel
theorem dX11_would_6 : decode cX11_would 6 = .ok (.iload_n 1, 1) := by decide +kernel
theorem dX11_would_7 : decode cX11_would 7 = .ok (.invokevirtual 343, 3) := by decide +kernel
theorem dX11_would_10 : decode cX11_would 10 = .ok (.ifCond .eq 15, 3) := by decide +kernel
theorem dX11_would_25 : decode cX11_would 25 = .ok (.bipush (-2), 2) := by decide +kernel
theorem dX11_would_27 : decode cX11_would 27 = .ok (.ireturn, 1) := by decide +kernel
theorem dX11_write_0 : decode cX11_write 0 = .ok (.aload_n 0, 1) := by decide +kernel
theorem dX11_write_1 : decode cX11_write 1 = .ok (.iconst 0, 1) := by decide +kernel
theorem dX11_write_2 : decode cX11_write 2 = .ok (.putfield 99, 3) := by decide +kernel
theorem dX11_write_5 : decode cX11_write 5 = .ok (.iload_n 1, 1) := by decide +kernel
theorem dX11_write_6 : decode cX11_write 6 = .ok (.invokestatic 108, 3) := by decide +kernel
theorem dX11_write_9 : decode cX11_write 9 = .ok (.ifCond .ne 6, 3) := by decide +kernel
theorem dX11_write_12 : decode cX11_write 12 = .ok (.bipush (-2), 2) := by decide +kernel
theorem dX11_write_14 : decode cX11_write 14 = .ok (.ireturn, 1) := by decide +kernel
theorem dX11_write_15 : decode cX11_write 15 = .ok (.aload_n 0, 1) := by decide +kernel
theorem dX11_write_16 : decode cX11_write 16 = .ok (.getfield 7, 3) := by decide +kernel
theorem dX11_write_19 : decode cX11_write 19 = .ok (.iload_n 1, 1) := by decide +kernel
theorem dX11_write_20 : decode cX11_write 20 = .ok (.iaload, 1) := by decide +kernel
theorem dX11_write_21 : decode cX11_write 21 = .ok (.iconst (-1), 1) := by decide +kernel
theorem dX11_write_22 : decode cX11_write 22 = .ok (.if_icmp .ne 6, 3) := by decide +kernel
theorem dX11_write_25 : decode cX11_write 25 = .ok (.bipush (-6), 2) := by decide +kernel
theorem dX11_write_27 : decode cX11_write 27 = .ok (.ireturn, 1) := by decide +kernel
