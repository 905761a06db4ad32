theorem dX10_election_0 : decode cX10_election 0 = .ok (.aload_n 0, 1) := by decide +kernel
theorem dX10_election_1 : decode cX10_election 1 = .ok (.iload_n 1, 1) := by decide +kernel
theorem dX10_election_2 : decode cX10_election 2 = .ok (.invokevirtual 218, 3) := by decide +kernel
theorem dX10_election_5 : decode cX10_election 5 = .ok (.ifCond .ne 6, 3) := by decide +kernel
theorem dX10_election_8 : decode cX10_election 8 = .ok (.bipush (-2), 2) := by decide +kernel
theorem dX10_election_10 : decode cX10_election 10 = .ok (.ireturn, 1) := by decide +kernel
theorem dX10_election_11 : decode cX10_election 11 = .ok (.aload_n 0, 1) := by decide +kernel
theorem dX10_election_12 : decode cX10_election 12 = .ok (.invokevirtual 221, 3) := by decide +kernel
theorem dX10_election_15 : decode cX10_election 15 = .ok (.ifCond .eq 8, 3) := by decide +kernel
theorem dX10_election_18 : decode cX10_election 18 = .ok (.bipush (-3), 2) := by decide +kernel
theorem dX10_election_20 : decode cX10_election 20 = .ok (.goto 11, 3) := by decide +kernel
theorem dX10_election_23 : decode cX10_election 23 = .ok (.aload_n 0, 1) := by decide +kernel
theorem dX10_election_24 : decode cX10_election 24 = .ok (.getfield 27, 3) := by decide +kernel
theorem dX10_election_27 : decode cX10_election 27 = .ok (.iload_n 1, 1) := by decide +kernel
theorem dX10_election_28 : decode cX10_election 28 = .ok (.invokevirtual 224, 3) := by decide +kernel
theorem dX10_election_31 : decode cX10_election 31 = .ok (.ireturn, 1) := by decide +kernel
theorem dX10_end_0 : decode cX10_end 0 = .ok (.iload_n 1, 1) := by decide +kernel
theorem dX10_end_1 : decode cX10_end 1 = .ok (.ifCond .lt 14, 3) := by decide +kernel
theorem dX10_end_4 : decode cX10_end 4 = .ok (.iload_n 1, 1) := by decide +kernel
theorem dX10_end_5 : decode cX10_end 5 = .ok (.aload_n 0, 1) := by decide +kernel
theorem dX10_end_6 : decode cX10_end 6 = .ok (.getfield 12, 3) := by decide +kernel
theorem dX10_end_9 : decode cX10_end 9 = .ok (.getfield 79, 3) := by decide +kernel
theorem dX10_end_12 : decode cX10_end 12 = .ok (.if_icmp .le 5, 3) := by decide +kernel
theorem dX10_end_15 : decode cX10_end 15 = .ok (.iconst (-1), 1) := by decide +kernel
theorem dX10_end_16 : decode cX10_end 16 = .ok (.ireturn, 1) := by decide +kernel
theorem dX10_end_17 : decode cX10_end 17 = .ok (.aload_n 0, 1) := by decide +kernel
theorem dX10_end_18 : decode cX10_end 18 = .ok (.getfield 12, 3) := by decide +kernel
theorem dX10_end_21 : decode cX10_end 21 = .ok (.iload_n 1, 1) := by decide +kernel
theorem dX10_end_22 : decode cX10_end 22 = .ok (.putfield 79, 3) := by decide +kernel
theorem dX10_end_25 : decode cX10_end 25 = .ok (.iload_n 1, 1) := by decide +kernel
theorem dX10_end_26 : decode cX10_end 26 = .ok (.ireturn, 1) := by decide +kernel
theorem dX10_fault_0 : decode cX10_fault 0 = .ok (.iload_n 1, 1) := by decide +kernel
theorem dX10_fault_1 : decode cX10_fault 1 = .ok (.lookupswitch 43 #[(0, 27), (1, 35)], 27) := by decide +kernel
theorem dX10_fault_28 : decode cX10_fault 28 = .ok (.aload_n 0, 1) := by decide +kernel
theorem dX10_fault_29 : decode cX10_fault 29 = .ok (.getfield 19, 3) := by decide +kernel
theorem dX10_fault_32 : decode cX10_fault 32 = .ok (.getfield 107, 3) := by decide +kernel
theorem dX10_fault_35 : decode cX10_fault 35 = .ok (.ireturn, 1) := by decide +kernel
theorem dX10_fault_36 : decode cX10_fault 36 = .ok (.aload_n 0, 1) := by decide +kernel
theorem dX10_fault_37 : decode cX10_fault 37 = .ok (.getfield 19, 3) := by decide +kernel
theorem dX10_fault_40 : decode cX10_fault 40 = .ok (.getfield 110, 3) := by decide +kernel
theorem dX10_fault_43 : decode cX10_fault 43 = .ok (.ireturn, 1) := by decide +kernel
theorem dX10_fault_44 : decode cX10_fault 44 = .ok (.iconst (-1), 1) := by decide +kernel
theorem dX10_fault_45 : decode cX10_fault 45 = .ok (.ireturn, 1) := by decide +kernel
theorem dX10_feed_0 : decode cX10_feed 0 = .ok (.aload_n 0, 1) := by decide +kernel
theorem dX10_feed_1 : decode cX10_feed 1 = .ok (.getfield 12, 3) := by decide +kernel
theorem dX10_feed_4 : decode cX10_feed 4 = .ok (.getfield 79, 3) := by decide +kernel
theorem dX10_feed_7 : decode cX10_feed 7 = .ok (.bipush 20, 2) := by decide +kernel
theorem dX10_feed_9 : decode cX10_feed 9 = .ok (.iadd, 1) := by decide +kernel
theorem dX10_feed_10 : decode cX10_feed 10 = .ok (.sipush 1600, 3) := by decide +kernel
theorem dX10_feed_13 : decode cX10_feed 13 = .ok (.if_icmp .le 5, 3) := by decide +kernel
theorem dX10_feed_16 : decode cX10_feed 16 = .ok (.iconst (-1), 1) := by decide +kernel
theorem dX10_feed_17 : decode cX10_feed 17 = .ok (.ireturn, 1) := by decide +kernel
theorem dX10_feed_18 : decode cX10_feed 18 = .ok (.aload_n 0, 1) := by decide +kernel
theorem dX10_feed_19 : decode cX10_feed 19 = .ok (.getfield 12, 3) := by decide +kernel
theorem dX10_feed_22 : decode cX10_feed 22 = .ok (.iload_n 1, 1) := by decide +kernel
theorem dX10_feed_23 : decode cX10_feed 23 = .ok (.invokevirtual 83, 3) := by decide +kernel
theorem dX10_feed_26 : decode cX10_feed 26 = .ok (.aload_n 0, 1) := by decide +kernel
theorem dX10_feed_27 : decode cX10_feed 27 = .ok (.getfield 12, 3) := by decide +kernel
theorem dX10_feed_30 : decode cX10_feed 30 = .ok (.iload_n 2, 1) := by decide +kernel
theorem dX10_feed_31 : decode cX10_feed 31 = .ok (.invokevirtual 83, 3) := by decide +kernel
theorem dX10_feed_34 : decode cX10_feed 34 = .ok (.aload_n 0, 1) := by decide +kernel
theorem dX10_feed_35 : decode cX10_feed 35 = .ok (.getfield 12, 3) := by decide +kernel
theorem dX10_feed_38 : decode cX10_feed 38 = .ok (.iload_n 3, 1) := by decide +kernel
theorem dX10_feed_39 : decode cX10_feed 39 = .ok (.invokevirtual 83, 3) := by decide +kernel
theorem dX10_feed_42 : decode cX10_feed 42 = .ok (.aload_n 0, 1) := by decide +kernel
theorem dX10_feed_43 : decode cX10_feed 43 = .ok (.getfield 12, 3) := by decide +kernel
theorem dX10_feed_46 : decode cX10_feed 46 = .ok (.iload 4, 2) := by decide +kernel
theorem dX10_feed_48 : decode cX10_feed 48 = .ok (.invokevirtual 83, 3) := by decide +kernel
theorem dX10_feed_51 : decode cX10_feed 51 = .ok (.aload_n 0, 1) := by decide +kernel
theorem dX10_feed_52 : decode cX10_feed 52 = .ok (.getfield 12, 3) := by decide +kernel
theorem dX10_feed_55 : decode cX10_feed 55 = .ok (.iload 5, 2) := by decide +kernel
theorem dX10_feed_57 : decode cX10_feed 57 = .ok (.invokevirtual 83, 3) := by decide +kernel
theorem dX10_feed_60 : decode cX10_feed 60 = .ok (.aload_n 0, 1) := by decide +kernel
theorem dX10_feed_61 : decode cX10_feed 61 = .ok (.getfield 12, 3) := by decide +kernel
theorem dX10_feed_64 : decode cX10_feed 64 = .ok (.getfield 79, 3) := by decide +kernel
theorem dX10_feed_67 : decode cX10_feed 67 = .ok (.ireturn, 1) := by decide +kernel
theorem dX10_lay_0 : decode cX10_lay 0 = .ok (.aload_n 0, 1) := by decide +kernel
theorem dX10_lay_1 : decode cX10_lay 1 = .ok (.iload_n 1, 1) := by decide +kernel
theorem dX10_lay_2 : decode cX10_lay 2 = .ok (.iload_n 2, 1) := by decide +kernel
theorem dX10_lay_3 : decode cX10_lay 3 = .ok (.invokevirtual 113, 3) := by decide +kernel
theorem dX10_lay_6 : decode cX10_lay 6 = .ok (.ifCond .eq 11, 3) := by decide +kernel
theorem dX10_lay_9 : decode cX10_lay 9 = .ok (.aload_n 0, 1) := by decide +kernel
theorem dX10_lay_10 : decode cX10_lay 10 = .ok (.iload_n 3, 1) := by decide +kernel
theorem dX10_lay_11 : decode cX10_lay 11 = .ok (.invokevirtual 117, 3) := by decide +kernel
theorem dX10_lay_14 : decode cX10_lay 14 = .ok (.ifCond .ne 6, 3) := by decide +kernel
theorem dX10_lay_17 : decode cX10_lay 17 = .ok (.bipush (-2), 2) := by decide +kernel
theorem dX10_lay_19 : decode cX10_lay 19 = .ok (.ireturn, 1) := by decide +kernel
theorem dX10_lay_20 : decode cX10_lay 20 = .ok (.aload_n 0, 1) := by decide +kernel
theorem dX10_lay_21 : decode cX10_lay 21 = .ok (.getfield 27, 3) := by decide +kernel
theorem dX10_lay_24 : decode cX10_lay 24 = .ok (.getfield 121, 3) := by decide +kernel
theorem dX10_lay_27 : decode cX10_lay 27 = .ok (.getfield 138, 3) := by decide +kernel
theorem dX10_lay_30 : decode cX10_lay 30 = .ok (.iload_n 3, 1) := by decide +kernel
theorem dX10_lay_31 : decode cX10_lay 31 = .ok (.iaload, 1) := by decide +kernel
theorem dX10_lay_32 : decode cX10_lay 32 = .ok (.ifCond .gt 6, 3) := by decide +kernel
theorem dX10_lay_35 : decode cX10_lay 35 = .ok (.bipush (-3), 2) := by decide +kernel
theorem dX10_lay_37 : decode cX10_lay 37 = .ok (.ireturn, 1) := by decide +kernel
theorem dX10_lay_38 : decode cX10_lay 38 = .ok (.iload_n 1, 1) := by decide +kernel
theorem dX10_lay_39 : decode cX10_lay 39 = .ok (.iload_n 2, 1) := by decide +kernel
theorem dX10_lay_40 : decode cX10_lay 40 = .ok (.invokestatic 125, 3) := by decide +kernel
theorem dX10_lay_43 : decode cX10_lay 43 = .ok (.istore 4, 2) := by decide +kernel
theorem dX10_lay_45 : decode cX10_lay 45 = .ok (.aload_n 0, 1) := by decide +kernel
theorem dX10_lay_46 : decode cX10_lay 46 = .ok (.getfield 27, 3) := by decide +kernel
theorem dX10_lay_49 : decode cX10_lay 49 = .ok (.getfield 121, 3) := by decide +kernel
theorem dX10_lay_52 : decode cX10_lay 52 = .ok (.iload 4, 2) := by decide +kernel
theorem dX10_lay_54 : decode cX10_lay 54 = .ok (.aload_n 0, 1) := by decide +kernel
theorem dX10_lay_55 : decode cX10_lay 55 = .ok (.getfield 27, 3) := by decide +kernel
theorem dX10_lay_58 : decode cX10_lay 58 = .ok (.getfield 99, 3) := by decide +kernel
theorem dX10_lay_61 : decode cX10_lay 61 = .ok (.getfield 129, 3) := by decide +kernel
theorem dX10_lay_64 : decode cX10_lay 64 = .ok (.iload_n 3, 1) := by decide +kernel
theorem dX10_lay_65 : decode cX10_lay 65 = .ok (.iaload, 1) := by decide +kernel
theorem dX10_lay_66 : decode cX10_lay 66 = .ok (.invokevirtual 133, 3) := by decide +kernel
theorem dX10_lay_69 : decode cX10_lay 69 = .ok (.ifCond .ne 6, 3) := by decide +kernel
theorem dX10_lay_72 : decode cX10_lay 72 = .ok (.bipush (-5), 2) := by decide +kernel
theorem dX10_lay_74 : decode cX10_lay 74 = .ok (.ireturn, 1) := by decide +kernel
theorem dX10_lay_75 : decode cX10_lay 75 = .ok (.aload_n 0, 1) := by decide +kernel
theorem dX10_lay_76 : decode cX10_lay 76 = .ok (.getfield 27, 3) := by decide +kernel
theorem dX10_lay_79 : decode cX10_lay 79 = .ok (.getfield 121, 3) := by decide +kernel
theorem dX10_lay_82 : decode cX10_lay 82 = .ok (.iload 4, 2) := by decide +kernel
theorem dX10_lay_84 : decode cX10_lay 84 = .ok (.iload_n 3, 1) := by decide +kernel
theorem dX10_lay_85 : decode cX10_lay 85 = .ok (.iconst (-1), 1) := by decide +kernel
theorem dX10_lay_86 : decode cX10_lay 86 = .ok (.aload_n 0, 1) := by decide +kernel
theorem dX10_lay_87 : decode cX10_lay 87 = .ok (.getfield 27, 3) := by decide +kernel
theorem dX10_lay_90 : decode cX10_lay 90 = .ok (.getfield 141, 3) := by decide +kernel
theorem dX10_lay_93 : decode cX10_lay 93 = .ok (.invokevirtual 144, 3) := by decide +kernel
theorem dX10_lay_96 : decode cX10_lay 96 = .ok (.ireturn, 1) := by decide +kernel
theorem dX10_row_0 : decode cX10_row 0 = .ok (.aload_n 0, 1) := by decide +kernel
theorem dX10_row_1 : decode cX10_row 1 = .ok (.iload_n 1, 1) := by decide +kernel
theorem dX10_row_2 : decode cX10_row 2 = .ok (.invokevirtual 339, 3) := by decide +kernel
theorem dX10_row_5 : decode cX10_row 5 = .ok (.ifCond .eq 18, 3) := by decide +kernel
theorem dX10_row_8 : decode cX10_row 8 = .ok (.iload_n 2, 1) := by decide +kernel
theorem dX10_row_9 : decode cX10_row 9 = .ok (.ifCond .lt 14, 3) := by decide +kernel
theorem dX10_row_12 : decode cX10_row 12 = .ok (.iload_n 2, 1) := by decide +kernel
theorem dX10_row_13 : decode cX10_row 13 = .ok (.iconst 3, 1) := by decide +kernel
theorem dX10_row_14 : decode cX10_row 14 = .ok (.if_icmp .gt 9, 3) := by decide +kernel
theorem dX10_row_17 : decode cX10_row 17 = .ok (.iload_n 3, 1) := by decide +kernel
theorem dX10_row_18 : decode cX10_row 18 = .ok (.bipush 60, 2) := by decide +kernel
theorem dX10_row_20 : decode cX10_row 20 = .ok (.if_icmp .le 6, 3) := by decide +kernel
theorem dX10_row_23 : decode cX10_row 23 = .ok (.bipush (-2), 2) := by decide +kernel
theorem dX10_row_25 : decode cX10_row 25 = .ok (.ireturn, 1) := by decide +kernel
theorem dX10_row_26 : decode cX10_row 26 = .ok (.iload_n 3, 1) := by decide +kernel
theorem dX10_row_27 : decode cX10_row 27 = .ok (.ifCond .ge 6, 3) := by decide +kernel
theorem dX10_row_30 : decode cX10_row 30 = .ok (.bipush (-3), 2) := by decide +kernel
theorem dX10_row_32 : decode cX10_row 32 = .ok (.ireturn, 1) := by decide +kernel
theorem dX10_row_33 : decode cX10_row 33 = .ok (.aload_n 0, 1) := by decide +kernel
theorem dX10_row_34 : decode cX10_row 34 = .ok (.getfield 47, 3) := by decide +kernel
theorem dX10_row_37 : decode cX10_row 37 = .ok (.iload_n 1, 1) := by decide +kernel
theorem dX10_row_38 : decode cX10_row 38 = .ok (.aaload, 1) := by decide +kernel
theorem dX10_row_39 : decode cX10_row 39 = .ok (.iload_n 2, 1) := by decide +kernel
theorem dX10_row_40 : decode cX10_row 40 = .ok (.iload_n 3, 1) := by decide +kernel
theorem dX10_row_41 : decode cX10_row 41 = .ok (.invokevirtual 363, 3) := by decide +kernel
theorem dX10_row_44 : decode cX10_row 44 = .ok (.iconst 0, 1) := by decide +kernel
theorem dX10_row_45 : decode cX10_row 45 = .ok (.ireturn, 1) := by decide +kernel
theorem dX10_rule_0 : decode cX10_rule 0 = .ok (.aload_n 0, 1) := by decide +kernel
theorem dX10_rule_1 : decode cX10_rule 1 = .ok (.invokevirtual 196, 3) := by decide +kernel
theorem dX10_rule_4 : decode cX10_rule 4 = .ok (.ifCond .eq 12, 3) := by decide +kernel
theorem dX10_rule_7 : decode cX10_rule 7 = .ok (.iload_n 1, 1) := by decide +kernel
theorem dX10_rule_8 : decode cX10_rule 8 = .ok (.ifCond .lt 8, 3) := by decide +kernel
theorem dX10_rule_11 : decode cX10_rule 11 = .ok (.iload_n 1, 1) := by decide +kernel
theorem dX10_rule_12 : decode cX10_rule 12 = .ok (.iconst 2, 1) := by decide +kernel
theorem dX10_rule_13 : decode cX10_rule 13 = .ok (.if_icmp .le 6, 3) := by decide +kernel
theorem dX10_rule_16 : decode cX10_rule 16 = .ok (.bipush (-2), 2) := by decide +kernel
theorem dX10_rule_18 : decode cX10_rule 18 = .ok (.ireturn, 1) := by decide +kernel
theorem dX10_rule_19 : decode cX10_rule 19 = .ok (.aload_n 0, 1) := by decide +kernel
theorem dX10_rule_20 : decode cX10_rule 20 = .ok (.getfield 27, 3) := by decide +kernel
theorem dX10_rule_23 : decode cX10_rule 23 = .ok (.getfield 176, 3) := by decide +kernel
theorem dX10_rule_26 : decode cX10_rule 26 = .ok (.istore_n 2, 1) := by decide +kernel
theorem dX10_rule_27 : decode cX10_rule 27 = .ok (.aload_n 0, 1) := by decide +kernel
theorem dX10_rule_28 : decode cX10_rule 28 = .ok (.getfield 27, 3) := by decide +kernel
theorem dX10_rule_31 : decode cX10_rule 31 = .ok (.iload_n 1, 1) := by decide +kernel
theorem dX10_rule_32 : decode cX10_rule 32 = .ok (.putfield 176, 3) := by decide +kernel
theorem dX10_rule_35 : decode cX10_rule 35 = .ok (.iload_n 2, 1) := by decide +kernel
theorem dX10_rule_36 : decode cX10_rule 36 = .ok (.ireturn, 1) := by decide +kernel
theorem dX10_run_0 : decode cX10_run 0 = .ok (.aload_n 0, 1) := by decide +kernel
theorem dX10_run_1 : decode cX10_run 1 = .ok (.invokevirtual 196, 3) := by decide +kernel
theorem dX10_run_4 : decode cX10_run 4 = .ok (.ifCond .eq 21, 3) := by decide +kernel
theorem dX10_run_7 : decode cX10_run 7 = .ok (.iload_n 1, 1) := by decide +kernel
theorem dX10_run_8 : decode cX10_run 8 = .ok (.invokestatic 319, 3) := by decide +kernel
theorem dX10_run_11 : decode cX10_run 11 = .ok (.ifCond .eq 14, 3) := by decide +kernel
theorem dX10_run_14 : decode cX10_run 14 = .ok (.iload_n 2, 1) := by decide +kernel
theorem dX10_run_15 : decode cX10_run 15 = .ok (.iconst 1, 1) := by decide +kernel
theorem dX10_run_16 : decode cX10_run 16 = .ok (.if_icmp .lt 9, 3) := by decide +kernel
theorem dX10_run_19 : decode cX10_run 19 = .ok (.iload_n 2, 1) := by decide +kernel
theorem dX10_run_20 : decode cX10_run 20 = .ok (.bipush 30, 2) := by decide +kernel
theorem dX10_run_22 : decode cX10_run 22 = .ok (.if_icmp .le 6, 3) := by decide +kernel
theorem dX10_run_25 : decode cX10_run 25 = .ok (.bipush (-2), 2) := by decide +kernel
theorem dX10_run_27 : decode cX10_run 27 = .ok (.ireturn, 1) := by decide +kernel
theorem dX10_run_28 : decode cX10_run 28 = .ok (.aload_n 0, 1) := by decide +kernel
theorem dX10_run_29 : decode cX10_run 29 = .ok (.getfield 27, 3) := by decide +kernel
theorem dX10_run_32 : decode cX10_run 32 = .ok (.getfield 141, 3) := by decide +kernel
theorem dX10_run_35 : decode cX10_run 35 = .ok (.iload_n 2, 1) := by decide +kernel
theorem dX10_run_36 : decode cX10_run 36 = .ok (.iadd, 1) := by decide +kernel
theorem dX10_run_37 : decode cX10_run 37 = .ok (.bipush 100, 2) := by decide +kernel
theorem dX10_run_39 : decode cX10_run 39 = .ok (.if_icmp .le 8, 3) := by decide +kernel
theorem dX10_run_42 : decode cX10_run 42 = .ok (.bipush (-3), 2) := by decide +kernel
theorem dX10_run_44 : decode cX10_run 44 = .ok (.goto 13, 3) := by decide +kernel
theorem dX10_run_47 : decode cX10_run 47 = .ok (.aload_n 0, 1) := by decide +kernel
theorem dX10_run_48 : decode cX10_run 48 = .ok (.getfield 27, 3) := by decide +kernel
theorem dX10_run_51 : decode cX10_run 51 = .ok (.iload_n 1, 1) := by decide +kernel
theorem dX10_run_52 : decode cX10_run 52 = .ok (.i2l, 1) := by decide +kernel
theorem dX10_run_53 : decode cX10_run 53 = .ok (.iload_n 2, 1) := by decide +kernel
theorem dX10_run_54 : decode cX10_run 54 = .ok (.invokevirtual 329, 3) := by decide +kernel
theorem dX10_run_57 : decode cX10_run 57 = .ok (.ireturn, 1) := by decide +kernel
theorem dX10_storm_0 : decode cX10_storm 0 = .ok (.aload_n 0, 1) := by decide +kernel
theorem dX10_storm_1 : decode cX10_storm 1 = .ok (.invokevirtual 196, 3) := by decide +kernel
theorem dX10_storm_4 : decode cX10_storm 4 = .ok (.ifCond .eq 10, 3) := by decide +kernel
theorem dX10_storm_7 : decode cX10_storm 7 = .ok (.iload_n 1, 1) := by decide +kernel
theorem dX10_storm_8 : decode cX10_storm 8 = .ok (.invokestatic 319, 3) := by decide +kernel
theorem dX10_storm_11 : decode cX10_storm 11 = .ok (.ifCond .ne 6, 3) := by decide +kernel
theorem dX10_storm_14 : decode cX10_storm 14 = .ok (.bipush (-2), 2) := by decide +kernel
theorem dX10_storm_16 : decode cX10_storm 16 = .ok (.ireturn, 1) := by decide +kernel
theorem dX10_storm_17 : decode cX10_storm 17 = .ok (.aload_n 0, 1) := by decide +kernel
theorem dX10_storm_18 : decode cX10_storm 18 = .ok (.getfield 27, 3) := by decide +kernel
theorem dX10_storm_21 : decode cX10_storm 21 = .ok (.iload_n 1, 1) := by decide +kernel
theorem dX10_storm_22 : decode cX10_storm 22 = .ok (.i2l, 1) := by decide +kernel
theorem dX10_storm_23 : decode cX10_storm 23 = .ok (.putfield 322, 3) := by decide +kernel
theorem dX10_storm_26 : decode cX10_storm 26 = .ok (.aload_n 0, 1) := by decide +kernel
theorem dX10_storm_27 : decode cX10_storm 27 = .ok (.getfield 27, 3) := by decide +kernel
theorem dX10_storm_30 : decode cX10_storm 30 = .ok (.invokevirtual 326, 3) := by decide +kernel
theorem dX10_storm_33 : decode cX10_storm 33 = .ok (.ireturn, 1) := by decide +kernel
theorem dX10_take_0 : decode cX10_take 0 = .ok (.aload_n 0, 1) := by decide +kernel
theorem dX10_take_1 : decode cX10_take 1 = .ok (.iload_n 1, 1) := by decide +kernel
theorem dX10_take_2 : decode cX10_take 2 = .ok (.iload_n 2, 1) := by decide +kernel
theorem dX10_take_3 : decode cX10_take 3 = .ok (.invokevirtual 113, 3) := by decide +kernel
theorem dX10_take_6 : decode cX10_take 6 = .ok (.ifCond .ne 6, 3) := by decide +kernel
theorem dX10_take_9 : decode cX10_take 9 = .ok (.bipush (-2), 2) := by decide +kernel
theorem dX10_take_11 : decode cX10_take 11 = .ok (.ireturn, 1) := by decide +kernel
theorem dX10_take_12 : decode cX10_take 12 = .ok (.iload_n 1, 1) := by decide +kernel
theorem dX10_take_13 : decode cX10_take 13 = .ok (.iload_n 2, 1) := by decide +kernel
theorem dX10_take_14 : decode cX10_take 14 = .ok (.invokestatic 125, 3) := by decide +kernel
theorem dX10_take_17 : decode cX10_take 17 = .ok (.istore_n 3, 1) := by decide +kernel
theorem dX10_take_18 : decode cX10_take 18 = .ok (.aload_n 0, 1) := by decide +kernel
theorem dX10_take_19 : decode cX10_take 19 = .ok (.getfield 27, 3) := by decide +kernel
theorem dX10_take_22 : decode cX10_take 22 = .ok (.getfield 121, 3) := by decide +kernel
theorem dX10_take_25 : decode cX10_take 25 = .ok (.getfield 148, 3) := by decide +kernel
theorem dX10_take_28 : decode cX10_take 28 = .ok (.iload_n 3, 1) := by decide +kernel
theorem dX10_take_29 : decode cX10_take 29 = .ok (.iaload, 1) := by decide +kernel
theorem dX10_take_30 : decode cX10_take 30 = .ok (.ifCond .gt 8, 3) := by decide +kernel
theorem dX10_take_33 : decode cX10_take 33 = .ok (.bipush (-5), 2) := by decide +kernel
theorem dX10_take_35 : decode cX10_take 35 = .ok (.goto 14, 3) := by decide +kernel
theorem dX10_take_38 : decode cX10_take 38 = .ok (.aload_n 0, 1) := by decide +kernel
theorem dX10_take_39 : decode cX10_take 39 = .ok (.getfield 27, 3) := by decide +kernel
theorem dX10_take_42 : decode cX10_take 42 = .ok (.getfield 121, 3) := by decide +kernel
theorem dX10_take_45 : decode cX10_take 45 = .ok (.iload_n 3, 1) := by decide +kernel
theorem dX10_take_46 : decode cX10_take 46 = .ok (.invokevirtual 151, 3) := by decide +kernel
theorem dX10_take_49 : decode cX10_take 49 = .ok (.ireturn, 1) := by decide +kernel
theorem dX10_vote_0 : decode cX10_vote 0 = .ok (.aload_n 0, 1) := by decide +kernel
theorem dX10_vote_1 : decode cX10_vote 1 = .ok (.iload_n 1, 1) := by decide +kernel
theorem dX10_vote_2 : decode cX10_vote 2 = .ok (.invokevirtual 203, 3) := by decide +kernel
theorem dX10_vote_5 : decode cX10_vote 5 = .ok (.ifCond .ne 6, 3) := by decide +kernel
theorem dX10_vote_8 : decode cX10_vote 8 = .ok (.bipush (-2), 2) := by decide +kernel
theorem dX10_vote_10 : decode cX10_vote 10 = .ok (.ireturn, 1) := by decide +kernel
theorem dX10_vote_11 : decode cX10_vote 11 = .ok (.aload_n 0, 1) := by decide +kernel
theorem dX10_vote_12 : decode cX10_vote 12 = .ok (.getfield 27, 3) := by decide +kernel
theorem dX10_vote_15 : decode cX10_vote 15 = .ok (.iload_n 1, 1) := by decide +kernel
theorem dX10_vote_16 : decode cX10_vote 16 = .ok (.invokevirtual 215, 3) := by decide +kernel
theorem dX10_vote_19 : decode cX10_vote 19 = .ok (.istore_n 2, 1) := by decide +kernel
theorem dX10_vote_20 : decode cX10_vote 20 = .ok (.iload_n 2, 1) := by decide +kernel
theorem dX10_vote_21 : decode cX10_vote 21 = .ok (.iconst (-1), 1) := by decide +kernel
theorem dX10_vote_22 : decode cX10_vote 22 = .ok (.if_icmp .ne 7, 3) := by decide +kernel
theorem dX10_vote_25 : decode cX10_vote 25 = .ok (.iconst (-1), 1) := by decide +kernel
theorem dX10_vote_26 : decode cX10_vote 26 = .ok (.goto 15, 3) := by decide +kernel
theorem dX10_vote_29 : decode cX10_vote 29 = .ok (.aload_n 0, 1) := by decide +kernel
theorem dX10_vote_30 : decode cX10_vote 30 = .ok (.getfield 27, 3) := by decide +kernel
theorem dX10_vote_33 : decode cX10_vote 33 = .ok (.getfield 121, 3) := by decide +kernel
theorem dX10_vote_36 : decode cX10_vote 36 = .ok (.getfield 148, 3) := by decide +kernel
theorem dX10_vote_39 : decode cX10_vote 39 = .ok (.iload_n 2, 1) := by decide +kernel
theorem dX10_vote_40 : decode cX10_vote 40 = .ok (.iaload, 1) := by decide +kernel
theorem dX10_vote_41 : decode cX10_vote 41 = .ok (.ireturn, 1) := by decide +kernel
