theorem dJ7_fill_53178_0 : decode cJ7_fill_53178 0 = .ok (.iconst 0, 1) := by decide +kernel
theorem dJ7_fill_53178_1 : decode cJ7_fill_53178 1 = .ok (.istore_n 2, 1) := by decide +kernel
theorem dJ7_fill_53178_2 : decode cJ7_fill_53178 2 = .ok (.aload_n 0, 1) := by decide +kernel
theorem dJ7_fill_53178_3 : decode cJ7_fill_53178 3 = .ok (.arraylength, 1) := by decide +kernel
theorem dJ7_fill_53178_4 : decode cJ7_fill_53178 4 = .ok (.istore_n 3, 1) := by decide +kernel
theorem dJ7_fill_53178_5 : decode cJ7_fill_53178 5 = .ok (.iload_n 2, 1) := by decide +kernel
theorem dJ7_fill_53178_6 : decode cJ7_fill_53178 6 = .ok (.iload_n 3, 1) := by decide +kernel
theorem dJ7_fill_53178_7 : decode cJ7_fill_53178 7 = .ok (.if_icmp .ge 13, 3) := by decide +kernel
theorem dJ7_fill_53178_10 : decode cJ7_fill_53178 10 = .ok (.aload_n 0, 1) := by decide +kernel
theorem dJ7_fill_53178_11 : decode cJ7_fill_53178 11 = .ok (.iload_n 2, 1) := by decide +kernel
theorem dJ7_fill_53178_12 : decode cJ7_fill_53178 12 = .ok (.iload_n 1, 1) := by decide +kernel
theorem dJ7_fill_53178_13 : decode cJ7_fill_53178 13 = .ok (.iastore, 1) := by decide +kernel
theorem dJ7_fill_53178_14 : decode cJ7_fill_53178 14 = .ok (.iinc 2 1, 3) := by decide +kernel
theorem dJ7_fill_53178_17 : decode cJ7_fill_53178 17 = .ok (.goto (-12), 3) := by decide +kernel
theorem dJ7_fill_53178_20 : decode cJ7_fill_53178 20 = .ok (.return_, 1) := by decide +kernel
theorem dJ7_fill_d0a16_0 : decode cJ7_fill_d0a16 0 = .ok (.iconst 0, 1) := by decide +kernel
theorem dJ7_fill_d0a16_1 : decode cJ7_fill_d0a16 1 = .ok (.istore_n 3, 1) := by decide +kernel
theorem dJ7_fill_d0a16_2 : decode cJ7_fill_d0a16 2 = .ok (.aload_n 0, 1) := by decide +kernel
theorem dJ7_fill_d0a16_3 : decode cJ7_fill_d0a16 3 = .ok (.arraylength, 1) := by decide +kernel
theorem dJ7_fill_d0a16_4 : decode cJ7_fill_d0a16 4 = .ok (.istore 4, 2) := by decide +kernel
theorem dJ7_fill_d0a16_6 : decode cJ7_fill_d0a16 6 = .ok (.iload_n 3, 1) := by decide +kernel
theorem dJ7_fill_d0a16_7 : decode cJ7_fill_d0a16 7 = .ok (.iload 4, 2) := by decide +kernel
theorem dJ7_fill_d0a16_9 : decode cJ7_fill_d0a16 9 = .ok (.if_icmp .ge 13, 3) := by decide +kernel
theorem dJ7_fill_d0a16_12 : decode cJ7_fill_d0a16 12 = .ok (.aload_n 0, 1) := by decide +kernel
theorem dJ7_fill_d0a16_13 : decode cJ7_fill_d0a16 13 = .ok (.iload_n 3, 1) := by decide +kernel
theorem dJ7_fill_d0a16_14 : decode cJ7_fill_d0a16 14 = .ok (.lload_n 1, 1) := by decide +kernel
theorem dJ7_fill_d0a16_15 : decode cJ7_fill_d0a16 15 = .ok (.lastore, 1) := by decide +kernel
theorem dJ7_fill_d0a16_16 : decode cJ7_fill_d0a16 16 = .ok (.iinc 3 1, 3) := by decide +kernel
theorem dJ7_fill_d0a16_19 : decode cJ7_fill_d0a16 19 = .ok (.goto (-13), 3) := by decide +kernel
theorem dJ7_fill_d0a16_22 : decode cJ7_fill_d0a16 22 = .ok (.return_, 1) := by decide +kernel
theorem dX10_back_0 : decode cX10_back 0 = .ok (.iload_n 1, 1) := by decide +kernel
theorem dX10_back_1 : decode cX10_back 1 = .ok (.ifCond .lt 12, 3) := by decide +kernel
theorem dX10_back_4 : decode cX10_back 4 = .ok (.iload_n 1, 1) := by decide +kernel
theorem dX10_back_5 : decode cX10_back 5 = .ok (.aload_n 0, 1) := by decide +kernel
theorem dX10_back_6 : decode cX10_back 6 = .ok (.getfield 40, 3) := by decide +kernel
theorem dX10_back_9 : decode cX10_back 9 = .ok (.arraylength, 1) := by decide +kernel
theorem dX10_back_10 : decode cX10_back 10 = .ok (.if_icmp .lt 6, 3) := by decide +kernel
theorem dX10_back_13 : decode cX10_back 13 = .ok (.bipush (-2), 2) := by decide +kernel
theorem dX10_back_15 : decode cX10_back 15 = .ok (.ireturn, 1) := by decide +kernel
theorem dX10_back_16 : decode cX10_back 16 = .ok (.aload_n 0, 1) := by decide +kernel
theorem dX10_back_17 : decode cX10_back 17 = .ok (.getfield 40, 3) := by decide +kernel
theorem dX10_back_20 : decode cX10_back 20 = .ok (.iload_n 1, 1) := by decide +kernel
theorem dX10_back_21 : decode cX10_back 21 = .ok (.baload, 1) := by decide +kernel
theorem dX10_back_22 : decode cX10_back 22 = .ok (.ifCond .ne 6, 3) := by decide +kernel
theorem dX10_back_25 : decode cX10_back 25 = .ok (.bipush (-6), 2) := by decide +kernel
theorem dX10_back_27 : decode cX10_back 27 = .ok (.ireturn, 1) := by decide +kernel
theorem dX10_bribe_0 : decode cX10_bribe 0 = .ok (.aload_n 0, 1) := by decide +kernel
theorem dX10_bribe_1 : decode cX10_bribe 1 = .ok (.iload_n 1, 1) := by decide +kernel
theorem dX10_bribe_2 : decode cX10_bribe 2 = .ok (.invokevirtual 170, 3) := by decide +kernel
theorem dX10_bribe_5 : decode cX10_bribe 5 = .ok (.ifCond .ne 6, 3) := by decide +kernel
theorem dX10_bribe_8 : decode cX10_bribe 8 = .ok (.bipush (-2), 2) := by decide +kernel
theorem dX10_bribe_10 : decode cX10_bribe 10 = .ok (.ireturn, 1) := by decide +kernel
theorem dX10_cheap_0 : decode cX10_cheap 0 = .ok (.aload_n 0, 1) := by decide +kernel
theorem dX10_cheap_1 : decode cX10_cheap 1 = .ok (.iload_n 1, 1) := by decide +kernel
theorem dX10_cheap_2 : decode cX10_cheap 2 = .ok (.invokevirtual 170, 3) := by decide +kernel
theorem dX10_cheap_5 : decode cX10_cheap 5 = .ok (.ifCond .ne 6, 3) := by decide +kernel
theorem dX10_cheap_8 : decode cX10_cheap 8 = .ok (.bipush (-2), 2) := by decide +kernel
theorem dX10_cheap_10 : decode cX10_cheap 10 = .ok (.ireturn, 1) := by decide +kernel
theorem dX10_course_0 : decode cX10_course 0 = .ok (.aload_n 0, 1) := by decide +kernel
theorem dX10_course_1 : decode cX10_course 1 = .ok (.iload_n 1, 1) := by decide +kernel
theorem dX10_course_2 : decode cX10_course 2 = .ok (.invokevirtual 170, 3) := by decide +kernel
theorem dX10_course_5 : decode cX10_course 5 = .ok (.ifCond .eq 14, 3) := by decide +kernel
theorem dX10_course_19 : decode cX10_course 19 = .ok (.bipush (-2), 2) := by decide +kernel
theorem dX10_course_21 : decode cX10_course 21 = .ok (.ireturn, 1) := by decide +kernel
theorem dX10_election_0 : decode cX10_election 0 = .ok (.aload_n 0, 1) := by decide +kernel
theorem dX10_election_1 : decode cX10_election 1 = .ok (.iload_n 1, 1) := by decide +kernel
theorem dX10_election_2 : decode cX10_election 2 = .ok (.invokevirtual 218, 3) := by decide +kernel
theorem dX10_election_5 : decode cX10_election 5 = .ok (.ifCond .ne 6, 3) := by decide +kernel
theorem dX10_election_8 : decode cX10_election 8 = .ok (.bipush (-2), 2) := by decide +kernel
theorem dX10_election_10 : decode cX10_election 10 = .ok (.ireturn, 1) := by decide +kernel
theorem dX10_falls_0 : decode cX10_falls 0 = .ok (.aload_n 0, 1) := by decide +kernel
theorem dX10_falls_1 : decode cX10_falls 1 = .ok (.invokevirtual 196, 3) := by decide +kernel
theorem dX10_falls_4 : decode cX10_falls 4 = .ok (.ifCond .eq 13, 3) := by decide +kernel
theorem dX10_falls_17 : decode cX10_falls 17 = .ok (.ldc2_w 290, 3) := by decide +kernel
theorem dX10_falls_20 : decode cX10_falls 20 = .ok (.lreturn, 1) := by decide +kernel
theorem dX10_fault_0 : decode cX10_fault 0 = .ok (.iload_n 1, 1) := by decide +kernel
theorem dX10_fault_1 : decode cX10_fault 1 = .ok (.lookupswitch 43 #[(0, 27), (1, 35)], 27) := by decide +kernel
theorem dX10_fault_28 : decode cX10_fault 28 = .ok (.aload_n 0, 1) := by decide +kernel
theorem dX10_fault_29 : decode cX10_fault 29 = .ok (.getfield 19, 3) := by decide +kernel
theorem dX10_fault_32 : decode cX10_fault 32 = .ok (.getfield 107, 3) := by decide +kernel
theorem dX10_fault_35 : decode cX10_fault 35 = .ok (.ireturn, 1) := by decide +kernel
theorem dX10_fault_36 : decode cX10_fault 36 = .ok (.aload_n 0, 1) := by decide +kernel
theorem dX10_fault_37 : decode cX10_fault 37 = .ok (.getfield 19, 3) := by decide +kernel
theorem dX10_fault_40 : decode cX10_fault 40 = .ok (.getfield 110, 3) := by decide +kernel
theorem dX10_fault_43 : decode cX10_fault 43 = .ok (.ireturn, 1) := by decide +kernel
theorem dX10_fault_44 : decode cX10_fault 44 = .ok (.iconst (-1), 1) := by decide +kernel
theorem dX10_fault_45 : decode cX10_fault 45 = .ok (.ireturn, 1) := by decide +kernel
theorem dX10_fetch_0 : decode cX10_fetch 0 = .ok (.aload_n 0, 1) := by decide +kernel
theorem dX10_fetch_1 : decode cX10_fetch 1 = .ok (.iload_n 1, 1) := by decide +kernel
theorem dX10_fetch_2 : decode cX10_fetch 2 = .ok (.invokevirtual 170, 3) := by decide +kernel
theorem dX10_fetch_5 : decode cX10_fetch 5 = .ok (.ifCond .eq 14, 3) := by decide +kernel
theorem dX10_fetch_19 : decode cX10_fetch 19 = .ok (.bipush (-2), 2) := by decide +kernel
theorem dX10_fetch_21 : decode cX10_fetch 21 = .ok (.ireturn, 1) := by decide +kernel
theorem dX10_fill_0 : decode cX10_fill 0 = .ok (.aload_n 0, 1) := by decide +kernel
theorem dX10_fill_1 : decode cX10_fill 1 = .ok (.iload_n 1, 1) := by decide +kernel
theorem dX10_fill_2 : decode cX10_fill 2 = .ok (.invokevirtual 170, 3) := by decide +kernel
theorem dX10_fill_5 : decode cX10_fill 5 = .ok (.ifCond .eq 11, 3) := by decide +kernel
theorem dX10_fill_16 : decode cX10_fill 16 = .ok (.bipush (-2), 2) := by decide +kernel
theorem dX10_fill_18 : decode cX10_fill 18 = .ok (.ireturn, 1) := by decide +kernel
theorem dX10_gale_0 : decode cX10_gale 0 = .ok (.aload_n 0, 1) := by decide +kernel
theorem dX10_gale_1 : decode cX10_gale 1 = .ok (.invokevirtual 196, 3) := by decide +kernel
theorem dX10_gale_4 : decode cX10_gale 4 = .ok (.ifCond .eq 12, 3) := by decide +kernel
theorem dX10_gale_16 : decode cX10_gale 16 = .ok (.ldc2_w 290, 3) := by decide +kernel
theorem dX10_gale_19 : decode cX10_gale 19 = .ok (.lreturn, 1) := by decide +kernel
theorem dX10_ghosts_0 : decode cX10_ghosts 0 = .ok (.aload_n 0, 1) := by decide +kernel
theorem dX10_ghosts_1 : decode cX10_ghosts 1 = .ok (.iload_n 1, 1) := by decide +kernel
theorem dX10_ghosts_2 : decode cX10_ghosts 2 = .ok (.invokevirtual 170, 3) := by decide +kernel
theorem dX10_ghosts_5 : decode cX10_ghosts 5 = .ok (.ifCond .ne 6, 3) := by decide +kernel
theorem dX10_ghosts_8 : decode cX10_ghosts 8 = .ok (.bipush (-2), 2) := by decide +kernel
theorem dX10_ghosts_10 : decode cX10_ghosts 10 = .ok (.ireturn, 1) := by decide +kernel
theorem dX10_hadElection_0 : decode cX10_hadElection 0 = .ok (.iload_n 1, 1) := by decide +kernel
theorem dX10_hadElection_1 : decode cX10_hadElection 1 = .ok (.ifCond .lt 18, 3) := by decide +kernel
theorem dX10_hadElection_4 : decode cX10_hadElection 4 = .ok (.iload_n 1, 1) := by decide +kernel
theorem dX10_hadElection_5 : decode cX10_hadElection 5 = .ok (.aload_n 0, 1) := by decide +kernel
theorem dX10_hadElection_6 : decode cX10_hadElection 6 = .ok (.getfield 27, 3) := by decide +kernel
theorem dX10_hadElection_9 : decode cX10_hadElection 9 = .ok (.getfield 141, 3) := by decide +kernel
theorem dX10_hadElection_12 : decode cX10_hadElection 12 = .ok (.if_icmp .ge 7, 3) := by decide +kernel
theorem dX10_hadElection_15 : decode cX10_hadElection 15 = .ok (.iconst 1, 1) := by decide +kernel
theorem dX10_hadElection_16 : decode cX10_hadElection 16 = .ok (.goto 4, 3) := by decide +kernel
theorem dX10_hadElection_19 : decode cX10_hadElection 19 = .ok (.iconst 0, 1) := by decide +kernel
theorem dX10_hadElection_20 : decode cX10_hadElection 20 = .ok (.ireturn, 1) := by decide +kernel
theorem dX10_hands_0 : decode cX10_hands 0 = .ok (.aload_n 0, 1) := by decide +kernel
theorem dX10_hands_1 : decode cX10_hands 1 = .ok (.iload_n 1, 1) := by decide +kernel
theorem dX10_hands_2 : decode cX10_hands 2 = .ok (.invokevirtual 203, 3) := by decide +kernel
theorem dX10_hands_5 : decode cX10_hands 5 = .ok (.ifCond .ne 6, 3) := by decide +kernel
theorem dX10_hands_8 : decode cX10_hands 8 = .ok (.bipush (-2), 2) := by decide +kernel
theorem dX10_hands_10 : decode cX10_hands 10 = .ok (.ireturn, 1) := by decide +kernel
theorem dX10_hasColumn_0 : decode cX10_hasColumn 0 = .ok (.aload_n 0, 1) := by decide +kernel
theorem dX10_hasColumn_1 : decode cX10_hasColumn 1 = .ok (.iload_n 1, 1) := by decide +kernel
theorem dX10_hasColumn_2 : decode cX10_hasColumn 2 = .ok (.invokevirtual 170, 3) := by decide +kernel
theorem dX10_hasColumn_5 : decode cX10_hasColumn 5 = .ok (.ifCond .eq 25, 3) := by decide +kernel
theorem dX10_hasColumn_30 : decode cX10_hasColumn 30 = .ok (.iconst 0, 1) := by decide +kernel
theorem dX10_hasColumn_31 : decode cX10_hasColumn 31 = .ok (.ireturn, 1) := by decide +kernel
theorem dX10_hasSet_0 : decode cX10_hasSet 0 = .ok (.aload_n 0, 1) := by decide +kernel
theorem dX10_hasSet_1 : decode cX10_hasSet 1 = .ok (.invokevirtual 196, 3) := by decide +kernel
theorem dX10_hasSet_4 : decode cX10_hasSet 4 = .ok (.ifCond .eq 27, 3) := by decide +kernel
theorem dX10_hasSet_31 : decode cX10_hasSet 31 = .ok (.iconst 0, 1) := by decide +kernel
theorem dX10_hasSet_32 : decode cX10_hasSet 32 = .ok (.ireturn, 1) := by decide +kernel
theorem dX10_hasSide_0 : decode cX10_hasSide 0 = .ok (.aload_n 0, 1) := by decide +kernel
theorem dX10_hasSide_1 : decode cX10_hasSide 1 = .ok (.invokevirtual 196, 3) := by decide +kernel
theorem dX10_hasSide_4 : decode cX10_hasSide 4 = .ok (.ifCond .eq 16, 3) := by decide +kernel
theorem dX10_hasSide_20 : decode cX10_hasSide 20 = .ok (.iconst 0, 1) := by decide +kernel
theorem dX10_hasSide_21 : decode cX10_hasSide 21 = .ok (.ireturn, 1) := by decide +kernel
theorem dX10_hasSort_0 : decode cX10_hasSort 0 = .ok (.iload_n 1, 1) := by decide +kernel
theorem dX10_hasSort_1 : decode cX10_hasSort 1 = .ok (.ifCond .lt 21, 3) := by decide +kernel
theorem dX10_hasSort_4 : decode cX10_hasSort 4 = .ok (.iload_n 1, 1) := by decide +kernel
theorem dX10_hasSort_5 : decode cX10_hasSort 5 = .ok (.aload_n 0, 1) := by decide +kernel
theorem dX10_hasSort_6 : decode cX10_hasSort 6 = .ok (.getfield 27, 3) := by decide +kernel
theorem dX10_hasSort_9 : decode cX10_hasSort 9 = .ok (.getfield 99, 3) := by decide +kernel
theorem dX10_hasSort_12 : decode cX10_hasSort 12 = .ok (.getfield 352, 3) := by decide +kernel
theorem dX10_hasSort_15 : decode cX10_hasSort 15 = .ok (.if_icmp .ge 7, 3) := by decide +kernel
theorem dX10_hasSort_18 : decode cX10_hasSort 18 = .ok (.iconst 1, 1) := by decide +kernel
theorem dX10_hasSort_19 : decode cX10_hasSort 19 = .ok (.goto 4, 3) := by decide +kernel
theorem dX10_hasSort_22 : decode cX10_hasSort 22 = .ok (.iconst 0, 1) := by decide +kernel
theorem dX10_hasSort_23 : decode cX10_hasSort 23 = .ok (.ireturn, 1) := by decide +kernel
theorem dX10_hasTown_0 : decode cX10_hasTown 0 = .ok (.aload_n 0, 1) := by decide +kernel
theorem dX10_hasTown_1 : decode cX10_hasTown 1 = .ok (.getfield 27, 3) := by decide +kernel
theorem dX10_hasTown_4 : decode cX10_hasTown 4 = .ok (.getfield 99, 3) := by decide +kernel
theorem dX10_hasTown_7 : decode cX10_hasTown 7 = .ok (.getfield 182, 3) := by decide +kernel
theorem dX10_hasTown_10 : decode cX10_hasTown 10 = .ok (.ifCond .le 7, 3) := by decide +kernel
theorem dX10_hasTown_17 : decode cX10_hasTown 17 = .ok (.iconst 0, 1) := by decide +kernel
theorem dX10_hasTown_18 : decode cX10_hasTown 18 = .ok (.ireturn, 1) := by decide +kernel
theorem dX10_hasVoter_0 : decode cX10_hasVoter 0 = .ok (.iload_n 1, 1) := by decide +kernel
theorem dX10_hasVoter_1 : decode cX10_hasVoter 1 = .ok (.ifCond .lt 21, 3) := by decide +kernel
theorem dX10_hasVoter_4 : decode cX10_hasVoter 4 = .ok (.iload_n 1, 1) := by decide +kernel
theorem dX10_hasVoter_5 : decode cX10_hasVoter 5 = .ok (.aload_n 0, 1) := by decide +kernel
theorem dX10_hasVoter_6 : decode cX10_hasVoter 6 = .ok (.getfield 27, 3) := by decide +kernel
theorem dX10_hasVoter_9 : decode cX10_hasVoter 9 = .ok (.getfield 99, 3) := by decide +kernel
theorem dX10_hasVoter_12 : decode cX10_hasVoter 12 = .ok (.getfield 246, 3) := by decide +kernel
theorem dX10_hasVoter_15 : decode cX10_hasVoter 15 = .ok (.if_icmp .ge 7, 3) := by decide +kernel
theorem dX10_hasVoter_18 : decode cX10_hasVoter 18 = .ok (.iconst 1, 1) := by decide +kernel
theorem dX10_hasVoter_19 : decode cX10_hasVoter 19 = .ok (.goto 4, 3) := by decide +kernel
theorem dX10_hasVoter_22 : decode cX10_hasVoter 22 = .ok (.iconst 0, 1) := by decide +kernel
theorem dX10_hasVoter_23 : decode cX10_hasVoter 23 = .ok (.ireturn, 1) := by decide +kernel
theorem dX10_isOver_0 : decode cX10_isOver 0 = .ok (.aload_n 0, 1) := by decide +kernel
theorem dX10_isOver_1 : decode cX10_isOver 1 = .ok (.getfield 27, 3) := by decide +kernel
theorem dX10_isOver_4 : decode cX10_isOver 4 = .ok (.getfield 141, 3) := by decide +kernel
theorem dX10_isOver_7 : decode cX10_isOver 7 = .ok (.bipush 100, 2) := by decide +kernel
theorem dX10_isOver_9 : decode cX10_isOver 9 = .ok (.if_icmp .lt 7, 3) := by decide +kernel
theorem dX10_isOver_16 : decode cX10_isOver 16 = .ok (.iconst 0, 1) := by decide +kernel
theorem dX10_isOver_17 : decode cX10_isOver 17 = .ok (.ireturn, 1) := by decide +kernel
theorem dX10_isSlot_0 : decode cX10_isSlot 0 = .ok (.iload_n 1, 1) := by decide +kernel
theorem dX10_isSlot_1 : decode cX10_isSlot 1 = .ok (.ifCond .lt 16, 3) := by decide +kernel
theorem dX10_isSlot_4 : decode cX10_isSlot 4 = .ok (.iload_n 1, 1) := by decide +kernel
theorem dX10_isSlot_5 : decode cX10_isSlot 5 = .ok (.aload_n 0, 1) := by decide +kernel
theorem dX10_isSlot_6 : decode cX10_isSlot 6 = .ok (.getfield 47, 3) := by decide +kernel
theorem dX10_isSlot_9 : decode cX10_isSlot 9 = .ok (.arraylength, 1) := by decide +kernel
theorem dX10_isSlot_10 : decode cX10_isSlot 10 = .ok (.if_icmp .ge 7, 3) := by decide +kernel
theorem dX10_isSlot_13 : decode cX10_isSlot 13 = .ok (.iconst 1, 1) := by decide +kernel
theorem dX10_isSlot_14 : decode cX10_isSlot 14 = .ok (.goto 4, 3) := by decide +kernel
theorem dX10_isSlot_17 : decode cX10_isSlot 17 = .ok (.iconst 0, 1) := by decide +kernel
theorem dX10_isSlot_18 : decode cX10_isSlot 18 = .ok (.ireturn, 1) := by decide +kernel
theorem dX10_judge_0 : decode cX10_judge 0 = .ok (.aload_n 0, 1) := by decide +kernel
theorem dX10_judge_1 : decode cX10_judge 1 = .ok (.invokevirtual 196, 3) := by decide +kernel
theorem dX10_judge_4 : decode cX10_judge 4 = .ok (.ifCond .eq 11, 3) := by decide +kernel
theorem dX10_judge_15 : decode cX10_judge 15 = .ok (.bipush (-2), 2) := by decide +kernel
theorem dX10_judge_17 : decode cX10_judge 17 = .ok (.ireturn, 1) := by decide +kernel
theorem dX10_lay_0 : decode cX10_lay 0 = .ok (.aload_n 0, 1) := by decide +kernel
theorem dX10_lay_1 : decode cX10_lay 1 = .ok (.iload_n 1, 1) := by decide +kernel
theorem dX10_lay_2 : decode cX10_lay 2 = .ok (.iload_n 2, 1) := by decide +kernel
theorem dX10_lay_3 : decode cX10_lay 3 = .ok (.invokevirtual 113, 3) := by decide +kernel
theorem dX10_lay_6 : decode cX10_lay 6 = .ok (.ifCond .eq 11, 3) := by decide +kernel
theorem dX10_lay_17 : decode cX10_lay 17 = .ok (.bipush (-2), 2) := by decide +kernel
theorem dX10_lay_19 : decode cX10_lay 19 = .ok (.ireturn, 1) := by decide +kernel
theorem dX10_leads_0 : decode cX10_leads 0 = .ok (.aload_n 0, 1) := by decide +kernel
theorem dX10_leads_1 : decode cX10_leads 1 = .ok (.invokevirtual 196, 3) := by decide +kernel
theorem dX10_leads_4 : decode cX10_leads 4 = .ok (.ifCond .eq 20, 3) := by decide +kernel
theorem dX10_leads_24 : decode cX10_leads 24 = .ok (.bipush (-2), 2) := by decide +kernel
theorem dX10_leads_26 : decode cX10_leads 26 = .ok (.ireturn, 1) := by decide +kernel
theorem dX10_lost_0 : decode cX10_lost 0 = .ok (.aload_n 0, 1) := by decide +kernel
theorem dX10_lost_1 : decode cX10_lost 1 = .ok (.invokevirtual 196, 3) := by decide +kernel
theorem dX10_lost_4 : decode cX10_lost 4 = .ok (.ifCond .eq 13, 3) := by decide +kernel
theorem dX10_lost_17 : decode cX10_lost 17 = .ok (.iconst (-1), 1) := by decide +kernel
theorem dX10_lost_18 : decode cX10_lost 18 = .ok (.ireturn, 1) := by decide +kernel
theorem dX10_margin_0 : decode cX10_margin 0 = .ok (.aload_n 0, 1) := by decide +kernel
theorem dX10_margin_1 : decode cX10_margin 1 = .ok (.iload_n 1, 1) := by decide +kernel
theorem dX10_margin_2 : decode cX10_margin 2 = .ok (.invokevirtual 170, 3) := by decide +kernel
theorem dX10_margin_5 : decode cX10_margin 5 = .ok (.ifCond .eq 21, 3) := by decide +kernel
theorem dX10_margin_26 : decode cX10_margin 26 = .ok (.ldc_w 267, 3) := by decide +kernel
theorem dX10_margin_29 : decode cX10_margin 29 = .ok (.ireturn, 1) := by decide +kernel
theorem dX10_may_0 : decode cX10_may 0 = .ok (.aload_n 0, 1) := by decide +kernel
theorem dX10_may_1 : decode cX10_may 1 = .ok (.iload_n 1, 1) := by decide +kernel
theorem dX10_may_2 : decode cX10_may 2 = .ok (.iload_n 2, 1) := by decide +kernel
theorem dX10_may_3 : decode cX10_may 3 = .ok (.invokevirtual 113, 3) := by decide +kernel
theorem dX10_may_6 : decode cX10_may 6 = .ok (.ifCond .eq 11, 3) := by decide +kernel
theorem dX10_may_17 : decode cX10_may 17 = .ok (.bipush (-2), 2) := by decide +kernel
theorem dX10_may_19 : decode cX10_may 19 = .ok (.ireturn, 1) := by decide +kernel
theorem dX10_mean_0 : decode cX10_mean 0 = .ok (.aload_n 0, 1) := by decide +kernel
theorem dX10_mean_1 : decode cX10_mean 1 = .ok (.iload_n 1, 1) := by decide +kernel
theorem dX10_mean_2 : decode cX10_mean 2 = .ok (.invokevirtual 170, 3) := by decide +kernel
theorem dX10_mean_5 : decode cX10_mean 5 = .ok (.ifCond .ne 7, 3) := by decide +kernel
theorem dX10_mean_8 : decode cX10_mean 8 = .ok (.ldc2_w 290, 3) := by decide +kernel
theorem dX10_mean_11 : decode cX10_mean 11 = .ok (.lreturn, 1) := by decide +kernel
theorem dX10_oldest_0 : decode cX10_oldest 0 = .ok (.aload_n 0, 1) := by decide +kernel
theorem dX10_oldest_1 : decode cX10_oldest 1 = .ok (.iload_n 1, 1) := by decide +kernel
theorem dX10_oldest_2 : decode cX10_oldest 2 = .ok (.invokevirtual 170, 3) := by decide +kernel
theorem dX10_oldest_5 : decode cX10_oldest 5 = .ok (.ifCond .eq 17, 3) := by decide +kernel
theorem dX10_oldest_22 : decode cX10_oldest 22 = .ok (.bipush (-2), 2) := by decide +kernel
theorem dX10_oldest_24 : decode cX10_oldest 24 = .ok (.ireturn, 1) := by decide +kernel
theorem dX10_pile_0 : decode cX10_pile 0 = .ok (.aload_n 0, 1) := by decide +kernel
theorem dX10_pile_1 : decode cX10_pile 1 = .ok (.iload_n 1, 1) := by decide +kernel
theorem dX10_pile_2 : decode cX10_pile 2 = .ok (.invokevirtual 117, 3) := by decide +kernel
theorem dX10_pile_5 : decode cX10_pile 5 = .ok (.ifCond .eq 18, 3) := by decide +kernel
theorem dX10_pile_23 : decode cX10_pile 23 = .ok (.bipush (-2), 2) := by decide +kernel
theorem dX10_pile_25 : decode cX10_pile 25 = .ok (.ireturn, 1) := by decide +kernel
theorem dX10_pivot_0 : decode cX10_pivot 0 = .ok (.aload_n 0, 1) := by decide +kernel
theorem dX10_pivot_1 : decode cX10_pivot 1 = .ok (.invokevirtual 196, 3) := by decide +kernel
theorem dX10_pivot_4 : decode cX10_pivot 4 = .ok (.ifCond .eq 12, 3) := by decide +kernel
theorem dX10_pivot_16 : decode cX10_pivot 16 = .ok (.bipush (-2), 2) := by decide +kernel
theorem dX10_pivot_18 : decode cX10_pivot 18 = .ok (.ireturn, 1) := by decide +kernel
theorem dX10_power_0 : decode cX10_power 0 = .ok (.aload_n 0, 1) := by decide +kernel
theorem dX10_power_1 : decode cX10_power 1 = .ok (.iload_n 1, 1) := by decide +kernel
theorem dX10_power_2 : decode cX10_power 2 = .ok (.invokevirtual 203, 3) := by decide +kernel
theorem dX10_power_5 : decode cX10_power 5 = .ok (.ifCond .ne 6, 3) := by decide +kernel
theorem dX10_power_8 : decode cX10_power 8 = .ok (.bipush (-2), 2) := by decide +kernel
theorem dX10_power_10 : decode cX10_power 10 = .ok (.ireturn, 1) := by decide +kernel
theorem dX10_read_0 : decode cX10_read 0 = .ok (.aload_n 0, 1) := by decide +kernel
theorem dX10_read_1 : decode cX10_read 1 = .ok (.iload_n 1, 1) := by decide +kernel
theorem dX10_read_2 : decode cX10_read 2 = .ok (.invokevirtual 227, 3) := by decide +kernel
theorem dX10_read_5 : decode cX10_read 5 = .ok (.ifCond .ne 6, 3) := by decide +kernel
theorem dX10_read_8 : decode cX10_read 8 = .ok (.bipush (-2), 2) := by decide +kernel
theorem dX10_read_10 : decode cX10_read 10 = .ok (.ireturn, 1) := by decide +kernel
theorem dX10_result_0 : decode cX10_result 0 = .ok (.aload_n 0, 1) := by decide +kernel
theorem dX10_result_1 : decode cX10_result 1 = .ok (.iload_n 1, 1) := by decide +kernel
theorem dX10_result_2 : decode cX10_result 2 = .ok (.invokevirtual 218, 3) := by decide +kernel
theorem dX10_result_5 : decode cX10_result 5 = .ok (.ifCond .ne 6, 3) := by decide +kernel
theorem dX10_result_8 : decode cX10_result 8 = .ok (.bipush (-2), 2) := by decide +kernel
theorem dX10_result_10 : decode cX10_result 10 = .ok (.ireturn, 1) := by decide +kernel
theorem dX10_rise_0 : decode cX10_rise 0 = .ok (.aload_n 0, 1) := by decide +kernel
theorem dX10_rise_1 : decode cX10_rise 1 = .ok (.iload_n 1, 1) := by decide +kernel
theorem dX10_rise_2 : decode cX10_rise 2 = .ok (.iload_n 2, 1) := by decide +kernel
theorem dX10_rise_3 : decode cX10_rise 3 = .ok (.invokevirtual 113, 3) := by decide +kernel
theorem dX10_rise_6 : decode cX10_rise 6 = .ok (.ifCond .eq 13, 3) := by decide +kernel
theorem dX10_rise_19 : decode cX10_rise 19 = .ok (.bipush (-2), 2) := by decide +kernel
theorem dX10_rise_21 : decode cX10_rise 21 = .ok (.ireturn, 1) := by decide +kernel
theorem dX10_rule_0 : decode cX10_rule 0 = .ok (.aload_n 0, 1) := by decide +kernel
theorem dX10_rule_1 : decode cX10_rule 1 = .ok (.invokevirtual 196, 3) := by decide +kernel
theorem dX10_rule_4 : decode cX10_rule 4 = .ok (.ifCond .eq 12, 3) := by decide +kernel
theorem dX10_rule_16 : decode cX10_rule 16 = .ok (.bipush (-2), 2) := by decide +kernel
theorem dX10_rule_18 : decode cX10_rule 18 = .ok (.ireturn, 1) := by decide +kernel
theorem dX10_run_0 : decode cX10_run 0 = .ok (.aload_n 0, 1) := by decide +kernel
theorem dX10_run_1 : decode cX10_run 1 = .ok (.invokevirtual 196, 3) := by decide +kernel
theorem dX10_run_4 : decode cX10_run 4 = .ok (.ifCond .eq 21, 3) := by decide +kernel
theorem dX10_run_25 : decode cX10_run 25 = .ok (.bipush (-2), 2) := by decide +kernel
theorem dX10_run_27 : decode cX10_run 27 = .ok (.ireturn, 1) := by decide +kernel
theorem dX10_runs_0 : decode cX10_runs 0 = .ok (.aload_n 0, 1) := by decide +kernel
theorem dX10_runs_1 : decode cX10_runs 1 = .ok (.invokevirtual 196, 3) := by decide +kernel
theorem dX10_runs_4 : decode cX10_runs 4 = .ok (.ifCond .eq 32, 3) := by decide +kernel
theorem dX10_runs_36 : decode cX10_runs 36 = .ok (.bipush (-2), 2) := by decide +kernel
theorem dX10_runs_38 : decode cX10_runs 38 = .ok (.ireturn, 1) := by decide +kernel
theorem dX10_side_0 : decode cX10_side 0 = .ok (.aload_n 0, 1) := by decide +kernel
theorem dX10_side_1 : decode cX10_side 1 = .ok (.iload_n 1, 1) := by decide +kernel
theorem dX10_side_2 : decode cX10_side 2 = .ok (.invokevirtual 170, 3) := by decide +kernel
theorem dX10_side_5 : decode cX10_side 5 = .ok (.ifCond .ne 6, 3) := by decide +kernel
theorem dX10_side_8 : decode cX10_side 8 = .ok (.bipush (-2), 2) := by decide +kernel
theorem dX10_side_10 : decode cX10_side 10 = .ok (.ireturn, 1) := by decide +kernel
theorem dX10_slack_0 : decode cX10_slack 0 = .ok (.aload_n 0, 1) := by decide +kernel
theorem dX10_slack_1 : decode cX10_slack 1 = .ok (.iload_n 1, 1) := by decide +kernel
theorem dX10_slack_2 : decode cX10_slack 2 = .ok (.invokevirtual 170, 3) := by decide +kernel
theorem dX10_slack_5 : decode cX10_slack 5 = .ok (.ifCond .ne 6, 3) := by decide +kernel
theorem dX10_slack_8 : decode cX10_slack 8 = .ok (.bipush (-2), 2) := by decide +kernel
theorem dX10_slack_10 : decode cX10_slack 10 = .ok (.ireturn, 1) := by decide +kernel
theorem dX10_span_0 : decode cX10_span 0 = .ok (.aload_n 0, 1) := by decide +kernel
theorem dX10_span_1 : decode cX10_span 1 = .ok (.iload_n 1, 1) := by decide +kernel
theorem dX10_span_2 : decode cX10_span 2 = .ok (.invokevirtual 227, 3) := by decide +kernel
theorem dX10_span_5 : decode cX10_span 5 = .ok (.ifCond .eq 20, 3) := by decide +kernel
theorem dX10_span_25 : decode cX10_span 25 = .ok (.bipush (-2), 2) := by decide +kernel
theorem dX10_span_27 : decode cX10_span 27 = .ok (.ireturn, 1) := by decide +kernel
theorem dX10_spare_0 : decode cX10_spare 0 = .ok (.aload_n 0, 1) := by decide +kernel
theorem dX10_spare_1 : decode cX10_spare 1 = .ok (.iload_n 1, 1) := by decide +kernel
theorem dX10_spare_2 : decode cX10_spare 2 = .ok (.iload_n 2, 1) := by decide +kernel
theorem dX10_spare_3 : decode cX10_spare 3 = .ok (.invokevirtual 113, 3) := by decide +kernel
theorem dX10_spare_6 : decode cX10_spare 6 = .ok (.ifCond .ne 6, 3) := by decide +kernel
theorem dX10_spare_9 : decode cX10_spare 9 = .ok (.bipush (-2), 2) := by decide +kernel
theorem dX10_spare_11 : decode cX10_spare 11 = .ok (.ireturn, 1) := by decide +kernel
theorem dX10_still_0 : decode cX10_still 0 = .ok (.aload_n 0, 1) := by decide +kernel
theorem dX10_still_1 : decode cX10_still 1 = .ok (.iload_n 1, 1) := by decide +kernel
theorem dX10_still_2 : decode cX10_still 2 = .ok (.invokevirtual 227, 3) := by decide +kernel
theorem dX10_still_5 : decode cX10_still 5 = .ok (.ifCond .eq 26, 3) := by decide +kernel
theorem dX10_still_31 : decode cX10_still 31 = .ok (.bipush (-2), 2) := by decide +kernel
theorem dX10_still_33 : decode cX10_still 33 = .ok (.ireturn, 1) := by decide +kernel
theorem dX10_stone_0 : decode cX10_stone 0 = .ok (.aload_n 0, 1) := by decide +kernel
theorem dX10_stone_1 : decode cX10_stone 1 = .ok (.iload_n 1, 1) := by decide +kernel
theorem dX10_stone_2 : decode cX10_stone 2 = .ok (.iload_n 2, 1) := by decide +kernel
theorem dX10_stone_3 : decode cX10_stone 3 = .ok (.invokevirtual 113, 3) := by decide +kernel
theorem dX10_stone_6 : decode cX10_stone 6 = .ok (.ifCond .eq 14, 3) := by decide +kernel
theorem dX10_stone_20 : decode cX10_stone 20 = .ok (.bipush (-2), 2) := by decide +kernel
theorem dX10_stone_22 : decode cX10_stone 22 = .ok (.ireturn, 1) := by decide +kernel
theorem dX10_storm_0 : decode cX10_storm 0 = .ok (.aload_n 0, 1) := by decide +kernel
theorem dX10_storm_1 : decode cX10_storm 1 = .ok (.invokevirtual 196, 3) := by decide +kernel
theorem dX10_storm_4 : decode cX10_storm 4 = .ok (.ifCond .eq 10, 3) := by decide +kernel
theorem dX10_storm_14 : decode cX10_storm 14 = .ok (.bipush (-2), 2) := by decide +kernel
theorem dX10_storm_16 : decode cX10_storm 16 = .ok (.ireturn, 1) := by decide +kernel
theorem dX10_suits_0 : decode cX10_suits 0 = .ok (.aload_n 0, 1) := by decide +kernel
theorem dX10_suits_1 : decode cX10_suits 1 = .ok (.iload_n 1, 1) := by decide +kernel
theorem dX10_suits_2 : decode cX10_suits 2 = .ok (.invokevirtual 170, 3) := by decide +kernel
theorem dX10_suits_5 : decode cX10_suits 5 = .ok (.ifCond .ne 6, 3) := by decide +kernel
theorem dX10_suits_8 : decode cX10_suits 8 = .ok (.bipush (-2), 2) := by decide +kernel
theorem dX10_suits_10 : decode cX10_suits 10 = .ok (.ireturn, 1) := by decide +kernel
theorem dX10_take_0 : decode cX10_take 0 = .ok (.aload_n 0, 1) := by decide +kernel
theorem dX10_take_1 : decode cX10_take 1 = .ok (.iload_n 1, 1) := by decide +kernel
theorem dX10_take_2 : decode cX10_take 2 = .ok (.iload_n 2, 1) := by decide +kernel
theorem dX10_take_3 : decode cX10_take 3 = .ok (.invokevirtual 113, 3) := by decide +kernel
theorem dX10_take_6 : decode cX10_take 6 = .ok (.ifCond .ne 6, 3) := by decide +kernel
theorem dX10_take_9 : decode cX10_take 9 = .ok (.bipush (-2), 2) := by decide +kernel
theorem dX10_take_11 : decode cX10_take 11 = .ok (.ireturn, 1) := by decide +kernel
theorem dX10_tear_0 : decode cX10_tear 0 = .ok (.aload_n 0, 1) := by decide +kernel
theorem dX10_tear_1 : decode cX10_tear 1 = .ok (.iload_n 1, 1) := by decide +kernel
theorem dX10_tear_2 : decode cX10_tear 2 = .ok (.invokevirtual 170, 3) := by decide +kernel
theorem dX10_tear_5 : decode cX10_tear 5 = .ok (.ifCond .ne 6, 3) := by decide +kernel
theorem dX10_tear_8 : decode cX10_tear 8 = .ok (.bipush (-2), 2) := by decide +kernel
theorem dX10_tear_10 : decode cX10_tear 10 = .ok (.ireturn, 1) := by decide +kernel
theorem dX10_then_0 : decode cX10_then 0 = .ok (.aload_n 0, 1) := by decide +kernel
theorem dX10_then_1 : decode cX10_then 1 = .ok (.invokevirtual 196, 3) := by decide +kernel
theorem dX10_then_4 : decode cX10_then 4 = .ok (.ifCond .eq 11, 3) := by decide +kernel
theorem dX10_then_15 : decode cX10_then 15 = .ok (.bipush (-2), 2) := by decide +kernel
theorem dX10_then_17 : decode cX10_then 17 = .ok (.ireturn, 1) := by decide +kernel
theorem dX10_turn_0 : decode cX10_turn 0 = .ok (.aload_n 0, 1) := by decide +kernel
theorem dX10_turn_1 : decode cX10_turn 1 = .ok (.iload_n 1, 1) := by decide +kernel
theorem dX10_turn_2 : decode cX10_turn 2 = .ok (.invokevirtual 170, 3) := by decide +kernel
theorem dX10_turn_5 : decode cX10_turn 5 = .ok (.ifCond .eq 12, 3) := by decide +kernel
theorem dX10_turn_17 : decode cX10_turn 17 = .ok (.bipush (-2), 2) := by decide +kernel
theorem dX10_turn_19 : decode cX10_turn 19 = .ok (.ireturn, 1) := by decide +kernel
theorem dX10_vote_0 : decode cX10_vote 0 = .ok (.aload_n 0, 1) := by decide +kernel
theorem dX10_vote_1 : decode cX10_vote 1 = .ok (.iload_n 1, 1) := by decide +kernel
theorem dX10_vote_2 : decode cX10_vote 2 = .ok (.invokevirtual 203, 3) := by decide +kernel
theorem dX10_vote_5 : decode cX10_vote 5 = .ok (.ifCond .ne 6, 3) := by decide +kernel
theorem dX10_vote_8 : decode cX10_vote 8 = .ok (.bipush (-2), 2) := by decide +kernel
theorem dX10_vote_10 : decode cX10_vote 10 = .ok (.ireturn, 1) := by decide +kernel
theorem dX10_votes_0 : decode cX10_votes 0 = .ok (.aload_n 0, 1) := by decide +kernel
theorem dX10_votes_1 : decode cX10_votes 1 = .ok (.iload_n 1, 1) := by decide +kernel
theorem dX10_votes_2 : decode cX10_votes 2 = .ok (.invokevirtual 227, 3) := by decide +kernel
theorem dX10_votes_5 : decode cX10_votes 5 = .ok (.ifCond .eq 27, 3) := by decide +kernel
theorem dX10_votes_32 : decode cX10_votes 32 = .ok (.bipush (-2), 2) := by decide +kernel
theorem dX10_votes_34 : decode cX10_votes 34 = .ok (.ireturn, 1) := by decide +kernel
theorem dX10_won_0 : decode cX10_won 0 = .ok (.aload_n 0, 1) := by decide +kernel
theorem dX10_won_1 : decode cX10_won 1 = .ok (.iload_n 1, 1) := by decide +kernel
theorem dX10_won_2 : decode cX10_won 2 = .ok (.invokevirtual 227, 3) := by decide +kernel
theorem dX10_won_5 : decode cX10_won 5 = .ok (.ifCond .eq 15, 3) := by decide +kernel
theorem dX10_won_20 : decode cX10_won 20 = .ok (.bipush (-2), 2) := by decide +kernel
theorem dX10_won_22 : decode cX10_won 22 = .ok (.ireturn, 1) := by decide +kernel
theorem dX10_would_0 : decode cX10_would 0 = .ok (.aload_n 0, 1) := by decide +kernel
theorem dX10_would_1 : decode cX10_would 1 = .ok (.iload_n 1, 1) := by decide +kernel
theorem dX10_would_2 : decode cX10_would 2 = .ok (.invokevirtual 203, 3) := by decide +kernel
theorem dX10_would_5 : decode cX10_would 5 = .ok (.ifCond .ne 6, 3) := by decide +kernel
theorem dX10_would_8 : decode cX10_would 8 = .ok (.bipush (-2), 2) := by decide +kernel
theorem dX10_would_10 : decode cX10_would 10 = .ok (.ireturn, 1) := by decide +kernel
