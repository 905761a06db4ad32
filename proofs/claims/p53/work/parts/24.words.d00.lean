theorem dX10_course_0 : decode cX10_course 0 = .ok (.aload_n 0, 1) := by decide +kernel
theorem dX10_course_1 : decode cX10_course 1 = .ok (.iload_n 1, 1) := by decide +kernel
theorem dX10_course_2 : decode cX10_course 2 = .ok (.invokevirtual 170, 3) := by decide +kernel
theorem dX10_course_5 : decode cX10_course 5 = .ok (.ifCond .eq 14, 3) := by decide +kernel
theorem dX10_course_8 : decode cX10_course 8 = .ok (.iload_n 2, 1) := by decide +kernel
theorem dX10_course_9 : decode cX10_course 9 = .ok (.iconst 1, 1) := by decide +kernel
theorem dX10_course_10 : decode cX10_course 10 = .ok (.if_icmp .lt 9, 3) := by decide +kernel
theorem dX10_course_13 : decode cX10_course 13 = .ok (.iload_n 2, 1) := by decide +kernel
theorem dX10_course_14 : decode cX10_course 14 = .ok (.bipush 12, 2) := by decide +kernel
theorem dX10_course_16 : decode cX10_course 16 = .ok (.if_icmp .le 6, 3) := by decide +kernel
theorem dX10_course_19 : decode cX10_course 19 = .ok (.bipush (-2), 2) := by decide +kernel
theorem dX10_course_21 : decode cX10_course 21 = .ok (.ireturn, 1) := by decide +kernel
theorem dX10_course_22 : decode cX10_course 22 = .ok (.iconst 0, 1) := by decide +kernel
theorem dX10_course_23 : decode cX10_course 23 = .ok (.istore_n 3, 1) := by decide +kernel
theorem dX10_course_24 : decode cX10_course 24 = .ok (.iconst 0, 1) := by decide +kernel
theorem dX10_course_25 : decode cX10_course 25 = .ok (.istore 4, 2) := by decide +kernel
theorem dX10_course_27 : decode cX10_course 27 = .ok (.iload 4, 2) := by decide +kernel
theorem dX10_course_29 : decode cX10_course 29 = .ok (.aload_n 0, 1) := by decide +kernel
theorem dX10_course_30 : decode cX10_course 30 = .ok (.getfield 27, 3) := by decide +kernel
theorem dX10_course_33 : decode cX10_course 33 = .ok (.getfield 99, 3) := by decide +kernel
theorem dX10_course_36 : decode cX10_course 36 = .ok (.getfield 182, 3) := by decide +kernel
theorem dX10_course_39 : decode cX10_course 39 = .ok (.if_icmp .ge 33, 3) := by decide +kernel
theorem dX10_course_42 : decode cX10_course 42 = .ok (.aload_n 0, 1) := by decide +kernel
theorem dX10_course_43 : decode cX10_course 43 = .ok (.getfield 27, 3) := by decide +kernel
theorem dX10_course_46 : decode cX10_course 46 = .ok (.getfield 121, 3) := by decide +kernel
theorem dX10_course_49 : decode cX10_course 49 = .ok (.getfield 148, 3) := by decide +kernel
theorem dX10_course_52 : decode cX10_course 52 = .ok (.iload_n 1, 1) := by decide +kernel
theorem dX10_course_53 : decode cX10_course 53 = .ok (.iload 4, 2) := by decide +kernel
theorem dX10_course_55 : decode cX10_course 55 = .ok (.invokestatic 125, 3) := by decide +kernel
theorem dX10_course_58 : decode cX10_course 58 = .ok (.iaload, 1) := by decide +kernel
theorem dX10_course_59 : decode cX10_course 59 = .ok (.iload_n 2, 1) := by decide +kernel
theorem dX10_course_60 : decode cX10_course 60 = .ok (.if_icmp .lt 6, 3) := by decide +kernel
theorem dX10_course_63 : decode cX10_course 63 = .ok (.iinc 3 1, 3) := by decide +kernel
theorem dX10_course_66 : decode cX10_course 66 = .ok (.iinc 4 1, 3) := by decide +kernel
theorem dX10_course_69 : decode cX10_course 69 = .ok (.goto (-42), 3) := by decide +kernel
theorem dX10_course_72 : decode cX10_course 72 = .ok (.iload_n 3, 1) := by decide +kernel
theorem dX10_course_73 : decode cX10_course 73 = .ok (.ireturn, 1) := by decide +kernel
theorem dX10_ghosts_0 : decode cX10_ghosts 0 = .ok (.aload_n 0, 1) := by decide +kernel
theorem dX10_ghosts_1 : decode cX10_ghosts 1 = .ok (.iload_n 1, 1) := by decide +kernel
theorem dX10_ghosts_2 : decode cX10_ghosts 2 = .ok (.invokevirtual 170, 3) := by decide +kernel
theorem dX10_ghosts_5 : decode cX10_ghosts 5 = .ok (.ifCond .ne 6, 3) := by decide +kernel
theorem dX10_ghosts_8 : decode cX10_ghosts 8 = .ok (.bipush (-2), 2) := by decide +kernel
theorem dX10_ghosts_10 : decode cX10_ghosts 10 = .ok (.ireturn, 1) := by decide +kernel
theorem dX10_ghosts_11 : decode cX10_ghosts 11 = .ok (.iconst 0, 1) := by decide +kernel
theorem dX10_ghosts_12 : decode cX10_ghosts 12 = .ok (.istore_n 2, 1) := by decide +kernel
theorem dX10_ghosts_13 : decode cX10_ghosts 13 = .ok (.iconst 0, 1) := by decide +kernel
theorem dX10_ghosts_14 : decode cX10_ghosts 14 = .ok (.istore_n 3, 1) := by decide +kernel
theorem dX10_ghosts_15 : decode cX10_ghosts 15 = .ok (.iload_n 3, 1) := by decide +kernel
theorem dX10_ghosts_16 : decode cX10_ghosts 16 = .ok (.aload_n 0, 1) := by decide +kernel
theorem dX10_ghosts_17 : decode cX10_ghosts 17 = .ok (.getfield 27, 3) := by decide +kernel
theorem dX10_ghosts_20 : decode cX10_ghosts 20 = .ok (.getfield 99, 3) := by decide +kernel
theorem dX10_ghosts_23 : decode cX10_ghosts 23 = .ok (.getfield 246, 3) := by decide +kernel
theorem dX10_ghosts_26 : decode cX10_ghosts 26 = .ok (.if_icmp .ge 46, 3) := by decide +kernel
theorem dX10_ghosts_29 : decode cX10_ghosts 29 = .ok (.aload_n 0, 1) := by decide +kernel
theorem dX10_ghosts_30 : decode cX10_ghosts 30 = .ok (.getfield 27, 3) := by decide +kernel
theorem dX10_ghosts_33 : decode cX10_ghosts 33 = .ok (.getfield 141, 3) := by decide +kernel
theorem dX10_ghosts_36 : decode cX10_ghosts 36 = .ok (.aload_n 0, 1) := by decide +kernel
theorem dX10_ghosts_37 : decode cX10_ghosts 37 = .ok (.getfield 27, 3) := by decide +kernel
theorem dX10_ghosts_40 : decode cX10_ghosts 40 = .ok (.getfield 99, 3) := by decide +kernel
theorem dX10_ghosts_43 : decode cX10_ghosts 43 = .ok (.getfield 249, 3) := by decide +kernel
theorem dX10_ghosts_46 : decode cX10_ghosts 46 = .ok (.iload_n 3, 1) := by decide +kernel
theorem dX10_ghosts_47 : decode cX10_ghosts 47 = .ok (.iaload, 1) := by decide +kernel
theorem dX10_ghosts_48 : decode cX10_ghosts 48 = .ok (.if_icmp .le 18, 3) := by decide +kernel
theorem dX10_ghosts_51 : decode cX10_ghosts 51 = .ok (.iload_n 2, 1) := by decide +kernel
theorem dX10_ghosts_52 : decode cX10_ghosts 52 = .ok (.aload_n 0, 1) := by decide +kernel
theorem dX10_ghosts_53 : decode cX10_ghosts 53 = .ok (.getfield 27, 3) := by decide +kernel
theorem dX10_ghosts_56 : decode cX10_ghosts 56 = .ok (.getfield 121, 3) := by decide +kernel
theorem dX10_ghosts_59 : decode cX10_ghosts 59 = .ok (.iload_n 1, 1) := by decide +kernel
theorem dX10_ghosts_60 : decode cX10_ghosts 60 = .ok (.iload_n 3, 1) := by decide +kernel
theorem dX10_ghosts_61 : decode cX10_ghosts 61 = .ok (.invokevirtual 243, 3) := by decide +kernel
theorem dX10_ghosts_64 : decode cX10_ghosts 64 = .ok (.iadd, 1) := by decide +kernel
theorem dX10_ghosts_65 : decode cX10_ghosts 65 = .ok (.istore_n 2, 1) := by decide +kernel
theorem dX10_ghosts_66 : decode cX10_ghosts 66 = .ok (.iinc 3 1, 3) := by decide +kernel
theorem dX10_ghosts_69 : decode cX10_ghosts 69 = .ok (.goto (-54), 3) := by decide +kernel
theorem dX10_ghosts_72 : decode cX10_ghosts 72 = .ok (.iload_n 2, 1) := by decide +kernel
theorem dX10_ghosts_73 : decode cX10_ghosts 73 = .ok (.ireturn, 1) := by decide +kernel
theorem dX10_hadElection_0 : decode cX10_hadElection 0 = .ok (.iload_n 1, 1) := by decide +kernel
theorem dX10_hadElection_1 : decode cX10_hadElection 1 = .ok (.ifCond .lt 18, 3) := by decide +kernel
theorem dX10_hadElection_4 : decode cX10_hadElection 4 = .ok (.iload_n 1, 1) := by decide +kernel
theorem dX10_hadElection_5 : decode cX10_hadElection 5 = .ok (.aload_n 0, 1) := by decide +kernel
theorem dX10_hadElection_6 : decode cX10_hadElection 6 = .ok (.getfield 27, 3) := by decide +kernel
theorem dX10_hadElection_9 : decode cX10_hadElection 9 = .ok (.getfield 141, 3) := by decide +kernel
theorem dX10_hadElection_12 : decode cX10_hadElection 12 = .ok (.if_icmp .ge 7, 3) := by decide +kernel
theorem dX10_hadElection_15 : decode cX10_hadElection 15 = .ok (.iconst 1, 1) := by decide +kernel
theorem dX10_hadElection_16 : decode cX10_hadElection 16 = .ok (.goto 4, 3) := by decide +kernel
theorem dX10_hadElection_19 : decode cX10_hadElection 19 = .ok (.iconst 0, 1) := by decide +kernel
theorem dX10_hadElection_20 : decode cX10_hadElection 20 = .ok (.ireturn, 1) := by decide +kernel
theorem dX10_hands_0 : decode cX10_hands 0 = .ok (.aload_n 0, 1) := by decide +kernel
theorem dX10_hands_1 : decode cX10_hands 1 = .ok (.iload_n 1, 1) := by decide +kernel
theorem dX10_hands_2 : decode cX10_hands 2 = .ok (.invokevirtual 203, 3) := by decide +kernel
theorem dX10_hands_5 : decode cX10_hands 5 = .ok (.ifCond .ne 6, 3) := by decide +kernel
theorem dX10_hands_8 : decode cX10_hands 8 = .ok (.bipush (-2), 2) := by decide +kernel
theorem dX10_hands_10 : decode cX10_hands 10 = .ok (.ireturn, 1) := by decide +kernel
theorem dX10_hands_11 : decode cX10_hands 11 = .ok (.aload_n 0, 1) := by decide +kernel
theorem dX10_hands_12 : decode cX10_hands 12 = .ok (.getfield 27, 3) := by decide +kernel
theorem dX10_hands_15 : decode cX10_hands 15 = .ok (.getfield 121, 3) := by decide +kernel
theorem dX10_hands_18 : decode cX10_hands 18 = .ok (.iconst 0, 1) := by decide +kernel
theorem dX10_hands_19 : decode cX10_hands 19 = .ok (.iload_n 1, 1) := by decide +kernel
theorem dX10_hands_20 : decode cX10_hands 20 = .ok (.invokevirtual 243, 3) := by decide +kernel
theorem dX10_hands_23 : decode cX10_hands 23 = .ok (.aload_n 0, 1) := by decide +kernel
theorem dX10_hands_24 : decode cX10_hands 24 = .ok (.getfield 27, 3) := by decide +kernel
theorem dX10_hands_27 : decode cX10_hands 27 = .ok (.getfield 121, 3) := by decide +kernel
theorem dX10_hands_30 : decode cX10_hands 30 = .ok (.iconst 1, 1) := by decide +kernel
theorem dX10_hands_31 : decode cX10_hands 31 = .ok (.iload_n 1, 1) := by decide +kernel
theorem dX10_hands_32 : decode cX10_hands 32 = .ok (.invokevirtual 243, 3) := by decide +kernel
theorem dX10_hands_35 : decode cX10_hands 35 = .ok (.iadd, 1) := by decide +kernel
theorem dX10_hands_36 : decode cX10_hands 36 = .ok (.ireturn, 1) := by decide +kernel
theorem dX10_hasColumn_0 : decode cX10_hasColumn 0 = .ok (.aload_n 0, 1) := by decide +kernel
theorem dX10_hasColumn_1 : decode cX10_hasColumn 1 = .ok (.iload_n 1, 1) := by decide +kernel
theorem dX10_hasColumn_2 : decode cX10_hasColumn 2 = .ok (.invokevirtual 170, 3) := by decide +kernel
theorem dX10_hasColumn_5 : decode cX10_hasColumn 5 = .ok (.ifCond .eq 25, 3) := by decide +kernel
theorem dX10_hasColumn_8 : decode cX10_hasColumn 8 = .ok (.iload_n 2, 1) := by decide +kernel
theorem dX10_hasColumn_9 : decode cX10_hasColumn 9 = .ok (.ifCond .lt 21, 3) := by decide +kernel
theorem dX10_hasColumn_12 : decode cX10_hasColumn 12 = .ok (.iload_n 2, 1) := by decide +kernel
theorem dX10_hasColumn_13 : decode cX10_hasColumn 13 = .ok (.aload_n 0, 1) := by decide +kernel
theorem dX10_hasColumn_14 : decode cX10_hasColumn 14 = .ok (.getfield 27, 3) := by decide +kernel
theorem dX10_hasColumn_17 : decode cX10_hasColumn 17 = .ok (.getfield 99, 3) := by decide +kernel
theorem dX10_hasColumn_20 : decode cX10_hasColumn 20 = .ok (.getfield 182, 3) := by decide +kernel
theorem dX10_hasColumn_23 : decode cX10_hasColumn 23 = .ok (.if_icmp .ge 7, 3) := by decide +kernel
theorem dX10_hasColumn_26 : decode cX10_hasColumn 26 = .ok (.iconst 1, 1) := by decide +kernel
theorem dX10_hasColumn_27 : decode cX10_hasColumn 27 = .ok (.goto 4, 3) := by decide +kernel
theorem dX10_hasColumn_30 : decode cX10_hasColumn 30 = .ok (.iconst 0, 1) := by decide +kernel
theorem dX10_hasColumn_31 : decode cX10_hasColumn 31 = .ok (.ireturn, 1) := by decide +kernel
theorem dX10_hasSet_0 : decode cX10_hasSet 0 = .ok (.aload_n 0, 1) := by decide +kernel
theorem dX10_hasSet_1 : decode cX10_hasSet 1 = .ok (.invokevirtual 196, 3) := by decide +kernel
theorem dX10_hasSet_4 : decode cX10_hasSet 4 = .ok (.ifCond .eq 27, 3) := by decide +kernel
theorem dX10_hasSet_7 : decode cX10_hasSet 7 = .ok (.iload_n 1, 1) := by decide +kernel
theorem dX10_hasSet_8 : decode cX10_hasSet 8 = .ok (.ifCond .lt 23, 3) := by decide +kernel
theorem dX10_hasSet_11 : decode cX10_hasSet 11 = .ok (.iload_n 1, 1) := by decide +kernel
theorem dX10_hasSet_12 : decode cX10_hasSet 12 = .ok (.iconst 1, 1) := by decide +kernel
theorem dX10_hasSet_13 : decode cX10_hasSet 13 = .ok (.aload_n 0, 1) := by decide +kernel
theorem dX10_hasSet_14 : decode cX10_hasSet 14 = .ok (.getfield 27, 3) := by decide +kernel
theorem dX10_hasSet_17 : decode cX10_hasSet 17 = .ok (.getfield 99, 3) := by decide +kernel
theorem dX10_hasSet_20 : decode cX10_hasSet 20 = .ok (.getfield 246, 3) := by decide +kernel
theorem dX10_hasSet_23 : decode cX10_hasSet 23 = .ok (.ishl, 1) := by decide +kernel
theorem dX10_hasSet_24 : decode cX10_hasSet 24 = .ok (.if_icmp .ge 7, 3) := by decide +kernel
theorem dX10_hasSet_27 : decode cX10_hasSet 27 = .ok (.iconst 1, 1) := by decide +kernel
theorem dX10_hasSet_28 : decode cX10_hasSet 28 = .ok (.goto 4, 3) := by decide +kernel
theorem dX10_hasSet_31 : decode cX10_hasSet 31 = .ok (.iconst 0, 1) := by decide +kernel
theorem dX10_hasSet_32 : decode cX10_hasSet 32 = .ok (.ireturn, 1) := by decide +kernel
theorem dX10_hasSide_0 : decode cX10_hasSide 0 = .ok (.aload_n 0, 1) := by decide +kernel
theorem dX10_hasSide_1 : decode cX10_hasSide 1 = .ok (.invokevirtual 196, 3) := by decide +kernel
theorem dX10_hasSide_4 : decode cX10_hasSide 4 = .ok (.ifCond .eq 16, 3) := by decide +kernel
theorem dX10_hasSide_7 : decode cX10_hasSide 7 = .ok (.iload_n 1, 1) := by decide +kernel
theorem dX10_hasSide_8 : decode cX10_hasSide 8 = .ok (.ifCond .eq 8, 3) := by decide +kernel
theorem dX10_hasSide_11 : decode cX10_hasSide 11 = .ok (.iload_n 1, 1) := by decide +kernel
theorem dX10_hasSide_12 : decode cX10_hasSide 12 = .ok (.iconst 1, 1) := by decide +kernel
theorem dX10_hasSide_13 : decode cX10_hasSide 13 = .ok (.if_icmp .ne 7, 3) := by decide +kernel
theorem dX10_hasSide_16 : decode cX10_hasSide 16 = .ok (.iconst 1, 1) := by decide +kernel
theorem dX10_hasSide_17 : decode cX10_hasSide 17 = .ok (.goto 4, 3) := by decide +kernel
theorem dX10_hasSide_20 : decode cX10_hasSide 20 = .ok (.iconst 0, 1) := by decide +kernel
theorem dX10_hasSide_21 : decode cX10_hasSide 21 = .ok (.ireturn, 1) := by decide +kernel
theorem dX10_hasSort_0 : decode cX10_hasSort 0 = .ok (.iload_n 1, 1) := by decide +kernel
theorem dX10_hasSort_1 : decode cX10_hasSort 1 = .ok (.ifCond .lt 21, 3) := by decide +kernel
theorem dX10_hasSort_4 : decode cX10_hasSort 4 = .ok (.iload_n 1, 1) := by decide +kernel
theorem dX10_hasSort_5 : decode cX10_hasSort 5 = .ok (.aload_n 0, 1) := by decide +kernel
theorem dX10_hasSort_6 : decode cX10_hasSort 6 = .ok (.getfield 27, 3) := by decide +kernel
theorem dX10_hasSort_9 : decode cX10_hasSort 9 = .ok (.getfield 99, 3) := by decide +kernel
theorem dX10_hasSort_12 : decode cX10_hasSort 12 = .ok (.getfield 352, 3) := by decide +kernel
theorem dX10_hasSort_15 : decode cX10_hasSort 15 = .ok (.if_icmp .ge 7, 3) := by decide +kernel
theorem dX10_hasSort_18 : decode cX10_hasSort 18 = .ok (.iconst 1, 1) := by decide +kernel
theorem dX10_hasSort_19 : decode cX10_hasSort 19 = .ok (.goto 4, 3) := by decide +kernel
theorem dX10_hasSort_22 : decode cX10_hasSort 22 = .ok (.iconst 0, 1) := by decide +kernel
theorem dX10_hasSort_23 : decode cX10_hasSort 23 = .ok (.ireturn, 1) := by decide +kernel
theorem dX10_hasTown_0 : decode cX10_hasTown 0 = .ok (.aload_n 0, 1) := by decide +kernel
theorem dX10_hasTown_1 : decode cX10_hasTown 1 = .ok (.getfield 27, 3) := by decide +kernel
theorem dX10_hasTown_4 : decode cX10_hasTown 4 = .ok (.getfield 99, 3) := by decide +kernel
theorem dX10_hasTown_7 : decode cX10_hasTown 7 = .ok (.getfield 182, 3) := by decide +kernel
theorem dX10_hasTown_10 : decode cX10_hasTown 10 = .ok (.ifCond .le 7, 3) := by decide +kernel
theorem dX10_hasTown_13 : decode cX10_hasTown 13 = .ok (.iconst 1, 1) := by decide +kernel
theorem dX10_hasTown_14 : decode cX10_hasTown 14 = .ok (.goto 4, 3) := by decide +kernel
theorem dX10_hasTown_17 : decode cX10_hasTown 17 = .ok (.iconst 0, 1) := by decide +kernel
theorem dX10_hasTown_18 : decode cX10_hasTown 18 = .ok (.ireturn, 1) := by decide +kernel
theorem dX10_hasVoter_0 : decode cX10_hasVoter 0 = .ok (.iload_n 1, 1) := by decide +kernel
theorem dX10_hasVoter_1 : decode cX10_hasVoter 1 = .ok (.ifCond .lt 21, 3) := by decide +kernel
theorem dX10_hasVoter_4 : decode cX10_hasVoter 4 = .ok (.iload_n 1, 1) := by decide +kernel
theorem dX10_hasVoter_5 : decode cX10_hasVoter 5 = .ok (.aload_n 0, 1) := by decide +kernel
theorem dX10_hasVoter_6 : decode cX10_hasVoter 6 = .ok (.getfield 27, 3) := by decide +kernel
theorem dX10_hasVoter_9 : decode cX10_hasVoter 9 = .ok (.getfield 99, 3) := by decide +kernel
theorem dX10_hasVoter_12 : decode cX10_hasVoter 12 = .ok (.getfield 246, 3) := by decide +kernel
theorem dX10_hasVoter_15 : decode cX10_hasVoter 15 = .ok (.if_icmp .ge 7, 3) := by decide +kernel
theorem dX10_hasVoter_18 : decode cX10_hasVoter 18 = .ok (.iconst 1, 1) := by decide +kernel
theorem dX10_hasVoter_19 : decode cX10_hasVoter 19 = .ok (.goto 4, 3) := by decide +kernel
theorem dX10_hasVoter_22 : decode cX10_hasVoter 22 = .ok (.iconst 0, 1) := by decide +kernel
theorem dX10_hasVoter_23 : decode cX10_hasVoter 23 = .ok (.ireturn, 1) := by decide +kernel
theorem dX10_isOver_0 : decode cX10_isOver 0 = .ok (.aload_n 0, 1) := by decide +kernel
theorem dX10_isOver_1 : decode cX10_isOver 1 = .ok (.getfield 27, 3) := by decide +kernel
theorem dX10_isOver_4 : decode cX10_isOver 4 = .ok (.getfield 141, 3) := by decide +kernel
theorem dX10_isOver_7 : decode cX10_isOver 7 = .ok (.bipush 100, 2) := by decide +kernel
theorem dX10_isOver_9 : decode cX10_isOver 9 = .ok (.if_icmp .lt 7, 3) := by decide +kernel
theorem dX10_isOver_12 : decode cX10_isOver 12 = .ok (.iconst 1, 1) := by decide +kernel
theorem dX10_isOver_13 : decode cX10_isOver 13 = .ok (.goto 4, 3) := by decide +kernel
theorem dX10_isOver_16 : decode cX10_isOver 16 = .ok (.iconst 0, 1) := by decide +kernel
theorem dX10_isOver_17 : decode cX10_isOver 17 = .ok (.ireturn, 1) := by decide +kernel
theorem dX10_isSeed_0 : decode cX10_isSeed 0 = .ok (.iload_n 0, 1) := by decide +kernel
theorem dX10_isSeed_1 : decode cX10_isSeed 1 = .ok (.ifCond .lt 14, 3) := by decide +kernel
theorem dX10_isSeed_4 : decode cX10_isSeed 4 = .ok (.iload_n 0, 1) := by decide +kernel
theorem dX10_isSeed_5 : decode cX10_isSeed 5 = .ok (.ldc_w 393, 3) := by decide +kernel
theorem dX10_isSeed_8 : decode cX10_isSeed 8 = .ok (.if_icmp .gt 7, 3) := by decide +kernel
theorem dX10_isSeed_11 : decode cX10_isSeed 11 = .ok (.iconst 1, 1) := by decide +kernel
theorem dX10_isSeed_12 : decode cX10_isSeed 12 = .ok (.goto 4, 3) := by decide +kernel
theorem dX10_isSeed_15 : decode cX10_isSeed 15 = .ok (.iconst 0, 1) := by decide +kernel
theorem dX10_isSeed_16 : decode cX10_isSeed 16 = .ok (.ireturn, 1) := by decide +kernel
theorem dX10_isSlot_0 : decode cX10_isSlot 0 = .ok (.iload_n 1, 1) := by decide +kernel
theorem dX10_isSlot_1 : decode cX10_isSlot 1 = .ok (.ifCond .lt 16, 3) := by decide +kernel
theorem dX10_isSlot_4 : decode cX10_isSlot 4 = .ok (.iload_n 1, 1) := by decide +kernel
theorem dX10_isSlot_5 : decode cX10_isSlot 5 = .ok (.aload_n 0, 1) := by decide +kernel
theorem dX10_isSlot_6 : decode cX10_isSlot 6 = .ok (.getfield 47, 3) := by decide +kernel
theorem dX10_isSlot_9 : decode cX10_isSlot 9 = .ok (.arraylength, 1) := by decide +kernel
theorem dX10_isSlot_10 : decode cX10_isSlot 10 = .ok (.if_icmp .ge 7, 3) := by decide +kernel
theorem dX10_isSlot_13 : decode cX10_isSlot 13 = .ok (.iconst 1, 1) := by decide +kernel
theorem dX10_isSlot_14 : decode cX10_isSlot 14 = .ok (.goto 4, 3) := by decide +kernel
theorem dX10_isSlot_17 : decode cX10_isSlot 17 = .ok (.iconst 0, 1) := by decide +kernel
theorem dX10_isSlot_18 : decode cX10_isSlot 18 = .ok (.ireturn, 1) := by decide +kernel
theorem dX10_leads_0 : decode cX10_leads 0 = .ok (.aload_n 0, 1) := by decide +kernel
theorem dX10_leads_1 : decode cX10_leads 1 = .ok (.invokevirtual 196, 3) := by decide +kernel
theorem dX10_leads_4 : decode cX10_leads 4 = .ok (.ifCond .eq 20, 3) := by decide +kernel
theorem dX10_leads_7 : decode cX10_leads 7 = .ok (.aload_n 0, 1) := by decide +kernel
theorem dX10_leads_8 : decode cX10_leads 8 = .ok (.getfield 27, 3) := by decide +kernel
theorem dX10_leads_11 : decode cX10_leads 11 = .ok (.aload_n 0, 1) := by decide +kernel
theorem dX10_leads_12 : decode cX10_leads 12 = .ok (.getfield 27, 3) := by decide +kernel
theorem dX10_leads_15 : decode cX10_leads 15 = .ok (.getfield 176, 3) := by decide +kernel
theorem dX10_leads_18 : decode cX10_leads 18 = .ok (.invokevirtual 200, 3) := by decide +kernel
theorem dX10_leads_21 : decode cX10_leads 21 = .ok (.goto 5, 3) := by decide +kernel
theorem dX10_leads_24 : decode cX10_leads 24 = .ok (.bipush (-2), 2) := by decide +kernel
theorem dX10_leads_26 : decode cX10_leads 26 = .ok (.ireturn, 1) := by decide +kernel
theorem dX10_lost_0 : decode cX10_lost 0 = .ok (.aload_n 0, 1) := by decide +kernel
theorem dX10_lost_1 : decode cX10_lost 1 = .ok (.invokevirtual 196, 3) := by decide +kernel
theorem dX10_lost_4 : decode cX10_lost 4 = .ok (.ifCond .eq 13, 3) := by decide +kernel
theorem dX10_lost_7 : decode cX10_lost 7 = .ok (.aload_n 0, 1) := by decide +kernel
theorem dX10_lost_8 : decode cX10_lost 8 = .ok (.getfield 27, 3) := by decide +kernel
theorem dX10_lost_11 : decode cX10_lost 11 = .ok (.invokevirtual 239, 3) := by decide +kernel
theorem dX10_lost_14 : decode cX10_lost 14 = .ok (.goto 4, 3) := by decide +kernel
theorem dX10_lost_17 : decode cX10_lost 17 = .ok (.iconst (-1), 1) := by decide +kernel
theorem dX10_lost_18 : decode cX10_lost 18 = .ok (.ireturn, 1) := by decide +kernel
theorem dX10_may_0 : decode cX10_may 0 = .ok (.aload_n 0, 1) := by decide +kernel
theorem dX10_may_1 : decode cX10_may 1 = .ok (.iload_n 1, 1) := by decide +kernel
theorem dX10_may_2 : decode cX10_may 2 = .ok (.iload_n 2, 1) := by decide +kernel
theorem dX10_may_3 : decode cX10_may 3 = .ok (.invokevirtual 113, 3) := by decide +kernel
theorem dX10_may_6 : decode cX10_may 6 = .ok (.ifCond .eq 11, 3) := by decide +kernel
theorem dX10_may_9 : decode cX10_may 9 = .ok (.aload_n 0, 1) := by decide +kernel
theorem dX10_may_10 : decode cX10_may 10 = .ok (.iload_n 3, 1) := by decide +kernel
theorem dX10_may_11 : decode cX10_may 11 = .ok (.invokevirtual 117, 3) := by decide +kernel
theorem dX10_may_14 : decode cX10_may 14 = .ok (.ifCond .ne 6, 3) := by decide +kernel
theorem dX10_may_17 : decode cX10_may 17 = .ok (.bipush (-2), 2) := by decide +kernel
theorem dX10_may_19 : decode cX10_may 19 = .ok (.ireturn, 1) := by decide +kernel
theorem dX10_may_20 : decode cX10_may 20 = .ok (.aload_n 0, 1) := by decide +kernel
theorem dX10_may_21 : decode cX10_may 21 = .ok (.getfield 27, 3) := by decide +kernel
theorem dX10_may_24 : decode cX10_may 24 = .ok (.getfield 121, 3) := by decide +kernel
theorem dX10_may_27 : decode cX10_may 27 = .ok (.iload_n 1, 1) := by decide +kernel
theorem dX10_may_28 : decode cX10_may 28 = .ok (.iload_n 2, 1) := by decide +kernel
theorem dX10_may_29 : decode cX10_may 29 = .ok (.invokestatic 125, 3) := by decide +kernel
theorem dX10_may_32 : decode cX10_may 32 = .ok (.aload_n 0, 1) := by decide +kernel
theorem dX10_may_33 : decode cX10_may 33 = .ok (.getfield 27, 3) := by decide +kernel
theorem dX10_may_36 : decode cX10_may 36 = .ok (.getfield 99, 3) := by decide +kernel
theorem dX10_may_39 : decode cX10_may 39 = .ok (.getfield 129, 3) := by decide +kernel
theorem dX10_may_42 : decode cX10_may 42 = .ok (.iload_n 3, 1) := by decide +kernel
theorem dX10_may_43 : decode cX10_may 43 = .ok (.iaload, 1) := by decide +kernel
theorem dX10_may_44 : decode cX10_may 44 = .ok (.invokevirtual 133, 3) := by decide +kernel
theorem dX10_may_47 : decode cX10_may 47 = .ok (.ifCond .eq 7, 3) := by decide +kernel
theorem dX10_may_50 : decode cX10_may 50 = .ok (.iconst 1, 1) := by decide +kernel
theorem dX10_may_51 : decode cX10_may 51 = .ok (.goto 4, 3) := by decide +kernel
theorem dX10_may_54 : decode cX10_may 54 = .ok (.iconst 0, 1) := by decide +kernel
theorem dX10_may_55 : decode cX10_may 55 = .ok (.ireturn, 1) := by decide +kernel
theorem dX10_oldest_0 : decode cX10_oldest 0 = .ok (.aload_n 0, 1) := by decide +kernel
theorem dX10_oldest_1 : decode cX10_oldest 1 = .ok (.iload_n 1, 1) := by decide +kernel
theorem dX10_oldest_2 : decode cX10_oldest 2 = .ok (.invokevirtual 170, 3) := by decide +kernel
theorem dX10_oldest_5 : decode cX10_oldest 5 = .ok (.ifCond .eq 17, 3) := by decide +kernel
theorem dX10_oldest_8 : decode cX10_oldest 8 = .ok (.aload_n 0, 1) := by decide +kernel
theorem dX10_oldest_9 : decode cX10_oldest 9 = .ok (.getfield 27, 3) := by decide +kernel
theorem dX10_oldest_12 : decode cX10_oldest 12 = .ok (.getfield 121, 3) := by decide +kernel
theorem dX10_oldest_15 : decode cX10_oldest 15 = .ok (.iload_n 1, 1) := by decide +kernel
theorem dX10_oldest_16 : decode cX10_oldest 16 = .ok (.invokevirtual 305, 3) := by decide +kernel
theorem dX10_oldest_19 : decode cX10_oldest 19 = .ok (.goto 5, 3) := by decide +kernel
theorem dX10_oldest_22 : decode cX10_oldest 22 = .ok (.bipush (-2), 2) := by decide +kernel
theorem dX10_oldest_24 : decode cX10_oldest 24 = .ok (.ireturn, 1) := by decide +kernel
theorem dX10_pile_0 : decode cX10_pile 0 = .ok (.aload_n 0, 1) := by decide +kernel
theorem dX10_pile_1 : decode cX10_pile 1 = .ok (.iload_n 1, 1) := by decide +kernel
theorem dX10_pile_2 : decode cX10_pile 2 = .ok (.invokevirtual 117, 3) := by decide +kernel
theorem dX10_pile_5 : decode cX10_pile 5 = .ok (.ifCond .eq 18, 3) := by decide +kernel
theorem dX10_pile_8 : decode cX10_pile 8 = .ok (.aload_n 0, 1) := by decide +kernel
theorem dX10_pile_9 : decode cX10_pile 9 = .ok (.getfield 27, 3) := by decide +kernel
theorem dX10_pile_12 : decode cX10_pile 12 = .ok (.getfield 121, 3) := by decide +kernel
theorem dX10_pile_15 : decode cX10_pile 15 = .ok (.getfield 138, 3) := by decide +kernel
theorem dX10_pile_18 : decode cX10_pile 18 = .ok (.iload_n 1, 1) := by decide +kernel
theorem dX10_pile_19 : decode cX10_pile 19 = .ok (.iaload, 1) := by decide +kernel
theorem dX10_pile_20 : decode cX10_pile 20 = .ok (.goto 5, 3) := by decide +kernel
theorem dX10_pile_23 : decode cX10_pile 23 = .ok (.bipush (-2), 2) := by decide +kernel
theorem dX10_pile_25 : decode cX10_pile 25 = .ok (.ireturn, 1) := by decide +kernel
theorem dX10_read_0 : decode cX10_read 0 = .ok (.aload_n 0, 1) := by decide +kernel
theorem dX10_read_1 : decode cX10_read 1 = .ok (.iload_n 1, 1) := by decide +kernel
theorem dX10_read_2 : decode cX10_read 2 = .ok (.invokevirtual 227, 3) := by decide +kernel
theorem dX10_read_5 : decode cX10_read 5 = .ok (.ifCond .ne 6, 3) := by decide +kernel
theorem dX10_read_8 : decode cX10_read 8 = .ok (.bipush (-2), 2) := by decide +kernel
theorem dX10_read_10 : decode cX10_read 10 = .ok (.ireturn, 1) := by decide +kernel
theorem dX10_read_11 : decode cX10_read 11 = .ok (.aload_n 0, 1) := by decide +kernel
theorem dX10_read_12 : decode cX10_read 12 = .ok (.getfield 27, 3) := by decide +kernel
theorem dX10_read_15 : decode cX10_read 15 = .ok (.getfield 121, 3) := by decide +kernel
theorem dX10_read_18 : decode cX10_read 18 = .ok (.iconst 0, 1) := by decide +kernel
theorem dX10_read_19 : decode cX10_read 19 = .ok (.iload_n 1, 1) := by decide +kernel
theorem dX10_read_20 : decode cX10_read 20 = .ok (.invokevirtual 236, 3) := by decide +kernel
theorem dX10_read_23 : decode cX10_read 23 = .ok (.istore_n 2, 1) := by decide +kernel
theorem dX10_read_24 : decode cX10_read 24 = .ok (.aload_n 0, 1) := by decide +kernel
theorem dX10_read_25 : decode cX10_read 25 = .ok (.getfield 27, 3) := by decide +kernel
theorem dX10_read_28 : decode cX10_read 28 = .ok (.getfield 121, 3) := by decide +kernel
theorem dX10_read_31 : decode cX10_read 31 = .ok (.iconst 1, 1) := by decide +kernel
theorem dX10_read_32 : decode cX10_read 32 = .ok (.iload_n 1, 1) := by decide +kernel
theorem dX10_read_33 : decode cX10_read 33 = .ok (.invokevirtual 236, 3) := by decide +kernel
theorem dX10_read_36 : decode cX10_read 36 = .ok (.istore_n 3, 1) := by decide +kernel
theorem dX10_read_37 : decode cX10_read 37 = .ok (.aload_n 0, 1) := by decide +kernel
theorem dX10_read_38 : decode cX10_read 38 = .ok (.getfield 27, 3) := by decide +kernel
theorem dX10_read_41 : decode cX10_read 41 = .ok (.invokevirtual 239, 3) := by decide +kernel
theorem dX10_read_44 : decode cX10_read 44 = .ok (.istore 4, 2) := by decide +kernel
theorem dX10_read_46 : decode cX10_read 46 = .ok (.iload_n 2, 1) := by decide +kernel
theorem dX10_read_47 : decode cX10_read 47 = .ok (.iload_n 3, 1) := by decide +kernel
theorem dX10_read_48 : decode cX10_read 48 = .ok (.iload 4, 2) := by decide +kernel
theorem dX10_read_50 : decode cX10_read 50 = .ok (.iadd, 1) := by decide +kernel
theorem dX10_read_51 : decode cX10_read 51 = .ok (.if_icmp .le 5, 3) := by decide +kernel
theorem dX10_read_54 : decode cX10_read 54 = .ok (.iconst 0, 1) := by decide +kernel
theorem dX10_read_55 : decode cX10_read 55 = .ok (.ireturn, 1) := by decide +kernel
theorem dX10_read_56 : decode cX10_read 56 = .ok (.iload_n 3, 1) := by decide +kernel
theorem dX10_read_57 : decode cX10_read 57 = .ok (.iload_n 2, 1) := by decide +kernel
theorem dX10_read_58 : decode cX10_read 58 = .ok (.iload 4, 2) := by decide +kernel
theorem dX10_read_60 : decode cX10_read 60 = .ok (.iadd, 1) := by decide +kernel
theorem dX10_read_61 : decode cX10_read 61 = .ok (.if_icmp .le 7, 3) := by decide +kernel
theorem dX10_read_64 : decode cX10_read 64 = .ok (.iconst 1, 1) := by decide +kernel
theorem dX10_read_65 : decode cX10_read 65 = .ok (.goto 4, 3) := by decide +kernel
theorem dX10_read_68 : decode cX10_read 68 = .ok (.iconst 2, 1) := by decide +kernel
theorem dX10_read_69 : decode cX10_read 69 = .ok (.ireturn, 1) := by decide +kernel
theorem dX10_side_0 : decode cX10_side 0 = .ok (.aload_n 0, 1) := by decide +kernel
theorem dX10_side_1 : decode cX10_side 1 = .ok (.iload_n 1, 1) := by decide +kernel
theorem dX10_side_2 : decode cX10_side 2 = .ok (.invokevirtual 170, 3) := by decide +kernel
theorem dX10_side_5 : decode cX10_side 5 = .ok (.ifCond .ne 6, 3) := by decide +kernel
theorem dX10_side_8 : decode cX10_side 8 = .ok (.bipush (-2), 2) := by decide +kernel
theorem dX10_side_10 : decode cX10_side 10 = .ok (.ireturn, 1) := by decide +kernel
theorem dX10_side_11 : decode cX10_side 11 = .ok (.iload_n 2, 1) := by decide +kernel
theorem dX10_side_12 : decode cX10_side 12 = .ok (.tableswitch 106 0 4 #[36, 49, 62, 75, 94], 36) := by decide +kernel
theorem dX10_side_48 : decode cX10_side 48 = .ok (.aload_n 0, 1) := by decide +kernel
theorem dX10_side_49 : decode cX10_side 49 = .ok (.getfield 27, 3) := by decide +kernel
theorem dX10_side_52 : decode cX10_side 52 = .ok (.getfield 121, 3) := by decide +kernel
theorem dX10_side_55 : decode cX10_side 55 = .ok (.iload_n 1, 1) := by decide +kernel
theorem dX10_side_56 : decode cX10_side 56 = .ok (.iconst 0, 1) := by decide +kernel
theorem dX10_side_57 : decode cX10_side 57 = .ok (.invokevirtual 173, 3) := by decide +kernel
theorem dX10_side_60 : decode cX10_side 60 = .ok (.ireturn, 1) := by decide +kernel
theorem dX10_side_61 : decode cX10_side 61 = .ok (.aload_n 0, 1) := by decide +kernel
theorem dX10_side_62 : decode cX10_side 62 = .ok (.getfield 27, 3) := by decide +kernel
theorem dX10_side_65 : decode cX10_side 65 = .ok (.getfield 121, 3) := by decide +kernel
theorem dX10_side_68 : decode cX10_side 68 = .ok (.iload_n 1, 1) := by decide +kernel
theorem dX10_side_69 : decode cX10_side 69 = .ok (.iconst 1, 1) := by decide +kernel
theorem dX10_side_70 : decode cX10_side 70 = .ok (.invokevirtual 173, 3) := by decide +kernel
theorem dX10_side_73 : decode cX10_side 73 = .ok (.ireturn, 1) := by decide +kernel
theorem dX10_side_74 : decode cX10_side 74 = .ok (.aload_n 0, 1) := by decide +kernel
theorem dX10_side_75 : decode cX10_side 75 = .ok (.getfield 27, 3) := by decide +kernel
theorem dX10_side_78 : decode cX10_side 78 = .ok (.getfield 121, 3) := by decide +kernel
theorem dX10_side_81 : decode cX10_side 81 = .ok (.iload_n 1, 1) := by decide +kernel
theorem dX10_side_82 : decode cX10_side 82 = .ok (.iconst 2, 1) := by decide +kernel
theorem dX10_side_83 : decode cX10_side 83 = .ok (.invokevirtual 173, 3) := by decide +kernel
theorem dX10_side_86 : decode cX10_side 86 = .ok (.ireturn, 1) := by decide +kernel
theorem dX10_side_87 : decode cX10_side 87 = .ok (.aload_n 0, 1) := by decide +kernel
theorem dX10_side_88 : decode cX10_side 88 = .ok (.getfield 27, 3) := by decide +kernel
theorem dX10_side_91 : decode cX10_side 91 = .ok (.getfield 121, 3) := by decide +kernel
theorem dX10_side_94 : decode cX10_side 94 = .ok (.iload_n 1, 1) := by decide +kernel
theorem dX10_side_95 : decode cX10_side 95 = .ok (.aload_n 0, 1) := by decide +kernel
theorem dX10_side_96 : decode cX10_side 96 = .ok (.getfield 27, 3) := by decide +kernel
theorem dX10_side_99 : decode cX10_side 99 = .ok (.getfield 176, 3) := by decide +kernel
theorem dX10_side_102 : decode cX10_side 102 = .ok (.invokevirtual 173, 3) := by decide +kernel
theorem dX10_side_105 : decode cX10_side 105 = .ok (.ireturn, 1) := by decide +kernel
theorem dX10_side_106 : decode cX10_side 106 = .ok (.aload_n 0, 1) := by decide +kernel
theorem dX10_side_107 : decode cX10_side 107 = .ok (.getfield 27, 3) := by decide +kernel
theorem dX10_side_110 : decode cX10_side 110 = .ok (.getfield 121, 3) := by decide +kernel
theorem dX10_side_113 : decode cX10_side 113 = .ok (.iload_n 1, 1) := by decide +kernel
theorem dX10_side_114 : decode cX10_side 114 = .ok (.invokevirtual 179, 3) := by decide +kernel
theorem dX10_side_117 : decode cX10_side 117 = .ok (.ireturn, 1) := by decide +kernel
theorem dX10_side_118 : decode cX10_side 118 = .ok (.bipush (-2), 2) := by decide +kernel
theorem dX10_side_120 : decode cX10_side 120 = .ok (.ireturn, 1) := by decide +kernel
theorem dX10_slack_0 : decode cX10_slack 0 = .ok (.aload_n 0, 1) := by decide +kernel
theorem dX10_slack_1 : decode cX10_slack 1 = .ok (.iload_n 1, 1) := by decide +kernel
theorem dX10_slack_2 : decode cX10_slack 2 = .ok (.invokevirtual 170, 3) := by decide +kernel
theorem dX10_slack_5 : decode cX10_slack 5 = .ok (.ifCond .ne 6, 3) := by decide +kernel
theorem dX10_slack_8 : decode cX10_slack 8 = .ok (.bipush (-2), 2) := by decide +kernel
theorem dX10_slack_10 : decode cX10_slack 10 = .ok (.ireturn, 1) := by decide +kernel
theorem dX10_slack_11 : decode cX10_slack 11 = .ok (.iconst (-1), 1) := by decide +kernel
theorem dX10_slack_12 : decode cX10_slack 12 = .ok (.istore_n 2, 1) := by decide +kernel
theorem dX10_slack_13 : decode cX10_slack 13 = .ok (.iconst 0, 1) := by decide +kernel
theorem dX10_slack_14 : decode cX10_slack 14 = .ok (.istore_n 3, 1) := by decide +kernel
theorem dX10_slack_15 : decode cX10_slack 15 = .ok (.iload_n 3, 1) := by decide +kernel
theorem dX10_slack_16 : decode cX10_slack 16 = .ok (.aload_n 0, 1) := by decide +kernel
theorem dX10_slack_17 : decode cX10_slack 17 = .ok (.getfield 27, 3) := by decide +kernel
theorem dX10_slack_20 : decode cX10_slack 20 = .ok (.getfield 99, 3) := by decide +kernel
theorem dX10_slack_23 : decode cX10_slack 23 = .ok (.getfield 182, 3) := by decide +kernel
theorem dX10_slack_26 : decode cX10_slack 26 = .ok (.if_icmp .ge 60, 3) := by decide +kernel
theorem dX10_slack_29 : decode cX10_slack 29 = .ok (.iload_n 1, 1) := by decide +kernel
theorem dX10_slack_30 : decode cX10_slack 30 = .ok (.iload_n 3, 1) := by decide +kernel
theorem dX10_slack_31 : decode cX10_slack 31 = .ok (.invokestatic 125, 3) := by decide +kernel
theorem dX10_slack_34 : decode cX10_slack 34 = .ok (.istore 4, 2) := by decide +kernel
theorem dX10_slack_36 : decode cX10_slack 36 = .ok (.aload_n 0, 1) := by decide +kernel
theorem dX10_slack_37 : decode cX10_slack 37 = .ok (.getfield 27, 3) := by decide +kernel
theorem dX10_slack_40 : decode cX10_slack 40 = .ok (.getfield 121, 3) := by decide +kernel
theorem dX10_slack_43 : decode cX10_slack 43 = .ok (.iload 4, 2) := by decide +kernel
theorem dX10_slack_45 : decode cX10_slack 45 = .ok (.invokevirtual 185, 3) := by decide +kernel
