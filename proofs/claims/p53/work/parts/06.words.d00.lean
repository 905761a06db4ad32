theorem dX10_indexOf_0 : decode cX10_indexOf 0 = .ok (.iload_n 0, 1) := by decide +kernel
theorem dX10_indexOf_1 : decode cX10_indexOf 1 = .ok (.bipush 12, 2) := by decide +kernel
theorem dX10_indexOf_3 : decode cX10_indexOf 3 = .ok (.imul, 1) := by decide +kernel
theorem dX10_indexOf_4 : decode cX10_indexOf 4 = .ok (.iload_n 1, 1) := by decide +kernel
theorem dX10_indexOf_5 : decode cX10_indexOf 5 = .ok (.iadd, 1) := by decide +kernel
theorem dX10_indexOf_6 : decode cX10_indexOf 6 = .ok (.ireturn, 1) := by decide +kernel
theorem dX10_placeOf_0 : decode cX10_placeOf 0 = .ok (.iload_n 0, 1) := by decide +kernel
theorem dX10_placeOf_1 : decode cX10_placeOf 1 = .ok (.bipush 8, 2) := by decide +kernel
theorem dX10_placeOf_3 : decode cX10_placeOf 3 = .ok (.imul, 1) := by decide +kernel
theorem dX10_placeOf_4 : decode cX10_placeOf 4 = .ok (.iload_n 1, 1) := by decide +kernel
theorem dX10_placeOf_5 : decode cX10_placeOf 5 = .ok (.iadd, 1) := by decide +kernel
theorem dX10_placeOf_6 : decode cX10_placeOf 6 = .ok (.ireturn, 1) := by decide +kernel
theorem dX7_canTake_0 : decode cX7_canTake 0 = .ok (.aload_n 0, 1) := by decide +kernel
theorem dX7_canTake_1 : decode cX7_canTake 1 = .ok (.getfield 15, 3) := by decide +kernel
theorem dX7_canTake_4 : decode cX7_canTake 4 = .ok (.iload_n 2, 1) := by decide +kernel
theorem dX7_canTake_5 : decode cX7_canTake 5 = .ok (.iaload, 1) := by decide +kernel
theorem dX7_canTake_6 : decode cX7_canTake 6 = .ok (.ifCond .le 24, 3) := by decide +kernel
theorem dX7_canTake_9 : decode cX7_canTake 9 = .ok (.aload_n 0, 1) := by decide +kernel
theorem dX7_canTake_10 : decode cX7_canTake 10 = .ok (.iload_n 1, 1) := by decide +kernel
theorem dX7_canTake_11 : decode cX7_canTake 11 = .ok (.aload_n 0, 1) := by decide +kernel
theorem dX7_canTake_12 : decode cX7_canTake 12 = .ok (.getfield 36, 3) := by decide +kernel
theorem dX7_canTake_15 : decode cX7_canTake 15 = .ok (.getfield 68, 3) := by decide +kernel
theorem dX7_canTake_18 : decode cX7_canTake 18 = .ok (.iload_n 2, 1) := by decide +kernel
theorem dX7_canTake_19 : decode cX7_canTake 19 = .ok (.iaload, 1) := by decide +kernel
theorem dX7_canTake_20 : decode cX7_canTake 20 = .ok (.invokevirtual 71, 3) := by decide +kernel
theorem dX7_canTake_23 : decode cX7_canTake 23 = .ok (.ifCond .eq 7, 3) := by decide +kernel
theorem dX7_canTake_26 : decode cX7_canTake 26 = .ok (.iconst 1, 1) := by decide +kernel
theorem dX7_canTake_27 : decode cX7_canTake 27 = .ok (.goto 4, 3) := by decide +kernel
theorem dX7_canTake_30 : decode cX7_canTake 30 = .ok (.iconst 0, 1) := by decide +kernel
theorem dX7_canTake_31 : decode cX7_canTake 31 = .ok (.ireturn, 1) := by decide +kernel
theorem dX7_chooseColumn_0 : decode cX7_chooseColumn 0 = .ok (.iconst (-1), 1) := by decide +kernel
theorem dX7_chooseColumn_1 : decode cX7_chooseColumn 1 = .ok (.istore 4, 2) := by decide +kernel
theorem dX7_chooseColumn_3 : decode cX7_chooseColumn 3 = .ok (.iconst 0, 1) := by decide +kernel
theorem dX7_chooseColumn_4 : decode cX7_chooseColumn 4 = .ok (.istore 5, 2) := by decide +kernel
theorem dX7_chooseColumn_6 : decode cX7_chooseColumn 6 = .ok (.iconst 0, 1) := by decide +kernel
theorem dX7_chooseColumn_7 : decode cX7_chooseColumn 7 = .ok (.istore 6, 2) := by decide +kernel
theorem dX7_chooseColumn_9 : decode cX7_chooseColumn 9 = .ok (.iload 6, 2) := by decide +kernel
theorem dX7_chooseColumn_11 : decode cX7_chooseColumn 11 = .ok (.aload_n 0, 1) := by decide +kernel
theorem dX7_chooseColumn_12 : decode cX7_chooseColumn 12 = .ok (.getfield 36, 3) := by decide +kernel
theorem dX7_chooseColumn_15 : decode cX7_chooseColumn 15 = .ok (.getfield 65, 3) := by decide +kernel
theorem dX7_chooseColumn_18 : decode cX7_chooseColumn 18 = .ok (.if_icmp .ge 63, 3) := by decide +kernel
theorem dX7_chooseColumn_21 : decode cX7_chooseColumn 21 = .ok (.iload_n 1, 1) := by decide +kernel
theorem dX7_chooseColumn_22 : decode cX7_chooseColumn 22 = .ok (.iload 6, 2) := by decide +kernel
theorem dX7_chooseColumn_24 : decode cX7_chooseColumn 24 = .ok (.invokestatic 94, 3) := by decide +kernel
theorem dX7_chooseColumn_27 : decode cX7_chooseColumn 27 = .ok (.istore 7, 2) := by decide +kernel
theorem dX7_chooseColumn_29 : decode cX7_chooseColumn 29 = .ok (.iload_n 3, 1) := by decide +kernel
theorem dX7_chooseColumn_30 : decode cX7_chooseColumn 30 = .ok (.iload 6, 2) := by decide +kernel
theorem dX7_chooseColumn_32 : decode cX7_chooseColumn 32 = .ok (.aload_n 0, 1) := by decide +kernel
theorem dX7_chooseColumn_33 : decode cX7_chooseColumn 33 = .ok (.getfield 9, 3) := by decide +kernel
theorem dX7_chooseColumn_36 : decode cX7_chooseColumn 36 = .ok (.iload 7, 2) := by decide +kernel
theorem dX7_chooseColumn_38 : decode cX7_chooseColumn 38 = .ok (.iaload, 1) := by decide +kernel
theorem dX7_chooseColumn_39 : decode cX7_chooseColumn 39 = .ok (.invokestatic 106, 3) := by decide +kernel
theorem dX7_chooseColumn_42 : decode cX7_chooseColumn 42 = .ok (.istore 8, 2) := by decide +kernel
theorem dX7_chooseColumn_44 : decode cX7_chooseColumn 44 = .ok (.iload 4, 2) := by decide +kernel
theorem dX7_chooseColumn_46 : decode cX7_chooseColumn 46 = .ok (.iconst (-1), 1) := by decide +kernel
theorem dX7_chooseColumn_47 : decode cX7_chooseColumn 47 = .ok (.if_icmp .eq 10, 3) := by decide +kernel
theorem dX7_chooseColumn_50 : decode cX7_chooseColumn 50 = .ok (.iload 8, 2) := by decide +kernel
theorem dX7_chooseColumn_52 : decode cX7_chooseColumn 52 = .ok (.iload 5, 2) := by decide +kernel
theorem dX7_chooseColumn_54 : decode cX7_chooseColumn 54 = .ok (.if_icmp .ge 21, 3) := by decide +kernel
theorem dX7_chooseColumn_57 : decode cX7_chooseColumn 57 = .ok (.aload_n 0, 1) := by decide +kernel
theorem dX7_chooseColumn_58 : decode cX7_chooseColumn 58 = .ok (.iload 7, 2) := by decide +kernel
theorem dX7_chooseColumn_60 : decode cX7_chooseColumn 60 = .ok (.iload_n 2, 1) := by decide +kernel
theorem dX7_chooseColumn_61 : decode cX7_chooseColumn 61 = .ok (.invokevirtual 71, 3) := by decide +kernel
theorem dX7_chooseColumn_64 : decode cX7_chooseColumn 64 = .ok (.ifCond .eq 11, 3) := by decide +kernel
theorem dX7_chooseColumn_67 : decode cX7_chooseColumn 67 = .ok (.iload 6, 2) := by decide +kernel
theorem dX7_chooseColumn_69 : decode cX7_chooseColumn 69 = .ok (.istore 4, 2) := by decide +kernel
theorem dX7_chooseColumn_71 : decode cX7_chooseColumn 71 = .ok (.iload 8, 2) := by decide +kernel
theorem dX7_chooseColumn_73 : decode cX7_chooseColumn 73 = .ok (.istore 5, 2) := by decide +kernel
theorem dX7_chooseColumn_75 : decode cX7_chooseColumn 75 = .ok (.iinc 6 1, 3) := by decide +kernel
theorem dX7_chooseColumn_78 : decode cX7_chooseColumn 78 = .ok (.goto (-69), 3) := by decide +kernel
theorem dX7_chooseColumn_81 : decode cX7_chooseColumn 81 = .ok (.iload 4, 2) := by decide +kernel
theorem dX7_chooseColumn_83 : decode cX7_chooseColumn 83 = .ok (.ireturn, 1) := by decide +kernel
theorem dX7_earliestVote_0 : decode cX7_earliestVote 0 = .ok (.iconst (-1), 1) := by decide +kernel
theorem dX7_earliestVote_1 : decode cX7_earliestVote 1 = .ok (.istore_n 2, 1) := by decide +kernel
theorem dX7_earliestVote_2 : decode cX7_earliestVote 2 = .ok (.iconst 0, 1) := by decide +kernel
theorem dX7_earliestVote_3 : decode cX7_earliestVote 3 = .ok (.istore_n 3, 1) := by decide +kernel
theorem dX7_earliestVote_4 : decode cX7_earliestVote 4 = .ok (.iload_n 3, 1) := by decide +kernel
theorem dX7_earliestVote_5 : decode cX7_earliestVote 5 = .ok (.aload_n 0, 1) := by decide +kernel
theorem dX7_earliestVote_6 : decode cX7_earliestVote 6 = .ok (.getfield 36, 3) := by decide +kernel
theorem dX7_earliestVote_9 : decode cX7_earliestVote 9 = .ok (.getfield 65, 3) := by decide +kernel
theorem dX7_earliestVote_12 : decode cX7_earliestVote 12 = .ok (.if_icmp .ge 81, 3) := by decide +kernel
theorem dX7_earliestVote_15 : decode cX7_earliestVote 15 = .ok (.iload_n 1, 1) := by decide +kernel
theorem dX7_earliestVote_16 : decode cX7_earliestVote 16 = .ok (.iload_n 3, 1) := by decide +kernel
theorem dX7_earliestVote_17 : decode cX7_earliestVote 17 = .ok (.invokestatic 94, 3) := by decide +kernel
theorem dX7_earliestVote_20 : decode cX7_earliestVote 20 = .ok (.istore 4, 2) := by decide +kernel
theorem dX7_earliestVote_22 : decode cX7_earliestVote 22 = .ok (.iconst 0, 1) := by decide +kernel
theorem dX7_earliestVote_23 : decode cX7_earliestVote 23 = .ok (.istore 5, 2) := by decide +kernel
theorem dX7_earliestVote_25 : decode cX7_earliestVote 25 = .ok (.iload 5, 2) := by decide +kernel
theorem dX7_earliestVote_27 : decode cX7_earliestVote 27 = .ok (.aload_n 0, 1) := by decide +kernel
theorem dX7_earliestVote_28 : decode cX7_earliestVote 28 = .ok (.getfield 9, 3) := by decide +kernel
theorem dX7_earliestVote_31 : decode cX7_earliestVote 31 = .ok (.iload 4, 2) := by decide +kernel
theorem dX7_earliestVote_33 : decode cX7_earliestVote 33 = .ok (.iaload, 1) := by decide +kernel
theorem dX7_earliestVote_34 : decode cX7_earliestVote 34 = .ok (.if_icmp .ge 53, 3) := by decide +kernel
theorem dX7_earliestVote_37 : decode cX7_earliestVote 37 = .ok (.iload 4, 2) := by decide +kernel
theorem dX7_earliestVote_39 : decode cX7_earliestVote 39 = .ok (.iload 5, 2) := by decide +kernel
theorem dX7_earliestVote_41 : decode cX7_earliestVote 41 = .ok (.invokestatic 75, 3) := by decide +kernel
theorem dX7_earliestVote_44 : decode cX7_earliestVote 44 = .ok (.istore 6, 2) := by decide +kernel
theorem dX7_earliestVote_46 : decode cX7_earliestVote 46 = .ok (.aload_n 0, 1) := by decide +kernel
theorem dX7_earliestVote_47 : decode cX7_earliestVote 47 = .ok (.getfield 21, 3) := by decide +kernel
theorem dX7_earliestVote_50 : decode cX7_earliestVote 50 = .ok (.iload 6, 2) := by decide +kernel
theorem dX7_earliestVote_52 : decode cX7_earliestVote 52 = .ok (.iaload, 1) := by decide +kernel
theorem dX7_earliestVote_53 : decode cX7_earliestVote 53 = .ok (.iconst (-1), 1) := by decide +kernel
theorem dX7_earliestVote_54 : decode cX7_earliestVote 54 = .ok (.if_icmp .eq 27, 3) := by decide +kernel
theorem dX7_earliestVote_57 : decode cX7_earliestVote 57 = .ok (.iload_n 2, 1) := by decide +kernel
theorem dX7_earliestVote_58 : decode cX7_earliestVote 58 = .ok (.iconst (-1), 1) := by decide +kernel
theorem dX7_earliestVote_59 : decode cX7_earliestVote 59 = .ok (.if_icmp .eq 14, 3) := by decide +kernel
theorem dX7_earliestVote_62 : decode cX7_earliestVote 62 = .ok (.aload_n 0, 1) := by decide +kernel
theorem dX7_earliestVote_63 : decode cX7_earliestVote 63 = .ok (.getfield 24, 3) := by decide +kernel
theorem dX7_earliestVote_66 : decode cX7_earliestVote 66 = .ok (.iload 6, 2) := by decide +kernel
theorem dX7_earliestVote_68 : decode cX7_earliestVote 68 = .ok (.iaload, 1) := by decide +kernel
theorem dX7_earliestVote_69 : decode cX7_earliestVote 69 = .ok (.iload_n 2, 1) := by decide +kernel
theorem dX7_earliestVote_70 : decode cX7_earliestVote 70 = .ok (.if_icmp .ge 11, 3) := by decide +kernel
theorem dX7_earliestVote_73 : decode cX7_earliestVote 73 = .ok (.aload_n 0, 1) := by decide +kernel
theorem dX7_earliestVote_74 : decode cX7_earliestVote 74 = .ok (.getfield 24, 3) := by decide +kernel
theorem dX7_earliestVote_77 : decode cX7_earliestVote 77 = .ok (.iload 6, 2) := by decide +kernel
theorem dX7_earliestVote_79 : decode cX7_earliestVote 79 = .ok (.iaload, 1) := by decide +kernel
theorem dX7_earliestVote_80 : decode cX7_earliestVote 80 = .ok (.istore_n 2, 1) := by decide +kernel
theorem dX7_earliestVote_81 : decode cX7_earliestVote 81 = .ok (.iinc 5 1, 3) := by decide +kernel
theorem dX7_earliestVote_84 : decode cX7_earliestVote 84 = .ok (.goto (-59), 3) := by decide +kernel
theorem dX7_earliestVote_87 : decode cX7_earliestVote 87 = .ok (.iinc 3 1, 3) := by decide +kernel
theorem dX7_earliestVote_90 : decode cX7_earliestVote 90 = .ok (.goto (-86), 3) := by decide +kernel
theorem dX7_earliestVote_93 : decode cX7_earliestVote 93 = .ok (.iload_n 2, 1) := by decide +kernel
theorem dX7_earliestVote_94 : decode cX7_earliestVote 94 = .ok (.ireturn, 1) := by decide +kernel
theorem dX7_fits_0 : decode cX7_fits 0 = .ok (.aload_n 0, 1) := by decide +kernel
theorem dX7_fits_1 : decode cX7_fits 1 = .ok (.getfield 9, 3) := by decide +kernel
theorem dX7_fits_4 : decode cX7_fits 4 = .ok (.iload_n 1, 1) := by decide +kernel
theorem dX7_fits_5 : decode cX7_fits 5 = .ok (.iaload, 1) := by decide +kernel
theorem dX7_fits_6 : decode cX7_fits 6 = .ok (.istore_n 3, 1) := by decide +kernel
theorem dX7_fits_7 : decode cX7_fits 7 = .ok (.iload_n 3, 1) := by decide +kernel
theorem dX7_fits_8 : decode cX7_fits 8 = .ok (.aload_n 0, 1) := by decide +kernel
theorem dX7_fits_9 : decode cX7_fits 9 = .ok (.getfield 36, 3) := by decide +kernel
theorem dX7_fits_12 : decode cX7_fits 12 = .ok (.getfield 58, 3) := by decide +kernel
theorem dX7_fits_15 : decode cX7_fits 15 = .ok (.if_icmp .ge 18, 3) := by decide +kernel
theorem dX7_fits_18 : decode cX7_fits 18 = .ok (.iload_n 2, 1) := by decide +kernel
theorem dX7_fits_19 : decode cX7_fits 19 = .ok (.aload_n 0, 1) := by decide +kernel
theorem dX7_fits_20 : decode cX7_fits 20 = .ok (.getfield 33, 3) := by decide +kernel
theorem dX7_fits_23 : decode cX7_fits 23 = .ok (.iload_n 1, 1) := by decide +kernel
theorem dX7_fits_24 : decode cX7_fits 24 = .ok (.bipush 13, 2) := by decide +kernel
theorem dX7_fits_26 : decode cX7_fits 26 = .ok (.imul, 1) := by decide +kernel
theorem dX7_fits_27 : decode cX7_fits 27 = .ok (.iload_n 3, 1) := by decide +kernel
theorem dX7_fits_28 : decode cX7_fits 28 = .ok (.iadd, 1) := by decide +kernel
theorem dX7_fits_29 : decode cX7_fits 29 = .ok (.iaload, 1) := by decide +kernel
theorem dX7_fits_30 : decode cX7_fits 30 = .ok (.if_icmp .le 5, 3) := by decide +kernel
theorem dX7_fits_33 : decode cX7_fits 33 = .ok (.iconst 0, 1) := by decide +kernel
theorem dX7_fits_34 : decode cX7_fits 34 = .ok (.ireturn, 1) := by decide +kernel
theorem dX7_fits_35 : decode cX7_fits 35 = .ok (.iload_n 1, 1) := by decide +kernel
theorem dX7_fits_36 : decode cX7_fits 36 = .ok (.bipush 8, 2) := by decide +kernel
theorem dX7_fits_38 : decode cX7_fits 38 = .ok (.irem, 1) := by decide +kernel
theorem dX7_fits_39 : decode cX7_fits 39 = .ok (.istore 4, 2) := by decide +kernel
theorem dX7_fits_41 : decode cX7_fits 41 = .ok (.iload_n 3, 1) := by decide +kernel
theorem dX7_fits_42 : decode cX7_fits 42 = .ok (.iconst 1, 1) := by decide +kernel
theorem dX7_fits_43 : decode cX7_fits 43 = .ok (.iadd, 1) := by decide +kernel
theorem dX7_fits_44 : decode cX7_fits 44 = .ok (.aload_n 0, 1) := by decide +kernel
theorem dX7_fits_45 : decode cX7_fits 45 = .ok (.getfield 36, 3) := by decide +kernel
theorem dX7_fits_48 : decode cX7_fits 48 = .ok (.getfield 62, 3) := by decide +kernel
theorem dX7_fits_51 : decode cX7_fits 51 = .ok (.isub, 1) := by decide +kernel
theorem dX7_fits_52 : decode cX7_fits 52 = .ok (.istore 5, 2) := by decide +kernel
theorem dX7_fits_54 : decode cX7_fits 54 = .ok (.iload 4, 2) := by decide +kernel
theorem dX7_fits_56 : decode cX7_fits 56 = .ok (.ifCond .le 18, 3) := by decide +kernel
theorem dX7_fits_59 : decode cX7_fits 59 = .ok (.aload_n 0, 1) := by decide +kernel
theorem dX7_fits_60 : decode cX7_fits 60 = .ok (.getfield 9, 3) := by decide +kernel
theorem dX7_fits_63 : decode cX7_fits 63 = .ok (.iload_n 1, 1) := by decide +kernel
theorem dX7_fits_64 : decode cX7_fits 64 = .ok (.iconst 1, 1) := by decide +kernel
theorem dX7_fits_65 : decode cX7_fits 65 = .ok (.isub, 1) := by decide +kernel
theorem dX7_fits_66 : decode cX7_fits 66 = .ok (.iaload, 1) := by decide +kernel
theorem dX7_fits_67 : decode cX7_fits 67 = .ok (.iload 5, 2) := by decide +kernel
theorem dX7_fits_69 : decode cX7_fits 69 = .ok (.if_icmp .ge 5, 3) := by decide +kernel
theorem dX7_fits_72 : decode cX7_fits 72 = .ok (.iconst 0, 1) := by decide +kernel
theorem dX7_fits_73 : decode cX7_fits 73 = .ok (.ireturn, 1) := by decide +kernel
theorem dX7_fits_74 : decode cX7_fits 74 = .ok (.iload 4, 2) := by decide +kernel
theorem dX7_fits_76 : decode cX7_fits 76 = .ok (.iconst 1, 1) := by decide +kernel
theorem dX7_fits_77 : decode cX7_fits 77 = .ok (.iadd, 1) := by decide +kernel
theorem dX7_fits_78 : decode cX7_fits 78 = .ok (.aload_n 0, 1) := by decide +kernel
theorem dX7_fits_79 : decode cX7_fits 79 = .ok (.getfield 36, 3) := by decide +kernel
theorem dX7_fits_82 : decode cX7_fits 82 = .ok (.getfield 65, 3) := by decide +kernel
theorem dX7_fits_85 : decode cX7_fits 85 = .ok (.if_icmp .ge 16, 3) := by decide +kernel
theorem dX7_fits_88 : decode cX7_fits 88 = .ok (.aload_n 0, 1) := by decide +kernel
theorem dX7_fits_89 : decode cX7_fits 89 = .ok (.getfield 9, 3) := by decide +kernel
theorem dX7_fits_92 : decode cX7_fits 92 = .ok (.iload_n 1, 1) := by decide +kernel
theorem dX7_fits_93 : decode cX7_fits 93 = .ok (.iconst 1, 1) := by decide +kernel
theorem dX7_fits_94 : decode cX7_fits 94 = .ok (.iadd, 1) := by decide +kernel
theorem dX7_fits_95 : decode cX7_fits 95 = .ok (.iaload, 1) := by decide +kernel
theorem dX7_fits_96 : decode cX7_fits 96 = .ok (.iload 5, 2) := by decide +kernel
theorem dX7_fits_98 : decode cX7_fits 98 = .ok (.if_icmp .lt 7, 3) := by decide +kernel
theorem dX7_fits_101 : decode cX7_fits 101 = .ok (.iconst 1, 1) := by decide +kernel
theorem dX7_fits_102 : decode cX7_fits 102 = .ok (.goto 4, 3) := by decide +kernel
theorem dX7_fits_105 : decode cX7_fits 105 = .ok (.iconst 0, 1) := by decide +kernel
theorem dX7_fits_106 : decode cX7_fits 106 = .ok (.ireturn, 1) := by decide +kernel
theorem dX7_grade_0 : decode cX7_grade 0 = .ok (.iload_n 0, 1) := by decide +kernel
theorem dX7_grade_1 : decode cX7_grade 1 = .ok (.lookupswitch 32 #[(8, 27), (9, 29)], 27) := by decide +kernel
theorem dX7_grade_28 : decode cX7_grade 28 = .ok (.iload_n 2, 1) := by decide +kernel
theorem dX7_grade_29 : decode cX7_grade 29 = .ok (.ireturn, 1) := by decide +kernel
theorem dX7_grade_30 : decode cX7_grade 30 = .ok (.iload_n 2, 1) := by decide +kernel
theorem dX7_grade_31 : decode cX7_grade 31 = .ok (.ineg, 1) := by decide +kernel
theorem dX7_grade_32 : decode cX7_grade 32 = .ok (.ireturn, 1) := by decide +kernel
theorem dX7_grade_33 : decode cX7_grade 33 = .ok (.iload_n 1, 1) := by decide +kernel
theorem dX7_grade_34 : decode cX7_grade 34 = .ok (.iload_n 0, 1) := by decide +kernel
theorem dX7_grade_35 : decode cX7_grade 35 = .ok (.isub, 1) := by decide +kernel
theorem dX7_grade_36 : decode cX7_grade 36 = .ok (.invokestatic 103, 3) := by decide +kernel
theorem dX7_grade_39 : decode cX7_grade 39 = .ok (.ireturn, 1) := by decide +kernel
theorem dX7_openJoints_0 : decode cX7_openJoints 0 = .ok (.iconst 0, 1) := by decide +kernel
theorem dX7_openJoints_1 : decode cX7_openJoints 1 = .ok (.istore_n 2, 1) := by decide +kernel
theorem dX7_openJoints_2 : decode cX7_openJoints 2 = .ok (.iconst 1, 1) := by decide +kernel
theorem dX7_openJoints_3 : decode cX7_openJoints 3 = .ok (.istore_n 3, 1) := by decide +kernel
theorem dX7_openJoints_4 : decode cX7_openJoints 4 = .ok (.iload_n 3, 1) := by decide +kernel
theorem dX7_openJoints_5 : decode cX7_openJoints 5 = .ok (.aload_n 0, 1) := by decide +kernel
theorem dX7_openJoints_6 : decode cX7_openJoints 6 = .ok (.getfield 36, 3) := by decide +kernel
theorem dX7_openJoints_9 : decode cX7_openJoints 9 = .ok (.getfield 65, 3) := by decide +kernel
theorem dX7_openJoints_12 : decode cX7_openJoints 12 = .ok (.if_icmp .ge 49, 3) := by decide +kernel
theorem dX7_openJoints_15 : decode cX7_openJoints 15 = .ok (.iload_n 1, 1) := by decide +kernel
theorem dX7_openJoints_16 : decode cX7_openJoints 16 = .ok (.iload_n 3, 1) := by decide +kernel
theorem dX7_openJoints_17 : decode cX7_openJoints 17 = .ok (.invokestatic 94, 3) := by decide +kernel
theorem dX7_openJoints_20 : decode cX7_openJoints 20 = .ok (.istore 4, 2) := by decide +kernel
theorem dX7_openJoints_22 : decode cX7_openJoints 22 = .ok (.aload_n 0, 1) := by decide +kernel
theorem dX7_openJoints_23 : decode cX7_openJoints 23 = .ok (.getfield 9, 3) := by decide +kernel
theorem dX7_openJoints_26 : decode cX7_openJoints 26 = .ok (.iload 4, 2) := by decide +kernel
theorem dX7_openJoints_28 : decode cX7_openJoints 28 = .ok (.iaload, 1) := by decide +kernel
theorem dX7_openJoints_29 : decode cX7_openJoints 29 = .ok (.aload_n 0, 1) := by decide +kernel
theorem dX7_openJoints_30 : decode cX7_openJoints 30 = .ok (.getfield 9, 3) := by decide +kernel
theorem dX7_openJoints_33 : decode cX7_openJoints 33 = .ok (.iload 4, 2) := by decide +kernel
theorem dX7_openJoints_35 : decode cX7_openJoints 35 = .ok (.iconst 1, 1) := by decide +kernel
theorem dX7_openJoints_36 : decode cX7_openJoints 36 = .ok (.isub, 1) := by decide +kernel
theorem dX7_openJoints_37 : decode cX7_openJoints 37 = .ok (.iaload, 1) := by decide +kernel
theorem dX7_openJoints_38 : decode cX7_openJoints 38 = .ok (.isub, 1) := by decide +kernel
theorem dX7_openJoints_39 : decode cX7_openJoints 39 = .ok (.invokestatic 103, 3) := by decide +kernel
theorem dX7_openJoints_42 : decode cX7_openJoints 42 = .ok (.aload_n 0, 1) := by decide +kernel
theorem dX7_openJoints_43 : decode cX7_openJoints 43 = .ok (.getfield 36, 3) := by decide +kernel
theorem dX7_openJoints_46 : decode cX7_openJoints 46 = .ok (.getfield 62, 3) := by decide +kernel
theorem dX7_openJoints_49 : decode cX7_openJoints 49 = .ok (.if_icmp .le 6, 3) := by decide +kernel
theorem dX7_openJoints_52 : decode cX7_openJoints 52 = .ok (.iinc 2 1, 3) := by decide +kernel
theorem dX7_openJoints_55 : decode cX7_openJoints 55 = .ok (.iinc 3 1, 3) := by decide +kernel
theorem dX7_openJoints_58 : decode cX7_openJoints 58 = .ok (.goto (-54), 3) := by decide +kernel
theorem dX7_openJoints_61 : decode cX7_openJoints 61 = .ok (.iload_n 2, 1) := by decide +kernel
theorem dX7_openJoints_62 : decode cX7_openJoints 62 = .ok (.ireturn, 1) := by decide +kernel
theorem dX7_put_0 : decode cX7_put 0 = .ok (.aload_n 0, 1) := by decide +kernel
theorem dX7_put_1 : decode cX7_put 1 = .ok (.getfield 9, 3) := by decide +kernel
theorem dX7_put_4 : decode cX7_put 4 = .ok (.iload_n 1, 1) := by decide +kernel
theorem dX7_put_5 : decode cX7_put 5 = .ok (.iaload, 1) := by decide +kernel
theorem dX7_put_6 : decode cX7_put 6 = .ok (.istore 5, 2) := by decide +kernel
theorem dX7_put_8 : decode cX7_put 8 = .ok (.iload_n 1, 1) := by decide +kernel
theorem dX7_put_9 : decode cX7_put 9 = .ok (.iload 5, 2) := by decide +kernel
theorem dX7_put_11 : decode cX7_put 11 = .ok (.invokestatic 75, 3) := by decide +kernel
theorem dX7_put_14 : decode cX7_put 14 = .ok (.istore 6, 2) := by decide +kernel
theorem dX7_put_16 : decode cX7_put 16 = .ok (.aload_n 0, 1) := by decide +kernel
theorem dX7_put_17 : decode cX7_put 17 = .ok (.getfield 18, 3) := by decide +kernel
theorem dX7_put_20 : decode cX7_put 20 = .ok (.iload 6, 2) := by decide +kernel
theorem dX7_put_22 : decode cX7_put 22 = .ok (.iload_n 2, 1) := by decide +kernel
theorem dX7_put_23 : decode cX7_put 23 = .ok (.iastore, 1) := by decide +kernel
theorem dX7_put_24 : decode cX7_put 24 = .ok (.aload_n 0, 1) := by decide +kernel
theorem dX7_put_25 : decode cX7_put 25 = .ok (.getfield 21, 3) := by decide +kernel
theorem dX7_put_28 : decode cX7_put 28 = .ok (.iload 6, 2) := by decide +kernel
theorem dX7_put_30 : decode cX7_put 30 = .ok (.iload_n 3, 1) := by decide +kernel
theorem dX7_put_31 : decode cX7_put 31 = .ok (.iastore, 1) := by decide +kernel
theorem dX7_put_32 : decode cX7_put 32 = .ok (.aload_n 0, 1) := by decide +kernel
theorem dX7_put_33 : decode cX7_put 33 = .ok (.getfield 24, 3) := by decide +kernel
theorem dX7_put_36 : decode cX7_put 36 = .ok (.iload 6, 2) := by decide +kernel
theorem dX7_put_38 : decode cX7_put 38 = .ok (.iload 4, 2) := by decide +kernel
theorem dX7_put_40 : decode cX7_put 40 = .ok (.iastore, 1) := by decide +kernel
theorem dX7_put_41 : decode cX7_put 41 = .ok (.aload_n 0, 1) := by decide +kernel
theorem dX7_put_42 : decode cX7_put 42 = .ok (.getfield 33, 3) := by decide +kernel
theorem dX7_put_45 : decode cX7_put 45 = .ok (.iload_n 1, 1) := by decide +kernel
theorem dX7_put_46 : decode cX7_put 46 = .ok (.bipush 13, 2) := by decide +kernel
theorem dX7_put_48 : decode cX7_put 48 = .ok (.imul, 1) := by decide +kernel
theorem dX7_put_49 : decode cX7_put 49 = .ok (.iload 5, 2) := by decide +kernel
theorem dX7_put_51 : decode cX7_put 51 = .ok (.iadd, 1) := by decide +kernel
theorem dX7_put_52 : decode cX7_put 52 = .ok (.iconst 1, 1) := by decide +kernel
theorem dX7_put_53 : decode cX7_put 53 = .ok (.iadd, 1) := by decide +kernel
theorem dX7_put_54 : decode cX7_put 54 = .ok (.aload_n 0, 1) := by decide +kernel
theorem dX7_put_55 : decode cX7_put 55 = .ok (.iload_n 1, 1) := by decide +kernel
theorem dX7_put_56 : decode cX7_put 56 = .ok (.invokevirtual 79, 3) := by decide +kernel
theorem dX7_put_59 : decode cX7_put 59 = .ok (.aload_n 0, 1) := by decide +kernel
theorem dX7_put_60 : decode cX7_put 60 = .ok (.getfield 36, 3) := by decide +kernel
theorem dX7_put_63 : decode cX7_put 63 = .ok (.getfield 68, 3) := by decide +kernel
theorem dX7_put_66 : decode cX7_put 66 = .ok (.iload_n 2, 1) := by decide +kernel
theorem dX7_put_67 : decode cX7_put 67 = .ok (.iaload, 1) := by decide +kernel
theorem dX7_put_68 : decode cX7_put 68 = .ok (.isub, 1) := by decide +kernel
theorem dX7_put_69 : decode cX7_put 69 = .ok (.aload_n 0, 1) := by decide +kernel
theorem dX7_put_70 : decode cX7_put 70 = .ok (.getfield 36, 3) := by decide +kernel
theorem dX7_put_73 : decode cX7_put 73 = .ok (.getfield 83, 3) := by decide +kernel
theorem dX7_put_76 : decode cX7_put 76 = .ok (.iload_n 2, 1) := by decide +kernel
theorem dX7_put_77 : decode cX7_put 77 = .ok (.iaload, 1) := by decide +kernel
theorem dX7_put_78 : decode cX7_put 78 = .ok (.invokestatic 86, 3) := by decide +kernel
theorem dX7_put_81 : decode cX7_put 81 = .ok (.iastore, 1) := by decide +kernel
theorem dX7_put_82 : decode cX7_put 82 = .ok (.aload_n 0, 1) := by decide +kernel
theorem dX7_put_83 : decode cX7_put 83 = .ok (.getfield 9, 3) := by decide +kernel
theorem dX7_put_86 : decode cX7_put 86 = .ok (.iload_n 1, 1) := by decide +kernel
theorem dX7_put_87 : decode cX7_put 87 = .ok (.iload 5, 2) := by decide +kernel
theorem dX7_put_89 : decode cX7_put 89 = .ok (.iconst 1, 1) := by decide +kernel
theorem dX7_put_90 : decode cX7_put 90 = .ok (.iadd, 1) := by decide +kernel
theorem dX7_put_91 : decode cX7_put 91 = .ok (.iastore, 1) := by decide +kernel
theorem dX7_put_92 : decode cX7_put 92 = .ok (.aload_n 0, 1) := by decide +kernel
theorem dX7_put_93 : decode cX7_put 93 = .ok (.getfield 27, 3) := by decide +kernel
theorem dX7_put_96 : decode cX7_put 96 = .ok (.iload_n 1, 1) := by decide +kernel
theorem dX7_put_97 : decode cX7_put 97 = .ok (.bipush 8, 2) := by decide +kernel
theorem dX7_put_99 : decode cX7_put 99 = .ok (.idiv, 1) := by decide +kernel
theorem dX7_put_100 : decode cX7_put 100 = .ok (.dup2, 1) := by decide +kernel
theorem dX7_put_101 : decode cX7_put 101 = .ok (.iaload, 1) := by decide +kernel
theorem dX7_put_102 : decode cX7_put 102 = .ok (.iconst 1, 1) := by decide +kernel
theorem dX7_put_103 : decode cX7_put 103 = .ok (.iadd, 1) := by decide +kernel
theorem dX7_put_104 : decode cX7_put 104 = .ok (.iastore, 1) := by decide +kernel
theorem dX7_put_105 : decode cX7_put 105 = .ok (.aload_n 0, 1) := by decide +kernel
theorem dX7_put_106 : decode cX7_put 106 = .ok (.getfield 30, 3) := by decide +kernel
theorem dX7_put_109 : decode cX7_put 109 = .ok (.iload_n 1, 1) := by decide +kernel
theorem dX7_put_110 : decode cX7_put 110 = .ok (.bipush 8, 2) := by decide +kernel
theorem dX7_put_112 : decode cX7_put 112 = .ok (.idiv, 1) := by decide +kernel
theorem dX7_put_113 : decode cX7_put 113 = .ok (.dup2, 1) := by decide +kernel
theorem dX7_put_114 : decode cX7_put 114 = .ok (.iaload, 1) := by decide +kernel
theorem dX7_put_115 : decode cX7_put 115 = .ok (.aload_n 0, 1) := by decide +kernel
theorem dX7_put_116 : decode cX7_put 116 = .ok (.getfield 36, 3) := by decide +kernel
theorem dX7_put_119 : decode cX7_put 119 = .ok (.getfield 68, 3) := by decide +kernel
theorem dX7_put_122 : decode cX7_put 122 = .ok (.iload_n 2, 1) := by decide +kernel
theorem dX7_put_123 : decode cX7_put 123 = .ok (.iaload, 1) := by decide +kernel
theorem dX7_put_124 : decode cX7_put 124 = .ok (.iadd, 1) := by decide +kernel
theorem dX7_put_125 : decode cX7_put 125 = .ok (.iastore, 1) := by decide +kernel
theorem dX7_put_126 : decode cX7_put 126 = .ok (.aload_n 0, 1) := by decide +kernel
theorem dX7_put_127 : decode cX7_put 127 = .ok (.getfield 15, 3) := by decide +kernel
theorem dX7_put_130 : decode cX7_put 130 = .ok (.iload_n 2, 1) := by decide +kernel
theorem dX7_put_131 : decode cX7_put 131 = .ok (.dup2, 1) := by decide +kernel
theorem dX7_put_132 : decode cX7_put 132 = .ok (.iaload, 1) := by decide +kernel
theorem dX7_put_133 : decode cX7_put 133 = .ok (.iconst 1, 1) := by decide +kernel
theorem dX7_put_134 : decode cX7_put 134 = .ok (.isub, 1) := by decide +kernel
theorem dX7_put_135 : decode cX7_put 135 = .ok (.iastore, 1) := by decide +kernel
theorem dX7_put_136 : decode cX7_put 136 = .ok (.iload 5, 2) := by decide +kernel
theorem dX7_put_138 : decode cX7_put 138 = .ok (.iconst 1, 1) := by decide +kernel
theorem dX7_put_139 : decode cX7_put 139 = .ok (.iadd, 1) := by decide +kernel
theorem dX7_put_140 : decode cX7_put 140 = .ok (.ireturn, 1) := by decide +kernel
theorem dX7_remove_0 : decode cX7_remove 0 = .ok (.aload_n 0, 1) := by decide +kernel
theorem dX7_remove_1 : decode cX7_remove 1 = .ok (.getfield 9, 3) := by decide +kernel
theorem dX7_remove_4 : decode cX7_remove 4 = .ok (.iload_n 1, 1) := by decide +kernel
theorem dX7_remove_5 : decode cX7_remove 5 = .ok (.dup2, 1) := by decide +kernel
theorem dX7_remove_6 : decode cX7_remove 6 = .ok (.iaload, 1) := by decide +kernel
theorem dX7_remove_7 : decode cX7_remove 7 = .ok (.iconst 1, 1) := by decide +kernel
theorem dX7_remove_8 : decode cX7_remove 8 = .ok (.isub, 1) := by decide +kernel
theorem dX7_remove_9 : decode cX7_remove 9 = .ok (.iastore, 1) := by decide +kernel
theorem dX7_remove_10 : decode cX7_remove 10 = .ok (.aload_n 0, 1) := by decide +kernel
theorem dX7_remove_11 : decode cX7_remove 11 = .ok (.getfield 18, 3) := by decide +kernel
theorem dX7_remove_14 : decode cX7_remove 14 = .ok (.iload_n 1, 1) := by decide +kernel
theorem dX7_remove_15 : decode cX7_remove 15 = .ok (.aload_n 0, 1) := by decide +kernel
theorem dX7_remove_16 : decode cX7_remove 16 = .ok (.getfield 9, 3) := by decide +kernel
theorem dX7_remove_19 : decode cX7_remove 19 = .ok (.iload_n 1, 1) := by decide +kernel
theorem dX7_remove_20 : decode cX7_remove 20 = .ok (.iaload, 1) := by decide +kernel
theorem dX7_remove_21 : decode cX7_remove 21 = .ok (.invokestatic 75, 3) := by decide +kernel
theorem dX7_remove_24 : decode cX7_remove 24 = .ok (.iaload, 1) := by decide +kernel
theorem dX7_remove_25 : decode cX7_remove 25 = .ok (.istore_n 2, 1) := by decide +kernel
theorem dX7_remove_26 : decode cX7_remove 26 = .ok (.aload_n 0, 1) := by decide +kernel
theorem dX7_remove_27 : decode cX7_remove 27 = .ok (.getfield 27, 3) := by decide +kernel
theorem dX7_remove_30 : decode cX7_remove 30 = .ok (.iload_n 1, 1) := by decide +kernel
theorem dX7_remove_31 : decode cX7_remove 31 = .ok (.bipush 8, 2) := by decide +kernel
theorem dX7_remove_33 : decode cX7_remove 33 = .ok (.idiv, 1) := by decide +kernel
theorem dX7_remove_34 : decode cX7_remove 34 = .ok (.dup2, 1) := by decide +kernel
theorem dX7_remove_35 : decode cX7_remove 35 = .ok (.iaload, 1) := by decide +kernel
theorem dX7_remove_36 : decode cX7_remove 36 = .ok (.iconst 1, 1) := by decide +kernel
theorem dX7_remove_37 : decode cX7_remove 37 = .ok (.isub, 1) := by decide +kernel
theorem dX7_remove_38 : decode cX7_remove 38 = .ok (.iastore, 1) := by decide +kernel
theorem dX7_remove_39 : decode cX7_remove 39 = .ok (.aload_n 0, 1) := by decide +kernel
theorem dX7_remove_40 : decode cX7_remove 40 = .ok (.getfield 30, 3) := by decide +kernel
theorem dX7_remove_43 : decode cX7_remove 43 = .ok (.iload_n 1, 1) := by decide +kernel
theorem dX7_remove_44 : decode cX7_remove 44 = .ok (.bipush 8, 2) := by decide +kernel
theorem dX7_remove_46 : decode cX7_remove 46 = .ok (.idiv, 1) := by decide +kernel
theorem dX7_remove_47 : decode cX7_remove 47 = .ok (.dup2, 1) := by decide +kernel
theorem dX7_remove_48 : decode cX7_remove 48 = .ok (.iaload, 1) := by decide +kernel
theorem dX7_remove_49 : decode cX7_remove 49 = .ok (.aload_n 0, 1) := by decide +kernel
theorem dX7_remove_50 : decode cX7_remove 50 = .ok (.getfield 36, 3) := by decide +kernel
theorem dX7_remove_53 : decode cX7_remove 53 = .ok (.getfield 68, 3) := by decide +kernel
theorem dX7_remove_56 : decode cX7_remove 56 = .ok (.iload_n 2, 1) := by decide +kernel
theorem dX7_remove_57 : decode cX7_remove 57 = .ok (.iaload, 1) := by decide +kernel
theorem dX7_remove_58 : decode cX7_remove 58 = .ok (.isub, 1) := by decide +kernel
theorem dX7_remove_59 : decode cX7_remove 59 = .ok (.iastore, 1) := by decide +kernel
theorem dX7_remove_60 : decode cX7_remove 60 = .ok (.aload_n 0, 1) := by decide +kernel
theorem dX7_remove_61 : decode cX7_remove 61 = .ok (.getfield 15, 3) := by decide +kernel
theorem dX7_remove_64 : decode cX7_remove 64 = .ok (.iload_n 2, 1) := by decide +kernel
theorem dX7_remove_65 : decode cX7_remove 65 = .ok (.dup2, 1) := by decide +kernel
theorem dX7_remove_66 : decode cX7_remove 66 = .ok (.iaload, 1) := by decide +kernel
theorem dX7_remove_67 : decode cX7_remove 67 = .ok (.iconst 1, 1) := by decide +kernel
theorem dX7_remove_68 : decode cX7_remove 68 = .ok (.iadd, 1) := by decide +kernel
theorem dX7_remove_69 : decode cX7_remove 69 = .ok (.iastore, 1) := by decide +kernel
theorem dX7_remove_70 : decode cX7_remove 70 = .ok (.iload_n 2, 1) := by decide +kernel
theorem dX7_remove_71 : decode cX7_remove 71 = .ok (.ireturn, 1) := by decide +kernel
theorem dX7_roomOn_0 : decode cX7_roomOn 0 = .ok (.aload_n 0, 1) := by decide +kernel
theorem dX7_roomOn_1 : decode cX7_roomOn 1 = .ok (.getfield 33, 3) := by decide +kernel
theorem dX7_roomOn_4 : decode cX7_roomOn 4 = .ok (.iload_n 1, 1) := by decide +kernel
theorem dX7_roomOn_5 : decode cX7_roomOn 5 = .ok (.bipush 13, 2) := by decide +kernel
theorem dX7_roomOn_7 : decode cX7_roomOn 7 = .ok (.imul, 1) := by decide +kernel
theorem dX7_roomOn_8 : decode cX7_roomOn 8 = .ok (.aload_n 0, 1) := by decide +kernel
theorem dX7_roomOn_9 : decode cX7_roomOn 9 = .ok (.getfield 9, 3) := by decide +kernel
theorem dX7_roomOn_12 : decode cX7_roomOn 12 = .ok (.iload_n 1, 1) := by decide +kernel
theorem dX7_roomOn_13 : decode cX7_roomOn 13 = .ok (.iaload, 1) := by decide +kernel
theorem dX7_roomOn_14 : decode cX7_roomOn 14 = .ok (.iadd, 1) := by decide +kernel
theorem dX7_roomOn_15 : decode cX7_roomOn 15 = .ok (.iaload, 1) := by decide +kernel
theorem dX7_roomOn_16 : decode cX7_roomOn 16 = .ok (.ireturn, 1) := by decide +kernel
theorem dX7_stonesBy_0 : decode cX7_stonesBy 0 = .ok (.iconst 0, 1) := by decide +kernel
theorem dX7_stonesBy_1 : decode cX7_stonesBy 1 = .ok (.istore_n 3, 1) := by decide +kernel
theorem dX7_stonesBy_2 : decode cX7_stonesBy 2 = .ok (.iconst 0, 1) := by decide +kernel
theorem dX7_stonesBy_3 : decode cX7_stonesBy 3 = .ok (.istore 4, 2) := by decide +kernel
theorem dX7_stonesBy_5 : decode cX7_stonesBy 5 = .ok (.iload 4, 2) := by decide +kernel
theorem dX7_stonesBy_7 : decode cX7_stonesBy 7 = .ok (.aload_n 0, 1) := by decide +kernel
theorem dX7_stonesBy_8 : decode cX7_stonesBy 8 = .ok (.getfield 36, 3) := by decide +kernel
theorem dX7_stonesBy_11 : decode cX7_stonesBy 11 = .ok (.getfield 65, 3) := by decide +kernel
theorem dX7_stonesBy_14 : decode cX7_stonesBy 14 = .ok (.if_icmp .ge 57, 3) := by decide +kernel
theorem dX7_stonesBy_17 : decode cX7_stonesBy 17 = .ok (.iload_n 1, 1) := by decide +kernel
