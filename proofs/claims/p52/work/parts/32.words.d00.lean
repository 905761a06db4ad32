theorem dX10_back_0 : decode cX10_back 0 = .ok (.iload_n 1, 1) := by decide +kernel
theorem dX10_back_1 : decode cX10_back 1 = .ok (.ifCond .lt 12, 3) := by decide +kernel
theorem dX10_back_4 : decode cX10_back 4 = .ok (.iload_n 1, 1) := by decide +kernel
theorem dX10_back_5 : decode cX10_back 5 = .ok (.aload_n 0, 1) := by decide +kernel
theorem dX10_back_6 : decode cX10_back 6 = .ok (.getfield 40, 3) := by decide +kernel
theorem dX10_back_9 : decode cX10_back 9 = .ok (.arraylength, 1) := by decide +kernel
theorem dX10_back_10 : decode cX10_back 10 = .ok (.if_icmp .lt 6, 3) := by decide +kernel
theorem dX10_back_13 : decode cX10_back 13 = .ok (.bipush (-2), 2) := by decide +kernel
theorem dX10_back_15 : decode cX10_back 15 = .ok (.ireturn, 1) := by decide +kernel
theorem dX10_back_16 : decode cX10_back 16 = .ok (.aload_n 0, 1) := by decide +kernel
theorem dX10_back_17 : decode cX10_back 17 = .ok (.getfield 40, 3) := by decide +kernel
theorem dX10_back_20 : decode cX10_back 20 = .ok (.iload_n 1, 1) := by decide +kernel
theorem dX10_back_21 : decode cX10_back 21 = .ok (.baload, 1) := by decide +kernel
theorem dX10_back_22 : decode cX10_back 22 = .ok (.ifCond .ne 6, 3) := by decide +kernel
theorem dX10_back_25 : decode cX10_back 25 = .ok (.bipush (-6), 2) := by decide +kernel
theorem dX10_back_27 : decode cX10_back 27 = .ok (.ireturn, 1) := by decide +kernel
theorem dX10_back_28 : decode cX10_back 28 = .ok (.aload_n 0, 1) := by decide +kernel
theorem dX10_back_29 : decode cX10_back 29 = .ok (.getfield 27, 3) := by decide +kernel
theorem dX10_back_32 : decode cX10_back 32 = .ok (.aload_n 0, 1) := by decide +kernel
theorem dX10_back_33 : decode cX10_back 33 = .ok (.getfield 36, 3) := by decide +kernel
theorem dX10_back_36 : decode cX10_back 36 = .ok (.iload_n 1, 1) := by decide +kernel
theorem dX10_back_37 : decode cX10_back 37 = .ok (.aaload, 1) := by decide +kernel
theorem dX10_back_38 : decode cX10_back 38 = .ok (.invokevirtual 188, 3) := by decide +kernel
theorem dX10_back_41 : decode cX10_back 41 = .ok (.iconst 0, 1) := by decide +kernel
theorem dX10_back_42 : decode cX10_back 42 = .ok (.ireturn, 1) := by decide +kernel
theorem dX10_fill_0 : decode cX10_fill 0 = .ok (.aload_n 0, 1) := by decide +kernel
theorem dX10_fill_1 : decode cX10_fill 1 = .ok (.iload_n 1, 1) := by decide +kernel
theorem dX10_fill_2 : decode cX10_fill 2 = .ok (.invokevirtual 170, 3) := by decide +kernel
theorem dX10_fill_5 : decode cX10_fill 5 = .ok (.ifCond .eq 11, 3) := by decide +kernel
theorem dX10_fill_8 : decode cX10_fill 8 = .ok (.aload_n 0, 1) := by decide +kernel
theorem dX10_fill_9 : decode cX10_fill 9 = .ok (.iload_n 2, 1) := by decide +kernel
theorem dX10_fill_10 : decode cX10_fill 10 = .ok (.invokevirtual 117, 3) := by decide +kernel
theorem dX10_fill_13 : decode cX10_fill 13 = .ok (.ifCond .ne 6, 3) := by decide +kernel
theorem dX10_fill_16 : decode cX10_fill 16 = .ok (.bipush (-2), 2) := by decide +kernel
theorem dX10_fill_18 : decode cX10_fill 18 = .ok (.ireturn, 1) := by decide +kernel
theorem dX10_fill_19 : decode cX10_fill 19 = .ok (.aload_n 0, 1) := by decide +kernel
theorem dX10_fill_20 : decode cX10_fill 20 = .ok (.getfield 31, 3) := by decide +kernel
theorem dX10_fill_23 : decode cX10_fill 23 = .ok (.aload_n 0, 1) := by decide +kernel
theorem dX10_fill_24 : decode cX10_fill 24 = .ok (.getfield 27, 3) := by decide +kernel
theorem dX10_fill_27 : decode cX10_fill 27 = .ok (.invokevirtual 188, 3) := by decide +kernel
theorem dX10_fill_30 : decode cX10_fill 30 = .ok (.iconst 0, 1) := by decide +kernel
theorem dX10_fill_31 : decode cX10_fill 31 = .ok (.istore_n 3, 1) := by decide +kernel
theorem dX10_fill_32 : decode cX10_fill 32 = .ok (.iload_n 3, 1) := by decide +kernel
theorem dX10_fill_33 : decode cX10_fill 33 = .ok (.sipush 200, 3) := by decide +kernel
theorem dX10_fill_36 : decode cX10_fill 36 = .ok (.if_icmp .ge 71, 3) := by decide +kernel
theorem dX10_fill_39 : decode cX10_fill 39 = .ok (.aload_n 0, 1) := by decide +kernel
theorem dX10_fill_40 : decode cX10_fill 40 = .ok (.getfield 31, 3) := by decide +kernel
theorem dX10_fill_43 : decode cX10_fill 43 = .ok (.getfield 121, 3) := by decide +kernel
theorem dX10_fill_46 : decode cX10_fill 46 = .ok (.iload_n 1, 1) := by decide +kernel
theorem dX10_fill_47 : decode cX10_fill 47 = .ok (.aload_n 0, 1) := by decide +kernel
theorem dX10_fill_48 : decode cX10_fill 48 = .ok (.getfield 31, 3) := by decide +kernel
theorem dX10_fill_51 : decode cX10_fill 51 = .ok (.getfield 99, 3) := by decide +kernel
theorem dX10_fill_54 : decode cX10_fill 54 = .ok (.getfield 129, 3) := by decide +kernel
theorem dX10_fill_57 : decode cX10_fill 57 = .ok (.iload_n 2, 1) := by decide +kernel
theorem dX10_fill_58 : decode cX10_fill 58 = .ok (.iaload, 1) := by decide +kernel
theorem dX10_fill_59 : decode cX10_fill 59 = .ok (.bipush 8, 2) := by decide +kernel
theorem dX10_fill_61 : decode cX10_fill 61 = .ok (.invokevirtual 192, 3) := by decide +kernel
theorem dX10_fill_64 : decode cX10_fill 64 = .ok (.istore 4, 2) := by decide +kernel
theorem dX10_fill_66 : decode cX10_fill 66 = .ok (.iload 4, 2) := by decide +kernel
theorem dX10_fill_68 : decode cX10_fill 68 = .ok (.iconst (-1), 1) := by decide +kernel
theorem dX10_fill_69 : decode cX10_fill 69 = .ok (.if_icmp .ne 6, 3) := by decide +kernel
theorem dX10_fill_72 : decode cX10_fill 72 = .ok (.goto 35, 3) := by decide +kernel
theorem dX10_fill_75 : decode cX10_fill 75 = .ok (.aload_n 0, 1) := by decide +kernel
theorem dX10_fill_76 : decode cX10_fill 76 = .ok (.getfield 31, 3) := by decide +kernel
theorem dX10_fill_79 : decode cX10_fill 79 = .ok (.getfield 121, 3) := by decide +kernel
theorem dX10_fill_82 : decode cX10_fill 82 = .ok (.iload_n 1, 1) := by decide +kernel
theorem dX10_fill_83 : decode cX10_fill 83 = .ok (.iload 4, 2) := by decide +kernel
theorem dX10_fill_85 : decode cX10_fill 85 = .ok (.invokestatic 125, 3) := by decide +kernel
theorem dX10_fill_88 : decode cX10_fill 88 = .ok (.iload_n 2, 1) := by decide +kernel
theorem dX10_fill_89 : decode cX10_fill 89 = .ok (.iconst (-1), 1) := by decide +kernel
theorem dX10_fill_90 : decode cX10_fill 90 = .ok (.aload_n 0, 1) := by decide +kernel
theorem dX10_fill_91 : decode cX10_fill 91 = .ok (.getfield 31, 3) := by decide +kernel
theorem dX10_fill_94 : decode cX10_fill 94 = .ok (.getfield 141, 3) := by decide +kernel
theorem dX10_fill_97 : decode cX10_fill 97 = .ok (.invokevirtual 144, 3) := by decide +kernel
theorem dX10_fill_100 : decode cX10_fill 100 = .ok (.pop, 1) := by decide +kernel
theorem dX10_fill_101 : decode cX10_fill 101 = .ok (.iinc 3 1, 3) := by decide +kernel
theorem dX10_fill_104 : decode cX10_fill 104 = .ok (.goto (-72), 3) := by decide +kernel
theorem dX10_fill_107 : decode cX10_fill 107 = .ok (.iload_n 3, 1) := by decide +kernel
theorem dX10_fill_108 : decode cX10_fill 108 = .ok (.ireturn, 1) := by decide +kernel
theorem dX10_judge_0 : decode cX10_judge 0 = .ok (.aload_n 0, 1) := by decide +kernel
theorem dX10_judge_1 : decode cX10_judge 1 = .ok (.invokevirtual 196, 3) := by decide +kernel
theorem dX10_judge_4 : decode cX10_judge 4 = .ok (.ifCond .eq 11, 3) := by decide +kernel
theorem dX10_judge_7 : decode cX10_judge 7 = .ok (.aload_n 0, 1) := by decide +kernel
theorem dX10_judge_8 : decode cX10_judge 8 = .ok (.iload_n 1, 1) := by decide +kernel
theorem dX10_judge_9 : decode cX10_judge 9 = .ok (.invokevirtual 339, 3) := by decide +kernel
theorem dX10_judge_12 : decode cX10_judge 12 = .ok (.ifCond .ne 6, 3) := by decide +kernel
theorem dX10_judge_15 : decode cX10_judge 15 = .ok (.bipush (-2), 2) := by decide +kernel
theorem dX10_judge_17 : decode cX10_judge 17 = .ok (.ireturn, 1) := by decide +kernel
theorem dX10_judge_18 : decode cX10_judge 18 = .ok (.aload_n 0, 1) := by decide +kernel
theorem dX10_judge_19 : decode cX10_judge 19 = .ok (.getfield 47, 3) := by decide +kernel
theorem dX10_judge_22 : decode cX10_judge 22 = .ok (.iload_n 1, 1) := by decide +kernel
theorem dX10_judge_23 : decode cX10_judge 23 = .ok (.aaload, 1) := by decide +kernel
theorem dX10_judge_24 : decode cX10_judge 24 = .ok (.invokevirtual 342, 3) := by decide +kernel
theorem dX10_judge_27 : decode cX10_judge 27 = .ok (.ifCond .eq 8, 3) := by decide +kernel
theorem dX10_judge_30 : decode cX10_judge 30 = .ok (.bipush (-6), 2) := by decide +kernel
theorem dX10_judge_32 : decode cX10_judge 32 = .ok (.goto 13, 3) := by decide +kernel
theorem dX10_judge_35 : decode cX10_judge 35 = .ok (.aload_n 0, 1) := by decide +kernel
theorem dX10_judge_36 : decode cX10_judge 36 = .ok (.aload_n 0, 1) := by decide +kernel
theorem dX10_judge_37 : decode cX10_judge 37 = .ok (.getfield 47, 3) := by decide +kernel
theorem dX10_judge_40 : decode cX10_judge 40 = .ok (.iload_n 1, 1) := by decide +kernel
theorem dX10_judge_41 : decode cX10_judge 41 = .ok (.aaload, 1) := by decide +kernel
theorem dX10_judge_42 : decode cX10_judge 42 = .ok (.invokevirtual 345, 3) := by decide +kernel
theorem dX10_judge_45 : decode cX10_judge 45 = .ok (.ireturn, 1) := by decide +kernel
theorem dX10_keep_0 : decode cX10_keep 0 = .ok (.iload_n 1, 1) := by decide +kernel
theorem dX10_keep_1 : decode cX10_keep 1 = .ok (.ifCond .lt 12, 3) := by decide +kernel
theorem dX10_keep_4 : decode cX10_keep 4 = .ok (.iload_n 1, 1) := by decide +kernel
theorem dX10_keep_5 : decode cX10_keep 5 = .ok (.aload_n 0, 1) := by decide +kernel
theorem dX10_keep_6 : decode cX10_keep 6 = .ok (.getfield 40, 3) := by decide +kernel
theorem dX10_keep_9 : decode cX10_keep 9 = .ok (.arraylength, 1) := by decide +kernel
theorem dX10_keep_10 : decode cX10_keep 10 = .ok (.if_icmp .lt 6, 3) := by decide +kernel
theorem dX10_keep_13 : decode cX10_keep 13 = .ok (.bipush (-2), 2) := by decide +kernel
theorem dX10_keep_15 : decode cX10_keep 15 = .ok (.ireturn, 1) := by decide +kernel
theorem dX10_keep_16 : decode cX10_keep 16 = .ok (.aload_n 0, 1) := by decide +kernel
theorem dX10_keep_17 : decode cX10_keep 17 = .ok (.getfield 36, 3) := by decide +kernel
theorem dX10_keep_20 : decode cX10_keep 20 = .ok (.iload_n 1, 1) := by decide +kernel
theorem dX10_keep_21 : decode cX10_keep 21 = .ok (.aaload, 1) := by decide +kernel
theorem dX10_keep_22 : decode cX10_keep 22 = .ok (.aload_n 0, 1) := by decide +kernel
theorem dX10_keep_23 : decode cX10_keep 23 = .ok (.getfield 27, 3) := by decide +kernel
theorem dX10_keep_26 : decode cX10_keep 26 = .ok (.invokevirtual 188, 3) := by decide +kernel
theorem dX10_keep_29 : decode cX10_keep 29 = .ok (.aload_n 0, 1) := by decide +kernel
theorem dX10_keep_30 : decode cX10_keep 30 = .ok (.getfield 40, 3) := by decide +kernel
theorem dX10_keep_33 : decode cX10_keep 33 = .ok (.iload_n 1, 1) := by decide +kernel
theorem dX10_keep_34 : decode cX10_keep 34 = .ok (.iconst 1, 1) := by decide +kernel
theorem dX10_keep_35 : decode cX10_keep 35 = .ok (.bastore, 1) := by decide +kernel
theorem dX10_keep_36 : decode cX10_keep 36 = .ok (.iconst 0, 1) := by decide +kernel
theorem dX10_keep_37 : decode cX10_keep 37 = .ok (.ireturn, 1) := by decide +kernel
theorem dX10_layInThought_0 : decode cX10_layInThought 0 = .ok (.aload_n 0, 1) := by decide +kernel
theorem dX10_layInThought_1 : decode cX10_layInThought 1 = .ok (.getfield 31, 3) := by decide +kernel
theorem dX10_layInThought_4 : decode cX10_layInThought 4 = .ok (.aload_n 0, 1) := by decide +kernel
theorem dX10_layInThought_5 : decode cX10_layInThought 5 = .ok (.getfield 27, 3) := by decide +kernel
theorem dX10_layInThought_8 : decode cX10_layInThought 8 = .ok (.invokevirtual 188, 3) := by decide +kernel
theorem dX10_layInThought_11 : decode cX10_layInThought 11 = .ok (.iconst 0, 1) := by decide +kernel
theorem dX10_layInThought_12 : decode cX10_layInThought 12 = .ok (.istore_n 2, 1) := by decide +kernel
theorem dX10_layInThought_13 : decode cX10_layInThought 13 = .ok (.iload_n 2, 1) := by decide +kernel
theorem dX10_layInThought_14 : decode cX10_layInThought 14 = .ok (.aload_n 1, 1) := by decide +kernel
theorem dX10_layInThought_15 : decode cX10_layInThought 15 = .ok (.getfield 367, 3) := by decide +kernel
theorem dX10_layInThought_18 : decode cX10_layInThought 18 = .ok (.if_icmp .ge 24, 3) := by decide +kernel
theorem dX10_layInThought_21 : decode cX10_layInThought 21 = .ok (.aload_n 0, 1) := by decide +kernel
theorem dX10_layInThought_22 : decode cX10_layInThought 22 = .ok (.aload_n 1, 1) := by decide +kernel
theorem dX10_layInThought_23 : decode cX10_layInThought 23 = .ok (.getfield 368, 3) := by decide +kernel
theorem dX10_layInThought_26 : decode cX10_layInThought 26 = .ok (.iload_n 2, 1) := by decide +kernel
theorem dX10_layInThought_27 : decode cX10_layInThought 27 = .ok (.laload, 1) := by decide +kernel
theorem dX10_layInThought_28 : decode cX10_layInThought 28 = .ok (.invokevirtual 394, 3) := by decide +kernel
theorem dX10_layInThought_31 : decode cX10_layInThought 31 = .ok (.ifCond .ne 5, 3) := by decide +kernel
theorem dX10_layInThought_34 : decode cX10_layInThought 34 = .ok (.iload_n 2, 1) := by decide +kernel
theorem dX10_layInThought_35 : decode cX10_layInThought 35 = .ok (.ireturn, 1) := by decide +kernel
theorem dX10_layInThought_36 : decode cX10_layInThought 36 = .ok (.iinc 2 1, 3) := by decide +kernel
theorem dX10_layInThought_39 : decode cX10_layInThought 39 = .ok (.goto (-26), 3) := by decide +kernel
theorem dX10_layInThought_42 : decode cX10_layInThought 42 = .ok (.aload_n 1, 1) := by decide +kernel
theorem dX10_layInThought_43 : decode cX10_layInThought 43 = .ok (.getfield 367, 3) := by decide +kernel
theorem dX10_layInThought_46 : decode cX10_layInThought 46 = .ok (.ireturn, 1) := by decide +kernel
theorem dX10_layNumber_0 : decode cX10_layNumber 0 = .ok (.lload_n 1, 1) := by decide +kernel
theorem dX10_layNumber_1 : decode cX10_layNumber 1 = .ok (.lconst 0, 1) := by decide +kernel
theorem dX10_layNumber_2 : decode cX10_layNumber 2 = .ok (.lcmp, 1) := by decide +kernel
theorem dX10_layNumber_3 : decode cX10_layNumber 3 = .ok (.ifCond .lt 11, 3) := by decide +kernel
theorem dX10_layNumber_6 : decode cX10_layNumber 6 = .ok (.lload_n 1, 1) := by decide +kernel
theorem dX10_layNumber_7 : decode cX10_layNumber 7 = .ok (.ldc2_w 398, 3) := by decide +kernel
theorem dX10_layNumber_10 : decode cX10_layNumber 10 = .ok (.lcmp, 1) := by decide +kernel
theorem dX10_layNumber_11 : decode cX10_layNumber 11 = .ok (.ifCond .lt 5, 3) := by decide +kernel
theorem dX10_layNumber_14 : decode cX10_layNumber 14 = .ok (.iconst 0, 1) := by decide +kernel
theorem dX10_layNumber_15 : decode cX10_layNumber 15 = .ok (.ireturn, 1) := by decide +kernel
theorem dX10_layNumber_16 : decode cX10_layNumber 16 = .ok (.lload_n 1, 1) := by decide +kernel
theorem dX10_layNumber_17 : decode cX10_layNumber 17 = .ok (.l2i, 1) := by decide +kernel
theorem dX10_layNumber_18 : decode cX10_layNumber 18 = .ok (.istore_n 3, 1) := by decide +kernel
theorem dX10_layNumber_19 : decode cX10_layNumber 19 = .ok (.iload_n 3, 1) := by decide +kernel
theorem dX10_layNumber_20 : decode cX10_layNumber 20 = .ok (.sipush 1000, 3) := by decide +kernel
theorem dX10_layNumber_23 : decode cX10_layNumber 23 = .ok (.idiv, 1) := by decide +kernel
theorem dX10_layNumber_24 : decode cX10_layNumber 24 = .ok (.istore 4, 2) := by decide +kernel
theorem dX10_layNumber_26 : decode cX10_layNumber 26 = .ok (.iload_n 3, 1) := by decide +kernel
theorem dX10_layNumber_27 : decode cX10_layNumber 27 = .ok (.sipush 1000, 3) := by decide +kernel
theorem dX10_layNumber_30 : decode cX10_layNumber 30 = .ok (.irem, 1) := by decide +kernel
theorem dX10_layNumber_31 : decode cX10_layNumber 31 = .ok (.bipush 10, 2) := by decide +kernel
theorem dX10_layNumber_33 : decode cX10_layNumber 33 = .ok (.idiv, 1) := by decide +kernel
theorem dX10_layNumber_34 : decode cX10_layNumber 34 = .ok (.istore 5, 2) := by decide +kernel
theorem dX10_layNumber_36 : decode cX10_layNumber 36 = .ok (.iload_n 3, 1) := by decide +kernel
theorem dX10_layNumber_37 : decode cX10_layNumber 37 = .ok (.bipush 10, 2) := by decide +kernel
theorem dX10_layNumber_39 : decode cX10_layNumber 39 = .ok (.irem, 1) := by decide +kernel
theorem dX10_layNumber_40 : decode cX10_layNumber 40 = .ok (.istore 6, 2) := by decide +kernel
theorem dX10_layNumber_42 : decode cX10_layNumber 42 = .ok (.aload_n 0, 1) := by decide +kernel
theorem dX10_layNumber_43 : decode cX10_layNumber 43 = .ok (.iload 4, 2) := by decide +kernel
theorem dX10_layNumber_45 : decode cX10_layNumber 45 = .ok (.iload 5, 2) := by decide +kernel
theorem dX10_layNumber_47 : decode cX10_layNumber 47 = .ok (.invokevirtual 113, 3) := by decide +kernel
theorem dX10_layNumber_50 : decode cX10_layNumber 50 = .ok (.ifCond .eq 12, 3) := by decide +kernel
theorem dX10_layNumber_53 : decode cX10_layNumber 53 = .ok (.aload_n 0, 1) := by decide +kernel
theorem dX10_layNumber_54 : decode cX10_layNumber 54 = .ok (.iload 6, 2) := by decide +kernel
theorem dX10_layNumber_56 : decode cX10_layNumber 56 = .ok (.invokevirtual 117, 3) := by decide +kernel
theorem dX10_layNumber_59 : decode cX10_layNumber 59 = .ok (.ifCond .ne 5, 3) := by decide +kernel
theorem dX10_layNumber_62 : decode cX10_layNumber 62 = .ok (.iconst 0, 1) := by decide +kernel
theorem dX10_layNumber_63 : decode cX10_layNumber 63 = .ok (.ireturn, 1) := by decide +kernel
theorem dX10_layNumber_64 : decode cX10_layNumber 64 = .ok (.iload 4, 2) := by decide +kernel
theorem dX10_layNumber_66 : decode cX10_layNumber 66 = .ok (.iload 5, 2) := by decide +kernel
theorem dX10_layNumber_68 : decode cX10_layNumber 68 = .ok (.invokestatic 125, 3) := by decide +kernel
theorem dX10_layNumber_71 : decode cX10_layNumber 71 = .ok (.istore 7, 2) := by decide +kernel
theorem dX10_layNumber_73 : decode cX10_layNumber 73 = .ok (.aload_n 0, 1) := by decide +kernel
theorem dX10_layNumber_74 : decode cX10_layNumber 74 = .ok (.getfield 31, 3) := by decide +kernel
theorem dX10_layNumber_77 : decode cX10_layNumber 77 = .ok (.getfield 121, 3) := by decide +kernel
theorem dX10_layNumber_80 : decode cX10_layNumber 80 = .ok (.iload 7, 2) := by decide +kernel
theorem dX10_layNumber_82 : decode cX10_layNumber 82 = .ok (.iload 6, 2) := by decide +kernel
theorem dX10_layNumber_84 : decode cX10_layNumber 84 = .ok (.invokevirtual 400, 3) := by decide +kernel
theorem dX10_layNumber_87 : decode cX10_layNumber 87 = .ok (.ifCond .ne 5, 3) := by decide +kernel
theorem dX10_layNumber_90 : decode cX10_layNumber 90 = .ok (.iconst 0, 1) := by decide +kernel
theorem dX10_layNumber_91 : decode cX10_layNumber 91 = .ok (.ireturn, 1) := by decide +kernel
theorem dX10_layNumber_92 : decode cX10_layNumber 92 = .ok (.aload_n 0, 1) := by decide +kernel
theorem dX10_layNumber_93 : decode cX10_layNumber 93 = .ok (.getfield 31, 3) := by decide +kernel
theorem dX10_layNumber_96 : decode cX10_layNumber 96 = .ok (.getfield 121, 3) := by decide +kernel
theorem dX10_layNumber_99 : decode cX10_layNumber 99 = .ok (.iload 7, 2) := by decide +kernel
theorem dX10_layNumber_101 : decode cX10_layNumber 101 = .ok (.iload 6, 2) := by decide +kernel
theorem dX10_layNumber_103 : decode cX10_layNumber 103 = .ok (.iconst (-1), 1) := by decide +kernel
theorem dX10_layNumber_104 : decode cX10_layNumber 104 = .ok (.aload_n 0, 1) := by decide +kernel
theorem dX10_layNumber_105 : decode cX10_layNumber 105 = .ok (.getfield 31, 3) := by decide +kernel
theorem dX10_layNumber_108 : decode cX10_layNumber 108 = .ok (.getfield 141, 3) := by decide +kernel
theorem dX10_layNumber_111 : decode cX10_layNumber 111 = .ok (.invokevirtual 144, 3) := by decide +kernel
theorem dX10_layNumber_114 : decode cX10_layNumber 114 = .ok (.pop, 1) := by decide +kernel
theorem dX10_layNumber_115 : decode cX10_layNumber 115 = .ok (.iconst 1, 1) := by decide +kernel
theorem dX10_layNumber_116 : decode cX10_layNumber 116 = .ok (.ireturn, 1) := by decide +kernel
theorem dX10_paste_0 : decode cX10_paste 0 = .ok (.aload_n 0, 1) := by decide +kernel
theorem dX10_paste_1 : decode cX10_paste 1 = .ok (.iload_n 1, 1) := by decide +kernel
theorem dX10_paste_2 : decode cX10_paste 2 = .ok (.invokevirtual 339, 3) := by decide +kernel
theorem dX10_paste_5 : decode cX10_paste 5 = .ok (.ifCond .eq 11, 3) := by decide +kernel
theorem dX10_paste_8 : decode cX10_paste 8 = .ok (.aload_n 0, 1) := by decide +kernel
theorem dX10_paste_9 : decode cX10_paste 9 = .ok (.iload_n 3, 1) := by decide +kernel
theorem dX10_paste_10 : decode cX10_paste 10 = .ok (.invokevirtual 339, 3) := by decide +kernel
theorem dX10_paste_13 : decode cX10_paste 13 = .ok (.ifCond .ne 6, 3) := by decide +kernel
theorem dX10_paste_16 : decode cX10_paste 16 = .ok (.bipush (-2), 2) := by decide +kernel
theorem dX10_paste_18 : decode cX10_paste 18 = .ok (.ireturn, 1) := by decide +kernel
theorem dX10_paste_19 : decode cX10_paste 19 = .ok (.aload_n 0, 1) := by decide +kernel
theorem dX10_paste_20 : decode cX10_paste 20 = .ok (.getfield 47, 3) := by decide +kernel
theorem dX10_paste_23 : decode cX10_paste 23 = .ok (.iload_n 1, 1) := by decide +kernel
theorem dX10_paste_24 : decode cX10_paste 24 = .ok (.aaload, 1) := by decide +kernel
theorem dX10_paste_25 : decode cX10_paste 25 = .ok (.astore 6, 2) := by decide +kernel
theorem dX10_paste_27 : decode cX10_paste 27 = .ok (.aload_n 0, 1) := by decide +kernel
theorem dX10_paste_28 : decode cX10_paste 28 = .ok (.getfield 47, 3) := by decide +kernel
theorem dX10_paste_31 : decode cX10_paste 31 = .ok (.iload_n 3, 1) := by decide +kernel
theorem dX10_paste_32 : decode cX10_paste 32 = .ok (.aaload, 1) := by decide +kernel
theorem dX10_paste_33 : decode cX10_paste 33 = .ok (.astore 7, 2) := by decide +kernel
theorem dX10_paste_35 : decode cX10_paste 35 = .ok (.aload 6, 2) := by decide +kernel
theorem dX10_paste_37 : decode cX10_paste 37 = .ok (.invokevirtual 342, 3) := by decide +kernel
theorem dX10_paste_40 : decode cX10_paste 40 = .ok (.ifCond .ne 11, 3) := by decide +kernel
theorem dX10_paste_43 : decode cX10_paste 43 = .ok (.aload 7, 2) := by decide +kernel
theorem dX10_paste_45 : decode cX10_paste 45 = .ok (.invokevirtual 342, 3) := by decide +kernel
theorem dX10_paste_48 : decode cX10_paste 48 = .ok (.ifCond .eq 6, 3) := by decide +kernel
theorem dX10_paste_51 : decode cX10_paste 51 = .ok (.bipush (-6), 2) := by decide +kernel
theorem dX10_paste_53 : decode cX10_paste 53 = .ok (.ireturn, 1) := by decide +kernel
theorem dX10_paste_54 : decode cX10_paste 54 = .ok (.aload 6, 2) := by decide +kernel
theorem dX10_paste_56 : decode cX10_paste 56 = .ok (.getfield 375, 3) := by decide +kernel
theorem dX10_paste_59 : decode cX10_paste 59 = .ok (.aload 7, 2) := by decide +kernel
theorem dX10_paste_61 : decode cX10_paste 61 = .ok (.getfield 375, 3) := by decide +kernel
theorem dX10_paste_64 : decode cX10_paste 64 = .ok (.if_icmp .eq 6, 3) := by decide +kernel
theorem dX10_paste_67 : decode cX10_paste 67 = .ok (.bipush (-8), 2) := by decide +kernel
theorem dX10_paste_69 : decode cX10_paste 69 = .ok (.ireturn, 1) := by decide +kernel
theorem dX10_paste_70 : decode cX10_paste 70 = .ok (.aload 6, 2) := by decide +kernel
theorem dX10_paste_72 : decode cX10_paste 72 = .ok (.iload_n 2, 1) := by decide +kernel
theorem dX10_paste_73 : decode cX10_paste 73 = .ok (.iload 5, 2) := by decide +kernel
theorem dX10_paste_75 : decode cX10_paste 75 = .ok (.invokevirtual 378, 3) := by decide +kernel
theorem dX10_paste_78 : decode cX10_paste 78 = .ok (.ifCond .eq 15, 3) := by decide +kernel
theorem dX10_paste_81 : decode cX10_paste 81 = .ok (.aload 7, 2) := by decide +kernel
theorem dX10_paste_83 : decode cX10_paste 83 = .ok (.iload 4, 2) := by decide +kernel
theorem dX10_paste_85 : decode cX10_paste 85 = .ok (.iload 5, 2) := by decide +kernel
theorem dX10_paste_87 : decode cX10_paste 87 = .ok (.invokevirtual 378, 3) := by decide +kernel
theorem dX10_paste_90 : decode cX10_paste 90 = .ok (.ifCond .ne 6, 3) := by decide +kernel
theorem dX10_paste_93 : decode cX10_paste 93 = .ok (.bipush (-7), 2) := by decide +kernel
theorem dX10_paste_95 : decode cX10_paste 95 = .ok (.ireturn, 1) := by decide +kernel
theorem dX10_paste_96 : decode cX10_paste 96 = .ok (.aload 6, 2) := by decide +kernel
theorem dX10_paste_98 : decode cX10_paste 98 = .ok (.getfield 368, 3) := by decide +kernel
theorem dX10_paste_101 : decode cX10_paste 101 = .ok (.iload_n 2, 1) := by decide +kernel
theorem dX10_paste_102 : decode cX10_paste 102 = .ok (.aload 7, 2) := by decide +kernel
theorem dX10_paste_104 : decode cX10_paste 104 = .ok (.getfield 368, 3) := by decide +kernel
theorem dX10_paste_107 : decode cX10_paste 107 = .ok (.iload 4, 2) := by decide +kernel
theorem dX10_paste_109 : decode cX10_paste 109 = .ok (.iload 5, 2) := by decide +kernel
theorem dX10_paste_111 : decode cX10_paste 111 = .ok (.invokestatic 381, 3) := by decide +kernel
theorem dX10_paste_114 : decode cX10_paste 114 = .ok (.iconst 0, 1) := by decide +kernel
theorem dX10_paste_115 : decode cX10_paste 115 = .ok (.ireturn, 1) := by decide +kernel
theorem dX10_rise_0 : decode cX10_rise 0 = .ok (.aload_n 0, 1) := by decide +kernel
theorem dX10_rise_1 : decode cX10_rise 1 = .ok (.iload_n 1, 1) := by decide +kernel
theorem dX10_rise_2 : decode cX10_rise 2 = .ok (.iload_n 2, 1) := by decide +kernel
theorem dX10_rise_3 : decode cX10_rise 3 = .ok (.invokevirtual 113, 3) := by decide +kernel
theorem dX10_rise_6 : decode cX10_rise 6 = .ok (.ifCond .eq 13, 3) := by decide +kernel
theorem dX10_rise_9 : decode cX10_rise 9 = .ok (.iload_n 3, 1) := by decide +kernel
theorem dX10_rise_10 : decode cX10_rise 10 = .ok (.ifCond .lt 9, 3) := by decide +kernel
theorem dX10_rise_13 : decode cX10_rise 13 = .ok (.iload_n 3, 1) := by decide +kernel
theorem dX10_rise_14 : decode cX10_rise 14 = .ok (.bipush 12, 2) := by decide +kernel
theorem dX10_rise_16 : decode cX10_rise 16 = .ok (.if_icmp .le 6, 3) := by decide +kernel
theorem dX10_rise_19 : decode cX10_rise 19 = .ok (.bipush (-2), 2) := by decide +kernel
theorem dX10_rise_21 : decode cX10_rise 21 = .ok (.ireturn, 1) := by decide +kernel
theorem dX10_rise_22 : decode cX10_rise 22 = .ok (.iload_n 3, 1) := by decide +kernel
theorem dX10_rise_23 : decode cX10_rise 23 = .ok (.aload_n 0, 1) := by decide +kernel
theorem dX10_rise_24 : decode cX10_rise 24 = .ok (.getfield 27, 3) := by decide +kernel
theorem dX10_rise_27 : decode cX10_rise 27 = .ok (.getfield 99, 3) := by decide +kernel
theorem dX10_rise_30 : decode cX10_rise 30 = .ok (.getfield 308, 3) := by decide +kernel
theorem dX10_rise_33 : decode cX10_rise 33 = .ok (.if_icmp .le 5, 3) := by decide +kernel
theorem dX10_rise_36 : decode cX10_rise 36 = .ok (.iconst (-1), 1) := by decide +kernel
theorem dX10_rise_37 : decode cX10_rise 37 = .ok (.ireturn, 1) := by decide +kernel
theorem dX10_rise_38 : decode cX10_rise 38 = .ok (.iload_n 3, 1) := by decide +kernel
theorem dX10_rise_39 : decode cX10_rise 39 = .ok (.aload_n 0, 1) := by decide +kernel
theorem dX10_rise_40 : decode cX10_rise 40 = .ok (.getfield 27, 3) := by decide +kernel
theorem dX10_rise_43 : decode cX10_rise 43 = .ok (.getfield 121, 3) := by decide +kernel
theorem dX10_rise_46 : decode cX10_rise 46 = .ok (.getfield 148, 3) := by decide +kernel
theorem dX10_rise_49 : decode cX10_rise 49 = .ok (.iload_n 1, 1) := by decide +kernel
theorem dX10_rise_50 : decode cX10_rise 50 = .ok (.iload_n 2, 1) := by decide +kernel
theorem dX10_rise_51 : decode cX10_rise 51 = .ok (.invokestatic 125, 3) := by decide +kernel
theorem dX10_rise_54 : decode cX10_rise 54 = .ok (.iaload, 1) := by decide +kernel
theorem dX10_rise_55 : decode cX10_rise 55 = .ok (.isub, 1) := by decide +kernel
theorem dX10_rise_56 : decode cX10_rise 56 = .ok (.istore 4, 2) := by decide +kernel
theorem dX10_rise_58 : decode cX10_rise 58 = .ok (.iload 4, 2) := by decide +kernel
theorem dX10_rise_60 : decode cX10_rise 60 = .ok (.ifCond .gt 5, 3) := by decide +kernel
theorem dX10_rise_63 : decode cX10_rise 63 = .ok (.iconst 0, 1) := by decide +kernel
theorem dX10_rise_64 : decode cX10_rise 64 = .ok (.ireturn, 1) := by decide +kernel
theorem dX10_rise_65 : decode cX10_rise 65 = .ok (.iload 4, 2) := by decide +kernel
theorem dX10_rise_67 : decode cX10_rise 67 = .ok (.aload_n 0, 1) := by decide +kernel
theorem dX10_rise_68 : decode cX10_rise 68 = .ok (.iload_n 1, 1) := by decide +kernel
theorem dX10_rise_69 : decode cX10_rise 69 = .ok (.iload_n 2, 1) := by decide +kernel
theorem dX10_rise_70 : decode cX10_rise 70 = .ok (.iconst (-1), 1) := by decide +kernel
theorem dX10_rise_71 : decode cX10_rise 71 = .ok (.iload_n 3, 1) := by decide +kernel
theorem dX10_rise_72 : decode cX10_rise 72 = .ok (.invokevirtual 311, 3) := by decide +kernel
theorem dX10_rise_75 : decode cX10_rise 75 = .ok (.iadd, 1) := by decide +kernel
theorem dX10_rise_76 : decode cX10_rise 76 = .ok (.aload_n 0, 1) := by decide +kernel
theorem dX10_rise_77 : decode cX10_rise 77 = .ok (.iload_n 1, 1) := by decide +kernel
theorem dX10_rise_78 : decode cX10_rise 78 = .ok (.iload_n 2, 1) := by decide +kernel
theorem dX10_rise_79 : decode cX10_rise 79 = .ok (.iconst 1, 1) := by decide +kernel
theorem dX10_rise_80 : decode cX10_rise 80 = .ok (.iload_n 3, 1) := by decide +kernel
theorem dX10_rise_81 : decode cX10_rise 81 = .ok (.invokevirtual 311, 3) := by decide +kernel
theorem dX10_rise_84 : decode cX10_rise 84 = .ok (.iadd, 1) := by decide +kernel
theorem dX10_rise_85 : decode cX10_rise 85 = .ok (.ireturn, 1) := by decide +kernel
theorem dX10_runs_0 : decode cX10_runs 0 = .ok (.aload_n 0, 1) := by decide +kernel
theorem dX10_runs_1 : decode cX10_runs 1 = .ok (.invokevirtual 196, 3) := by decide +kernel
theorem dX10_runs_4 : decode cX10_runs 4 = .ok (.ifCond .eq 32, 3) := by decide +kernel
theorem dX10_runs_7 : decode cX10_runs 7 = .ok (.iload_n 1, 1) := by decide +kernel
theorem dX10_runs_8 : decode cX10_runs 8 = .ok (.invokestatic 319, 3) := by decide +kernel
theorem dX10_runs_11 : decode cX10_runs 11 = .ok (.ifCond .eq 25, 3) := by decide +kernel
theorem dX10_runs_14 : decode cX10_runs 14 = .ok (.iload_n 2, 1) := by decide +kernel
theorem dX10_runs_15 : decode cX10_runs 15 = .ok (.iconst 1, 1) := by decide +kernel
theorem dX10_runs_16 : decode cX10_runs 16 = .ok (.if_icmp .lt 20, 3) := by decide +kernel
theorem dX10_runs_19 : decode cX10_runs 19 = .ok (.iload_n 2, 1) := by decide +kernel
theorem dX10_runs_20 : decode cX10_runs 20 = .ok (.bipush 20, 2) := by decide +kernel
theorem dX10_runs_22 : decode cX10_runs 22 = .ok (.if_icmp .gt 14, 3) := by decide +kernel
theorem dX10_runs_25 : decode cX10_runs 25 = .ok (.iload_n 3, 1) := by decide +kernel
theorem dX10_runs_26 : decode cX10_runs 26 = .ok (.iconst 1, 1) := by decide +kernel
theorem dX10_runs_27 : decode cX10_runs 27 = .ok (.if_icmp .lt 9, 3) := by decide +kernel
theorem dX10_runs_30 : decode cX10_runs 30 = .ok (.iload_n 3, 1) := by decide +kernel
theorem dX10_runs_31 : decode cX10_runs 31 = .ok (.bipush 30, 2) := by decide +kernel
theorem dX10_runs_33 : decode cX10_runs 33 = .ok (.if_icmp .le 6, 3) := by decide +kernel
theorem dX10_runs_36 : decode cX10_runs 36 = .ok (.bipush (-2), 2) := by decide +kernel
theorem dX10_runs_38 : decode cX10_runs 38 = .ok (.ireturn, 1) := by decide +kernel
theorem dX10_runs_39 : decode cX10_runs 39 = .ok (.iload 4, 2) := by decide +kernel
theorem dX10_runs_41 : decode cX10_runs 41 = .ok (.ifCond .lt 9, 3) := by decide +kernel
theorem dX10_runs_44 : decode cX10_runs 44 = .ok (.iload 4, 2) := by decide +kernel
theorem dX10_runs_46 : decode cX10_runs 46 = .ok (.iconst 2, 1) := by decide +kernel
theorem dX10_runs_47 : decode cX10_runs 47 = .ok (.if_icmp .le 6, 3) := by decide +kernel
theorem dX10_runs_50 : decode cX10_runs 50 = .ok (.bipush (-2), 2) := by decide +kernel
theorem dX10_runs_52 : decode cX10_runs 52 = .ok (.ireturn, 1) := by decide +kernel
theorem dX10_runs_53 : decode cX10_runs 53 = .ok (.aload_n 0, 1) := by decide +kernel
theorem dX10_runs_54 : decode cX10_runs 54 = .ok (.getfield 27, 3) := by decide +kernel
theorem dX10_runs_57 : decode cX10_runs 57 = .ok (.getfield 141, 3) := by decide +kernel
theorem dX10_runs_60 : decode cX10_runs 60 = .ok (.iload_n 3, 1) := by decide +kernel
theorem dX10_runs_61 : decode cX10_runs 61 = .ok (.iadd, 1) := by decide +kernel
theorem dX10_runs_62 : decode cX10_runs 62 = .ok (.bipush 100, 2) := by decide +kernel
theorem dX10_runs_64 : decode cX10_runs 64 = .ok (.if_icmp .le 6, 3) := by decide +kernel
theorem dX10_runs_67 : decode cX10_runs 67 = .ok (.bipush (-3), 2) := by decide +kernel
theorem dX10_runs_69 : decode cX10_runs 69 = .ok (.ireturn, 1) := by decide +kernel
theorem dX10_runs_70 : decode cX10_runs 70 = .ok (.iconst 0, 1) := by decide +kernel
theorem dX10_runs_71 : decode cX10_runs 71 = .ok (.istore 5, 2) := by decide +kernel
theorem dX10_runs_73 : decode cX10_runs 73 = .ok (.iconst 0, 1) := by decide +kernel
theorem dX10_runs_74 : decode cX10_runs 74 = .ok (.istore 6, 2) := by decide +kernel
theorem dX10_runs_76 : decode cX10_runs 76 = .ok (.iload 6, 2) := by decide +kernel
theorem dX10_runs_78 : decode cX10_runs 78 = .ok (.iload_n 2, 1) := by decide +kernel
theorem dX10_runs_79 : decode cX10_runs 79 = .ok (.if_icmp .ge 76, 3) := by decide +kernel
theorem dX10_runs_82 : decode cX10_runs 82 = .ok (.aload_n 0, 1) := by decide +kernel
theorem dX10_runs_83 : decode cX10_runs 83 = .ok (.getfield 31, 3) := by decide +kernel
theorem dX10_runs_86 : decode cX10_runs 86 = .ok (.aload_n 0, 1) := by decide +kernel
theorem dX10_runs_87 : decode cX10_runs 87 = .ok (.getfield 27, 3) := by decide +kernel
theorem dX10_runs_90 : decode cX10_runs 90 = .ok (.invokevirtual 188, 3) := by decide +kernel
theorem dX10_runs_93 : decode cX10_runs 93 = .ok (.aload_n 0, 1) := by decide +kernel
theorem dX10_runs_94 : decode cX10_runs 94 = .ok (.getfield 31, 3) := by decide +kernel
theorem dX10_runs_97 : decode cX10_runs 97 = .ok (.iload_n 1, 1) := by decide +kernel
theorem dX10_runs_98 : decode cX10_runs 98 = .ok (.i2l, 1) := by decide +kernel
theorem dX10_runs_99 : decode cX10_runs 99 = .ok (.iload 6, 2) := by decide +kernel
theorem dX10_runs_101 : decode cX10_runs 101 = .ok (.i2l, 1) := by decide +kernel
theorem dX10_runs_102 : decode cX10_runs 102 = .ok (.ladd, 1) := by decide +kernel
theorem dX10_runs_103 : decode cX10_runs 103 = .ok (.iload_n 3, 1) := by decide +kernel
theorem dX10_runs_104 : decode cX10_runs 104 = .ok (.invokevirtual 329, 3) := by decide +kernel
theorem dX10_runs_107 : decode cX10_runs 107 = .ok (.pop, 1) := by decide +kernel
theorem dX10_runs_108 : decode cX10_runs 108 = .ok (.iload 5, 2) := by decide +kernel
theorem dX10_runs_110 : decode cX10_runs 110 = .ok (.iload 4, 2) := by decide +kernel
theorem dX10_runs_112 : decode cX10_runs 112 = .ok (.iconst 2, 1) := by decide +kernel
theorem dX10_runs_113 : decode cX10_runs 113 = .ok (.if_icmp .ne 16, 3) := by decide +kernel
theorem dX10_runs_116 : decode cX10_runs 116 = .ok (.aload_n 0, 1) := by decide +kernel
theorem dX10_runs_117 : decode cX10_runs 117 = .ok (.getfield 31, 3) := by decide +kernel
theorem dX10_runs_120 : decode cX10_runs 120 = .ok (.getfield 121, 3) := by decide +kernel
theorem dX10_runs_123 : decode cX10_runs 123 = .ok (.invokevirtual 333, 3) := by decide +kernel
theorem dX10_runs_126 : decode cX10_runs 126 = .ok (.goto 20, 3) := by decide +kernel
theorem dX10_runs_129 : decode cX10_runs 129 = .ok (.aload_n 0, 1) := by decide +kernel
theorem dX10_runs_130 : decode cX10_runs 130 = .ok (.getfield 31, 3) := by decide +kernel
theorem dX10_runs_133 : decode cX10_runs 133 = .ok (.getfield 336, 3) := by decide +kernel
theorem dX10_runs_136 : decode cX10_runs 136 = .ok (.iload 4, 2) := by decide +kernel
theorem dX10_runs_138 : decode cX10_runs 138 = .ok (.if_icmp .ne 7, 3) := by decide +kernel
theorem dX10_runs_141 : decode cX10_runs 141 = .ok (.iconst 1, 1) := by decide +kernel
theorem dX10_runs_142 : decode cX10_runs 142 = .ok (.goto 4, 3) := by decide +kernel
theorem dX10_runs_145 : decode cX10_runs 145 = .ok (.iconst 0, 1) := by decide +kernel
theorem dX10_runs_146 : decode cX10_runs 146 = .ok (.iadd, 1) := by decide +kernel
theorem dX10_runs_147 : decode cX10_runs 147 = .ok (.istore 5, 2) := by decide +kernel
