theorem dX3_blowOff_0 : decode cX3_blowOff 0 = .ok (.iconst 0, 1) := by decide +kernel
theorem dX3_blowOff_1 : decode cX3_blowOff 1 = .ok (.istore_n 1, 1) := by decide +kernel
theorem dX3_blowOff_2 : decode cX3_blowOff 2 = .ok (.iconst 0, 1) := by decide +kernel
theorem dX3_blowOff_3 : decode cX3_blowOff 3 = .ok (.istore_n 2, 1) := by decide +kernel
theorem dX3_blowOff_4 : decode cX3_blowOff 4 = .ok (.iload_n 2, 1) := by decide +kernel
theorem dX3_blowOff_5 : decode cX3_blowOff 5 = .ok (.bipush 16, 2) := by decide +kernel
theorem dX3_blowOff_7 : decode cX3_blowOff 7 = .ok (.if_icmp .ge 47, 3) := by decide +kernel
theorem dX3_blowOff_10 : decode cX3_blowOff 10 = .ok (.aload_n 0, 1) := by decide +kernel
theorem dX3_blowOff_11 : decode cX3_blowOff 11 = .ok (.getfield 26, 3) := by decide +kernel
theorem dX3_blowOff_14 : decode cX3_blowOff 14 = .ok (.getfield 154, 3) := by decide +kernel
theorem dX3_blowOff_17 : decode cX3_blowOff 17 = .ok (.iload_n 2, 1) := by decide +kernel
theorem dX3_blowOff_18 : decode cX3_blowOff 18 = .ok (.iaload, 1) := by decide +kernel
theorem dX3_blowOff_19 : decode cX3_blowOff 19 = .ok (.ifCond .le 29, 3) := by decide +kernel
theorem dX3_blowOff_22 : decode cX3_blowOff 22 = .ok (.aload_n 0, 1) := by decide +kernel
theorem dX3_blowOff_23 : decode cX3_blowOff 23 = .ok (.invokevirtual 157, 3) := by decide +kernel
theorem dX3_blowOff_26 : decode cX3_blowOff 26 = .ok (.aload_n 0, 1) := by decide +kernel
theorem dX3_blowOff_27 : decode cX3_blowOff 27 = .ok (.getfield 22, 3) := by decide +kernel
theorem dX3_blowOff_30 : decode cX3_blowOff 30 = .ok (.getfield 161, 3) := by decide +kernel
theorem dX3_blowOff_33 : decode cX3_blowOff 33 = .ok (.if_icmp .ge 15, 3) := by decide +kernel
theorem dX3_blowOff_36 : decode cX3_blowOff 36 = .ok (.aload_n 0, 1) := by decide +kernel
theorem dX3_blowOff_37 : decode cX3_blowOff 37 = .ok (.getfield 26, 3) := by decide +kernel
theorem dX3_blowOff_40 : decode cX3_blowOff 40 = .ok (.iload_n 2, 1) := by decide +kernel
theorem dX3_blowOff_41 : decode cX3_blowOff 41 = .ok (.invokevirtual 164, 3) := by decide +kernel
theorem dX3_blowOff_44 : decode cX3_blowOff 44 = .ok (.pop, 1) := by decide +kernel
theorem dX3_blowOff_45 : decode cX3_blowOff 45 = .ok (.iinc 1 1, 3) := by decide +kernel
theorem dX3_blowOff_48 : decode cX3_blowOff 48 = .ok (.iinc 2 1, 3) := by decide +kernel
theorem dX3_blowOff_51 : decode cX3_blowOff 51 = .ok (.goto (-47), 3) := by decide +kernel
theorem dX3_blowOff_54 : decode cX3_blowOff 54 = .ok (.iload_n 1, 1) := by decide +kernel
theorem dX3_blowOff_55 : decode cX3_blowOff 55 = .ok (.ireturn, 1) := by decide +kernel
theorem dX3_cast_0 : decode cX3_cast 0 = .ok (.aload_n 0, 1) := by decide +kernel
theorem dX3_cast_1 : decode cX3_cast 1 = .ok (.iload_n 1, 1) := by decide +kernel
theorem dX3_cast_2 : decode cX3_cast 2 = .ok (.invokevirtual 81, 3) := by decide +kernel
theorem dX3_cast_5 : decode cX3_cast 5 = .ok (.ifCond .eq 12, 3) := by decide +kernel
theorem dX3_cast_8 : decode cX3_cast 8 = .ok (.aload_n 0, 1) := by decide +kernel
theorem dX3_cast_9 : decode cX3_cast 9 = .ok (.getfield 41, 3) := by decide +kernel
theorem dX3_cast_12 : decode cX3_cast 12 = .ok (.bipush 100, 2) := by decide +kernel
theorem dX3_cast_14 : decode cX3_cast 14 = .ok (.if_icmp .lt 5, 3) := by decide +kernel
theorem dX3_cast_17 : decode cX3_cast 17 = .ok (.iconst (-1), 1) := by decide +kernel
theorem dX3_cast_18 : decode cX3_cast 18 = .ok (.ireturn, 1) := by decide +kernel
theorem dX3_cast_19 : decode cX3_cast 19 = .ok (.aload_n 0, 1) := by decide +kernel
theorem dX3_cast_20 : decode cX3_cast 20 = .ok (.iload_n 1, 1) := by decide +kernel
theorem dX3_cast_21 : decode cX3_cast 21 = .ok (.invokevirtual 118, 3) := by decide +kernel
theorem dX3_cast_24 : decode cX3_cast 24 = .ok (.istore_n 2, 1) := by decide +kernel
theorem dX3_cast_25 : decode cX3_cast 25 = .ok (.aload_n 0, 1) := by decide +kernel
theorem dX3_cast_26 : decode cX3_cast 26 = .ok (.iload_n 1, 1) := by decide +kernel
theorem dX3_cast_27 : decode cX3_cast 27 = .ok (.iload_n 2, 1) := by decide +kernel
theorem dX3_cast_28 : decode cX3_cast 28 = .ok (.invokevirtual 121, 3) := by decide +kernel
theorem dX3_cast_31 : decode cX3_cast 31 = .ok (.istore_n 3, 1) := by decide +kernel
theorem dX3_cast_32 : decode cX3_cast 32 = .ok (.iload_n 3, 1) := by decide +kernel
theorem dX3_cast_33 : decode cX3_cast 33 = .ok (.iconst (-1), 1) := by decide +kernel
theorem dX3_cast_34 : decode cX3_cast 34 = .ok (.if_icmp .ne 5, 3) := by decide +kernel
theorem dX3_cast_37 : decode cX3_cast 37 = .ok (.iconst (-1), 1) := by decide +kernel
theorem dX3_cast_38 : decode cX3_cast 38 = .ok (.ireturn, 1) := by decide +kernel
theorem dX3_cast_39 : decode cX3_cast 39 = .ok (.aload_n 0, 1) := by decide +kernel
theorem dX3_cast_40 : decode cX3_cast 40 = .ok (.iload_n 1, 1) := by decide +kernel
theorem dX3_cast_41 : decode cX3_cast 41 = .ok (.invokevirtual 107, 3) := by decide +kernel
theorem dX3_cast_44 : decode cX3_cast 44 = .ok (.istore 4, 2) := by decide +kernel
theorem dX3_cast_46 : decode cX3_cast 46 = .ok (.iload 4, 2) := by decide +kernel
theorem dX3_cast_48 : decode cX3_cast 48 = .ok (.iload_n 3, 1) := by decide +kernel
theorem dX3_cast_49 : decode cX3_cast 49 = .ok (.invokestatic 124, 3) := by decide +kernel
theorem dX3_cast_52 : decode cX3_cast 52 = .ok (.istore 5, 2) := by decide +kernel
theorem dX3_cast_54 : decode cX3_cast 54 = .ok (.aload_n 0, 1) := by decide +kernel
theorem dX3_cast_55 : decode cX3_cast 55 = .ok (.getfield 26, 3) := by decide +kernel
theorem dX3_cast_58 : decode cX3_cast 58 = .ok (.iload 5, 2) := by decide +kernel
theorem dX3_cast_60 : decode cX3_cast 60 = .ok (.iload_n 2, 1) := by decide +kernel
theorem dX3_cast_61 : decode cX3_cast 61 = .ok (.iload_n 1, 1) := by decide +kernel
theorem dX3_cast_62 : decode cX3_cast 62 = .ok (.aload_n 0, 1) := by decide +kernel
theorem dX3_cast_63 : decode cX3_cast 63 = .ok (.getfield 41, 3) := by decide +kernel
theorem dX3_cast_66 : decode cX3_cast 66 = .ok (.invokevirtual 127, 3) := by decide +kernel
theorem dX3_cast_69 : decode cX3_cast 69 = .ok (.pop, 1) := by decide +kernel
theorem dX3_cast_70 : decode cX3_cast 70 = .ok (.aload_n 0, 1) := by decide +kernel
theorem dX3_cast_71 : decode cX3_cast 71 = .ok (.getfield 19, 3) := by decide +kernel
theorem dX3_cast_74 : decode cX3_cast 74 = .ok (.iconst 2, 1) := by decide +kernel
theorem dX3_cast_75 : decode cX3_cast 75 = .ok (.aload_n 0, 1) := by decide +kernel
theorem dX3_cast_76 : decode cX3_cast 76 = .ok (.getfield 41, 3) := by decide +kernel
theorem dX3_cast_79 : decode cX3_cast 79 = .ok (.imul, 1) := by decide +kernel
theorem dX3_cast_80 : decode cX3_cast 80 = .ok (.iload 4, 2) := by decide +kernel
theorem dX3_cast_82 : decode cX3_cast 82 = .ok (.iadd, 1) := by decide +kernel
theorem dX3_cast_83 : decode cX3_cast 83 = .ok (.dup2, 1) := by decide +kernel
theorem dX3_cast_84 : decode cX3_cast 84 = .ok (.iaload, 1) := by decide +kernel
theorem dX3_cast_85 : decode cX3_cast 85 = .ok (.iconst 1, 1) := by decide +kernel
theorem dX3_cast_86 : decode cX3_cast 86 = .ok (.iadd, 1) := by decide +kernel
theorem dX3_cast_87 : decode cX3_cast 87 = .ok (.iastore, 1) := by decide +kernel
theorem dX3_cast_88 : decode cX3_cast 88 = .ok (.aload_n 0, 1) := by decide +kernel
theorem dX3_cast_89 : decode cX3_cast 89 = .ok (.dup, 1) := by decide +kernel
theorem dX3_cast_90 : decode cX3_cast 90 = .ok (.getfield 50, 3) := by decide +kernel
theorem dX3_cast_93 : decode cX3_cast 93 = .ok (.iconst 1, 1) := by decide +kernel
theorem dX3_cast_94 : decode cX3_cast 94 = .ok (.iadd, 1) := by decide +kernel
theorem dX3_cast_95 : decode cX3_cast 95 = .ok (.putfield 50, 3) := by decide +kernel
theorem dX3_cast_98 : decode cX3_cast 98 = .ok (.iload 5, 2) := by decide +kernel
theorem dX3_cast_100 : decode cX3_cast 100 = .ok (.ireturn, 1) := by decide +kernel
theorem dX3_columnOf_0 : decode cX3_columnOf 0 = .ok (.iload_n 2, 1) := by decide +kernel
theorem dX3_columnOf_1 : decode cX3_columnOf 1 = .ok (.iconst (-1), 1) := by decide +kernel
theorem dX3_columnOf_2 : decode cX3_columnOf 2 = .ok (.if_icmp .ne 5, 3) := by decide +kernel
theorem dX3_columnOf_5 : decode cX3_columnOf 5 = .ok (.iconst (-1), 1) := by decide +kernel
theorem dX3_columnOf_6 : decode cX3_columnOf 6 = .ok (.ireturn, 1) := by decide +kernel
theorem dX3_columnOf_7 : decode cX3_columnOf 7 = .ok (.aload_n 0, 1) := by decide +kernel
theorem dX3_columnOf_8 : decode cX3_columnOf 8 = .ok (.getfield 26, 3) := by decide +kernel
theorem dX3_columnOf_11 : decode cX3_columnOf 11 = .ok (.aload_n 0, 1) := by decide +kernel
theorem dX3_columnOf_12 : decode cX3_columnOf 12 = .ok (.iload_n 1, 1) := by decide +kernel
theorem dX3_columnOf_13 : decode cX3_columnOf 13 = .ok (.invokevirtual 107, 3) := by decide +kernel
theorem dX3_columnOf_16 : decode cX3_columnOf 16 = .ok (.aload_n 0, 1) := by decide +kernel
theorem dX3_columnOf_17 : decode cX3_columnOf 17 = .ok (.getfield 22, 3) := by decide +kernel
theorem dX3_columnOf_20 : decode cX3_columnOf 20 = .ok (.getfield 94, 3) := by decide +kernel
theorem dX3_columnOf_23 : decode cX3_columnOf 23 = .ok (.iload_n 2, 1) := by decide +kernel
theorem dX3_columnOf_24 : decode cX3_columnOf 24 = .ok (.iaload, 1) := by decide +kernel
theorem dX3_columnOf_25 : decode cX3_columnOf 25 = .ok (.aload_n 0, 1) := by decide +kernel
theorem dX3_columnOf_26 : decode cX3_columnOf 26 = .ok (.getfield 22, 3) := by decide +kernel
theorem dX3_columnOf_29 : decode cX3_columnOf 29 = .ok (.getfield 111, 3) := by decide +kernel
theorem dX3_columnOf_32 : decode cX3_columnOf 32 = .ok (.iload_n 1, 1) := by decide +kernel
theorem dX3_columnOf_33 : decode cX3_columnOf 33 = .ok (.iaload, 1) := by decide +kernel
theorem dX3_columnOf_34 : decode cX3_columnOf 34 = .ok (.invokevirtual 114, 3) := by decide +kernel
theorem dX3_columnOf_37 : decode cX3_columnOf 37 = .ok (.ireturn, 1) := by decide +kernel
theorem dX3_elect_0 : decode cX3_elect 0 = .ok (.iconst 0, 1) := by decide +kernel
theorem dX3_elect_1 : decode cX3_elect 1 = .ok (.istore_n 2, 1) := by decide +kernel
theorem dX3_elect_2 : decode cX3_elect 2 = .ok (.iload_n 2, 1) := by decide +kernel
theorem dX3_elect_3 : decode cX3_elect 3 = .ok (.aload_n 0, 1) := by decide +kernel
theorem dX3_elect_4 : decode cX3_elect 4 = .ok (.getfield 22, 3) := by decide +kernel
theorem dX3_elect_7 : decode cX3_elect 7 = .ok (.getfield 78, 3) := by decide +kernel
theorem dX3_elect_10 : decode cX3_elect 10 = .ok (.if_icmp .ge 24, 3) := by decide +kernel
theorem dX3_elect_13 : decode cX3_elect 13 = .ok (.iload_n 1, 1) := by decide +kernel
theorem dX3_elect_14 : decode cX3_elect 14 = .ok (.iload_n 2, 1) := by decide +kernel
theorem dX3_elect_15 : decode cX3_elect 15 = .ok (.ishr, 1) := by decide +kernel
theorem dX3_elect_16 : decode cX3_elect 16 = .ok (.iconst 1, 1) := by decide +kernel
theorem dX3_elect_17 : decode cX3_elect 17 = .ok (.iand, 1) := by decide +kernel
theorem dX3_elect_18 : decode cX3_elect 18 = .ok (.iconst 1, 1) := by decide +kernel
theorem dX3_elect_19 : decode cX3_elect 19 = .ok (.if_icmp .ne 9, 3) := by decide +kernel
theorem dX3_elect_22 : decode cX3_elect 22 = .ok (.aload_n 0, 1) := by decide +kernel
theorem dX3_elect_23 : decode cX3_elect 23 = .ok (.iload_n 2, 1) := by decide +kernel
theorem dX3_elect_24 : decode cX3_elect 24 = .ok (.invokevirtual 134, 3) := by decide +kernel
theorem dX3_elect_27 : decode cX3_elect 27 = .ok (.pop, 1) := by decide +kernel
theorem dX3_elect_28 : decode cX3_elect 28 = .ok (.iinc 2 1, 3) := by decide +kernel
theorem dX3_elect_31 : decode cX3_elect 31 = .ok (.goto (-29), 3) := by decide +kernel
theorem dX3_elect_34 : decode cX3_elect 34 = .ok (.aload_n 0, 1) := by decide +kernel
theorem dX3_elect_35 : decode cX3_elect 35 = .ok (.aload_n 0, 1) := by decide +kernel
theorem dX3_elect_36 : decode cX3_elect 36 = .ok (.getfield 47, 3) := by decide +kernel
theorem dX3_elect_39 : decode cX3_elect 39 = .ok (.invokevirtual 137, 3) := by decide +kernel
theorem dX3_elect_42 : decode cX3_elect 42 = .ok (.istore_n 2, 1) := by decide +kernel
theorem dX3_elect_43 : decode cX3_elect 43 = .ok (.aload_n 0, 1) := by decide +kernel
theorem dX3_elect_44 : decode cX3_elect 44 = .ok (.iload_n 2, 1) := by decide +kernel
theorem dX3_elect_45 : decode cX3_elect 45 = .ok (.iconst 2, 1) := by decide +kernel
theorem dX3_elect_46 : decode cX3_elect 46 = .ok (.if_icmp .ne 10, 3) := by decide +kernel
theorem dX3_elect_49 : decode cX3_elect 49 = .ok (.aload_n 0, 1) := by decide +kernel
theorem dX3_elect_50 : decode cX3_elect 50 = .ok (.getfield 9, 3) := by decide +kernel
theorem dX3_elect_53 : decode cX3_elect 53 = .ok (.goto 4, 3) := by decide +kernel
theorem dX3_elect_56 : decode cX3_elect 56 = .ok (.iload_n 2, 1) := by decide +kernel
theorem dX3_elect_57 : decode cX3_elect 57 = .ok (.putfield 9, 3) := by decide +kernel
theorem dX3_elect_60 : decode cX3_elect 60 = .ok (.aload_n 0, 1) := by decide +kernel
theorem dX3_elect_61 : decode cX3_elect 61 = .ok (.getfield 41, 3) := by decide +kernel
theorem dX3_elect_64 : decode cX3_elect 64 = .ok (.bipush 100, 2) := by decide +kernel
theorem dX3_elect_66 : decode cX3_elect 66 = .ok (.if_icmp .ge 26, 3) := by decide +kernel
theorem dX3_elect_69 : decode cX3_elect 69 = .ok (.aload_n 0, 1) := by decide +kernel
theorem dX3_elect_70 : decode cX3_elect 70 = .ok (.getfield 15, 3) := by decide +kernel
theorem dX3_elect_73 : decode cX3_elect 73 = .ok (.aload_n 0, 1) := by decide +kernel
theorem dX3_elect_74 : decode cX3_elect 74 = .ok (.getfield 41, 3) := by decide +kernel
theorem dX3_elect_77 : decode cX3_elect 77 = .ok (.aload_n 0, 1) := by decide +kernel
theorem dX3_elect_78 : decode cX3_elect 78 = .ok (.getfield 9, 3) := by decide +kernel
theorem dX3_elect_81 : decode cX3_elect 81 = .ok (.iastore, 1) := by decide +kernel
theorem dX3_elect_82 : decode cX3_elect 82 = .ok (.aload_n 0, 1) := by decide +kernel
theorem dX3_elect_83 : decode cX3_elect 83 = .ok (.dup, 1) := by decide +kernel
theorem dX3_elect_84 : decode cX3_elect 84 = .ok (.getfield 41, 3) := by decide +kernel
theorem dX3_elect_87 : decode cX3_elect 87 = .ok (.iconst 1, 1) := by decide +kernel
theorem dX3_elect_88 : decode cX3_elect 88 = .ok (.iadd, 1) := by decide +kernel
theorem dX3_elect_89 : decode cX3_elect 89 = .ok (.putfield 41, 3) := by decide +kernel
theorem dX3_elect_92 : decode cX3_elect 92 = .ok (.aload_n 0, 1) := by decide +kernel
theorem dX3_elect_93 : decode cX3_elect 93 = .ok (.getfield 9, 3) := by decide +kernel
theorem dX3_elect_96 : decode cX3_elect 96 = .ok (.ireturn, 1) := by decide +kernel
theorem dX3_goThrough_0 : decode cX3_goThrough 0 = .ok (.aload_n 0, 1) := by decide +kernel
theorem dX3_goThrough_1 : decode cX3_goThrough 1 = .ok (.lload_n 1, 1) := by decide +kernel
theorem dX3_goThrough_2 : decode cX3_goThrough 2 = .ok (.putfield 142, 3) := by decide +kernel
theorem dX3_goThrough_5 : decode cX3_goThrough 5 = .ok (.iconst 0, 1) := by decide +kernel
theorem dX3_goThrough_6 : decode cX3_goThrough 6 = .ok (.istore 4, 2) := by decide +kernel
theorem dX3_goThrough_8 : decode cX3_goThrough 8 = .ok (.iconst 0, 1) := by decide +kernel
theorem dX3_goThrough_9 : decode cX3_goThrough 9 = .ok (.istore 5, 2) := by decide +kernel
theorem dX3_goThrough_11 : decode cX3_goThrough 11 = .ok (.iload 5, 2) := by decide +kernel
theorem dX3_goThrough_13 : decode cX3_goThrough 13 = .ok (.iload_n 3, 1) := by decide +kernel
theorem dX3_goThrough_14 : decode cX3_goThrough 14 = .ok (.if_icmp .ge 35, 3) := by decide +kernel
theorem dX3_goThrough_17 : decode cX3_goThrough 17 = .ok (.aload_n 0, 1) := by decide +kernel
theorem dX3_goThrough_18 : decode cX3_goThrough 18 = .ok (.invokevirtual 167, 3) := by decide +kernel
theorem dX3_goThrough_21 : decode cX3_goThrough 21 = .ok (.pop, 1) := by decide +kernel
theorem dX3_goThrough_22 : decode cX3_goThrough 22 = .ok (.aload_n 0, 1) := by decide +kernel
theorem dX3_goThrough_23 : decode cX3_goThrough 23 = .ok (.iconst 1, 1) := by decide +kernel
theorem dX3_goThrough_24 : decode cX3_goThrough 24 = .ok (.aload_n 0, 1) := by decide +kernel
theorem dX3_goThrough_25 : decode cX3_goThrough 25 = .ok (.getfield 22, 3) := by decide +kernel
theorem dX3_goThrough_28 : decode cX3_goThrough 28 = .ok (.getfield 78, 3) := by decide +kernel
theorem dX3_goThrough_31 : decode cX3_goThrough 31 = .ok (.ishl, 1) := by decide +kernel
theorem dX3_goThrough_32 : decode cX3_goThrough 32 = .ok (.iconst 1, 1) := by decide +kernel
theorem dX3_goThrough_33 : decode cX3_goThrough 33 = .ok (.isub, 1) := by decide +kernel
theorem dX3_goThrough_34 : decode cX3_goThrough 34 = .ok (.invokevirtual 170, 3) := by decide +kernel
theorem dX3_goThrough_37 : decode cX3_goThrough 37 = .ok (.ifCond .ne 6, 3) := by decide +kernel
theorem dX3_goThrough_40 : decode cX3_goThrough 40 = .ok (.iinc 4 1, 3) := by decide +kernel
theorem dX3_goThrough_43 : decode cX3_goThrough 43 = .ok (.iinc 5 1, 3) := by decide +kernel
theorem dX3_goThrough_46 : decode cX3_goThrough 46 = .ok (.goto (-35), 3) := by decide +kernel
theorem dX3_goThrough_49 : decode cX3_goThrough 49 = .ok (.iload 4, 2) := by decide +kernel
theorem dX3_goThrough_51 : decode cX3_goThrough 51 = .ok (.ireturn, 1) := by decide +kernel
theorem dX3_votesLost_0 : decode cX3_votesLost 0 = .ok (.iconst 0, 1) := by decide +kernel
theorem dX3_votesLost_1 : decode cX3_votesLost 1 = .ok (.istore_n 1, 1) := by decide +kernel
theorem dX3_votesLost_2 : decode cX3_votesLost 2 = .ok (.iconst 0, 1) := by decide +kernel
theorem dX3_votesLost_3 : decode cX3_votesLost 3 = .ok (.istore_n 2, 1) := by decide +kernel
theorem dX3_votesLost_4 : decode cX3_votesLost 4 = .ok (.iload_n 2, 1) := by decide +kernel
theorem dX3_votesLost_5 : decode cX3_votesLost 5 = .ok (.aload_n 0, 1) := by decide +kernel
theorem dX3_votesLost_6 : decode cX3_votesLost 6 = .ok (.getfield 22, 3) := by decide +kernel
theorem dX3_votesLost_9 : decode cX3_votesLost 9 = .ok (.getfield 78, 3) := by decide +kernel
theorem dX3_votesLost_12 : decode cX3_votesLost 12 = .ok (.if_icmp .ge 31, 3) := by decide +kernel
theorem dX3_votesLost_15 : decode cX3_votesLost 15 = .ok (.iload_n 1, 1) := by decide +kernel
theorem dX3_votesLost_16 : decode cX3_votesLost 16 = .ok (.aload_n 0, 1) := by decide +kernel
theorem dX3_votesLost_17 : decode cX3_votesLost 17 = .ok (.getfield 26, 3) := by decide +kernel
theorem dX3_votesLost_20 : decode cX3_votesLost 20 = .ok (.iconst 0, 1) := by decide +kernel
theorem dX3_votesLost_21 : decode cX3_votesLost 21 = .ok (.iload_n 2, 1) := by decide +kernel
theorem dX3_votesLost_22 : decode cX3_votesLost 22 = .ok (.invokevirtual 131, 3) := by decide +kernel
theorem dX3_votesLost_25 : decode cX3_votesLost 25 = .ok (.aload_n 0, 1) := by decide +kernel
theorem dX3_votesLost_26 : decode cX3_votesLost 26 = .ok (.getfield 26, 3) := by decide +kernel
theorem dX3_votesLost_29 : decode cX3_votesLost 29 = .ok (.iconst 1, 1) := by decide +kernel
theorem dX3_votesLost_30 : decode cX3_votesLost 30 = .ok (.iload_n 2, 1) := by decide +kernel
theorem dX3_votesLost_31 : decode cX3_votesLost 31 = .ok (.invokevirtual 131, 3) := by decide +kernel
theorem dX3_votesLost_34 : decode cX3_votesLost 34 = .ok (.iadd, 1) := by decide +kernel
theorem dX3_votesLost_35 : decode cX3_votesLost 35 = .ok (.iadd, 1) := by decide +kernel
theorem dX3_votesLost_36 : decode cX3_votesLost 36 = .ok (.istore_n 1, 1) := by decide +kernel
theorem dX3_votesLost_37 : decode cX3_votesLost 37 = .ok (.iinc 2 1, 3) := by decide +kernel
theorem dX3_votesLost_40 : decode cX3_votesLost 40 = .ok (.goto (-36), 3) := by decide +kernel
theorem dX3_votesLost_43 : decode cX3_votesLost 43 = .ok (.aload_n 0, 1) := by decide +kernel
theorem dX3_votesLost_44 : decode cX3_votesLost 44 = .ok (.getfield 50, 3) := by decide +kernel
theorem dX3_votesLost_47 : decode cX3_votesLost 47 = .ok (.iload_n 1, 1) := by decide +kernel
theorem dX3_votesLost_48 : decode cX3_votesLost 48 = .ok (.isub, 1) := by decide +kernel
theorem dX3_votesLost_49 : decode cX3_votesLost 49 = .ok (.ireturn, 1) := by decide +kernel
