theorem dX11_columnOf_0 : decode cX11_columnOf 0 = .ok (.aload_n 0, 1) := by decide +kernel
theorem dX11_columnOf_1 : decode cX11_columnOf 1 = .ok (.iload_n 1, 1) := by decide +kernel
theorem dX11_columnOf_2 : decode cX11_columnOf 2 = .ok (.iload_n 2, 1) := by decide +kernel
theorem dX11_columnOf_3 : decode cX11_columnOf 3 = .ok (.invokevirtual 337, 3) := by decide +kernel
theorem dX11_columnOf_6 : decode cX11_columnOf 6 = .ok (.istore_n 3, 1) := by decide +kernel
theorem dX11_columnOf_7 : decode cX11_columnOf 7 = .ok (.iload_n 3, 1) := by decide +kernel
theorem dX11_columnOf_8 : decode cX11_columnOf 8 = .ok (.iconst (-1), 1) := by decide +kernel
theorem dX11_columnOf_9 : decode cX11_columnOf 9 = .ok (.if_icmp .ne 7, 3) := by decide +kernel
theorem dX11_columnOf_12 : decode cX11_columnOf 12 = .ok (.iconst (-1), 1) := by decide +kernel
theorem dX11_columnOf_13 : decode cX11_columnOf 13 = .ok (.goto 37, 3) := by decide +kernel
theorem dX11_columnOf_16 : decode cX11_columnOf 16 = .ok (.aload_n 0, 1) := by decide +kernel
theorem dX11_columnOf_17 : decode cX11_columnOf 17 = .ok (.iload_n 1, 1) := by decide +kernel
theorem dX11_columnOf_18 : decode cX11_columnOf 18 = .ok (.aload_n 0, 1) := by decide +kernel
theorem dX11_columnOf_19 : decode cX11_columnOf 19 = .ok (.iload_n 1, 1) := by decide +kernel
theorem dX11_columnOf_20 : decode cX11_columnOf 20 = .ok (.iload_n 2, 1) := by decide +kernel
theorem dX11_columnOf_21 : decode cX11_columnOf 21 = .ok (.invokevirtual 340, 3) := by decide +kernel
theorem dX11_columnOf_24 : decode cX11_columnOf 24 = .ok (.iload_n 3, 1) := by decide +kernel
theorem dX11_columnOf_25 : decode cX11_columnOf 25 = .ok (.aload_n 0, 1) := by decide +kernel
theorem dX11_columnOf_26 : decode cX11_columnOf 26 = .ok (.getfield 46, 3) := by decide +kernel
theorem dX11_columnOf_29 : decode cX11_columnOf 29 = .ok (.bipush 8, 2) := by decide +kernel
theorem dX11_columnOf_31 : decode cX11_columnOf 31 = .ok (.iload_n 2, 1) := by decide +kernel
theorem dX11_columnOf_32 : decode cX11_columnOf 32 = .ok (.imul, 1) := by decide +kernel
theorem dX11_columnOf_33 : decode cX11_columnOf 33 = .ok (.iconst 1, 1) := by decide +kernel
theorem dX11_columnOf_34 : decode cX11_columnOf 34 = .ok (.iadd, 1) := by decide +kernel
theorem dX11_columnOf_35 : decode cX11_columnOf 35 = .ok (.iaload, 1) := by decide +kernel
theorem dX11_columnOf_36 : decode cX11_columnOf 36 = .ok (.aload_n 0, 1) := by decide +kernel
theorem dX11_columnOf_37 : decode cX11_columnOf 37 = .ok (.getfield 46, 3) := by decide +kernel
theorem dX11_columnOf_40 : decode cX11_columnOf 40 = .ok (.bipush 8, 2) := by decide +kernel
theorem dX11_columnOf_42 : decode cX11_columnOf 42 = .ok (.iload_n 2, 1) := by decide +kernel
theorem dX11_columnOf_43 : decode cX11_columnOf 43 = .ok (.imul, 1) := by decide +kernel
theorem dX11_columnOf_44 : decode cX11_columnOf 44 = .ok (.iconst 2, 1) := by decide +kernel
theorem dX11_columnOf_45 : decode cX11_columnOf 45 = .ok (.iadd, 1) := by decide +kernel
theorem dX11_columnOf_46 : decode cX11_columnOf 46 = .ok (.iaload, 1) := by decide +kernel
theorem dX11_columnOf_47 : decode cX11_columnOf 47 = .ok (.invokevirtual 330, 3) := by decide +kernel
theorem dX11_columnOf_50 : decode cX11_columnOf 50 = .ok (.ireturn, 1) := by decide +kernel
theorem dX11_mayVote_0 : decode cX11_mayVote 0 = .ok (.aload_n 0, 1) := by decide +kernel
theorem dX11_mayVote_1 : decode cX11_mayVote 1 = .ok (.getfield 71, 3) := by decide +kernel
theorem dX11_mayVote_4 : decode cX11_mayVote 4 = .ok (.iconst 3, 1) := by decide +kernel
theorem dX11_mayVote_5 : decode cX11_mayVote 5 = .ok (.iload_n 1, 1) := by decide +kernel
theorem dX11_mayVote_6 : decode cX11_mayVote 6 = .ok (.imul, 1) := by decide +kernel
theorem dX11_mayVote_7 : decode cX11_mayVote 7 = .ok (.iconst 0, 1) := by decide +kernel
theorem dX11_mayVote_8 : decode cX11_mayVote 8 = .ok (.iadd, 1) := by decide +kernel
theorem dX11_mayVote_9 : decode cX11_mayVote 9 = .ok (.iaload, 1) := by decide +kernel
theorem dX11_mayVote_10 : decode cX11_mayVote 10 = .ok (.i2l, 1) := by decide +kernel
theorem dX11_mayVote_11 : decode cX11_mayVote 11 = .ok (.aload_n 0, 1) := by decide +kernel
theorem dX11_mayVote_12 : decode cX11_mayVote 12 = .ok (.getfield 46, 3) := by decide +kernel
theorem dX11_mayVote_15 : decode cX11_mayVote 15 = .ok (.bipush 8, 2) := by decide +kernel
theorem dX11_mayVote_17 : decode cX11_mayVote 17 = .ok (.iload_n 2, 1) := by decide +kernel
theorem dX11_mayVote_18 : decode cX11_mayVote 18 = .ok (.imul, 1) := by decide +kernel
theorem dX11_mayVote_19 : decode cX11_mayVote 19 = .ok (.bipush 6, 2) := by decide +kernel
theorem dX11_mayVote_21 : decode cX11_mayVote 21 = .ok (.iadd, 1) := by decide +kernel
theorem dX11_mayVote_22 : decode cX11_mayVote 22 = .ok (.iaload, 1) := by decide +kernel
theorem dX11_mayVote_23 : decode cX11_mayVote 23 = .ok (.i2l, 1) := by decide +kernel
theorem dX11_mayVote_24 : decode cX11_mayVote 24 = .ok (.aload_n 0, 1) := by decide +kernel
theorem dX11_mayVote_25 : decode cX11_mayVote 25 = .ok (.getfield 46, 3) := by decide +kernel
theorem dX11_mayVote_28 : decode cX11_mayVote 28 = .ok (.bipush 8, 2) := by decide +kernel
theorem dX11_mayVote_30 : decode cX11_mayVote 30 = .ok (.iload_n 2, 1) := by decide +kernel
theorem dX11_mayVote_31 : decode cX11_mayVote 31 = .ok (.imul, 1) := by decide +kernel
theorem dX11_mayVote_32 : decode cX11_mayVote 32 = .ok (.bipush 7, 2) := by decide +kernel
theorem dX11_mayVote_34 : decode cX11_mayVote 34 = .ok (.iadd, 1) := by decide +kernel
theorem dX11_mayVote_35 : decode cX11_mayVote 35 = .ok (.iaload, 1) := by decide +kernel
theorem dX11_mayVote_36 : decode cX11_mayVote 36 = .ok (.i2l, 1) := by decide +kernel
theorem dX11_mayVote_37 : decode cX11_mayVote 37 = .ok (.invokestatic 104, 3) := by decide +kernel
theorem dX11_mayVote_40 : decode cX11_mayVote 40 = .ok (.ireturn, 1) := by decide +kernel
theorem dX11_sideOf_0 : decode cX11_sideOf 0 = .ok (.aload_n 0, 1) := by decide +kernel
theorem dX11_sideOf_1 : decode cX11_sideOf 1 = .ok (.getfield 46, 3) := by decide +kernel
theorem dX11_sideOf_4 : decode cX11_sideOf 4 = .ok (.bipush 8, 2) := by decide +kernel
theorem dX11_sideOf_6 : decode cX11_sideOf 6 = .ok (.iload_n 2, 1) := by decide +kernel
theorem dX11_sideOf_7 : decode cX11_sideOf 7 = .ok (.imul, 1) := by decide +kernel
theorem dX11_sideOf_8 : decode cX11_sideOf 8 = .ok (.iaload, 1) := by decide +kernel
theorem dX11_sideOf_9 : decode cX11_sideOf 9 = .ok (.istore_n 3, 1) := by decide +kernel
theorem dX11_sideOf_10 : decode cX11_sideOf 10 = .ok (.aload_n 0, 1) := by decide +kernel
theorem dX11_sideOf_11 : decode cX11_sideOf 11 = .ok (.getfield 71, 3) := by decide +kernel
theorem dX11_sideOf_14 : decode cX11_sideOf 14 = .ok (.iconst 3, 1) := by decide +kernel
theorem dX11_sideOf_15 : decode cX11_sideOf 15 = .ok (.iload_n 1, 1) := by decide +kernel
theorem dX11_sideOf_16 : decode cX11_sideOf 16 = .ok (.imul, 1) := by decide +kernel
theorem dX11_sideOf_17 : decode cX11_sideOf 17 = .ok (.iconst 1, 1) := by decide +kernel
theorem dX11_sideOf_18 : decode cX11_sideOf 18 = .ok (.iadd, 1) := by decide +kernel
theorem dX11_sideOf_19 : decode cX11_sideOf 19 = .ok (.iaload, 1) := by decide +kernel
theorem dX11_sideOf_20 : decode cX11_sideOf 20 = .ok (.istore 4, 2) := by decide +kernel
theorem dX11_sideOf_22 : decode cX11_sideOf 22 = .ok (.iload_n 3, 1) := by decide +kernel
theorem dX11_sideOf_23 : decode cX11_sideOf 23 = .ok (.iconst 2, 1) := by decide +kernel
theorem dX11_sideOf_24 : decode cX11_sideOf 24 = .ok (.if_icmp .ge 7, 3) := by decide +kernel
theorem dX11_sideOf_27 : decode cX11_sideOf 27 = .ok (.iload_n 3, 1) := by decide +kernel
theorem dX11_sideOf_28 : decode cX11_sideOf 28 = .ok (.goto 29, 3) := by decide +kernel
theorem dX11_sideOf_31 : decode cX11_sideOf 31 = .ok (.iload 4, 2) := by decide +kernel
theorem dX11_sideOf_33 : decode cX11_sideOf 33 = .ok (.iconst 2, 1) := by decide +kernel
theorem dX11_sideOf_34 : decode cX11_sideOf 34 = .ok (.if_icmp .ne 9, 3) := by decide +kernel
theorem dX11_sideOf_37 : decode cX11_sideOf 37 = .ok (.iload_n 3, 1) := by decide +kernel
theorem dX11_sideOf_38 : decode cX11_sideOf 38 = .ok (.iconst 2, 1) := by decide +kernel
theorem dX11_sideOf_39 : decode cX11_sideOf 39 = .ok (.isub, 1) := by decide +kernel
theorem dX11_sideOf_40 : decode cX11_sideOf 40 = .ok (.goto 17, 3) := by decide +kernel
theorem dX11_sideOf_43 : decode cX11_sideOf 43 = .ok (.iload_n 3, 1) := by decide +kernel
theorem dX11_sideOf_44 : decode cX11_sideOf 44 = .ok (.iconst 2, 1) := by decide +kernel
theorem dX11_sideOf_45 : decode cX11_sideOf 45 = .ok (.if_icmp .ne 8, 3) := by decide +kernel
theorem dX11_sideOf_48 : decode cX11_sideOf 48 = .ok (.iload 4, 2) := by decide +kernel
theorem dX11_sideOf_50 : decode cX11_sideOf 50 = .ok (.goto 7, 3) := by decide +kernel
theorem dX11_sideOf_53 : decode cX11_sideOf 53 = .ok (.iconst 1, 1) := by decide +kernel
theorem dX11_sideOf_54 : decode cX11_sideOf 54 = .ok (.iload 4, 2) := by decide +kernel
theorem dX11_sideOf_56 : decode cX11_sideOf 56 = .ok (.isub, 1) := by decide +kernel
theorem dX11_sideOf_57 : decode cX11_sideOf 57 = .ok (.ireturn, 1) := by decide +kernel
theorem dX11_sortOf_0 : decode cX11_sortOf 0 = .ok (.iconst (-1), 1) := by decide +kernel
theorem dX11_sortOf_1 : decode cX11_sortOf 1 = .ok (.istore_n 3, 1) := by decide +kernel
theorem dX11_sortOf_2 : decode cX11_sortOf 2 = .ok (.aload_n 0, 1) := by decide +kernel
theorem dX11_sortOf_3 : decode cX11_sortOf 3 = .ok (.getfield 46, 3) := by decide +kernel
theorem dX11_sortOf_6 : decode cX11_sortOf 6 = .ok (.bipush 8, 2) := by decide +kernel
theorem dX11_sortOf_8 : decode cX11_sortOf 8 = .ok (.iload_n 2, 1) := by decide +kernel
theorem dX11_sortOf_9 : decode cX11_sortOf 9 = .ok (.imul, 1) := by decide +kernel
theorem dX11_sortOf_10 : decode cX11_sortOf 10 = .ok (.iconst 3, 1) := by decide +kernel
theorem dX11_sortOf_11 : decode cX11_sortOf 11 = .ok (.iadd, 1) := by decide +kernel
theorem dX11_sortOf_12 : decode cX11_sortOf 12 = .ok (.iaload, 1) := by decide +kernel
theorem dX11_sortOf_13 : decode cX11_sortOf 13 = .ok (.iconst 1, 1) := by decide +kernel
theorem dX11_sortOf_14 : decode cX11_sortOf 14 = .ok (.if_icmp .ne 7, 3) := by decide +kernel
theorem dX11_sortOf_17 : decode cX11_sortOf 17 = .ok (.iconst 1, 1) := by decide +kernel
theorem dX11_sortOf_18 : decode cX11_sortOf 18 = .ok (.goto 4, 3) := by decide +kernel
theorem dX11_sortOf_21 : decode cX11_sortOf 21 = .ok (.iconst 0, 1) := by decide +kernel
theorem dX11_sortOf_22 : decode cX11_sortOf 22 = .ok (.istore 4, 2) := by decide +kernel
theorem dX11_sortOf_24 : decode cX11_sortOf 24 = .ok (.iconst 0, 1) := by decide +kernel
theorem dX11_sortOf_25 : decode cX11_sortOf 25 = .ok (.istore 5, 2) := by decide +kernel
theorem dX11_sortOf_27 : decode cX11_sortOf 27 = .ok (.iload 5, 2) := by decide +kernel
theorem dX11_sortOf_29 : decode cX11_sortOf 29 = .ok (.aload_n 0, 1) := by decide +kernel
theorem dX11_sortOf_30 : decode cX11_sortOf 30 = .ok (.getfield 37, 3) := by decide +kernel
theorem dX11_sortOf_33 : decode cX11_sortOf 33 = .ok (.iconst 0, 1) := by decide +kernel
theorem dX11_sortOf_34 : decode cX11_sortOf 34 = .ok (.iaload, 1) := by decide +kernel
theorem dX11_sortOf_35 : decode cX11_sortOf 35 = .ok (.if_icmp .ge 90, 3) := by decide +kernel
theorem dX11_sortOf_38 : decode cX11_sortOf 38 = .ok (.aload_n 0, 1) := by decide +kernel
theorem dX11_sortOf_39 : decode cX11_sortOf 39 = .ok (.getfield 68, 3) := by decide +kernel
theorem dX11_sortOf_42 : decode cX11_sortOf 42 = .ok (.iconst 5, 1) := by decide +kernel
theorem dX11_sortOf_43 : decode cX11_sortOf 43 = .ok (.iload_n 1, 1) := by decide +kernel
theorem dX11_sortOf_44 : decode cX11_sortOf 44 = .ok (.imul, 1) := by decide +kernel
theorem dX11_sortOf_45 : decode cX11_sortOf 45 = .ok (.iload 5, 2) := by decide +kernel
theorem dX11_sortOf_47 : decode cX11_sortOf 47 = .ok (.iadd, 1) := by decide +kernel
theorem dX11_sortOf_48 : decode cX11_sortOf 48 = .ok (.iaload, 1) := by decide +kernel
theorem dX11_sortOf_49 : decode cX11_sortOf 49 = .ok (.ifCond .eq 70, 3) := by decide +kernel
theorem dX11_sortOf_52 : decode cX11_sortOf 52 = .ok (.aload_n 0, 1) := by decide +kernel
theorem dX11_sortOf_53 : decode cX11_sortOf 53 = .ok (.iload 5, 2) := by decide +kernel
theorem dX11_sortOf_55 : decode cX11_sortOf 55 = .ok (.invokevirtual 289, 3) := by decide +kernel
theorem dX11_sortOf_58 : decode cX11_sortOf 58 = .ok (.aload_n 0, 1) := by decide +kernel
theorem dX11_sortOf_59 : decode cX11_sortOf 59 = .ok (.getfield 46, 3) := by decide +kernel
theorem dX11_sortOf_62 : decode cX11_sortOf 62 = .ok (.bipush 8, 2) := by decide +kernel
theorem dX11_sortOf_64 : decode cX11_sortOf 64 = .ok (.iload_n 2, 1) := by decide +kernel
theorem dX11_sortOf_65 : decode cX11_sortOf 65 = .ok (.imul, 1) := by decide +kernel
theorem dX11_sortOf_66 : decode cX11_sortOf 66 = .ok (.iconst 4, 1) := by decide +kernel
theorem dX11_sortOf_67 : decode cX11_sortOf 67 = .ok (.iadd, 1) := by decide +kernel
theorem dX11_sortOf_68 : decode cX11_sortOf 68 = .ok (.iaload, 1) := by decide +kernel
theorem dX11_sortOf_69 : decode cX11_sortOf 69 = .ok (.if_icmp .le 6, 3) := by decide +kernel
theorem dX11_sortOf_72 : decode cX11_sortOf 72 = .ok (.goto 47, 3) := by decide +kernel
theorem dX11_sortOf_75 : decode cX11_sortOf 75 = .ok (.iload_n 3, 1) := by decide +kernel
theorem dX11_sortOf_76 : decode cX11_sortOf 76 = .ok (.iconst (-1), 1) := by decide +kernel
theorem dX11_sortOf_77 : decode cX11_sortOf 77 = .ok (.if_icmp .eq 39, 3) := by decide +kernel
theorem dX11_sortOf_80 : decode cX11_sortOf 80 = .ok (.iload 4, 2) := by decide +kernel
theorem dX11_sortOf_82 : decode cX11_sortOf 82 = .ok (.ifCond .eq 20, 3) := by decide +kernel
theorem dX11_sortOf_85 : decode cX11_sortOf 85 = .ok (.aload_n 0, 1) := by decide +kernel
theorem dX11_sortOf_86 : decode cX11_sortOf 86 = .ok (.iload 5, 2) := by decide +kernel
theorem dX11_sortOf_88 : decode cX11_sortOf 88 = .ok (.invokevirtual 289, 3) := by decide +kernel
theorem dX11_sortOf_91 : decode cX11_sortOf 91 = .ok (.aload_n 0, 1) := by decide +kernel
theorem dX11_sortOf_92 : decode cX11_sortOf 92 = .ok (.iload_n 3, 1) := by decide +kernel
theorem dX11_sortOf_93 : decode cX11_sortOf 93 = .ok (.invokevirtual 289, 3) := by decide +kernel
theorem dX11_sortOf_96 : decode cX11_sortOf 96 = .ok (.if_icmp .le 23, 3) := by decide +kernel
theorem dX11_sortOf_99 : decode cX11_sortOf 99 = .ok (.goto 17, 3) := by decide +kernel
theorem dX11_sortOf_102 : decode cX11_sortOf 102 = .ok (.aload_n 0, 1) := by decide +kernel
theorem dX11_sortOf_103 : decode cX11_sortOf 103 = .ok (.iload 5, 2) := by decide +kernel
theorem dX11_sortOf_105 : decode cX11_sortOf 105 = .ok (.invokevirtual 289, 3) := by decide +kernel
theorem dX11_sortOf_108 : decode cX11_sortOf 108 = .ok (.aload_n 0, 1) := by decide +kernel
theorem dX11_sortOf_109 : decode cX11_sortOf 109 = .ok (.iload_n 3, 1) := by decide +kernel
theorem dX11_sortOf_110 : decode cX11_sortOf 110 = .ok (.invokevirtual 289, 3) := by decide +kernel
theorem dX11_sortOf_113 : decode cX11_sortOf 113 = .ok (.if_icmp .ge 6, 3) := by decide +kernel
theorem dX11_sortOf_116 : decode cX11_sortOf 116 = .ok (.iload 5, 2) := by decide +kernel
theorem dX11_sortOf_118 : decode cX11_sortOf 118 = .ok (.istore_n 3, 1) := by decide +kernel
theorem dX11_sortOf_119 : decode cX11_sortOf 119 = .ok (.iinc 5 1, 3) := by decide +kernel
theorem dX11_sortOf_122 : decode cX11_sortOf 122 = .ok (.goto (-95), 3) := by decide +kernel
theorem dX11_sortOf_125 : decode cX11_sortOf 125 = .ok (.iload_n 3, 1) := by decide +kernel
theorem dX11_sortOf_126 : decode cX11_sortOf 126 = .ok (.ireturn, 1) := by decide +kernel
theorem dX11_would_0 : decode cX11_would 0 = .ok (.aload_n 0, 1) := by decide +kernel
theorem dX11_would_1 : decode cX11_would 1 = .ok (.iconst 0, 1) := by decide +kernel
theorem dX11_would_2 : decode cX11_would 2 = .ok (.putfield 99, 3) := by decide +kernel
theorem dX11_would_5 : decode cX11_would 5 = .ok (.aload_n 0, 1) := by decide +kernel
theorem dX11_would_6 : decode cX11_would 6 = .ok (.iload_n 1, 1) := by decide +kernel
theorem dX11_would_7 : decode cX11_would 7 = .ok (.invokevirtual 343, 3) := by decide +kernel
theorem dX11_would_10 : decode cX11_would 10 = .ok (.ifCond .eq 15, 3) := by decide +kernel
theorem dX11_would_13 : decode cX11_would 13 = .ok (.iload_n 2, 1) := by decide +kernel
theorem dX11_would_14 : decode cX11_would 14 = .ok (.i2l, 1) := by decide +kernel
theorem dX11_would_15 : decode cX11_would 15 = .ok (.lconst 0, 1) := by decide +kernel
theorem dX11_would_16 : decode cX11_would 16 = .ok (.ldc2_w 346, 3) := by decide +kernel
theorem dX11_would_19 : decode cX11_would 19 = .ok (.invokestatic 104, 3) := by decide +kernel
theorem dX11_would_22 : decode cX11_would 22 = .ok (.ifCond .ne 6, 3) := by decide +kernel
theorem dX11_would_25 : decode cX11_would 25 = .ok (.bipush (-2), 2) := by decide +kernel
theorem dX11_would_27 : decode cX11_would 27 = .ok (.ireturn, 1) := by decide +kernel
theorem dX11_would_28 : decode cX11_would 28 = .ok (.iload_n 2, 1) := by decide +kernel
theorem dX11_would_29 : decode cX11_would 29 = .ok (.ifCond .ne 12, 3) := by decide +kernel
theorem dX11_would_32 : decode cX11_would 32 = .ok (.aload_n 0, 1) := by decide +kernel
theorem dX11_would_33 : decode cX11_would 33 = .ok (.iconst 0, 1) := by decide +kernel
theorem dX11_would_34 : decode cX11_would 34 = .ok (.iload_n 1, 1) := by decide +kernel
theorem dX11_would_35 : decode cX11_would 35 = .ok (.invokevirtual 340, 3) := by decide +kernel
theorem dX11_would_38 : decode cX11_would 38 = .ok (.goto 23, 3) := by decide +kernel
theorem dX11_would_41 : decode cX11_would 41 = .ok (.iload_n 2, 1) := by decide +kernel
theorem dX11_would_42 : decode cX11_would 42 = .ok (.iconst 1, 1) := by decide +kernel
theorem dX11_would_43 : decode cX11_would 43 = .ok (.if_icmp .ne 12, 3) := by decide +kernel
theorem dX11_would_46 : decode cX11_would 46 = .ok (.aload_n 0, 1) := by decide +kernel
theorem dX11_would_47 : decode cX11_would 47 = .ok (.iconst 0, 1) := by decide +kernel
theorem dX11_would_48 : decode cX11_would 48 = .ok (.iload_n 1, 1) := by decide +kernel
theorem dX11_would_49 : decode cX11_would 49 = .ok (.invokevirtual 337, 3) := by decide +kernel
theorem dX11_would_52 : decode cX11_would 52 = .ok (.goto 9, 3) := by decide +kernel
theorem dX11_would_55 : decode cX11_would 55 = .ok (.aload_n 0, 1) := by decide +kernel
theorem dX11_would_56 : decode cX11_would 56 = .ok (.iconst 0, 1) := by decide +kernel
theorem dX11_would_57 : decode cX11_would 57 = .ok (.iload_n 1, 1) := by decide +kernel
theorem dX11_would_58 : decode cX11_would 58 = .ok (.invokevirtual 348, 3) := by decide +kernel
theorem dX11_would_61 : decode cX11_would 61 = .ok (.ireturn, 1) := by decide +kernel
