theorem dX11_ballots_0 : decode cX11_ballots 0 = .ok (.aload_n 0, 1) := by decide +kernel
theorem dX11_ballots_1 : decode cX11_ballots 1 = .ok (.iload_n 1, 1) := by decide +kernel
theorem dX11_ballots_2 : decode cX11_ballots 2 = .ok (.iload_n 2, 1) := by decide +kernel
theorem dX11_ballots_3 : decode cX11_ballots 3 = .ok (.invokevirtual 351, 3) := by decide +kernel
theorem dX11_ballots_6 : decode cX11_ballots 6 = .ok (.ifCond .eq 12, 3) := by decide +kernel
theorem dX11_ballots_9 : decode cX11_ballots 9 = .ok (.aload_n 0, 1) := by decide +kernel
theorem dX11_ballots_10 : decode cX11_ballots 10 = .ok (.iload_n 1, 1) := by decide +kernel
theorem dX11_ballots_11 : decode cX11_ballots 11 = .ok (.iload_n 2, 1) := by decide +kernel
theorem dX11_ballots_12 : decode cX11_ballots 12 = .ok (.invokevirtual 348, 3) := by decide +kernel
theorem dX11_ballots_15 : decode cX11_ballots 15 = .ok (.goto 4, 3) := by decide +kernel
theorem dX11_ballots_18 : decode cX11_ballots 18 = .ok (.iconst (-1), 1) := by decide +kernel
theorem dX11_ballots_19 : decode cX11_ballots 19 = .ok (.istore_n 3, 1) := by decide +kernel
theorem dX11_ballots_20 : decode cX11_ballots 20 = .ok (.iload_n 3, 1) := by decide +kernel
theorem dX11_ballots_21 : decode cX11_ballots 21 = .ok (.iconst (-1), 1) := by decide +kernel
theorem dX11_ballots_22 : decode cX11_ballots 22 = .ok (.if_icmp .ne 5, 3) := by decide +kernel
theorem dX11_ballots_25 : decode cX11_ballots 25 = .ok (.iconst (-1), 1) := by decide +kernel
theorem dX11_ballots_26 : decode cX11_ballots 26 = .ok (.ireturn, 1) := by decide +kernel
theorem dX11_ballots_27 : decode cX11_ballots 27 = .ok (.aload_n 0, 1) := by decide +kernel
theorem dX11_ballots_28 : decode cX11_ballots 28 = .ok (.iload_n 1, 1) := by decide +kernel
theorem dX11_ballots_29 : decode cX11_ballots 29 = .ok (.iload_n 2, 1) := by decide +kernel
theorem dX11_ballots_30 : decode cX11_ballots 30 = .ok (.invokevirtual 340, 3) := by decide +kernel
theorem dX11_ballots_33 : decode cX11_ballots 33 = .ok (.istore 4, 2) := by decide +kernel
theorem dX11_ballots_35 : decode cX11_ballots 35 = .ok (.aload_n 0, 1) := by decide +kernel
theorem dX11_ballots_36 : decode cX11_ballots 36 = .ok (.iload_n 1, 1) := by decide +kernel
theorem dX11_ballots_37 : decode cX11_ballots 37 = .ok (.iload 4, 2) := by decide +kernel
theorem dX11_ballots_39 : decode cX11_ballots 39 = .ok (.iload_n 3, 1) := by decide +kernel
theorem dX11_ballots_40 : decode cX11_ballots 40 = .ok (.aload_n 0, 1) := by decide +kernel
theorem dX11_ballots_41 : decode cX11_ballots 41 = .ok (.iload_n 1, 1) := by decide +kernel
theorem dX11_ballots_42 : decode cX11_ballots 42 = .ok (.iload_n 2, 1) := by decide +kernel
theorem dX11_ballots_43 : decode cX11_ballots 43 = .ok (.invokevirtual 337, 3) := by decide +kernel
theorem dX11_ballots_46 : decode cX11_ballots 46 = .ok (.iload_n 2, 1) := by decide +kernel
theorem dX11_ballots_47 : decode cX11_ballots 47 = .ok (.invokevirtual 307, 3) := by decide +kernel
theorem dX11_ballots_50 : decode cX11_ballots 50 = .ok (.aload_n 0, 1) := by decide +kernel
theorem dX11_ballots_51 : decode cX11_ballots 51 = .ok (.getfield 71, 3) := by decide +kernel
theorem dX11_ballots_54 : decode cX11_ballots 54 = .ok (.iconst 3, 1) := by decide +kernel
theorem dX11_ballots_55 : decode cX11_ballots 55 = .ok (.iload_n 1, 1) := by decide +kernel
theorem dX11_ballots_56 : decode cX11_ballots 56 = .ok (.imul, 1) := by decide +kernel
theorem dX11_ballots_57 : decode cX11_ballots 57 = .ok (.iconst 0, 1) := by decide +kernel
theorem dX11_ballots_58 : decode cX11_ballots 58 = .ok (.iadd, 1) := by decide +kernel
theorem dX11_ballots_59 : decode cX11_ballots 59 = .ok (.iaload, 1) := by decide +kernel
theorem dX11_ballots_60 : decode cX11_ballots 60 = .ok (.bipush 100, 2) := by decide +kernel
theorem dX11_ballots_62 : decode cX11_ballots 62 = .ok (.if_icmp .ge 33, 3) := by decide +kernel
theorem dX11_ballots_65 : decode cX11_ballots 65 = .ok (.aload_n 0, 1) := by decide +kernel
theorem dX11_ballots_66 : decode cX11_ballots 66 = .ok (.getfield 77, 3) := by decide +kernel
theorem dX11_ballots_69 : decode cX11_ballots 69 = .ok (.sipush 200, 3) := by decide +kernel
theorem dX11_ballots_72 : decode cX11_ballots 72 = .ok (.iload_n 1, 1) := by decide +kernel
theorem dX11_ballots_73 : decode cX11_ballots 73 = .ok (.imul, 1) := by decide +kernel
theorem dX11_ballots_74 : decode cX11_ballots 74 = .ok (.iconst 2, 1) := by decide +kernel
theorem dX11_ballots_75 : decode cX11_ballots 75 = .ok (.aload_n 0, 1) := by decide +kernel
theorem dX11_ballots_76 : decode cX11_ballots 76 = .ok (.getfield 71, 3) := by decide +kernel
theorem dX11_ballots_79 : decode cX11_ballots 79 = .ok (.iconst 3, 1) := by decide +kernel
theorem dX11_ballots_80 : decode cX11_ballots 80 = .ok (.iload_n 1, 1) := by decide +kernel
theorem dX11_ballots_81 : decode cX11_ballots 81 = .ok (.imul, 1) := by decide +kernel
theorem dX11_ballots_82 : decode cX11_ballots 82 = .ok (.iconst 0, 1) := by decide +kernel
theorem dX11_ballots_83 : decode cX11_ballots 83 = .ok (.iadd, 1) := by decide +kernel
theorem dX11_ballots_84 : decode cX11_ballots 84 = .ok (.iaload, 1) := by decide +kernel
theorem dX11_ballots_85 : decode cX11_ballots 85 = .ok (.imul, 1) := by decide +kernel
theorem dX11_ballots_86 : decode cX11_ballots 86 = .ok (.iadd, 1) := by decide +kernel
theorem dX11_ballots_87 : decode cX11_ballots 87 = .ok (.iload 4, 2) := by decide +kernel
theorem dX11_ballots_89 : decode cX11_ballots 89 = .ok (.iadd, 1) := by decide +kernel
theorem dX11_ballots_90 : decode cX11_ballots 90 = .ok (.dup2, 1) := by decide +kernel
theorem dX11_ballots_91 : decode cX11_ballots 91 = .ok (.iaload, 1) := by decide +kernel
theorem dX11_ballots_92 : decode cX11_ballots 92 = .ok (.iconst 1, 1) := by decide +kernel
theorem dX11_ballots_93 : decode cX11_ballots 93 = .ok (.iadd, 1) := by decide +kernel
theorem dX11_ballots_94 : decode cX11_ballots 94 = .ok (.iastore, 1) := by decide +kernel
theorem dX11_ballots_95 : decode cX11_ballots 95 = .ok (.aload_n 0, 1) := by decide +kernel
theorem dX11_ballots_96 : decode cX11_ballots 96 = .ok (.getfield 71, 3) := by decide +kernel
theorem dX11_ballots_99 : decode cX11_ballots 99 = .ok (.iconst 3, 1) := by decide +kernel
theorem dX11_ballots_100 : decode cX11_ballots 100 = .ok (.iload_n 1, 1) := by decide +kernel
theorem dX11_ballots_101 : decode cX11_ballots 101 = .ok (.imul, 1) := by decide +kernel
theorem dX11_ballots_102 : decode cX11_ballots 102 = .ok (.iconst 2, 1) := by decide +kernel
theorem dX11_ballots_103 : decode cX11_ballots 103 = .ok (.iadd, 1) := by decide +kernel
theorem dX11_ballots_104 : decode cX11_ballots 104 = .ok (.dup2, 1) := by decide +kernel
theorem dX11_ballots_105 : decode cX11_ballots 105 = .ok (.iaload, 1) := by decide +kernel
theorem dX11_ballots_106 : decode cX11_ballots 106 = .ok (.iconst 1, 1) := by decide +kernel
theorem dX11_ballots_107 : decode cX11_ballots 107 = .ok (.iadd, 1) := by decide +kernel
theorem dX11_ballots_108 : decode cX11_ballots 108 = .ok (.iastore, 1) := by decide +kernel
theorem dX11_ballots_109 : decode cX11_ballots 109 = .ok (.aload_n 0, 1) := by decide +kernel
theorem dX11_ballots_110 : decode cX11_ballots 110 = .ok (.getfield 56, 3) := by decide +kernel
theorem dX11_ballots_113 : decode cX11_ballots 113 = .ok (.iload_n 1, 1) := by decide +kernel
theorem dX11_ballots_114 : decode cX11_ballots 114 = .ok (.iload 4, 2) := by decide +kernel
theorem dX11_ballots_116 : decode cX11_ballots 116 = .ok (.iload_n 3, 1) := by decide +kernel
theorem dX11_ballots_117 : decode cX11_ballots 117 = .ok (.invokestatic 280, 3) := by decide +kernel
theorem dX11_ballots_120 : decode cX11_ballots 120 = .ok (.iaload, 1) := by decide +kernel
theorem dX11_ballots_121 : decode cX11_ballots 121 = .ok (.ireturn, 1) := by decide +kernel
theorem dX11_byHands_0 : decode cX11_byHands 0 = .ok (.iconst 0, 1) := by decide +kernel
theorem dX11_byHands_1 : decode cX11_byHands 1 = .ok (.istore_n 2, 1) := by decide +kernel
theorem dX11_byHands_2 : decode cX11_byHands 2 = .ok (.iconst 0, 1) := by decide +kernel
theorem dX11_byHands_3 : decode cX11_byHands 3 = .ok (.istore_n 3, 1) := by decide +kernel
theorem dX11_byHands_4 : decode cX11_byHands 4 = .ok (.iload_n 3, 1) := by decide +kernel
theorem dX11_byHands_5 : decode cX11_byHands 5 = .ok (.iconst 2, 1) := by decide +kernel
theorem dX11_byHands_6 : decode cX11_byHands 6 = .ok (.if_icmp .ge 96, 3) := by decide +kernel
theorem dX11_byHands_9 : decode cX11_byHands 9 = .ok (.iconst 0, 1) := by decide +kernel
theorem dX11_byHands_10 : decode cX11_byHands 10 = .ok (.istore 4, 2) := by decide +kernel
theorem dX11_byHands_12 : decode cX11_byHands 12 = .ok (.iload 4, 2) := by decide +kernel
theorem dX11_byHands_14 : decode cX11_byHands 14 = .ok (.aload_n 0, 1) := by decide +kernel
theorem dX11_byHands_15 : decode cX11_byHands 15 = .ok (.getfield 34, 3) := by decide +kernel
theorem dX11_byHands_18 : decode cX11_byHands 18 = .ok (.iconst 0, 1) := by decide +kernel
theorem dX11_byHands_19 : decode cX11_byHands 19 = .ok (.iaload, 1) := by decide +kernel
theorem dX11_byHands_20 : decode cX11_byHands 20 = .ok (.if_icmp .ge 76, 3) := by decide +kernel
theorem dX11_byHands_23 : decode cX11_byHands 23 = .ok (.iconst 0, 1) := by decide +kernel
theorem dX11_byHands_24 : decode cX11_byHands 24 = .ok (.istore 5, 2) := by decide +kernel
theorem dX11_byHands_26 : decode cX11_byHands 26 = .ok (.iload 5, 2) := by decide +kernel
theorem dX11_byHands_28 : decode cX11_byHands 28 = .ok (.aload_n 0, 1) := by decide +kernel
theorem dX11_byHands_29 : decode cX11_byHands 29 = .ok (.getfield 56, 3) := by decide +kernel
theorem dX11_byHands_32 : decode cX11_byHands 32 = .ok (.iconst 0, 1) := by decide +kernel
theorem dX11_byHands_33 : decode cX11_byHands 33 = .ok (.iload_n 3, 1) := by decide +kernel
theorem dX11_byHands_34 : decode cX11_byHands 34 = .ok (.iload 4, 2) := by decide +kernel
theorem dX11_byHands_36 : decode cX11_byHands 36 = .ok (.invokestatic 280, 3) := by decide +kernel
theorem dX11_byHands_39 : decode cX11_byHands 39 = .ok (.iaload, 1) := by decide +kernel
theorem dX11_byHands_40 : decode cX11_byHands 40 = .ok (.if_icmp .ge 50, 3) := by decide +kernel
theorem dX11_byHands_43 : decode cX11_byHands 43 = .ok (.aload_n 0, 1) := by decide +kernel
theorem dX11_byHands_44 : decode cX11_byHands 44 = .ok (.getfield 62, 3) := by decide +kernel
theorem dX11_byHands_47 : decode cX11_byHands 47 = .ok (.iconst 0, 1) := by decide +kernel
theorem dX11_byHands_48 : decode cX11_byHands 48 = .ok (.iload_n 3, 1) := by decide +kernel
theorem dX11_byHands_49 : decode cX11_byHands 49 = .ok (.iload 4, 2) := by decide +kernel
theorem dX11_byHands_51 : decode cX11_byHands 51 = .ok (.iload 5, 2) := by decide +kernel
theorem dX11_byHands_53 : decode cX11_byHands 53 = .ok (.invokestatic 286, 3) := by decide +kernel
theorem dX11_byHands_56 : decode cX11_byHands 56 = .ok (.iaload, 1) := by decide +kernel
theorem dX11_byHands_57 : decode cX11_byHands 57 = .ok (.istore 6, 2) := by decide +kernel
theorem dX11_byHands_59 : decode cX11_byHands 59 = .ok (.iload_n 2, 1) := by decide +kernel
theorem dX11_byHands_60 : decode cX11_byHands 60 = .ok (.iload 6, 2) := by decide +kernel
theorem dX11_byHands_62 : decode cX11_byHands 62 = .ok (.iconst (-1), 1) := by decide +kernel
theorem dX11_byHands_63 : decode cX11_byHands 63 = .ok (.if_icmp .eq 18, 3) := by decide +kernel
theorem dX11_byHands_66 : decode cX11_byHands 66 = .ok (.iload_n 1, 1) := by decide +kernel
theorem dX11_byHands_67 : decode cX11_byHands 67 = .ok (.iconst (-1), 1) := by decide +kernel
theorem dX11_byHands_68 : decode cX11_byHands 68 = .ok (.if_icmp .eq 9, 3) := by decide +kernel
theorem dX11_byHands_71 : decode cX11_byHands 71 = .ok (.iload_n 1, 1) := by decide +kernel
theorem dX11_byHands_72 : decode cX11_byHands 72 = .ok (.iload 6, 2) := by decide +kernel
theorem dX11_byHands_74 : decode cX11_byHands 74 = .ok (.if_icmp .ne 7, 3) := by decide +kernel
theorem dX11_byHands_77 : decode cX11_byHands 77 = .ok (.iconst 1, 1) := by decide +kernel
theorem dX11_byHands_78 : decode cX11_byHands 78 = .ok (.goto 4, 3) := by decide +kernel
theorem dX11_byHands_81 : decode cX11_byHands 81 = .ok (.iconst 0, 1) := by decide +kernel
theorem dX11_byHands_82 : decode cX11_byHands 82 = .ok (.iadd, 1) := by decide +kernel
theorem dX11_byHands_83 : decode cX11_byHands 83 = .ok (.istore_n 2, 1) := by decide +kernel
theorem dX11_byHands_84 : decode cX11_byHands 84 = .ok (.iinc 5 1, 3) := by decide +kernel
theorem dX11_byHands_87 : decode cX11_byHands 87 = .ok (.goto (-61), 3) := by decide +kernel
theorem dX11_byHands_90 : decode cX11_byHands 90 = .ok (.iinc 4 1, 3) := by decide +kernel
theorem dX11_byHands_93 : decode cX11_byHands 93 = .ok (.goto (-81), 3) := by decide +kernel
theorem dX11_byHands_96 : decode cX11_byHands 96 = .ok (.iinc 3 1, 3) := by decide +kernel
theorem dX11_byHands_99 : decode cX11_byHands 99 = .ok (.goto (-95), 3) := by decide +kernel
theorem dX11_byHands_102 : decode cX11_byHands 102 = .ok (.iload_n 2, 1) := by decide +kernel
theorem dX11_byHands_103 : decode cX11_byHands 103 = .ok (.ireturn, 1) := by decide +kernel
theorem dX11_cheap_0 : decode cX11_cheap 0 = .ok (.aload_n 0, 1) := by decide +kernel
theorem dX11_cheap_1 : decode cX11_cheap 1 = .ok (.iconst 0, 1) := by decide +kernel
theorem dX11_cheap_2 : decode cX11_cheap 2 = .ok (.putfield 99, 3) := by decide +kernel
theorem dX11_cheap_5 : decode cX11_cheap 5 = .ok (.aload_n 0, 1) := by decide +kernel
theorem dX11_cheap_6 : decode cX11_cheap 6 = .ok (.iload_n 1, 1) := by decide +kernel
theorem dX11_cheap_7 : decode cX11_cheap 7 = .ok (.iconst 0, 1) := by decide +kernel
theorem dX11_cheap_8 : decode cX11_cheap 8 = .ok (.invokevirtual 396, 3) := by decide +kernel
theorem dX11_cheap_11 : decode cX11_cheap 11 = .ok (.istore_n 2, 1) := by decide +kernel
theorem dX11_cheap_12 : decode cX11_cheap 12 = .ok (.iload_n 2, 1) := by decide +kernel
theorem dX11_cheap_13 : decode cX11_cheap 13 = .ok (.ifCond .eq 5, 3) := by decide +kernel
theorem dX11_cheap_16 : decode cX11_cheap 16 = .ok (.iload_n 2, 1) := by decide +kernel
theorem dX11_cheap_17 : decode cX11_cheap 17 = .ok (.ireturn, 1) := by decide +kernel
theorem dX11_cheap_18 : decode cX11_cheap 18 = .ok (.aload_n 0, 1) := by decide +kernel
theorem dX11_cheap_19 : decode cX11_cheap 19 = .ok (.iload_n 1, 1) := by decide +kernel
theorem dX11_cheap_20 : decode cX11_cheap 20 = .ok (.sipush 999, 3) := by decide +kernel
theorem dX11_cheap_23 : decode cX11_cheap 23 = .ok (.invokevirtual 399, 3) := by decide +kernel
theorem dX11_cheap_26 : decode cX11_cheap 26 = .ok (.aload_n 0, 1) := by decide +kernel
theorem dX11_cheap_27 : decode cX11_cheap 27 = .ok (.getfield 385, 3) := by decide +kernel
theorem dX11_cheap_30 : decode cX11_cheap 30 = .ok (.ireturn, 1) := by decide +kernel
theorem dX11_election_0 : decode cX11_election 0 = .ok (.aload_n 0, 1) := by decide +kernel
theorem dX11_election_1 : decode cX11_election 1 = .ok (.iconst 0, 1) := by decide +kernel
theorem dX11_election_2 : decode cX11_election 2 = .ok (.putfield 99, 3) := by decide +kernel
theorem dX11_election_5 : decode cX11_election 5 = .ok (.aload_n 0, 1) := by decide +kernel
theorem dX11_election_6 : decode cX11_election 6 = .ok (.iload_n 1, 1) := by decide +kernel
theorem dX11_election_7 : decode cX11_election 7 = .ok (.invokevirtual 361, 3) := by decide +kernel
theorem dX11_election_10 : decode cX11_election 10 = .ok (.istore_n 2, 1) := by decide +kernel
theorem dX11_election_11 : decode cX11_election 11 = .ok (.iload_n 2, 1) := by decide +kernel
theorem dX11_election_12 : decode cX11_election 12 = .ok (.ifCond .eq 7, 3) := by decide +kernel
theorem dX11_election_15 : decode cX11_election 15 = .ok (.iload_n 2, 1) := by decide +kernel
theorem dX11_election_16 : decode cX11_election 16 = .ok (.goto 9, 3) := by decide +kernel
theorem dX11_election_19 : decode cX11_election 19 = .ok (.aload_n 0, 1) := by decide +kernel
theorem dX11_election_20 : decode cX11_election 20 = .ok (.iconst 0, 1) := by decide +kernel
theorem dX11_election_21 : decode cX11_election 21 = .ok (.iload_n 1, 1) := by decide +kernel
theorem dX11_election_22 : decode cX11_election 22 = .ok (.invokevirtual 364, 3) := by decide +kernel
theorem dX11_election_25 : decode cX11_election 25 = .ok (.ireturn, 1) := by decide +kernel
theorem dX11_elects_0 : decode cX11_elects 0 = .ok (.iconst 0, 1) := by decide +kernel
theorem dX11_elects_1 : decode cX11_elects 1 = .ok (.istore_n 3, 1) := by decide +kernel
theorem dX11_elects_2 : decode cX11_elects 2 = .ok (.iload_n 3, 1) := by decide +kernel
theorem dX11_elects_3 : decode cX11_elects 3 = .ok (.aload_n 0, 1) := by decide +kernel
theorem dX11_elects_4 : decode cX11_elects 4 = .ok (.getfield 43, 3) := by decide +kernel
theorem dX11_elects_7 : decode cX11_elects 7 = .ok (.iconst 0, 1) := by decide +kernel
theorem dX11_elects_8 : decode cX11_elects 8 = .ok (.iaload, 1) := by decide +kernel
theorem dX11_elects_9 : decode cX11_elects 9 = .ok (.if_icmp .ge 25, 3) := by decide +kernel
theorem dX11_elects_12 : decode cX11_elects 12 = .ok (.iload_n 2, 1) := by decide +kernel
theorem dX11_elects_13 : decode cX11_elects 13 = .ok (.iload_n 3, 1) := by decide +kernel
theorem dX11_elects_14 : decode cX11_elects 14 = .ok (.ishr, 1) := by decide +kernel
theorem dX11_elects_15 : decode cX11_elects 15 = .ok (.iconst 1, 1) := by decide +kernel
theorem dX11_elects_16 : decode cX11_elects 16 = .ok (.iand, 1) := by decide +kernel
theorem dX11_elects_17 : decode cX11_elects 17 = .ok (.iconst 1, 1) := by decide +kernel
theorem dX11_elects_18 : decode cX11_elects 18 = .ok (.if_icmp .ne 10, 3) := by decide +kernel
theorem dX11_elects_21 : decode cX11_elects 21 = .ok (.aload_n 0, 1) := by decide +kernel
theorem dX11_elects_22 : decode cX11_elects 22 = .ok (.iload_n 1, 1) := by decide +kernel
theorem dX11_elects_23 : decode cX11_elects 23 = .ok (.iload_n 3, 1) := by decide +kernel
theorem dX11_elects_24 : decode cX11_elects 24 = .ok (.invokevirtual 354, 3) := by decide +kernel
theorem dX11_elects_27 : decode cX11_elects 27 = .ok (.pop, 1) := by decide +kernel
theorem dX11_elects_28 : decode cX11_elects 28 = .ok (.iinc 3 1, 3) := by decide +kernel
theorem dX11_elects_31 : decode cX11_elects 31 = .ok (.goto (-29), 3) := by decide +kernel
theorem dX11_elects_34 : decode cX11_elects 34 = .ok (.aload_n 0, 1) := by decide +kernel
theorem dX11_elects_35 : decode cX11_elects 35 = .ok (.iload_n 1, 1) := by decide +kernel
theorem dX11_elects_36 : decode cX11_elects 36 = .ok (.aload_n 0, 1) := by decide +kernel
theorem dX11_elects_37 : decode cX11_elects 37 = .ok (.getfield 49, 3) := by decide +kernel
theorem dX11_elects_40 : decode cX11_elects 40 = .ok (.iconst 0, 1) := by decide +kernel
theorem dX11_elects_41 : decode cX11_elects 41 = .ok (.iaload, 1) := by decide +kernel
theorem dX11_elects_42 : decode cX11_elects 42 = .ok (.invokevirtual 334, 3) := by decide +kernel
theorem dX11_elects_45 : decode cX11_elects 45 = .ok (.istore_n 3, 1) := by decide +kernel
theorem dX11_elects_46 : decode cX11_elects 46 = .ok (.iload_n 3, 1) := by decide +kernel
theorem dX11_elects_47 : decode cX11_elects 47 = .ok (.iconst 2, 1) := by decide +kernel
theorem dX11_elects_48 : decode cX11_elects 48 = .ok (.if_icmp .ne 16, 3) := by decide +kernel
theorem dX11_elects_51 : decode cX11_elects 51 = .ok (.aload_n 0, 1) := by decide +kernel
theorem dX11_elects_52 : decode cX11_elects 52 = .ok (.getfield 71, 3) := by decide +kernel
theorem dX11_elects_55 : decode cX11_elects 55 = .ok (.iconst 3, 1) := by decide +kernel
theorem dX11_elects_56 : decode cX11_elects 56 = .ok (.iload_n 1, 1) := by decide +kernel
theorem dX11_elects_57 : decode cX11_elects 57 = .ok (.imul, 1) := by decide +kernel
theorem dX11_elects_58 : decode cX11_elects 58 = .ok (.iconst 1, 1) := by decide +kernel
theorem dX11_elects_59 : decode cX11_elects 59 = .ok (.iadd, 1) := by decide +kernel
theorem dX11_elects_60 : decode cX11_elects 60 = .ok (.iaload, 1) := by decide +kernel
theorem dX11_elects_61 : decode cX11_elects 61 = .ok (.goto 4, 3) := by decide +kernel
theorem dX11_elects_64 : decode cX11_elects 64 = .ok (.iload_n 3, 1) := by decide +kernel
theorem dX11_elects_65 : decode cX11_elects 65 = .ok (.istore 4, 2) := by decide +kernel
theorem dX11_elects_67 : decode cX11_elects 67 = .ok (.aload_n 0, 1) := by decide +kernel
theorem dX11_elects_68 : decode cX11_elects 68 = .ok (.getfield 74, 3) := by decide +kernel
theorem dX11_elects_71 : decode cX11_elects 71 = .ok (.bipush 100, 2) := by decide +kernel
theorem dX11_elects_73 : decode cX11_elects 73 = .ok (.iload_n 1, 1) := by decide +kernel
theorem dX11_elects_74 : decode cX11_elects 74 = .ok (.imul, 1) := by decide +kernel
theorem dX11_elects_75 : decode cX11_elects 75 = .ok (.aload_n 0, 1) := by decide +kernel
theorem dX11_elects_76 : decode cX11_elects 76 = .ok (.getfield 71, 3) := by decide +kernel
theorem dX11_elects_79 : decode cX11_elects 79 = .ok (.iconst 3, 1) := by decide +kernel
theorem dX11_elects_80 : decode cX11_elects 80 = .ok (.iload_n 1, 1) := by decide +kernel
theorem dX11_elects_81 : decode cX11_elects 81 = .ok (.imul, 1) := by decide +kernel
theorem dX11_elects_82 : decode cX11_elects 82 = .ok (.iconst 0, 1) := by decide +kernel
theorem dX11_elects_83 : decode cX11_elects 83 = .ok (.iadd, 1) := by decide +kernel
theorem dX11_elects_84 : decode cX11_elects 84 = .ok (.iaload, 1) := by decide +kernel
theorem dX11_elects_85 : decode cX11_elects 85 = .ok (.iadd, 1) := by decide +kernel
theorem dX11_elects_86 : decode cX11_elects 86 = .ok (.iload 4, 2) := by decide +kernel
theorem dX11_elects_88 : decode cX11_elects 88 = .ok (.iastore, 1) := by decide +kernel
theorem dX11_elects_89 : decode cX11_elects 89 = .ok (.aload_n 0, 1) := by decide +kernel
theorem dX11_elects_90 : decode cX11_elects 90 = .ok (.getfield 71, 3) := by decide +kernel
theorem dX11_elects_93 : decode cX11_elects 93 = .ok (.iconst 3, 1) := by decide +kernel
theorem dX11_elects_94 : decode cX11_elects 94 = .ok (.iload_n 1, 1) := by decide +kernel
theorem dX11_elects_95 : decode cX11_elects 95 = .ok (.imul, 1) := by decide +kernel
theorem dX11_elects_96 : decode cX11_elects 96 = .ok (.iconst 1, 1) := by decide +kernel
theorem dX11_elects_97 : decode cX11_elects 97 = .ok (.iadd, 1) := by decide +kernel
theorem dX11_elects_98 : decode cX11_elects 98 = .ok (.iload 4, 2) := by decide +kernel
theorem dX11_elects_100 : decode cX11_elects 100 = .ok (.iastore, 1) := by decide +kernel
theorem dX11_elects_101 : decode cX11_elects 101 = .ok (.aload_n 0, 1) := by decide +kernel
theorem dX11_elects_102 : decode cX11_elects 102 = .ok (.getfield 71, 3) := by decide +kernel
theorem dX11_elects_105 : decode cX11_elects 105 = .ok (.iconst 3, 1) := by decide +kernel
theorem dX11_elects_106 : decode cX11_elects 106 = .ok (.iload_n 1, 1) := by decide +kernel
theorem dX11_elects_107 : decode cX11_elects 107 = .ok (.imul, 1) := by decide +kernel
theorem dX11_elects_108 : decode cX11_elects 108 = .ok (.iconst 0, 1) := by decide +kernel
theorem dX11_elects_109 : decode cX11_elects 109 = .ok (.iadd, 1) := by decide +kernel
theorem dX11_elects_110 : decode cX11_elects 110 = .ok (.dup2, 1) := by decide +kernel
theorem dX11_elects_111 : decode cX11_elects 111 = .ok (.iaload, 1) := by decide +kernel
theorem dX11_elects_112 : decode cX11_elects 112 = .ok (.iconst 1, 1) := by decide +kernel
theorem dX11_elects_113 : decode cX11_elects 113 = .ok (.iadd, 1) := by decide +kernel
theorem dX11_elects_114 : decode cX11_elects 114 = .ok (.iastore, 1) := by decide +kernel
theorem dX11_elects_115 : decode cX11_elects 115 = .ok (.iload 4, 2) := by decide +kernel
theorem dX11_elects_117 : decode cX11_elects 117 = .ok (.ireturn, 1) := by decide +kernel
theorem dX11_everybody_0 : decode cX11_everybody 0 = .ok (.iconst 1, 1) := by decide +kernel
theorem dX11_everybody_1 : decode cX11_everybody 1 = .ok (.aload_n 0, 1) := by decide +kernel
theorem dX11_everybody_2 : decode cX11_everybody 2 = .ok (.getfield 43, 3) := by decide +kernel
theorem dX11_everybody_5 : decode cX11_everybody 5 = .ok (.iconst 0, 1) := by decide +kernel
theorem dX11_everybody_6 : decode cX11_everybody 6 = .ok (.iaload, 1) := by decide +kernel
theorem dX11_everybody_7 : decode cX11_everybody 7 = .ok (.ishl, 1) := by decide +kernel
theorem dX11_everybody_8 : decode cX11_everybody 8 = .ok (.iconst 1, 1) := by decide +kernel
theorem dX11_everybody_9 : decode cX11_everybody 9 = .ok (.isub, 1) := by decide +kernel
theorem dX11_everybody_10 : decode cX11_everybody 10 = .ok (.ireturn, 1) := by decide +kernel
theorem dX11_farOf_0 : decode cX11_farOf 0 = .ok (.iconst 0, 1) := by decide +kernel
theorem dX11_farOf_1 : decode cX11_farOf 1 = .ok (.istore_n 2, 1) := by decide +kernel
theorem dX11_farOf_2 : decode cX11_farOf 2 = .ok (.iconst 0, 1) := by decide +kernel
theorem dX11_farOf_3 : decode cX11_farOf 3 = .ok (.istore_n 3, 1) := by decide +kernel
theorem dX11_farOf_4 : decode cX11_farOf 4 = .ok (.iload_n 3, 1) := by decide +kernel
theorem dX11_farOf_5 : decode cX11_farOf 5 = .ok (.aload_n 0, 1) := by decide +kernel
theorem dX11_farOf_6 : decode cX11_farOf 6 = .ok (.getfield 43, 3) := by decide +kernel
theorem dX11_farOf_9 : decode cX11_farOf 9 = .ok (.iconst 0, 1) := by decide +kernel
theorem dX11_farOf_10 : decode cX11_farOf 10 = .ok (.iaload, 1) := by decide +kernel
theorem dX11_farOf_11 : decode cX11_farOf 11 = .ok (.if_icmp .ge 36, 3) := by decide +kernel
theorem dX11_farOf_14 : decode cX11_farOf 14 = .ok (.iload_n 2, 1) := by decide +kernel
theorem dX11_farOf_15 : decode cX11_farOf 15 = .ok (.iload_n 1, 1) := by decide +kernel
theorem dX11_farOf_16 : decode cX11_farOf 16 = .ok (.iload_n 3, 1) := by decide +kernel
theorem dX11_farOf_17 : decode cX11_farOf 17 = .ok (.ishr, 1) := by decide +kernel
theorem dX11_farOf_18 : decode cX11_farOf 18 = .ok (.iconst 1, 1) := by decide +kernel
theorem dX11_farOf_19 : decode cX11_farOf 19 = .ok (.iand, 1) := by decide +kernel
theorem dX11_farOf_20 : decode cX11_farOf 20 = .ok (.iconst 1, 1) := by decide +kernel
theorem dX11_farOf_21 : decode cX11_farOf 21 = .ok (.if_icmp .ne 17, 3) := by decide +kernel
theorem dX11_farOf_24 : decode cX11_farOf 24 = .ok (.aload_n 0, 1) := by decide +kernel
theorem dX11_farOf_25 : decode cX11_farOf 25 = .ok (.getfield 46, 3) := by decide +kernel
theorem dX11_farOf_28 : decode cX11_farOf 28 = .ok (.bipush 8, 2) := by decide +kernel
theorem dX11_farOf_30 : decode cX11_farOf 30 = .ok (.iload_n 3, 1) := by decide +kernel
theorem dX11_farOf_31 : decode cX11_farOf 31 = .ok (.imul, 1) := by decide +kernel
theorem dX11_farOf_32 : decode cX11_farOf 32 = .ok (.iconst 5, 1) := by decide +kernel
theorem dX11_farOf_33 : decode cX11_farOf 33 = .ok (.iadd, 1) := by decide +kernel
theorem dX11_farOf_34 : decode cX11_farOf 34 = .ok (.iaload, 1) := by decide +kernel
theorem dX11_farOf_35 : decode cX11_farOf 35 = .ok (.goto 4, 3) := by decide +kernel
theorem dX11_farOf_38 : decode cX11_farOf 38 = .ok (.iconst 0, 1) := by decide +kernel
theorem dX11_farOf_39 : decode cX11_farOf 39 = .ok (.iadd, 1) := by decide +kernel
theorem dX11_farOf_40 : decode cX11_farOf 40 = .ok (.istore_n 2, 1) := by decide +kernel
theorem dX11_farOf_41 : decode cX11_farOf 41 = .ok (.iinc 3 1, 3) := by decide +kernel
theorem dX11_farOf_44 : decode cX11_farOf 44 = .ok (.goto (-40), 3) := by decide +kernel
theorem dX11_farOf_47 : decode cX11_farOf 47 = .ok (.iload_n 2, 1) := by decide +kernel
theorem dX11_farOf_48 : decode cX11_farOf 48 = .ok (.ireturn, 1) := by decide +kernel
theorem dX11_fetch_0 : decode cX11_fetch 0 = .ok (.aload_n 0, 1) := by decide +kernel
theorem dX11_fetch_1 : decode cX11_fetch 1 = .ok (.iconst 0, 1) := by decide +kernel
theorem dX11_fetch_2 : decode cX11_fetch 2 = .ok (.putfield 99, 3) := by decide +kernel
theorem dX11_fetch_5 : decode cX11_fetch 5 = .ok (.aload_n 0, 1) := by decide +kernel
theorem dX11_fetch_6 : decode cX11_fetch 6 = .ok (.iload_n 1, 1) := by decide +kernel
theorem dX11_fetch_7 : decode cX11_fetch 7 = .ok (.iload_n 2, 1) := by decide +kernel
theorem dX11_fetch_8 : decode cX11_fetch 8 = .ok (.invokevirtual 396, 3) := by decide +kernel
theorem dX11_fetch_11 : decode cX11_fetch 11 = .ok (.istore_n 3, 1) := by decide +kernel
theorem dX11_fetch_12 : decode cX11_fetch 12 = .ok (.iload_n 3, 1) := by decide +kernel
theorem dX11_fetch_13 : decode cX11_fetch 13 = .ok (.ifCond .eq 5, 3) := by decide +kernel
theorem dX11_fetch_16 : decode cX11_fetch 16 = .ok (.iload_n 3, 1) := by decide +kernel
theorem dX11_fetch_17 : decode cX11_fetch 17 = .ok (.ireturn, 1) := by decide +kernel
theorem dX11_fetch_18 : decode cX11_fetch 18 = .ok (.aload_n 0, 1) := by decide +kernel
theorem dX11_fetch_19 : decode cX11_fetch 19 = .ok (.iload_n 1, 1) := by decide +kernel
theorem dX11_fetch_20 : decode cX11_fetch 20 = .ok (.iload_n 2, 1) := by decide +kernel
theorem dX11_fetch_21 : decode cX11_fetch 21 = .ok (.invokevirtual 399, 3) := by decide +kernel
theorem dX11_fetch_24 : decode cX11_fetch 24 = .ok (.aload_n 0, 1) := by decide +kernel
theorem dX11_fetch_25 : decode cX11_fetch 25 = .ok (.getfield 382, 3) := by decide +kernel
theorem dX11_fetch_28 : decode cX11_fetch 28 = .ok (.ireturn, 1) := by decide +kernel
theorem dX11_fetches_0 : decode cX11_fetches 0 = .ok (.aload_n 0, 1) := by decide +kernel
theorem dX11_fetches_1 : decode cX11_fetches 1 = .ok (.iconst (-1), 1) := by decide +kernel
theorem dX11_fetches_2 : decode cX11_fetches 2 = .ok (.putfield 382, 3) := by decide +kernel
theorem dX11_fetches_5 : decode cX11_fetches 5 = .ok (.aload_n 0, 1) := by decide +kernel
theorem dX11_fetches_6 : decode cX11_fetches 6 = .ok (.iconst (-1), 1) := by decide +kernel
theorem dX11_fetches_7 : decode cX11_fetches 7 = .ok (.putfield 385, 3) := by decide +kernel
theorem dX11_fetches_10 : decode cX11_fetches 10 = .ok (.iconst 0, 1) := by decide +kernel
theorem dX11_fetches_11 : decode cX11_fetches 11 = .ok (.istore_n 3, 1) := by decide +kernel
theorem dX11_fetches_12 : decode cX11_fetches 12 = .ok (.iload_n 3, 1) := by decide +kernel
theorem dX11_fetches_13 : decode cX11_fetches 13 = .ok (.aload_n 0, 1) := by decide +kernel
theorem dX11_fetches_14 : decode cX11_fetches 14 = .ok (.invokevirtual 357, 3) := by decide +kernel
theorem dX11_fetches_17 : decode cX11_fetches 17 = .ok (.if_icmp .gt 141, 3) := by decide +kernel
theorem dX11_fetches_20 : decode cX11_fetches 20 = .ok (.aload_n 0, 1) := by decide +kernel
theorem dX11_fetches_21 : decode cX11_fetches 21 = .ok (.iload_n 3, 1) := by decide +kernel
theorem dX11_fetches_22 : decode cX11_fetches 22 = .ok (.invokevirtual 388, 3) := by decide +kernel
theorem dX11_fetches_25 : decode cX11_fetches 25 = .ok (.istore 4, 2) := by decide +kernel
theorem dX11_fetches_27 : decode cX11_fetches 27 = .ok (.iload 4, 2) := by decide +kernel
theorem dX11_fetches_29 : decode cX11_fetches 29 = .ok (.iload_n 2, 1) := by decide +kernel
theorem dX11_fetches_30 : decode cX11_fetches 30 = .ok (.if_icmp .le 6, 3) := by decide +kernel
theorem dX11_fetches_33 : decode cX11_fetches 33 = .ok (.goto 119, 3) := by decide +kernel
theorem dX11_fetches_36 : decode cX11_fetches 36 = .ok (.aload_n 0, 1) := by decide +kernel
theorem dX11_fetches_37 : decode cX11_fetches 37 = .ok (.iload_n 3, 1) := by decide +kernel
theorem dX11_fetches_38 : decode cX11_fetches 38 = .ok (.invokevirtual 367, 3) := by decide +kernel
theorem dX11_fetches_41 : decode cX11_fetches 41 = .ok (.pop, 1) := by decide +kernel
theorem dX11_fetches_42 : decode cX11_fetches 42 = .ok (.aload_n 0, 1) := by decide +kernel
theorem dX11_fetches_43 : decode cX11_fetches 43 = .ok (.iconst 4, 1) := by decide +kernel
theorem dX11_fetches_44 : decode cX11_fetches 44 = .ok (.iload_n 1, 1) := by decide +kernel
theorem dX11_fetches_45 : decode cX11_fetches 45 = .ok (.aload_n 0, 1) := by decide +kernel
theorem dX11_fetches_46 : decode cX11_fetches 46 = .ok (.getfield 49, 3) := by decide +kernel
theorem dX11_fetches_49 : decode cX11_fetches 49 = .ok (.iconst 0, 1) := by decide +kernel
theorem dX11_fetches_50 : decode cX11_fetches 50 = .ok (.iaload, 1) := by decide +kernel
theorem dX11_fetches_51 : decode cX11_fetches 51 = .ok (.invokevirtual 324, 3) := by decide +kernel
theorem dX11_fetches_54 : decode cX11_fetches 54 = .ok (.aload_n 0, 1) := by decide +kernel
theorem dX11_fetches_55 : decode cX11_fetches 55 = .ok (.iconst 4, 1) := by decide +kernel
theorem dX11_fetches_56 : decode cX11_fetches 56 = .ok (.iconst 1, 1) := by decide +kernel
theorem dX11_fetches_57 : decode cX11_fetches 57 = .ok (.iload_n 1, 1) := by decide +kernel
theorem dX11_fetches_58 : decode cX11_fetches 58 = .ok (.isub, 1) := by decide +kernel
theorem dX11_fetches_59 : decode cX11_fetches 59 = .ok (.aload_n 0, 1) := by decide +kernel
theorem dX11_fetches_60 : decode cX11_fetches 60 = .ok (.getfield 49, 3) := by decide +kernel
theorem dX11_fetches_63 : decode cX11_fetches 63 = .ok (.iconst 0, 1) := by decide +kernel
theorem dX11_fetches_64 : decode cX11_fetches 64 = .ok (.iaload, 1) := by decide +kernel
theorem dX11_fetches_65 : decode cX11_fetches 65 = .ok (.invokevirtual 324, 3) := by decide +kernel
theorem dX11_fetches_68 : decode cX11_fetches 68 = .ok (.isub, 1) := by decide +kernel
theorem dX11_fetches_69 : decode cX11_fetches 69 = .ok (.istore 5, 2) := by decide +kernel
theorem dX11_fetches_71 : decode cX11_fetches 71 = .ok (.iload 5, 2) := by decide +kernel
theorem dX11_fetches_73 : decode cX11_fetches 73 = .ok (.ifCond .le 26, 3) := by decide +kernel
theorem dX11_fetches_76 : decode cX11_fetches 76 = .ok (.aload_n 0, 1) := by decide +kernel
theorem dX11_fetches_77 : decode cX11_fetches 77 = .ok (.getfield 385, 3) := by decide +kernel
theorem dX11_fetches_80 : decode cX11_fetches 80 = .ok (.iconst (-1), 1) := by decide +kernel
theorem dX11_fetches_81 : decode cX11_fetches 81 = .ok (.if_icmp .eq 12, 3) := by decide +kernel
theorem dX11_fetches_84 : decode cX11_fetches 84 = .ok (.iload 4, 2) := by decide +kernel
theorem dX11_fetches_86 : decode cX11_fetches 86 = .ok (.aload_n 0, 1) := by decide +kernel
theorem dX11_fetches_87 : decode cX11_fetches 87 = .ok (.getfield 385, 3) := by decide +kernel
theorem dX11_fetches_90 : decode cX11_fetches 90 = .ok (.if_icmp .ge 9, 3) := by decide +kernel
theorem dX11_fetches_93 : decode cX11_fetches 93 = .ok (.aload_n 0, 1) := by decide +kernel
theorem dX11_fetches_94 : decode cX11_fetches 94 = .ok (.iload 4, 2) := by decide +kernel
theorem dX11_fetches_96 : decode cX11_fetches 96 = .ok (.putfield 385, 3) := by decide +kernel
theorem dX11_fetches_99 : decode cX11_fetches 99 = .ok (.aload_n 0, 1) := by decide +kernel
theorem dX11_fetches_100 : decode cX11_fetches 100 = .ok (.getfield 382, 3) := by decide +kernel
theorem dX11_fetches_103 : decode cX11_fetches 103 = .ok (.iconst (-1), 1) := by decide +kernel
theorem dX11_fetches_104 : decode cX11_fetches 104 = .ok (.if_icmp .eq 37, 3) := by decide +kernel
theorem dX11_fetches_107 : decode cX11_fetches 107 = .ok (.iload 5, 2) := by decide +kernel
theorem dX11_fetches_109 : decode cX11_fetches 109 = .ok (.aload_n 0, 1) := by decide +kernel
theorem dX11_fetches_110 : decode cX11_fetches 110 = .ok (.getfield 391, 3) := by decide +kernel
theorem dX11_fetches_113 : decode cX11_fetches 113 = .ok (.if_icmp .lt 39, 3) := by decide +kernel
theorem dX11_fetches_116 : decode cX11_fetches 116 = .ok (.iload 5, 2) := by decide +kernel
theorem dX11_fetches_118 : decode cX11_fetches 118 = .ok (.aload_n 0, 1) := by decide +kernel
theorem dX11_fetches_119 : decode cX11_fetches 119 = .ok (.getfield 391, 3) := by decide +kernel
theorem dX11_fetches_122 : decode cX11_fetches 122 = .ok (.if_icmp .ne 19, 3) := by decide +kernel
theorem dX11_fetches_125 : decode cX11_fetches 125 = .ok (.iload 4, 2) := by decide +kernel
theorem dX11_fetches_127 : decode cX11_fetches 127 = .ok (.aload_n 0, 1) := by decide +kernel
theorem dX11_fetches_128 : decode cX11_fetches 128 = .ok (.aload_n 0, 1) := by decide +kernel
theorem dX11_fetches_129 : decode cX11_fetches 129 = .ok (.getfield 382, 3) := by decide +kernel
theorem dX11_fetches_132 : decode cX11_fetches 132 = .ok (.invokevirtual 388, 3) := by decide +kernel
theorem dX11_fetches_135 : decode cX11_fetches 135 = .ok (.if_icmp .lt 6, 3) := by decide +kernel
theorem dX11_fetches_138 : decode cX11_fetches 138 = .ok (.goto 14, 3) := by decide +kernel
theorem dX11_fetches_141 : decode cX11_fetches 141 = .ok (.aload_n 0, 1) := by decide +kernel
