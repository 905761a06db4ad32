theorem dX7_stonesBy_18 : decode cX7_stonesBy 18 = .ok (.iload 4, 2) := by decide +kernel
theorem dX7_stonesBy_20 : decode cX7_stonesBy 20 = .ok (.invokestatic 94, 3) := by decide +kernel
theorem dX7_stonesBy_23 : decode cX7_stonesBy 23 = .ok (.istore 5, 2) := by decide +kernel
theorem dX7_stonesBy_25 : decode cX7_stonesBy 25 = .ok (.iconst 0, 1) := by decide +kernel
theorem dX7_stonesBy_26 : decode cX7_stonesBy 26 = .ok (.istore 6, 2) := by decide +kernel
theorem dX7_stonesBy_28 : decode cX7_stonesBy 28 = .ok (.iload 6, 2) := by decide +kernel
theorem dX7_stonesBy_30 : decode cX7_stonesBy 30 = .ok (.aload_n 0, 1) := by decide +kernel
theorem dX7_stonesBy_31 : decode cX7_stonesBy 31 = .ok (.getfield 9, 3) := by decide +kernel
theorem dX7_stonesBy_34 : decode cX7_stonesBy 34 = .ok (.iload 5, 2) := by decide +kernel
theorem dX7_stonesBy_36 : decode cX7_stonesBy 36 = .ok (.iaload, 1) := by decide +kernel
theorem dX7_stonesBy_37 : decode cX7_stonesBy 37 = .ok (.if_icmp .ge 28, 3) := by decide +kernel
theorem dX7_stonesBy_40 : decode cX7_stonesBy 40 = .ok (.aload_n 0, 1) := by decide +kernel
theorem dX7_stonesBy_41 : decode cX7_stonesBy 41 = .ok (.getfield 21, 3) := by decide +kernel
theorem dX7_stonesBy_44 : decode cX7_stonesBy 44 = .ok (.iload 5, 2) := by decide +kernel
theorem dX7_stonesBy_46 : decode cX7_stonesBy 46 = .ok (.iload 6, 2) := by decide +kernel
theorem dX7_stonesBy_48 : decode cX7_stonesBy 48 = .ok (.invokestatic 75, 3) := by decide +kernel
theorem dX7_stonesBy_51 : decode cX7_stonesBy 51 = .ok (.iaload, 1) := by decide +kernel
theorem dX7_stonesBy_52 : decode cX7_stonesBy 52 = .ok (.iload_n 2, 1) := by decide +kernel
theorem dX7_stonesBy_53 : decode cX7_stonesBy 53 = .ok (.if_icmp .ne 6, 3) := by decide +kernel
theorem dX7_stonesBy_56 : decode cX7_stonesBy 56 = .ok (.iinc 3 1, 3) := by decide +kernel
theorem dX7_stonesBy_59 : decode cX7_stonesBy 59 = .ok (.iinc 6 1, 3) := by decide +kernel
theorem dX7_stonesBy_62 : decode cX7_stonesBy 62 = .ok (.goto (-34), 3) := by decide +kernel
theorem dX7_stonesBy_65 : decode cX7_stonesBy 65 = .ok (.iinc 4 1, 3) := by decide +kernel
theorem dX7_stonesBy_68 : decode cX7_stonesBy 68 = .ok (.goto (-63), 3) := by decide +kernel
theorem dX7_stonesBy_71 : decode cX7_stonesBy 71 = .ok (.iload_n 3, 1) := by decide +kernel
theorem dX7_stonesBy_72 : decode cX7_stonesBy 72 = .ok (.ireturn, 1) := by decide +kernel
theorem dX7_stonesLying_0 : decode cX7_stonesLying 0 = .ok (.aload_n 0, 1) := by decide +kernel
theorem dX7_stonesLying_1 : decode cX7_stonesLying 1 = .ok (.getfield 27, 3) := by decide +kernel
theorem dX7_stonesLying_4 : decode cX7_stonesLying 4 = .ok (.iconst 0, 1) := by decide +kernel
theorem dX7_stonesLying_5 : decode cX7_stonesLying 5 = .ok (.iaload, 1) := by decide +kernel
theorem dX7_stonesLying_6 : decode cX7_stonesLying 6 = .ok (.aload_n 0, 1) := by decide +kernel
theorem dX7_stonesLying_7 : decode cX7_stonesLying 7 = .ok (.getfield 27, 3) := by decide +kernel
theorem dX7_stonesLying_10 : decode cX7_stonesLying 10 = .ok (.iconst 1, 1) := by decide +kernel
theorem dX7_stonesLying_11 : decode cX7_stonesLying 11 = .ok (.iaload, 1) := by decide +kernel
theorem dX7_stonesLying_12 : decode cX7_stonesLying 12 = .ok (.iadd, 1) := by decide +kernel
theorem dX7_stonesLying_13 : decode cX7_stonesLying 13 = .ok (.ireturn, 1) := by decide +kernel
theorem dX7_tallest_0 : decode cX7_tallest 0 = .ok (.iconst 0, 1) := by decide +kernel
theorem dX7_tallest_1 : decode cX7_tallest 1 = .ok (.istore_n 2, 1) := by decide +kernel
theorem dX7_tallest_2 : decode cX7_tallest 2 = .ok (.iconst 0, 1) := by decide +kernel
theorem dX7_tallest_3 : decode cX7_tallest 3 = .ok (.istore_n 3, 1) := by decide +kernel
theorem dX7_tallest_4 : decode cX7_tallest 4 = .ok (.iload_n 3, 1) := by decide +kernel
theorem dX7_tallest_5 : decode cX7_tallest 5 = .ok (.aload_n 0, 1) := by decide +kernel
theorem dX7_tallest_6 : decode cX7_tallest 6 = .ok (.getfield 36, 3) := by decide +kernel
theorem dX7_tallest_9 : decode cX7_tallest 9 = .ok (.getfield 65, 3) := by decide +kernel
theorem dX7_tallest_12 : decode cX7_tallest 12 = .ok (.if_icmp .ge 24, 3) := by decide +kernel
theorem dX7_tallest_15 : decode cX7_tallest 15 = .ok (.iload_n 2, 1) := by decide +kernel
theorem dX7_tallest_16 : decode cX7_tallest 16 = .ok (.aload_n 0, 1) := by decide +kernel
theorem dX7_tallest_17 : decode cX7_tallest 17 = .ok (.getfield 9, 3) := by decide +kernel
theorem dX7_tallest_20 : decode cX7_tallest 20 = .ok (.iload_n 1, 1) := by decide +kernel
theorem dX7_tallest_21 : decode cX7_tallest 21 = .ok (.iload_n 3, 1) := by decide +kernel
theorem dX7_tallest_22 : decode cX7_tallest 22 = .ok (.invokestatic 94, 3) := by decide +kernel
theorem dX7_tallest_25 : decode cX7_tallest 25 = .ok (.iaload, 1) := by decide +kernel
theorem dX7_tallest_26 : decode cX7_tallest 26 = .ok (.invokestatic 97, 3) := by decide +kernel
theorem dX7_tallest_29 : decode cX7_tallest 29 = .ok (.istore_n 2, 1) := by decide +kernel
theorem dX7_tallest_30 : decode cX7_tallest 30 = .ok (.iinc 3 1, 3) := by decide +kernel
theorem dX7_tallest_33 : decode cX7_tallest 33 = .ok (.goto (-29), 3) := by decide +kernel
theorem dX7_tallest_36 : decode cX7_tallest 36 = .ok (.iload_n 2, 1) := by decide +kernel
theorem dX7_tallest_37 : decode cX7_tallest 37 = .ok (.ireturn, 1) := by decide +kernel
theorem dX7_tally_0 : decode cX7_tally 0 = .ok (.iload_n 2, 1) := by decide +kernel
theorem dX7_tally_1 : decode cX7_tally 1 = .ok (.lookupswitch 40 #[(1, 27), (2, 34)], 27) := by decide +kernel
theorem dX7_tally_28 : decode cX7_tally 28 = .ok (.aload_n 0, 1) := by decide +kernel
theorem dX7_tally_29 : decode cX7_tally 29 = .ok (.getfield 30, 3) := by decide +kernel
theorem dX7_tally_32 : decode cX7_tally 32 = .ok (.iload_n 1, 1) := by decide +kernel
theorem dX7_tally_33 : decode cX7_tally 33 = .ok (.iaload, 1) := by decide +kernel
theorem dX7_tally_34 : decode cX7_tally 34 = .ok (.ireturn, 1) := by decide +kernel
theorem dX7_tally_35 : decode cX7_tally 35 = .ok (.aload_n 0, 1) := by decide +kernel
theorem dX7_tally_36 : decode cX7_tally 36 = .ok (.iload_n 1, 1) := by decide +kernel
theorem dX7_tally_37 : decode cX7_tally 37 = .ok (.invokevirtual 91, 3) := by decide +kernel
theorem dX7_tally_40 : decode cX7_tally 40 = .ok (.ireturn, 1) := by decide +kernel
theorem dX7_tally_41 : decode cX7_tally 41 = .ok (.aload_n 0, 1) := by decide +kernel
theorem dX7_tally_42 : decode cX7_tally 42 = .ok (.getfield 27, 3) := by decide +kernel
theorem dX7_tally_45 : decode cX7_tally 45 = .ok (.iload_n 1, 1) := by decide +kernel
theorem dX7_tally_46 : decode cX7_tally 46 = .ok (.iaload, 1) := by decide +kernel
theorem dX7_tally_47 : decode cX7_tally 47 = .ok (.ireturn, 1) := by decide +kernel
theorem dX7_votesLying_0 : decode cX7_votesLying 0 = .ok (.iconst 0, 1) := by decide +kernel
theorem dX7_votesLying_1 : decode cX7_votesLying 1 = .ok (.istore_n 3, 1) := by decide +kernel
theorem dX7_votesLying_2 : decode cX7_votesLying 2 = .ok (.iconst 0, 1) := by decide +kernel
theorem dX7_votesLying_3 : decode cX7_votesLying 3 = .ok (.istore 4, 2) := by decide +kernel
theorem dX7_votesLying_5 : decode cX7_votesLying 5 = .ok (.iload 4, 2) := by decide +kernel
theorem dX7_votesLying_7 : decode cX7_votesLying 7 = .ok (.aload_n 0, 1) := by decide +kernel
theorem dX7_votesLying_8 : decode cX7_votesLying 8 = .ok (.getfield 36, 3) := by decide +kernel
theorem dX7_votesLying_11 : decode cX7_votesLying 11 = .ok (.getfield 65, 3) := by decide +kernel
theorem dX7_votesLying_14 : decode cX7_votesLying 14 = .ok (.if_icmp .ge 72, 3) := by decide +kernel
theorem dX7_votesLying_17 : decode cX7_votesLying 17 = .ok (.iload_n 1, 1) := by decide +kernel
theorem dX7_votesLying_18 : decode cX7_votesLying 18 = .ok (.iload 4, 2) := by decide +kernel
theorem dX7_votesLying_20 : decode cX7_votesLying 20 = .ok (.invokestatic 94, 3) := by decide +kernel
theorem dX7_votesLying_23 : decode cX7_votesLying 23 = .ok (.istore 5, 2) := by decide +kernel
theorem dX7_votesLying_25 : decode cX7_votesLying 25 = .ok (.iconst 0, 1) := by decide +kernel
theorem dX7_votesLying_26 : decode cX7_votesLying 26 = .ok (.istore 6, 2) := by decide +kernel
theorem dX7_votesLying_28 : decode cX7_votesLying 28 = .ok (.iload 6, 2) := by decide +kernel
theorem dX7_votesLying_30 : decode cX7_votesLying 30 = .ok (.aload_n 0, 1) := by decide +kernel
theorem dX7_votesLying_31 : decode cX7_votesLying 31 = .ok (.getfield 9, 3) := by decide +kernel
theorem dX7_votesLying_34 : decode cX7_votesLying 34 = .ok (.iload 5, 2) := by decide +kernel
theorem dX7_votesLying_36 : decode cX7_votesLying 36 = .ok (.iaload, 1) := by decide +kernel
theorem dX7_votesLying_37 : decode cX7_votesLying 37 = .ok (.if_icmp .ge 43, 3) := by decide +kernel
theorem dX7_votesLying_40 : decode cX7_votesLying 40 = .ok (.iload 5, 2) := by decide +kernel
theorem dX7_votesLying_42 : decode cX7_votesLying 42 = .ok (.iload 6, 2) := by decide +kernel
theorem dX7_votesLying_44 : decode cX7_votesLying 44 = .ok (.invokestatic 75, 3) := by decide +kernel
theorem dX7_votesLying_47 : decode cX7_votesLying 47 = .ok (.istore 7, 2) := by decide +kernel
theorem dX7_votesLying_49 : decode cX7_votesLying 49 = .ok (.aload_n 0, 1) := by decide +kernel
theorem dX7_votesLying_50 : decode cX7_votesLying 50 = .ok (.getfield 21, 3) := by decide +kernel
theorem dX7_votesLying_53 : decode cX7_votesLying 53 = .ok (.iload 7, 2) := by decide +kernel
theorem dX7_votesLying_55 : decode cX7_votesLying 55 = .ok (.iaload, 1) := by decide +kernel
theorem dX7_votesLying_56 : decode cX7_votesLying 56 = .ok (.iconst (-1), 1) := by decide +kernel
theorem dX7_votesLying_57 : decode cX7_votesLying 57 = .ok (.if_icmp .eq 17, 3) := by decide +kernel
theorem dX7_votesLying_60 : decode cX7_votesLying 60 = .ok (.aload_n 0, 1) := by decide +kernel
theorem dX7_votesLying_61 : decode cX7_votesLying 61 = .ok (.getfield 24, 3) := by decide +kernel
theorem dX7_votesLying_64 : decode cX7_votesLying 64 = .ok (.iload 7, 2) := by decide +kernel
theorem dX7_votesLying_66 : decode cX7_votesLying 66 = .ok (.iaload, 1) := by decide +kernel
theorem dX7_votesLying_67 : decode cX7_votesLying 67 = .ok (.iload_n 2, 1) := by decide +kernel
theorem dX7_votesLying_68 : decode cX7_votesLying 68 = .ok (.if_icmp .ne 6, 3) := by decide +kernel
theorem dX7_votesLying_71 : decode cX7_votesLying 71 = .ok (.iinc 3 1, 3) := by decide +kernel
theorem dX7_votesLying_74 : decode cX7_votesLying 74 = .ok (.iinc 6 1, 3) := by decide +kernel
theorem dX7_votesLying_77 : decode cX7_votesLying 77 = .ok (.goto (-49), 3) := by decide +kernel
theorem dX7_votesLying_80 : decode cX7_votesLying 80 = .ok (.iinc 4 1, 3) := by decide +kernel
theorem dX7_votesLying_83 : decode cX7_votesLying 83 = .ok (.goto (-78), 3) := by decide +kernel
theorem dX7_votesLying_86 : decode cX7_votesLying 86 = .ok (.iload_n 3, 1) := by decide +kernel
theorem dX7_votesLying_87 : decode cX7_votesLying 87 = .ok (.ireturn, 1) := by decide +kernel
theorem dX7_weightFrom_0 : decode cX7_weightFrom 0 = .ok (.iconst 0, 1) := by decide +kernel
theorem dX7_weightFrom_1 : decode cX7_weightFrom 1 = .ok (.istore_n 3, 1) := by decide +kernel
theorem dX7_weightFrom_2 : decode cX7_weightFrom 2 = .ok (.iload_n 2, 1) := by decide +kernel
theorem dX7_weightFrom_3 : decode cX7_weightFrom 3 = .ok (.istore 4, 2) := by decide +kernel
theorem dX7_weightFrom_5 : decode cX7_weightFrom 5 = .ok (.iload 4, 2) := by decide +kernel
theorem dX7_weightFrom_7 : decode cX7_weightFrom 7 = .ok (.aload_n 0, 1) := by decide +kernel
theorem dX7_weightFrom_8 : decode cX7_weightFrom 8 = .ok (.getfield 9, 3) := by decide +kernel
theorem dX7_weightFrom_11 : decode cX7_weightFrom 11 = .ok (.iload_n 1, 1) := by decide +kernel
theorem dX7_weightFrom_12 : decode cX7_weightFrom 12 = .ok (.iaload, 1) := by decide +kernel
theorem dX7_weightFrom_13 : decode cX7_weightFrom 13 = .ok (.if_icmp .ge 19, 3) := by decide +kernel
theorem dX7_weightFrom_16 : decode cX7_weightFrom 16 = .ok (.iload_n 3, 1) := by decide +kernel
theorem dX7_weightFrom_17 : decode cX7_weightFrom 17 = .ok (.aload_n 0, 1) := by decide +kernel
theorem dX7_weightFrom_18 : decode cX7_weightFrom 18 = .ok (.iload_n 1, 1) := by decide +kernel
theorem dX7_weightFrom_19 : decode cX7_weightFrom 19 = .ok (.iload 4, 2) := by decide +kernel
theorem dX7_weightFrom_21 : decode cX7_weightFrom 21 = .ok (.invokevirtual 100, 3) := by decide +kernel
theorem dX7_weightFrom_24 : decode cX7_weightFrom 24 = .ok (.iadd, 1) := by decide +kernel
theorem dX7_weightFrom_25 : decode cX7_weightFrom 25 = .ok (.istore_n 3, 1) := by decide +kernel
theorem dX7_weightFrom_26 : decode cX7_weightFrom 26 = .ok (.iinc 4 1, 3) := by decide +kernel
theorem dX7_weightFrom_29 : decode cX7_weightFrom 29 = .ok (.goto (-24), 3) := by decide +kernel
theorem dX7_weightFrom_32 : decode cX7_weightFrom 32 = .ok (.iload_n 3, 1) := by decide +kernel
theorem dX7_weightFrom_33 : decode cX7_weightFrom 33 = .ok (.ireturn, 1) := by decide +kernel
theorem dX7_weightOf_0 : decode cX7_weightOf 0 = .ok (.aload_n 0, 1) := by decide +kernel
theorem dX7_weightOf_1 : decode cX7_weightOf 1 = .ok (.getfield 36, 3) := by decide +kernel
theorem dX7_weightOf_4 : decode cX7_weightOf 4 = .ok (.getfield 68, 3) := by decide +kernel
theorem dX7_weightOf_7 : decode cX7_weightOf 7 = .ok (.aload_n 0, 1) := by decide +kernel
theorem dX7_weightOf_8 : decode cX7_weightOf 8 = .ok (.getfield 18, 3) := by decide +kernel
theorem dX7_weightOf_11 : decode cX7_weightOf 11 = .ok (.iload_n 1, 1) := by decide +kernel
theorem dX7_weightOf_12 : decode cX7_weightOf 12 = .ok (.iload_n 2, 1) := by decide +kernel
theorem dX7_weightOf_13 : decode cX7_weightOf 13 = .ok (.invokestatic 75, 3) := by decide +kernel
theorem dX7_weightOf_16 : decode cX7_weightOf 16 = .ok (.iaload, 1) := by decide +kernel
theorem dX7_weightOf_17 : decode cX7_weightOf 17 = .ok (.iaload, 1) := by decide +kernel
theorem dX7_weightOf_18 : decode cX7_weightOf 18 = .ok (.ireturn, 1) := by decide +kernel
