theorem dX11_whyNot_1 : decode cX11_whyNot 1 = .ok (.invokevirtual 316, 3) := by decide +kernel
theorem dX11_whyNot_4 : decode cX11_whyNot 4 = .ok (.ifCond .eq 17, 3) := by decide +kernel
theorem dX11_whyNot_7 : decode cX11_whyNot 7 = .ok (.iload_n 1, 1) := by decide +kernel
theorem dX11_whyNot_8 : decode cX11_whyNot 8 = .ok (.i2l, 1) := by decide +kernel
theorem dX11_whyNot_9 : decode cX11_whyNot 9 = .ok (.lconst 0, 1) := by decide +kernel
theorem dX11_whyNot_10 : decode cX11_whyNot 10 = .ok (.aload_n 0, 1) := by decide +kernel
theorem dX11_whyNot_11 : decode cX11_whyNot 11 = .ok (.invokevirtual 357, 3) := by decide +kernel
theorem dX11_whyNot_14 : decode cX11_whyNot 14 = .ok (.i2l, 1) := by decide +kernel
theorem dX11_whyNot_15 : decode cX11_whyNot 15 = .ok (.invokestatic 104, 3) := by decide +kernel
theorem dX11_whyNot_18 : decode cX11_whyNot 18 = .ok (.ifCond .ne 8, 3) := by decide +kernel
theorem dX11_whyNot_21 : decode cX11_whyNot 21 = .ok (.bipush (-2), 2) := by decide +kernel
theorem dX11_whyNot_23 : decode cX11_whyNot 23 = .ok (.goto 20, 3) := by decide +kernel
theorem dX11_whyNot_26 : decode cX11_whyNot 26 = .ok (.aload_n 0, 1) := by decide +kernel
theorem dX11_whyNot_27 : decode cX11_whyNot 27 = .ok (.getfield 71, 3) := by decide +kernel
theorem dX11_whyNot_30 : decode cX11_whyNot 30 = .ok (.iconst 0, 1) := by decide +kernel
theorem dX11_whyNot_31 : decode cX11_whyNot 31 = .ok (.iaload, 1) := by decide +kernel
theorem dX11_whyNot_32 : decode cX11_whyNot 32 = .ok (.bipush 100, 2) := by decide +kernel
theorem dX11_whyNot_34 : decode cX11_whyNot 34 = .ok (.if_icmp .ne 8, 3) := by decide +kernel
theorem dX11_whyNot_37 : decode cX11_whyNot 37 = .ok (.bipush (-3), 2) := by decide +kernel
theorem dX11_whyNot_39 : decode cX11_whyNot 39 = .ok (.goto 4, 3) := by decide +kernel
theorem dX11_whyNot_42 : decode cX11_whyNot 42 = .ok (.iconst 0, 1) := by decide +kernel
theorem dX11_whyNot_43 : decode cX11_whyNot 43 = .ok (.ireturn, 1) := by decide +kernel
theorem dX11_whyNotFetched_0 : decode cX11_whyNotFetched 0 = .ok (.aload_n 0, 1) := by decide +kernel
theorem dX11_whyNotFetched_1 : decode cX11_whyNotFetched 1 = .ok (.invokevirtual 316, 3) := by decide +kernel
theorem dX11_whyNotFetched_4 : decode cX11_whyNotFetched 4 = .ok (.ifCond .eq 22, 3) := by decide +kernel
theorem dX11_whyNotFetched_7 : decode cX11_whyNotFetched 7 = .ok (.iload_n 1, 1) := by decide +kernel
theorem dX11_whyNotFetched_8 : decode cX11_whyNotFetched 8 = .ok (.invokestatic 283, 3) := by decide +kernel
theorem dX11_whyNotFetched_11 : decode cX11_whyNotFetched 11 = .ok (.ifCond .eq 15, 3) := by decide +kernel
theorem dX11_whyNotFetched_14 : decode cX11_whyNotFetched 14 = .ok (.iload_n 2, 1) := by decide +kernel
theorem dX11_whyNotFetched_15 : decode cX11_whyNotFetched 15 = .ok (.i2l, 1) := by decide +kernel
theorem dX11_whyNotFetched_16 : decode cX11_whyNotFetched 16 = .ok (.lconst 0, 1) := by decide +kernel
theorem dX11_whyNotFetched_17 : decode cX11_whyNotFetched 17 = .ok (.ldc2_w 394, 3) := by decide +kernel
theorem dX11_whyNotFetched_20 : decode cX11_whyNotFetched 20 = .ok (.invokestatic 104, 3) := by decide +kernel
theorem dX11_whyNotFetched_23 : decode cX11_whyNotFetched 23 = .ok (.ifCond .ne 8, 3) := by decide +kernel
theorem dX11_whyNotFetched_26 : decode cX11_whyNotFetched 26 = .ok (.bipush (-2), 2) := by decide +kernel
theorem dX11_whyNotFetched_28 : decode cX11_whyNotFetched 28 = .ok (.goto 20, 3) := by decide +kernel
theorem dX11_whyNotFetched_31 : decode cX11_whyNotFetched 31 = .ok (.aload_n 0, 1) := by decide +kernel
theorem dX11_whyNotFetched_32 : decode cX11_whyNotFetched 32 = .ok (.getfield 71, 3) := by decide +kernel
theorem dX11_whyNotFetched_35 : decode cX11_whyNotFetched 35 = .ok (.iconst 0, 1) := by decide +kernel
theorem dX11_whyNotFetched_36 : decode cX11_whyNotFetched 36 = .ok (.iaload, 1) := by decide +kernel
theorem dX11_whyNotFetched_37 : decode cX11_whyNotFetched 37 = .ok (.bipush 100, 2) := by decide +kernel
theorem dX11_whyNotFetched_39 : decode cX11_whyNotFetched 39 = .ok (.if_icmp .ne 8, 3) := by decide +kernel
theorem dX11_whyNotFetched_42 : decode cX11_whyNotFetched 42 = .ok (.bipush (-3), 2) := by decide +kernel
theorem dX11_whyNotFetched_44 : decode cX11_whyNotFetched 44 = .ok (.goto 4, 3) := by decide +kernel
theorem dX11_whyNotFetched_47 : decode cX11_whyNotFetched 47 = .ok (.iconst 0, 1) := by decide +kernel
theorem dX11_whyNotFetched_48 : decode cX11_whyNotFetched 48 = .ok (.ireturn, 1) := by decide +kernel
theorem dX11_won_0 : decode cX11_won 0 = .ok (.aload_n 0, 1) := by decide +kernel
theorem dX11_won_1 : decode cX11_won 1 = .ok (.iconst 0, 1) := by decide +kernel
theorem dX11_won_2 : decode cX11_won 2 = .ok (.putfield 99, 3) := by decide +kernel
theorem dX11_won_5 : decode cX11_won 5 = .ok (.aload_n 0, 1) := by decide +kernel
theorem dX11_won_6 : decode cX11_won 6 = .ok (.iload_n 1, 1) := by decide +kernel
theorem dX11_won_7 : decode cX11_won 7 = .ok (.invokevirtual 370, 3) := by decide +kernel
theorem dX11_won_10 : decode cX11_won 10 = .ok (.ifCond .eq 12, 3) := by decide +kernel
theorem dX11_won_13 : decode cX11_won 13 = .ok (.aload_n 0, 1) := by decide +kernel
theorem dX11_won_14 : decode cX11_won 14 = .ok (.getfield 74, 3) := by decide +kernel
theorem dX11_won_17 : decode cX11_won 17 = .ok (.iload_n 1, 1) := by decide +kernel
theorem dX11_won_18 : decode cX11_won 18 = .ok (.iaload, 1) := by decide +kernel
theorem dX11_won_19 : decode cX11_won 19 = .ok (.goto 5, 3) := by decide +kernel
theorem dX11_won_22 : decode cX11_won 22 = .ok (.bipush (-2), 2) := by decide +kernel
theorem dX11_won_24 : decode cX11_won 24 = .ok (.ireturn, 1) := by decide +kernel
