theorem dX11_whyNotJudged_4 : decode cX11_whyNotJudged 4 = .ok (.ifCond .eq 10, 3) := by decide +kernel
theorem dX11_whyNotJudged_7 : decode cX11_whyNotJudged 7 = .ok (.aload_n 0, 1) := by decide +kernel
theorem dX11_whyNotJudged_8 : decode cX11_whyNotJudged 8 = .ok (.invokevirtual 316, 3) := by decide +kernel
theorem dX11_whyNotJudged_11 : decode cX11_whyNotJudged 11 = .ok (.ifCond .ne 8, 3) := by decide +kernel
theorem dX11_whyNotJudged_14 : decode cX11_whyNotJudged 14 = .ok (.bipush (-2), 2) := by decide +kernel
theorem dX11_whyNotJudged_16 : decode cX11_whyNotJudged 16 = .ok (.goto 19, 3) := by decide +kernel
theorem dX11_whyNotJudged_19 : decode cX11_whyNotJudged 19 = .ok (.aload_n 0, 1) := by decide +kernel
theorem dX11_whyNotJudged_20 : decode cX11_whyNotJudged 20 = .ok (.getfield 7, 3) := by decide +kernel
theorem dX11_whyNotJudged_23 : decode cX11_whyNotJudged 23 = .ok (.iload_n 1, 1) := by decide +kernel
theorem dX11_whyNotJudged_24 : decode cX11_whyNotJudged 24 = .ok (.iaload, 1) := by decide +kernel
theorem dX11_whyNotJudged_25 : decode cX11_whyNotJudged 25 = .ok (.iconst (-1), 1) := by decide +kernel
theorem dX11_whyNotJudged_26 : decode cX11_whyNotJudged 26 = .ok (.if_icmp .ne 8, 3) := by decide +kernel
theorem dX11_whyNotJudged_29 : decode cX11_whyNotJudged 29 = .ok (.bipush (-6), 2) := by decide +kernel
theorem dX11_whyNotJudged_31 : decode cX11_whyNotJudged 31 = .ok (.goto 4, 3) := by decide +kernel
theorem dX11_whyNotJudged_34 : decode cX11_whyNotJudged 34 = .ok (.iconst 0, 1) := by decide +kernel
theorem dX11_whyNotJudged_35 : decode cX11_whyNotJudged 35 = .ok (.ireturn, 1) := by decide +kernel
theorem dX11_whyNotRun_0 : decode cX11_whyNotRun 0 = .ok (.aload_n 0, 1) := by decide +kernel
theorem dX11_whyNotRun_1 : decode cX11_whyNotRun 1 = .ok (.invokevirtual 316, 3) := by decide +kernel
theorem dX11_whyNotRun_4 : decode cX11_whyNotRun 4 = .ok (.ifCond .eq 22, 3) := by decide +kernel
theorem dX11_whyNotRun_7 : decode cX11_whyNotRun 7 = .ok (.iload_n 1, 1) := by decide +kernel
theorem dX11_whyNotRun_8 : decode cX11_whyNotRun 8 = .ok (.invokestatic 460, 3) := by decide +kernel
theorem dX11_whyNotRun_11 : decode cX11_whyNotRun 11 = .ok (.ifCond .eq 15, 3) := by decide +kernel
theorem dX11_whyNotRun_14 : decode cX11_whyNotRun 14 = .ok (.iload_n 2, 1) := by decide +kernel
theorem dX11_whyNotRun_15 : decode cX11_whyNotRun 15 = .ok (.i2l, 1) := by decide +kernel
theorem dX11_whyNotRun_16 : decode cX11_whyNotRun 16 = .ok (.lconst 1, 1) := by decide +kernel
theorem dX11_whyNotRun_17 : decode cX11_whyNotRun 17 = .ok (.ldc2_w 466, 3) := by decide +kernel
theorem dX11_whyNotRun_20 : decode cX11_whyNotRun 20 = .ok (.invokestatic 104, 3) := by decide +kernel
theorem dX11_whyNotRun_23 : decode cX11_whyNotRun 23 = .ok (.ifCond .ne 8, 3) := by decide +kernel
theorem dX11_whyNotRun_26 : decode cX11_whyNotRun 26 = .ok (.bipush (-2), 2) := by decide +kernel
theorem dX11_whyNotRun_28 : decode cX11_whyNotRun 28 = .ok (.goto 22, 3) := by decide +kernel
theorem dX11_whyNotRun_31 : decode cX11_whyNotRun 31 = .ok (.aload_n 0, 1) := by decide +kernel
theorem dX11_whyNotRun_32 : decode cX11_whyNotRun 32 = .ok (.getfield 71, 3) := by decide +kernel
theorem dX11_whyNotRun_35 : decode cX11_whyNotRun 35 = .ok (.iconst 0, 1) := by decide +kernel
theorem dX11_whyNotRun_36 : decode cX11_whyNotRun 36 = .ok (.iaload, 1) := by decide +kernel
theorem dX11_whyNotRun_37 : decode cX11_whyNotRun 37 = .ok (.iload_n 2, 1) := by decide +kernel
theorem dX11_whyNotRun_38 : decode cX11_whyNotRun 38 = .ok (.iadd, 1) := by decide +kernel
theorem dX11_whyNotRun_39 : decode cX11_whyNotRun 39 = .ok (.bipush 100, 2) := by decide +kernel
theorem dX11_whyNotRun_41 : decode cX11_whyNotRun 41 = .ok (.if_icmp .le 8, 3) := by decide +kernel
theorem dX11_whyNotRun_44 : decode cX11_whyNotRun 44 = .ok (.bipush (-3), 2) := by decide +kernel
theorem dX11_whyNotRun_46 : decode cX11_whyNotRun 46 = .ok (.goto 4, 3) := by decide +kernel
theorem dX11_whyNotRun_49 : decode cX11_whyNotRun 49 = .ok (.iconst 0, 1) := by decide +kernel
theorem dX11_whyNotRun_50 : decode cX11_whyNotRun 50 = .ok (.ireturn, 1) := by decide +kernel
