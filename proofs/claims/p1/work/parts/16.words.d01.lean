theorem dX11_four_3 : decode cX11_four 3 = .ok (.iload_n 2, 1) := by decide +kernel
theorem dX11_four_4 : decode cX11_four 4 = .ok (.ifCond .lt 32, 3) := by decide +kernel
theorem dX11_four_7 : decode cX11_four 7 = .ok (.aload_n 0, 1) := by decide +kernel
theorem dX11_four_8 : decode cX11_four 8 = .ok (.getfield 23, 3) := by decide +kernel
theorem dX11_four_11 : decode cX11_four 11 = .ok (.aload_n 0, 1) := by decide +kernel
theorem dX11_four_12 : decode cX11_four 12 = .ok (.getfield 116, 3) := by decide +kernel
theorem dX11_four_15 : decode cX11_four 15 = .ok (.iload_n 1, 1) := by decide +kernel
theorem dX11_four_16 : decode cX11_four 16 = .ok (.iload_n 2, 1) := by decide +kernel
theorem dX11_four_17 : decode cX11_four 17 = .ok (.ishr, 1) := by decide +kernel
theorem dX11_four_18 : decode cX11_four 18 = .ok (.i2b, 1) := by decide +kernel
theorem dX11_four_19 : decode cX11_four 19 = .ok (.bastore, 1) := by decide +kernel
theorem dX11_four_20 : decode cX11_four 20 = .ok (.aload_n 0, 1) := by decide +kernel
theorem dX11_four_21 : decode cX11_four 21 = .ok (.dup, 1) := by decide +kernel
theorem dX11_four_22 : decode cX11_four 22 = .ok (.getfield 116, 3) := by decide +kernel
theorem dX11_four_25 : decode cX11_four 25 = .ok (.iconst 1, 1) := by decide +kernel
theorem dX11_four_26 : decode cX11_four 26 = .ok (.iadd, 1) := by decide +kernel
theorem dX11_four_27 : decode cX11_four 27 = .ok (.putfield 116, 3) := by decide +kernel
theorem dX11_four_30 : decode cX11_four 30 = .ok (.iinc 2 (-8), 3) := by decide +kernel
theorem dX11_four_33 : decode cX11_four 33 = .ok (.goto (-30), 3) := by decide +kernel
theorem dX11_four_36 : decode cX11_four 36 = .ok (.return_, 1) := by decide +kernel
theorem dX11_gale_0 : decode cX11_gale 0 = .ok (.aload_n 0, 1) := by decide +kernel
theorem dX11_gale_1 : decode cX11_gale 1 = .ok (.iconst 0, 1) := by decide +kernel
theorem dX11_gale_2 : decode cX11_gale 2 = .ok (.putfield 99, 3) := by decide +kernel
theorem dX11_gale_5 : decode cX11_gale 5 = .ok (.aload_n 0, 1) := by decide +kernel
theorem dX11_gale_6 : decode cX11_gale 6 = .ok (.invokevirtual 316, 3) := by decide +kernel
theorem dX11_gale_9 : decode cX11_gale 9 = .ok (.ifCond .eq 15, 3) := by decide +kernel
theorem dX11_gale_24 : decode cX11_gale 24 = .ok (.ldc2_w 212, 3) := by decide +kernel
theorem dX11_gale_27 : decode cX11_gale 27 = .ok (.lreturn, 1) := by decide +kernel
theorem dX11_ghosts_0 : decode cX11_ghosts 0 = .ok (.aload_n 0, 1) := by decide +kernel
theorem dX11_ghosts_1 : decode cX11_ghosts 1 = .ok (.iconst 0, 1) := by decide +kernel
theorem dX11_ghosts_2 : decode cX11_ghosts 2 = .ok (.putfield 99, 3) := by decide +kernel
theorem dX11_ghosts_5 : decode cX11_ghosts 5 = .ok (.aload_n 0, 1) := by decide +kernel
theorem dX11_ghosts_6 : decode cX11_ghosts 6 = .ok (.invokevirtual 316, 3) := by decide +kernel
theorem dX11_ghosts_9 : decode cX11_ghosts 9 = .ok (.ifCond .eq 10, 3) := by decide +kernel
theorem dX11_ghosts_19 : decode cX11_ghosts 19 = .ok (.bipush (-2), 2) := by decide +kernel
theorem dX11_ghosts_21 : decode cX11_ghosts 21 = .ok (.ireturn, 1) := by decide +kernel
theorem dX11_hands_0 : decode cX11_hands 0 = .ok (.aload_n 0, 1) := by decide +kernel
theorem dX11_hands_1 : decode cX11_hands 1 = .ok (.iconst 0, 1) := by decide +kernel
theorem dX11_hands_2 : decode cX11_hands 2 = .ok (.putfield 99, 3) := by decide +kernel
theorem dX11_hands_5 : decode cX11_hands 5 = .ok (.aload_n 0, 1) := by decide +kernel
theorem dX11_hands_6 : decode cX11_hands 6 = .ok (.iload_n 1, 1) := by decide +kernel
theorem dX11_hands_7 : decode cX11_hands 7 = .ok (.invokevirtual 343, 3) := by decide +kernel
theorem dX11_hands_10 : decode cX11_hands 10 = .ok (.ifCond .eq 11, 3) := by decide +kernel
theorem dX11_hands_21 : decode cX11_hands 21 = .ok (.bipush (-2), 2) := by decide +kernel
theorem dX11_hands_23 : decode cX11_hands 23 = .ok (.ireturn, 1) := by decide +kernel
theorem dX11_in_0 : decode cX11_in 0 = .ok (.lload_n 0, 1) := by decide +kernel
theorem dX11_in_1 : decode cX11_in 1 = .ok (.lload_n 2, 1) := by decide +kernel
theorem dX11_in_2 : decode cX11_in 2 = .ok (.lcmp, 1) := by decide +kernel
theorem dX11_in_3 : decode cX11_in 3 = .ok (.ifCond .lt 14, 3) := by decide +kernel
theorem dX11_in_6 : decode cX11_in 6 = .ok (.lload_n 0, 1) := by decide +kernel
theorem dX11_in_7 : decode cX11_in 7 = .ok (.lload 4, 2) := by decide +kernel
theorem dX11_in_9 : decode cX11_in 9 = .ok (.lcmp, 1) := by decide +kernel
theorem dX11_in_10 : decode cX11_in 10 = .ok (.ifCond .gt 7, 3) := by decide +kernel
theorem dX11_in_13 : decode cX11_in 13 = .ok (.iconst 1, 1) := by decide +kernel
theorem dX11_in_14 : decode cX11_in 14 = .ok (.goto 4, 3) := by decide +kernel
theorem dX11_in_17 : decode cX11_in 17 = .ok (.iconst 0, 1) := by decide +kernel
theorem dX11_in_18 : decode cX11_in 18 = .ok (.ireturn, 1) := by decide +kernel
theorem dX11_isByte_0 : decode cX11_isByte 0 = .ok (.iload_n 1, 1) := by decide +kernel
theorem dX11_isByte_1 : decode cX11_isByte 1 = .ok (.aload_n 0, 1) := by decide +kernel
theorem dX11_isByte_2 : decode cX11_isByte 2 = .ok (.getfield 116, 3) := by decide +kernel
theorem dX11_isByte_5 : decode cX11_isByte 5 = .ok (.if_icmp .ge 27, 3) := by decide +kernel
theorem dX11_isByte_32 : decode cX11_isByte 32 = .ok (.iconst 0, 1) := by decide +kernel
theorem dX11_isByte_33 : decode cX11_isByte 33 = .ok (.ireturn, 1) := by decide +kernel
theorem dX11_isColumn_0 : decode cX11_isColumn 0 = .ok (.iload_n 1, 1) := by decide +kernel
theorem dX11_isColumn_1 : decode cX11_isColumn 1 = .ok (.invokestatic 283, 3) := by decide +kernel
theorem dX11_isColumn_4 : decode cX11_isColumn 4 = .ok (.ifCond .eq 25, 3) := by decide +kernel
theorem dX11_isColumn_7 : decode cX11_isColumn 7 = .ok (.iload_n 2, 1) := by decide +kernel
theorem dX11_isColumn_8 : decode cX11_isColumn 8 = .ok (.i2l, 1) := by decide +kernel
theorem dX11_isColumn_9 : decode cX11_isColumn 9 = .ok (.lconst 0, 1) := by decide +kernel
theorem dX11_isColumn_10 : decode cX11_isColumn 10 = .ok (.aload_n 0, 1) := by decide +kernel
theorem dX11_isColumn_11 : decode cX11_isColumn 11 = .ok (.getfield 34, 3) := by decide +kernel
theorem dX11_isColumn_14 : decode cX11_isColumn 14 = .ok (.iconst 0, 1) := by decide +kernel
theorem dX11_isColumn_15 : decode cX11_isColumn 15 = .ok (.iaload, 1) := by decide +kernel
theorem dX11_isColumn_16 : decode cX11_isColumn 16 = .ok (.iconst 1, 1) := by decide +kernel
theorem dX11_isColumn_17 : decode cX11_isColumn 17 = .ok (.isub, 1) := by decide +kernel
theorem dX11_isColumn_18 : decode cX11_isColumn 18 = .ok (.i2l, 1) := by decide +kernel
theorem dX11_isColumn_19 : decode cX11_isColumn 19 = .ok (.invokestatic 104, 3) := by decide +kernel
theorem dX11_isColumn_22 : decode cX11_isColumn 22 = .ok (.ifCond .eq 7, 3) := by decide +kernel
theorem dX11_isColumn_25 : decode cX11_isColumn 25 = .ok (.iconst 1, 1) := by decide +kernel
theorem dX11_isColumn_26 : decode cX11_isColumn 26 = .ok (.goto 4, 3) := by decide +kernel
theorem dX11_isColumn_29 : decode cX11_isColumn 29 = .ok (.iconst 0, 1) := by decide +kernel
theorem dX11_isColumn_30 : decode cX11_isColumn 30 = .ok (.ireturn, 1) := by decide +kernel
theorem dX11_isGood_0 : decode cX11_isGood 0 = .ok (.aload_n 0, 1) := by decide +kernel
theorem dX11_isGood_1 : decode cX11_isGood 1 = .ok (.getfield 151, 3) := by decide +kernel
theorem dX11_isGood_4 : decode cX11_isGood 4 = .ok (.ifCond .ne 7, 3) := by decide +kernel
theorem dX11_isGood_7 : decode cX11_isGood 7 = .ok (.iconst 1, 1) := by decide +kernel
theorem dX11_isGood_8 : decode cX11_isGood 8 = .ok (.goto 4, 3) := by decide +kernel
theorem dX11_isGood_12 : decode cX11_isGood 12 = .ok (.ireturn, 1) := by decide +kernel
theorem dX11_isOver_0 : decode cX11_isOver 0 = .ok (.aload_n 0, 1) := by decide +kernel
theorem dX11_isOver_1 : decode cX11_isOver 1 = .ok (.iconst 0, 1) := by decide +kernel
theorem dX11_isOver_2 : decode cX11_isOver 2 = .ok (.putfield 116, 3) := by decide +kernel
theorem dX11_isOver_5 : decode cX11_isOver 5 = .ok (.aload_n 0, 1) := by decide +kernel
theorem dX11_isOver_6 : decode cX11_isOver 6 = .ok (.aload_n 0, 1) := by decide +kernel
theorem dX11_isOver_7 : decode cX11_isOver 7 = .ok (.getfield 151, 3) := by decide +kernel
theorem dX11_isOver_10 : decode cX11_isOver 10 = .ok (.putfield 178, 3) := by decide +kernel
theorem dX11_isOver_13 : decode cX11_isOver 13 = .ok (.aload_n 0, 1) := by decide +kernel
theorem dX11_isOver_14 : decode cX11_isOver 14 = .ok (.aload_n 0, 1) := by decide +kernel
theorem dX11_isOver_15 : decode cX11_isOver 15 = .ok (.getfield 151, 3) := by decide +kernel
theorem dX11_isOver_18 : decode cX11_isOver 18 = .ok (.ifCond .ne 7, 3) := by decide +kernel
theorem dX11_isOver_21 : decode cX11_isOver 21 = .ok (.iconst (-1), 1) := by decide +kernel
theorem dX11_isOver_22 : decode cX11_isOver 22 = .ok (.goto 7, 3) := by decide +kernel
theorem dX11_isOver_29 : decode cX11_isOver 29 = .ok (.putfield 27, 3) := by decide +kernel
theorem dX11_isOver_32 : decode cX11_isOver 32 = .ok (.return_, 1) := by decide +kernel
theorem dX11_isPast_0 : decode cX11_isPast 0 = .ok (.aload_n 0, 1) := by decide +kernel
theorem dX11_isPast_1 : decode cX11_isPast 1 = .ok (.invokevirtual 316, 3) := by decide +kernel
theorem dX11_isPast_4 : decode cX11_isPast 4 = .ok (.ifCond .eq 25, 3) := by decide +kernel
theorem dX11_isPast_29 : decode cX11_isPast 29 = .ok (.iconst 0, 1) := by decide +kernel
theorem dX11_isPast_30 : decode cX11_isPast 30 = .ok (.ireturn, 1) := by decide +kernel
theorem dX11_isSide_0 : decode cX11_isSide 0 = .ok (.iload_n 0, 1) := by decide +kernel
theorem dX11_isSide_1 : decode cX11_isSide 1 = .ok (.ifCond .eq 8, 3) := by decide +kernel
theorem dX11_isSide_4 : decode cX11_isSide 4 = .ok (.iload_n 0, 1) := by decide +kernel
theorem dX11_isSide_5 : decode cX11_isSide 5 = .ok (.iconst 1, 1) := by decide +kernel
theorem dX11_isSide_6 : decode cX11_isSide 6 = .ok (.if_icmp .ne 7, 3) := by decide +kernel
theorem dX11_isSide_9 : decode cX11_isSide 9 = .ok (.iconst 1, 1) := by decide +kernel
theorem dX11_isSide_10 : decode cX11_isSide 10 = .ok (.goto 4, 3) := by decide +kernel
theorem dX11_isSide_13 : decode cX11_isSide 13 = .ok (.iconst 0, 1) := by decide +kernel
theorem dX11_isSide_14 : decode cX11_isSide 14 = .ok (.ireturn, 1) := by decide +kernel
theorem dX11_isSlot_0 : decode cX11_isSlot 0 = .ok (.iload_n 0, 1) := by decide +kernel
theorem dX11_isSlot_1 : decode cX11_isSlot 1 = .ok (.i2l, 1) := by decide +kernel
theorem dX11_isSlot_2 : decode cX11_isSlot 2 = .ok (.lconst 0, 1) := by decide +kernel
theorem dX11_isSlot_3 : decode cX11_isSlot 3 = .ok (.ldc2_w 102, 3) := by decide +kernel
theorem dX11_isSlot_6 : decode cX11_isSlot 6 = .ok (.invokestatic 104, 3) := by decide +kernel
theorem dX11_isSlot_9 : decode cX11_isSlot 9 = .ok (.ireturn, 1) := by decide +kernel
theorem dX11_isSort_0 : decode cX11_isSort 0 = .ok (.iload_n 1, 1) := by decide +kernel
theorem dX11_isSort_1 : decode cX11_isSort 1 = .ok (.i2l, 1) := by decide +kernel
theorem dX11_isSort_2 : decode cX11_isSort 2 = .ok (.lconst 0, 1) := by decide +kernel
theorem dX11_isSort_3 : decode cX11_isSort 3 = .ok (.aload_n 0, 1) := by decide +kernel
theorem dX11_isSort_4 : decode cX11_isSort 4 = .ok (.getfield 37, 3) := by decide +kernel
theorem dX11_isSort_7 : decode cX11_isSort 7 = .ok (.iconst 0, 1) := by decide +kernel
theorem dX11_isSort_8 : decode cX11_isSort 8 = .ok (.iaload, 1) := by decide +kernel
theorem dX11_isSort_9 : decode cX11_isSort 9 = .ok (.iconst 1, 1) := by decide +kernel
theorem dX11_isSort_10 : decode cX11_isSort 10 = .ok (.isub, 1) := by decide +kernel
theorem dX11_isSort_11 : decode cX11_isSort 11 = .ok (.i2l, 1) := by decide +kernel
theorem dX11_isSort_12 : decode cX11_isSort 12 = .ok (.invokestatic 104, 3) := by decide +kernel
theorem dX11_isSort_15 : decode cX11_isSort 15 = .ok (.ireturn, 1) := by decide +kernel
theorem dX11_isTown_0 : decode cX11_isTown 0 = .ok (.aload_n 0, 1) := by decide +kernel
theorem dX11_isTown_1 : decode cX11_isTown 1 = .ok (.getfield 34, 3) := by decide +kernel
theorem dX11_isTown_4 : decode cX11_isTown 4 = .ok (.iconst 0, 1) := by decide +kernel
theorem dX11_isTown_5 : decode cX11_isTown 5 = .ok (.iaload, 1) := by decide +kernel
theorem dX11_isTown_6 : decode cX11_isTown 6 = .ok (.ifCond .le 7, 3) := by decide +kernel
theorem dX11_isTown_13 : decode cX11_isTown 13 = .ok (.iconst 0, 1) := by decide +kernel
theorem dX11_isTown_14 : decode cX11_isTown 14 = .ok (.ireturn, 1) := by decide +kernel
theorem dX11_isVoter_0 : decode cX11_isVoter 0 = .ok (.iload_n 1, 1) := by decide +kernel
theorem dX11_isVoter_1 : decode cX11_isVoter 1 = .ok (.i2l, 1) := by decide +kernel
theorem dX11_isVoter_2 : decode cX11_isVoter 2 = .ok (.lconst 0, 1) := by decide +kernel
theorem dX11_isVoter_3 : decode cX11_isVoter 3 = .ok (.aload_n 0, 1) := by decide +kernel
theorem dX11_isVoter_4 : decode cX11_isVoter 4 = .ok (.getfield 43, 3) := by decide +kernel
theorem dX11_isVoter_7 : decode cX11_isVoter 7 = .ok (.iconst 0, 1) := by decide +kernel
theorem dX11_isVoter_8 : decode cX11_isVoter 8 = .ok (.iaload, 1) := by decide +kernel
theorem dX11_isVoter_9 : decode cX11_isVoter 9 = .ok (.iconst 1, 1) := by decide +kernel
theorem dX11_isVoter_10 : decode cX11_isVoter 10 = .ok (.isub, 1) := by decide +kernel
theorem dX11_isVoter_11 : decode cX11_isVoter 11 = .ok (.i2l, 1) := by decide +kernel
theorem dX11_isVoter_12 : decode cX11_isVoter 12 = .ok (.invokestatic 104, 3) := by decide +kernel
theorem dX11_isVoter_15 : decode cX11_isVoter 15 = .ok (.ireturn, 1) := by decide +kernel
theorem dX11_judge_0 : decode cX11_judge 0 = .ok (.aload_n 0, 1) := by decide +kernel
theorem dX11_judge_1 : decode cX11_judge 1 = .ok (.iconst 0, 1) := by decide +kernel
theorem dX11_judge_2 : decode cX11_judge 2 = .ok (.putfield 99, 3) := by decide +kernel
theorem dX11_judge_5 : decode cX11_judge 5 = .ok (.aload_n 0, 1) := by decide +kernel
theorem dX11_judge_6 : decode cX11_judge 6 = .ok (.iload_n 1, 1) := by decide +kernel
theorem dX11_judge_7 : decode cX11_judge 7 = .ok (.invokevirtual 478, 3) := by decide +kernel
theorem dX11_judge_10 : decode cX11_judge 10 = .ok (.istore_n 2, 1) := by decide +kernel
theorem dX11_judge_11 : decode cX11_judge 11 = .ok (.iload_n 2, 1) := by decide +kernel
theorem dX11_judge_12 : decode cX11_judge 12 = .ok (.ifCond .eq 7, 3) := by decide +kernel
theorem dX11_judge_15 : decode cX11_judge 15 = .ok (.iload_n 2, 1) := by decide +kernel
theorem dX11_judge_16 : decode cX11_judge 16 = .ok (.goto 8, 3) := by decide +kernel
theorem dX11_judge_24 : decode cX11_judge 24 = .ok (.ireturn, 1) := by decide +kernel
theorem dX11_keep_0 : decode cX11_keep 0 = .ok (.aload_n 0, 1) := by decide +kernel
theorem dX11_keep_1 : decode cX11_keep 1 = .ok (.iconst 0, 1) := by decide +kernel
theorem dX11_keep_2 : decode cX11_keep 2 = .ok (.putfield 99, 3) := by decide +kernel
theorem dX11_keep_5 : decode cX11_keep 5 = .ok (.iload_n 1, 1) := by decide +kernel
theorem dX11_keep_6 : decode cX11_keep 6 = .ok (.i2l, 1) := by decide +kernel
theorem dX11_keep_7 : decode cX11_keep 7 = .ok (.lconst 0, 1) := by decide +kernel
theorem dX11_keep_8 : decode cX11_keep 8 = .ok (.ldc2_w 346, 3) := by decide +kernel
theorem dX11_keep_11 : decode cX11_keep 11 = .ok (.invokestatic 104, 3) := by decide +kernel
theorem dX11_keep_14 : decode cX11_keep 14 = .ok (.ifCond .ne 6, 3) := by decide +kernel
theorem dX11_keep_17 : decode cX11_keep 17 = .ok (.bipush (-2), 2) := by decide +kernel
theorem dX11_keep_19 : decode cX11_keep 19 = .ok (.ireturn, 1) := by decide +kernel
theorem dX11_keep_20 : decode cX11_keep 20 = .ok (.aload_n 0, 1) := by decide +kernel
theorem dX11_keep_21 : decode cX11_keep 21 = .ok (.iconst 0, 1) := by decide +kernel
theorem dX11_keep_22 : decode cX11_keep 22 = .ok (.iconst 1, 1) := by decide +kernel
theorem dX11_keep_23 : decode cX11_keep 23 = .ok (.iload_n 1, 1) := by decide +kernel
theorem dX11_keep_24 : decode cX11_keep 24 = .ok (.iadd, 1) := by decide +kernel
theorem dX11_keep_25 : decode cX11_keep 25 = .ok (.invokevirtual 272, 3) := by decide +kernel
theorem dX11_keep_28 : decode cX11_keep 28 = .ok (.aload_n 0, 1) := by decide +kernel
theorem dX11_keep_29 : decode cX11_keep 29 = .ok (.iconst 0, 1) := by decide +kernel
theorem dX11_keep_30 : decode cX11_keep 30 = .ok (.iconst 1, 1) := by decide +kernel
theorem dX11_keep_31 : decode cX11_keep 31 = .ok (.iload_n 1, 1) := by decide +kernel
theorem dX11_keep_32 : decode cX11_keep 32 = .ok (.iadd, 1) := by decide +kernel
theorem dX11_keep_33 : decode cX11_keep 33 = .ok (.invokevirtual 327, 3) := by decide +kernel
theorem dX11_keep_36 : decode cX11_keep 36 = .ok (.aload_n 0, 1) := by decide +kernel
theorem dX11_keep_37 : decode cX11_keep 37 = .ok (.getfield 80, 3) := by decide +kernel
theorem dX11_keep_40 : decode cX11_keep 40 = .ok (.iload_n 1, 1) := by decide +kernel
theorem dX11_keep_41 : decode cX11_keep 41 = .ok (.iconst 1, 1) := by decide +kernel
theorem dX11_keep_42 : decode cX11_keep 42 = .ok (.bastore, 1) := by decide +kernel
theorem dX11_keep_43 : decode cX11_keep 43 = .ok (.iconst 0, 1) := by decide +kernel
theorem dX11_keep_44 : decode cX11_keep 44 = .ok (.ireturn, 1) := by decide +kernel
theorem dX11_lay_0 : decode cX11_lay 0 = .ok (.aload_n 0, 1) := by decide +kernel
theorem dX11_lay_1 : decode cX11_lay 1 = .ok (.iconst 0, 1) := by decide +kernel
theorem dX11_lay_2 : decode cX11_lay 2 = .ok (.putfield 99, 3) := by decide +kernel
theorem dX11_lay_5 : decode cX11_lay 5 = .ok (.aload_n 0, 1) := by decide +kernel
theorem dX11_lay_6 : decode cX11_lay 6 = .ok (.iload_n 1, 1) := by decide +kernel
theorem dX11_lay_7 : decode cX11_lay 7 = .ok (.iload_n 2, 1) := by decide +kernel
theorem dX11_lay_8 : decode cX11_lay 8 = .ok (.invokevirtual 297, 3) := by decide +kernel
theorem dX11_lay_11 : decode cX11_lay 11 = .ok (.ifCond .eq 11, 3) := by decide +kernel
theorem dX11_lay_22 : decode cX11_lay 22 = .ok (.bipush (-2), 2) := by decide +kernel
theorem dX11_lay_24 : decode cX11_lay 24 = .ok (.ireturn, 1) := by decide +kernel
theorem dX11_leads_0 : decode cX11_leads 0 = .ok (.aload_n 0, 1) := by decide +kernel
theorem dX11_leads_1 : decode cX11_leads 1 = .ok (.iconst 0, 1) := by decide +kernel
theorem dX11_leads_2 : decode cX11_leads 2 = .ok (.putfield 99, 3) := by decide +kernel
theorem dX11_leads_5 : decode cX11_leads 5 = .ok (.aload_n 0, 1) := by decide +kernel
theorem dX11_leads_6 : decode cX11_leads 6 = .ok (.invokevirtual 316, 3) := by decide +kernel
theorem dX11_leads_9 : decode cX11_leads 9 = .ok (.ifCond .eq 17, 3) := by decide +kernel
theorem dX11_leads_26 : decode cX11_leads 26 = .ok (.bipush (-2), 2) := by decide +kernel
theorem dX11_leads_28 : decode cX11_leads 28 = .ok (.ireturn, 1) := by decide +kernel
theorem dX11_lost_0 : decode cX11_lost 0 = .ok (.aload_n 0, 1) := by decide +kernel
theorem dX11_lost_1 : decode cX11_lost 1 = .ok (.iconst 0, 1) := by decide +kernel
theorem dX11_lost_2 : decode cX11_lost 2 = .ok (.putfield 99, 3) := by decide +kernel
theorem dX11_lost_5 : decode cX11_lost 5 = .ok (.aload_n 0, 1) := by decide +kernel
theorem dX11_lost_6 : decode cX11_lost 6 = .ok (.invokevirtual 316, 3) := by decide +kernel
theorem dX11_lost_9 : decode cX11_lost 9 = .ok (.ifCond .eq 18, 3) := by decide +kernel
theorem dX11_lost_27 : decode cX11_lost 27 = .ok (.iconst (-1), 1) := by decide +kernel
theorem dX11_lost_28 : decode cX11_lost 28 = .ok (.ireturn, 1) := by decide +kernel
theorem dX11_margin_0 : decode cX11_margin 0 = .ok (.aload_n 0, 1) := by decide +kernel
theorem dX11_margin_1 : decode cX11_margin 1 = .ok (.iconst 0, 1) := by decide +kernel
theorem dX11_margin_2 : decode cX11_margin 2 = .ok (.putfield 99, 3) := by decide +kernel
theorem dX11_margin_5 : decode cX11_margin 5 = .ok (.aload_n 0, 1) := by decide +kernel
theorem dX11_margin_6 : decode cX11_margin 6 = .ok (.iload_n 1, 1) := by decide +kernel
theorem dX11_margin_7 : decode cX11_margin 7 = .ok (.iload_n 2, 1) := by decide +kernel
theorem dX11_margin_8 : decode cX11_margin 8 = .ok (.invokevirtual 396, 3) := by decide +kernel
theorem dX11_margin_11 : decode cX11_margin 11 = .ok (.ifCond .eq 7, 3) := by decide +kernel
theorem dX11_margin_14 : decode cX11_margin 14 = .ok (.ldc_w 402, 3) := by decide +kernel
theorem dX11_margin_17 : decode cX11_margin 17 = .ok (.ireturn, 1) := by decide +kernel
theorem dX11_mayNow_0 : decode cX11_mayNow 0 = .ok (.iconst 0, 1) := by decide +kernel
theorem dX11_mayNow_1 : decode cX11_mayNow 1 = .ok (.istore_n 1, 1) := by decide +kernel
theorem dX11_mayNow_2 : decode cX11_mayNow 2 = .ok (.iconst 0, 1) := by decide +kernel
theorem dX11_mayNow_3 : decode cX11_mayNow 3 = .ok (.istore_n 2, 1) := by decide +kernel
theorem dX11_mayNow_4 : decode cX11_mayNow 4 = .ok (.iload_n 2, 1) := by decide +kernel
theorem dX11_mayNow_5 : decode cX11_mayNow 5 = .ok (.aload_n 0, 1) := by decide +kernel
theorem dX11_mayNow_6 : decode cX11_mayNow 6 = .ok (.getfield 43, 3) := by decide +kernel
theorem dX11_mayNow_9 : decode cX11_mayNow 9 = .ok (.iconst 0, 1) := by decide +kernel
theorem dX11_mayNow_10 : decode cX11_mayNow 10 = .ok (.iaload, 1) := by decide +kernel
theorem dX11_mayNow_11 : decode cX11_mayNow 11 = .ok (.if_icmp .ge 28, 3) := by decide +kernel
theorem dX11_mayNow_39 : decode cX11_mayNow 39 = .ok (.iload_n 1, 1) := by decide +kernel
theorem dX11_mayNow_40 : decode cX11_mayNow 40 = .ok (.ireturn, 1) := by decide +kernel
theorem dX11_may__0 : decode cX11_may_ 0 = .ok (.aload_n 0, 1) := by decide +kernel
theorem dX11_may__1 : decode cX11_may_ 1 = .ok (.iconst 0, 1) := by decide +kernel
theorem dX11_may__2 : decode cX11_may_ 2 = .ok (.putfield 99, 3) := by decide +kernel
theorem dX11_may__5 : decode cX11_may_ 5 = .ok (.aload_n 0, 1) := by decide +kernel
theorem dX11_may__6 : decode cX11_may_ 6 = .ok (.iload_n 1, 1) := by decide +kernel
theorem dX11_may__7 : decode cX11_may_ 7 = .ok (.iload_n 2, 1) := by decide +kernel
theorem dX11_may__8 : decode cX11_may_ 8 = .ok (.invokevirtual 297, 3) := by decide +kernel
theorem dX11_may__11 : decode cX11_may_ 11 = .ok (.ifCond .eq 11, 3) := by decide +kernel
theorem dX11_may__22 : decode cX11_may_ 22 = .ok (.bipush (-2), 2) := by decide +kernel
theorem dX11_may__24 : decode cX11_may_ 24 = .ok (.goto 19, 3) := by decide +kernel
theorem dX11_may__43 : decode cX11_may_ 43 = .ok (.ireturn, 1) := by decide +kernel
theorem dX11_mean_0 : decode cX11_mean 0 = .ok (.aload_n 0, 1) := by decide +kernel
theorem dX11_mean_1 : decode cX11_mean 1 = .ok (.iconst 0, 1) := by decide +kernel
theorem dX11_mean_2 : decode cX11_mean 2 = .ok (.putfield 99, 3) := by decide +kernel
theorem dX11_mean_5 : decode cX11_mean 5 = .ok (.aload_n 0, 1) := by decide +kernel
theorem dX11_mean_6 : decode cX11_mean 6 = .ok (.invokevirtual 316, 3) := by decide +kernel
theorem dX11_mean_9 : decode cX11_mean 9 = .ok (.ifCond .eq 10, 3) := by decide +kernel
theorem dX11_mean_19 : decode cX11_mean 19 = .ok (.ldc2_w 212, 3) := by decide +kernel
theorem dX11_mean_22 : decode cX11_mean 22 = .ok (.lreturn, 1) := by decide +kernel
theorem dX11_next_0 : decode cX11_next 0 = .ok (.aload_n 0, 1) := by decide +kernel
theorem dX11_next_1 : decode cX11_next 1 = .ok (.aload_n 0, 1) := by decide +kernel
theorem dX11_next_2 : decode cX11_next 2 = .ok (.getfield 123, 3) := by decide +kernel
theorem dX11_next_5 : decode cX11_next 5 = .ok (.bipush 32, 2) := by decide +kernel
theorem dX11_next_7 : decode cX11_next 7 = .ok (.bipush 32, 2) := by decide +kernel
theorem dX11_next_9 : decode cX11_next 9 = .ok (.invokevirtual 126, 3) := by decide +kernel
theorem dX11_next_12 : decode cX11_next 12 = .ok (.ifCond .ne 18, 3) := by decide +kernel
theorem dX11_next_15 : decode cX11_next 15 = .ok (.aload_n 0, 1) := by decide +kernel
theorem dX11_next_16 : decode cX11_next 16 = .ok (.aload_n 0, 1) := by decide +kernel
theorem dX11_next_17 : decode cX11_next 17 = .ok (.getfield 123, 3) := by decide +kernel
theorem dX11_next_20 : decode cX11_next 20 = .ok (.bipush 10, 2) := by decide +kernel
theorem dX11_next_22 : decode cX11_next 22 = .ok (.bipush 10, 2) := by decide +kernel
theorem dX11_next_24 : decode cX11_next 24 = .ok (.invokevirtual 126, 3) := by decide +kernel
theorem dX11_next_27 : decode cX11_next 27 = .ok (.ifCond .eq 16, 3) := by decide +kernel
theorem dX11_next_43 : decode cX11_next 43 = .ok (.aload_n 0, 1) := by decide +kernel
theorem dX11_next_44 : decode cX11_next 44 = .ok (.aload_n 0, 1) := by decide +kernel
theorem dX11_next_45 : decode cX11_next 45 = .ok (.getfield 123, 3) := by decide +kernel
theorem dX11_next_48 : decode cX11_next 48 = .ok (.putfield 130, 3) := by decide +kernel
theorem dX11_next_51 : decode cX11_next 51 = .ok (.aload_n 0, 1) := by decide +kernel
theorem dX11_next_52 : decode cX11_next 52 = .ok (.iconst 0, 1) := by decide +kernel
theorem dX11_next_53 : decode cX11_next 53 = .ok (.putfield 133, 3) := by decide +kernel
theorem dX11_next_56 : decode cX11_next 56 = .ok (.aload_n 0, 1) := by decide +kernel
theorem dX11_next_57 : decode cX11_next 57 = .ok (.lconst 0, 1) := by decide +kernel
theorem dX11_next_58 : decode cX11_next 58 = .ok (.putfield 136, 3) := by decide +kernel
theorem dX11_next_61 : decode cX11_next 61 = .ok (.aload_n 0, 1) := by decide +kernel
theorem dX11_next_62 : decode cX11_next 62 = .ok (.getfield 123, 3) := by decide +kernel
theorem dX11_next_65 : decode cX11_next 65 = .ok (.aload_n 0, 1) := by decide +kernel
theorem dX11_next_66 : decode cX11_next 66 = .ok (.getfield 116, 3) := by decide +kernel
theorem dX11_next_69 : decode cX11_next 69 = .ok (.if_icmp .ne 11, 3) := by decide +kernel
theorem dX11_next_72 : decode cX11_next 72 = .ok (.aload_n 0, 1) := by decide +kernel
theorem dX11_next_73 : decode cX11_next 73 = .ok (.iconst 0, 1) := by decide +kernel
theorem dX11_next_74 : decode cX11_next 74 = .ok (.putfield 140, 3) := by decide +kernel
theorem dX11_next_77 : decode cX11_next 77 = .ok (.goto 230, 3) := by decide +kernel
theorem dX11_next_307 : decode cX11_next 307 = .ok (.return_, 1) := by decide +kernel
theorem dX11_oldest_0 : decode cX11_oldest 0 = .ok (.aload_n 0, 1) := by decide +kernel
theorem dX11_oldest_1 : decode cX11_oldest 1 = .ok (.iconst 0, 1) := by decide +kernel
theorem dX11_oldest_2 : decode cX11_oldest 2 = .ok (.putfield 99, 3) := by decide +kernel
theorem dX11_oldest_5 : decode cX11_oldest 5 = .ok (.aload_n 0, 1) := by decide +kernel
theorem dX11_oldest_6 : decode cX11_oldest 6 = .ok (.invokevirtual 316, 3) := by decide +kernel
theorem dX11_oldest_9 : decode cX11_oldest 9 = .ok (.ifCond .eq 10, 3) := by decide +kernel
theorem dX11_oldest_19 : decode cX11_oldest 19 = .ok (.bipush (-2), 2) := by decide +kernel
theorem dX11_oldest_21 : decode cX11_oldest 21 = .ok (.ireturn, 1) := by decide +kernel
theorem dX11_paste_0 : decode cX11_paste 0 = .ok (.aload_n 0, 1) := by decide +kernel
theorem dX11_paste_1 : decode cX11_paste 1 = .ok (.iconst 0, 1) := by decide +kernel
theorem dX11_paste_2 : decode cX11_paste 2 = .ok (.putfield 99, 3) := by decide +kernel
theorem dX11_paste_5 : decode cX11_paste 5 = .ok (.iload_n 1, 1) := by decide +kernel
theorem dX11_paste_6 : decode cX11_paste 6 = .ok (.invokestatic 108, 3) := by decide +kernel
theorem dX11_paste_9 : decode cX11_paste 9 = .ok (.ifCond .eq 10, 3) := by decide +kernel
theorem dX11_paste_12 : decode cX11_paste 12 = .ok (.iload_n 3, 1) := by decide +kernel
theorem dX11_paste_13 : decode cX11_paste 13 = .ok (.invokestatic 108, 3) := by decide +kernel
theorem dX11_paste_16 : decode cX11_paste 16 = .ok (.ifCond .ne 6, 3) := by decide +kernel
theorem dX11_paste_19 : decode cX11_paste 19 = .ok (.bipush (-2), 2) := by decide +kernel
theorem dX11_paste_21 : decode cX11_paste 21 = .ok (.ireturn, 1) := by decide +kernel
theorem dX11_paste_22 : decode cX11_paste 22 = .ok (.aload_n 0, 1) := by decide +kernel
theorem dX11_paste_23 : decode cX11_paste 23 = .ok (.getfield 7, 3) := by decide +kernel
theorem dX11_paste_26 : decode cX11_paste 26 = .ok (.iload_n 1, 1) := by decide +kernel
theorem dX11_paste_27 : decode cX11_paste 27 = .ok (.iaload, 1) := by decide +kernel
theorem dX11_paste_28 : decode cX11_paste 28 = .ok (.iconst (-1), 1) := by decide +kernel
theorem dX11_paste_29 : decode cX11_paste 29 = .ok (.if_icmp .eq 13, 3) := by decide +kernel
theorem dX11_paste_42 : decode cX11_paste 42 = .ok (.bipush (-6), 2) := by decide +kernel
theorem dX11_paste_44 : decode cX11_paste 44 = .ok (.ireturn, 1) := by decide +kernel
theorem dX11_pile_0 : decode cX11_pile 0 = .ok (.aload_n 0, 1) := by decide +kernel
theorem dX11_pile_1 : decode cX11_pile 1 = .ok (.iconst 0, 1) := by decide +kernel
theorem dX11_pile_2 : decode cX11_pile 2 = .ok (.putfield 99, 3) := by decide +kernel
theorem dX11_pile_5 : decode cX11_pile 5 = .ok (.aload_n 0, 1) := by decide +kernel
theorem dX11_pile_6 : decode cX11_pile 6 = .ok (.iload_n 1, 1) := by decide +kernel
theorem dX11_pile_7 : decode cX11_pile 7 = .ok (.invokevirtual 301, 3) := by decide +kernel
theorem dX11_pile_10 : decode cX11_pile 10 = .ok (.ifCond .eq 12, 3) := by decide +kernel
theorem dX11_pile_22 : decode cX11_pile 22 = .ok (.bipush (-2), 2) := by decide +kernel
theorem dX11_pile_24 : decode cX11_pile 24 = .ok (.ireturn, 1) := by decide +kernel
theorem dX11_pivot_0 : decode cX11_pivot 0 = .ok (.aload_n 0, 1) := by decide +kernel
theorem dX11_pivot_1 : decode cX11_pivot 1 = .ok (.iconst 0, 1) := by decide +kernel
theorem dX11_pivot_2 : decode cX11_pivot 2 = .ok (.putfield 99, 3) := by decide +kernel
theorem dX11_pivot_5 : decode cX11_pivot 5 = .ok (.aload_n 0, 1) := by decide +kernel
theorem dX11_pivot_6 : decode cX11_pivot 6 = .ok (.invokevirtual 316, 3) := by decide +kernel
theorem dX11_pivot_9 : decode cX11_pivot 9 = .ok (.ifCond .eq 13, 3) := by decide +kernel
theorem dX11_pivot_22 : decode cX11_pivot 22 = .ok (.bipush (-2), 2) := by decide +kernel
theorem dX11_pivot_24 : decode cX11_pivot 24 = .ok (.ireturn, 1) := by decide +kernel
theorem dX11_power_0 : decode cX11_power 0 = .ok (.aload_n 0, 1) := by decide +kernel
theorem dX11_power_1 : decode cX11_power 1 = .ok (.iconst 0, 1) := by decide +kernel
theorem dX11_power_2 : decode cX11_power 2 = .ok (.putfield 99, 3) := by decide +kernel
theorem dX11_power_5 : decode cX11_power 5 = .ok (.aload_n 0, 1) := by decide +kernel
theorem dX11_power_6 : decode cX11_power 6 = .ok (.iload_n 1, 1) := by decide +kernel
theorem dX11_power_7 : decode cX11_power 7 = .ok (.invokevirtual 343, 3) := by decide +kernel
theorem dX11_power_10 : decode cX11_power 10 = .ok (.ifCond .ne 6, 3) := by decide +kernel
theorem dX11_power_13 : decode cX11_power 13 = .ok (.bipush (-2), 2) := by decide +kernel
theorem dX11_power_15 : decode cX11_power 15 = .ok (.ireturn, 1) := by decide +kernel
theorem dX11_read_0 : decode cX11_read 0 = .ok (.aload_n 0, 1) := by decide +kernel
theorem dX11_read_1 : decode cX11_read 1 = .ok (.iconst 0, 1) := by decide +kernel
theorem dX11_read_2 : decode cX11_read 2 = .ok (.putfield 99, 3) := by decide +kernel
theorem dX11_read_5 : decode cX11_read 5 = .ok (.aload_n 0, 1) := by decide +kernel
theorem dX11_read_6 : decode cX11_read 6 = .ok (.iload_n 1, 1) := by decide +kernel
theorem dX11_read_7 : decode cX11_read 7 = .ok (.invokevirtual 370, 3) := by decide +kernel
theorem dX11_read_10 : decode cX11_read 10 = .ok (.ifCond .ne 6, 3) := by decide +kernel
theorem dX11_read_13 : decode cX11_read 13 = .ok (.bipush (-2), 2) := by decide +kernel
theorem dX11_read_15 : decode cX11_read 15 = .ok (.ireturn, 1) := by decide +kernel
theorem dX11_result_0 : decode cX11_result 0 = .ok (.aload_n 0, 1) := by decide +kernel
theorem dX11_result_1 : decode cX11_result 1 = .ok (.iconst 0, 1) := by decide +kernel
theorem dX11_result_2 : decode cX11_result 2 = .ok (.putfield 99, 3) := by decide +kernel
theorem dX11_result_5 : decode cX11_result 5 = .ok (.aload_n 0, 1) := by decide +kernel
theorem dX11_result_6 : decode cX11_result 6 = .ok (.iload_n 1, 1) := by decide +kernel
theorem dX11_result_7 : decode cX11_result 7 = .ok (.invokevirtual 361, 3) := by decide +kernel
theorem dX11_result_10 : decode cX11_result 10 = .ok (.istore_n 2, 1) := by decide +kernel
theorem dX11_result_11 : decode cX11_result 11 = .ok (.iload_n 2, 1) := by decide +kernel
theorem dX11_result_12 : decode cX11_result 12 = .ok (.ifCond .eq 7, 3) := by decide +kernel
theorem dX11_result_15 : decode cX11_result 15 = .ok (.iload_n 2, 1) := by decide +kernel
theorem dX11_result_16 : decode cX11_result 16 = .ok (.goto 8, 3) := by decide +kernel
theorem dX11_result_24 : decode cX11_result 24 = .ok (.ireturn, 1) := by decide +kernel
theorem dX11_rise_0 : decode cX11_rise 0 = .ok (.aload_n 0, 1) := by decide +kernel
theorem dX11_rise_1 : decode cX11_rise 1 = .ok (.iconst 0, 1) := by decide +kernel
theorem dX11_rise_2 : decode cX11_rise 2 = .ok (.putfield 99, 3) := by decide +kernel
theorem dX11_rise_5 : decode cX11_rise 5 = .ok (.aload_n 0, 1) := by decide +kernel
theorem dX11_rise_6 : decode cX11_rise 6 = .ok (.iload_n 1, 1) := by decide +kernel
theorem dX11_rise_7 : decode cX11_rise 7 = .ok (.iload_n 2, 1) := by decide +kernel
theorem dX11_rise_8 : decode cX11_rise 8 = .ok (.invokevirtual 297, 3) := by decide +kernel
theorem dX11_rise_11 : decode cX11_rise 11 = .ok (.ifCond .eq 15, 3) := by decide +kernel
theorem dX11_rise_26 : decode cX11_rise 26 = .ok (.bipush (-2), 2) := by decide +kernel
theorem dX11_rise_28 : decode cX11_rise 28 = .ok (.ireturn, 1) := by decide +kernel
theorem dX11_row_0 : decode cX11_row 0 = .ok (.aload_n 0, 1) := by decide +kernel
theorem dX11_row_1 : decode cX11_row 1 = .ok (.iconst 0, 1) := by decide +kernel
theorem dX11_row_2 : decode cX11_row 2 = .ok (.putfield 99, 3) := by decide +kernel
theorem dX11_row_5 : decode cX11_row 5 = .ok (.iload_n 1, 1) := by decide +kernel
theorem dX11_row_6 : decode cX11_row 6 = .ok (.invokestatic 108, 3) := by decide +kernel
theorem dX11_row_9 : decode cX11_row 9 = .ok (.ifCond .eq 21, 3) := by decide +kernel
theorem dX11_row_12 : decode cX11_row 12 = .ok (.iload_n 2, 1) := by decide +kernel
theorem dX11_row_13 : decode cX11_row 13 = .ok (.i2l, 1) := by decide +kernel
theorem dX11_row_14 : decode cX11_row 14 = .ok (.lconst 0, 1) := by decide +kernel
theorem dX11_row_15 : decode cX11_row 15 = .ok (.ldc2_w 102, 3) := by decide +kernel
theorem dX11_row_18 : decode cX11_row 18 = .ok (.invokestatic 104, 3) := by decide +kernel
theorem dX11_row_21 : decode cX11_row 21 = .ok (.ifCond .eq 9, 3) := by decide +kernel
theorem dX11_row_24 : decode cX11_row 24 = .ok (.iload_n 3, 1) := by decide +kernel
theorem dX11_row_25 : decode cX11_row 25 = .ok (.bipush 60, 2) := by decide +kernel
theorem dX11_row_27 : decode cX11_row 27 = .ok (.if_icmp .le 6, 3) := by decide +kernel
theorem dX11_row_30 : decode cX11_row 30 = .ok (.bipush (-2), 2) := by decide +kernel
theorem dX11_row_32 : decode cX11_row 32 = .ok (.ireturn, 1) := by decide +kernel
theorem dX11_row_33 : decode cX11_row 33 = .ok (.iload_n 3, 1) := by decide +kernel
theorem dX11_row_34 : decode cX11_row 34 = .ok (.ifCond .ge 6, 3) := by decide +kernel
