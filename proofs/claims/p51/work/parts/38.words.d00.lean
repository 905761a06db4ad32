theorem dX11_at_0 : decode cX11_at 0 = .ok (.bipush 16, 2) := by decide +kernel
theorem dX11_at_2 : decode cX11_at 2 = .ok (.iload_n 0, 1) := by decide +kernel
theorem dX11_at_3 : decode cX11_at 3 = .ok (.imul, 1) := by decide +kernel
theorem dX11_at_4 : decode cX11_at 4 = .ok (.bipush 8, 2) := by decide +kernel
theorem dX11_at_6 : decode cX11_at 6 = .ok (.iload_n 1, 1) := by decide +kernel
theorem dX11_at_7 : decode cX11_at 7 = .ok (.imul, 1) := by decide +kernel
theorem dX11_at_8 : decode cX11_at 8 = .ok (.iadd, 1) := by decide +kernel
theorem dX11_at_9 : decode cX11_at 9 = .ok (.iload_n 2, 1) := by decide +kernel
theorem dX11_at_10 : decode cX11_at 10 = .ok (.iadd, 1) := by decide +kernel
theorem dX11_at_11 : decode cX11_at 11 = .ok (.ireturn, 1) := by decide +kernel
theorem dX11_at__0 : decode cX11_at_ 0 = .ok (.bipush 12, 2) := by decide +kernel
theorem dX11_at__2 : decode cX11_at_ 2 = .ok (.iload_n 0, 1) := by decide +kernel
theorem dX11_at__3 : decode cX11_at_ 3 = .ok (.iload_n 1, 1) := by decide +kernel
theorem dX11_at__4 : decode cX11_at_ 4 = .ok (.iload_n 2, 1) := by decide +kernel
theorem dX11_at__5 : decode cX11_at_ 5 = .ok (.invokestatic 280, 3) := by decide +kernel
theorem dX11_at__8 : decode cX11_at_ 8 = .ok (.imul, 1) := by decide +kernel
theorem dX11_at__9 : decode cX11_at_ 9 = .ok (.iload_n 3, 1) := by decide +kernel
theorem dX11_at__10 : decode cX11_at_ 10 = .ok (.iadd, 1) := by decide +kernel
theorem dX11_at__11 : decode cX11_at_ 11 = .ok (.ireturn, 1) := by decide +kernel
theorem dX11_cut_0 : decode cX11_cut 0 = .ok (.iload_n 2, 1) := by decide +kernel
theorem dX11_cut_1 : decode cX11_cut 1 = .ok (.ifCond .ne 10, 3) := by decide +kernel
theorem dX11_cut_4 : decode cX11_cut 4 = .ok (.lload_n 0, 1) := by decide +kernel
theorem dX11_cut_5 : decode cX11_cut 5 = .ok (.l2i, 1) := by decide +kernel
theorem dX11_cut_6 : decode cX11_cut 6 = .ok (.i2b, 1) := by decide +kernel
theorem dX11_cut_7 : decode cX11_cut 7 = .ok (.i2l, 1) := by decide +kernel
theorem dX11_cut_8 : decode cX11_cut 8 = .ok (.goto 27, 3) := by decide +kernel
theorem dX11_cut_11 : decode cX11_cut 11 = .ok (.iload_n 2, 1) := by decide +kernel
theorem dX11_cut_12 : decode cX11_cut 12 = .ok (.iconst 1, 1) := by decide +kernel
theorem dX11_cut_13 : decode cX11_cut 13 = .ok (.if_icmp .ne 10, 3) := by decide +kernel
theorem dX11_cut_16 : decode cX11_cut 16 = .ok (.lload_n 0, 1) := by decide +kernel
theorem dX11_cut_17 : decode cX11_cut 17 = .ok (.l2i, 1) := by decide +kernel
theorem dX11_cut_18 : decode cX11_cut 18 = .ok (.i2s, 1) := by decide +kernel
theorem dX11_cut_19 : decode cX11_cut 19 = .ok (.i2l, 1) := by decide +kernel
theorem dX11_cut_20 : decode cX11_cut 20 = .ok (.goto 15, 3) := by decide +kernel
theorem dX11_cut_23 : decode cX11_cut 23 = .ok (.iload_n 2, 1) := by decide +kernel
theorem dX11_cut_24 : decode cX11_cut 24 = .ok (.iconst 2, 1) := by decide +kernel
theorem dX11_cut_25 : decode cX11_cut 25 = .ok (.if_icmp .ne 9, 3) := by decide +kernel
theorem dX11_cut_28 : decode cX11_cut 28 = .ok (.lload_n 0, 1) := by decide +kernel
theorem dX11_cut_29 : decode cX11_cut 29 = .ok (.l2i, 1) := by decide +kernel
theorem dX11_cut_30 : decode cX11_cut 30 = .ok (.i2l, 1) := by decide +kernel
theorem dX11_cut_31 : decode cX11_cut 31 = .ok (.goto 4, 3) := by decide +kernel
theorem dX11_cut_34 : decode cX11_cut 34 = .ok (.lload_n 0, 1) := by decide +kernel
theorem dX11_cut_35 : decode cX11_cut 35 = .ok (.lreturn, 1) := by decide +kernel
theorem dX11_end_0 : decode cX11_end 0 = .ok (.aload_n 0, 1) := by decide +kernel
theorem dX11_end_1 : decode cX11_end 1 = .ok (.iconst 0, 1) := by decide +kernel
theorem dX11_end_2 : decode cX11_end 2 = .ok (.putfield 99, 3) := by decide +kernel
theorem dX11_end_5 : decode cX11_end 5 = .ok (.iload_n 1, 1) := by decide +kernel
theorem dX11_end_6 : decode cX11_end 6 = .ok (.i2l, 1) := by decide +kernel
theorem dX11_end_7 : decode cX11_end 7 = .ok (.lconst 0, 1) := by decide +kernel
theorem dX11_end_8 : decode cX11_end 8 = .ok (.aload_n 0, 1) := by decide +kernel
theorem dX11_end_9 : decode cX11_end 9 = .ok (.getfield 116, 3) := by decide +kernel
theorem dX11_end_12 : decode cX11_end 12 = .ok (.i2l, 1) := by decide +kernel
theorem dX11_end_13 : decode cX11_end 13 = .ok (.invokestatic 104, 3) := by decide +kernel
theorem dX11_end_16 : decode cX11_end 16 = .ok (.ifCond .ne 5, 3) := by decide +kernel
theorem dX11_end_19 : decode cX11_end 19 = .ok (.iconst (-1), 1) := by decide +kernel
theorem dX11_end_20 : decode cX11_end 20 = .ok (.ireturn, 1) := by decide +kernel
theorem dX11_end_21 : decode cX11_end 21 = .ok (.aload_n 0, 1) := by decide +kernel
theorem dX11_end_22 : decode cX11_end 22 = .ok (.iload_n 1, 1) := by decide +kernel
theorem dX11_end_23 : decode cX11_end 23 = .ok (.putfield 116, 3) := by decide +kernel
theorem dX11_end_26 : decode cX11_end 26 = .ok (.iload_n 1, 1) := by decide +kernel
theorem dX11_end_27 : decode cX11_end 27 = .ok (.ireturn, 1) := by decide +kernel
theorem dX11_fault_0 : decode cX11_fault 0 = .ok (.aload_n 0, 1) := by decide +kernel
theorem dX11_fault_1 : decode cX11_fault 1 = .ok (.iconst 0, 1) := by decide +kernel
theorem dX11_fault_2 : decode cX11_fault 2 = .ok (.putfield 99, 3) := by decide +kernel
theorem dX11_fault_5 : decode cX11_fault 5 = .ok (.iload_n 1, 1) := by decide +kernel
theorem dX11_fault_6 : decode cX11_fault 6 = .ok (.ifCond .ne 10, 3) := by decide +kernel
theorem dX11_fault_9 : decode cX11_fault 9 = .ok (.aload_n 0, 1) := by decide +kernel
theorem dX11_fault_10 : decode cX11_fault 10 = .ok (.getfield 178, 3) := by decide +kernel
theorem dX11_fault_13 : decode cX11_fault 13 = .ok (.goto 16, 3) := by decide +kernel
theorem dX11_fault_16 : decode cX11_fault 16 = .ok (.iload_n 1, 1) := by decide +kernel
theorem dX11_fault_17 : decode cX11_fault 17 = .ok (.iconst 1, 1) := by decide +kernel
theorem dX11_fault_18 : decode cX11_fault 18 = .ok (.if_icmp .ne 10, 3) := by decide +kernel
theorem dX11_fault_21 : decode cX11_fault 21 = .ok (.aload_n 0, 1) := by decide +kernel
theorem dX11_fault_22 : decode cX11_fault 22 = .ok (.getfield 27, 3) := by decide +kernel
theorem dX11_fault_25 : decode cX11_fault 25 = .ok (.goto 4, 3) := by decide +kernel
theorem dX11_fault_28 : decode cX11_fault 28 = .ok (.iconst (-1), 1) := by decide +kernel
theorem dX11_fault_29 : decode cX11_fault 29 = .ok (.ireturn, 1) := by decide +kernel
theorem dX11_feed_0 : decode cX11_feed 0 = .ok (.aload_n 0, 1) := by decide +kernel
theorem dX11_feed_1 : decode cX11_feed 1 = .ok (.iconst 0, 1) := by decide +kernel
theorem dX11_feed_2 : decode cX11_feed 2 = .ok (.putfield 99, 3) := by decide +kernel
theorem dX11_feed_5 : decode cX11_feed 5 = .ok (.aload_n 0, 1) := by decide +kernel
theorem dX11_feed_6 : decode cX11_feed 6 = .ok (.getfield 116, 3) := by decide +kernel
theorem dX11_feed_9 : decode cX11_feed 9 = .ok (.bipush 20, 2) := by decide +kernel
theorem dX11_feed_11 : decode cX11_feed 11 = .ok (.iadd, 1) := by decide +kernel
theorem dX11_feed_12 : decode cX11_feed 12 = .ok (.sipush 1600, 3) := by decide +kernel
theorem dX11_feed_15 : decode cX11_feed 15 = .ok (.if_icmp .le 5, 3) := by decide +kernel
theorem dX11_feed_18 : decode cX11_feed 18 = .ok (.iconst (-1), 1) := by decide +kernel
theorem dX11_feed_19 : decode cX11_feed 19 = .ok (.ireturn, 1) := by decide +kernel
theorem dX11_feed_20 : decode cX11_feed 20 = .ok (.aload_n 0, 1) := by decide +kernel
theorem dX11_feed_21 : decode cX11_feed 21 = .ok (.iload_n 1, 1) := by decide +kernel
theorem dX11_feed_22 : decode cX11_feed 22 = .ok (.invokevirtual 119, 3) := by decide +kernel
theorem dX11_feed_25 : decode cX11_feed 25 = .ok (.aload_n 0, 1) := by decide +kernel
theorem dX11_feed_26 : decode cX11_feed 26 = .ok (.iload_n 2, 1) := by decide +kernel
theorem dX11_feed_27 : decode cX11_feed 27 = .ok (.invokevirtual 119, 3) := by decide +kernel
theorem dX11_feed_30 : decode cX11_feed 30 = .ok (.aload_n 0, 1) := by decide +kernel
theorem dX11_feed_31 : decode cX11_feed 31 = .ok (.iload_n 3, 1) := by decide +kernel
theorem dX11_feed_32 : decode cX11_feed 32 = .ok (.invokevirtual 119, 3) := by decide +kernel
theorem dX11_feed_35 : decode cX11_feed 35 = .ok (.aload_n 0, 1) := by decide +kernel
theorem dX11_feed_36 : decode cX11_feed 36 = .ok (.iload 4, 2) := by decide +kernel
theorem dX11_feed_38 : decode cX11_feed 38 = .ok (.invokevirtual 119, 3) := by decide +kernel
theorem dX11_feed_41 : decode cX11_feed 41 = .ok (.aload_n 0, 1) := by decide +kernel
theorem dX11_feed_42 : decode cX11_feed 42 = .ok (.iload 5, 2) := by decide +kernel
theorem dX11_feed_44 : decode cX11_feed 44 = .ok (.invokevirtual 119, 3) := by decide +kernel
theorem dX11_feed_47 : decode cX11_feed 47 = .ok (.aload_n 0, 1) := by decide +kernel
theorem dX11_feed_48 : decode cX11_feed 48 = .ok (.getfield 116, 3) := by decide +kernel
theorem dX11_feed_51 : decode cX11_feed 51 = .ok (.ireturn, 1) := by decide +kernel
theorem dX11_four_0 : decode cX11_four 0 = .ok (.bipush 24, 2) := by decide +kernel
theorem dX11_four_2 : decode cX11_four 2 = .ok (.istore_n 2, 1) := by decide +kernel
theorem dX11_four_3 : decode cX11_four 3 = .ok (.iload_n 2, 1) := by decide +kernel
theorem dX11_four_4 : decode cX11_four 4 = .ok (.ifCond .lt 32, 3) := by decide +kernel
theorem dX11_four_7 : decode cX11_four 7 = .ok (.aload_n 0, 1) := by decide +kernel
theorem dX11_four_8 : decode cX11_four 8 = .ok (.getfield 23, 3) := by decide +kernel
theorem dX11_four_11 : decode cX11_four 11 = .ok (.aload_n 0, 1) := by decide +kernel
theorem dX11_four_12 : decode cX11_four 12 = .ok (.getfield 116, 3) := by decide +kernel
theorem dX11_four_15 : decode cX11_four 15 = .ok (.iload_n 1, 1) := by decide +kernel
theorem dX11_four_16 : decode cX11_four 16 = .ok (.iload_n 2, 1) := by decide +kernel
theorem dX11_four_17 : decode cX11_four 17 = .ok (.ishr, 1) := by decide +kernel
theorem dX11_four_18 : decode cX11_four 18 = .ok (.i2b, 1) := by decide +kernel
theorem dX11_four_19 : decode cX11_four 19 = .ok (.bastore, 1) := by decide +kernel
theorem dX11_four_20 : decode cX11_four 20 = .ok (.aload_n 0, 1) := by decide +kernel
theorem dX11_four_21 : decode cX11_four 21 = .ok (.dup, 1) := by decide +kernel
theorem dX11_four_22 : decode cX11_four 22 = .ok (.getfield 116, 3) := by decide +kernel
theorem dX11_four_25 : decode cX11_four 25 = .ok (.iconst 1, 1) := by decide +kernel
theorem dX11_four_26 : decode cX11_four 26 = .ok (.iadd, 1) := by decide +kernel
theorem dX11_four_27 : decode cX11_four 27 = .ok (.putfield 116, 3) := by decide +kernel
theorem dX11_four_30 : decode cX11_four 30 = .ok (.iinc 2 (-8), 3) := by decide +kernel
theorem dX11_four_33 : decode cX11_four 33 = .ok (.goto (-30), 3) := by decide +kernel
theorem dX11_four_36 : decode cX11_four 36 = .ok (.return_, 1) := by decide +kernel
theorem dX11_in_0 : decode cX11_in 0 = .ok (.lload_n 0, 1) := by decide +kernel
theorem dX11_in_1 : decode cX11_in 1 = .ok (.lload_n 2, 1) := by decide +kernel
theorem dX11_in_2 : decode cX11_in 2 = .ok (.lcmp, 1) := by decide +kernel
theorem dX11_in_3 : decode cX11_in 3 = .ok (.ifCond .lt 14, 3) := by decide +kernel
theorem dX11_in_6 : decode cX11_in 6 = .ok (.lload_n 0, 1) := by decide +kernel
theorem dX11_in_7 : decode cX11_in 7 = .ok (.lload 4, 2) := by decide +kernel
theorem dX11_in_9 : decode cX11_in 9 = .ok (.lcmp, 1) := by decide +kernel
theorem dX11_in_10 : decode cX11_in 10 = .ok (.ifCond .gt 7, 3) := by decide +kernel
theorem dX11_in_13 : decode cX11_in 13 = .ok (.iconst 1, 1) := by decide +kernel
theorem dX11_in_14 : decode cX11_in 14 = .ok (.goto 4, 3) := by decide +kernel
theorem dX11_in_17 : decode cX11_in 17 = .ok (.iconst 0, 1) := by decide +kernel
theorem dX11_in_18 : decode cX11_in 18 = .ok (.ireturn, 1) := by decide +kernel
theorem dX11_isColumn_0 : decode cX11_isColumn 0 = .ok (.iload_n 1, 1) := by decide +kernel
theorem dX11_isColumn_1 : decode cX11_isColumn 1 = .ok (.invokestatic 283, 3) := by decide +kernel
theorem dX11_isColumn_4 : decode cX11_isColumn 4 = .ok (.ifCond .eq 25, 3) := by decide +kernel
theorem dX11_isColumn_7 : decode cX11_isColumn 7 = .ok (.iload_n 2, 1) := by decide +kernel
theorem dX11_isColumn_8 : decode cX11_isColumn 8 = .ok (.i2l, 1) := by decide +kernel
theorem dX11_isColumn_9 : decode cX11_isColumn 9 = .ok (.lconst 0, 1) := by decide +kernel
theorem dX11_isColumn_10 : decode cX11_isColumn 10 = .ok (.aload_n 0, 1) := by decide +kernel
theorem dX11_isColumn_11 : decode cX11_isColumn 11 = .ok (.getfield 34, 3) := by decide +kernel
theorem dX11_isColumn_14 : decode cX11_isColumn 14 = .ok (.iconst 0, 1) := by decide +kernel
theorem dX11_isColumn_15 : decode cX11_isColumn 15 = .ok (.iaload, 1) := by decide +kernel
theorem dX11_isColumn_16 : decode cX11_isColumn 16 = .ok (.iconst 1, 1) := by decide +kernel
theorem dX11_isColumn_17 : decode cX11_isColumn 17 = .ok (.isub, 1) := by decide +kernel
theorem dX11_isColumn_18 : decode cX11_isColumn 18 = .ok (.i2l, 1) := by decide +kernel
theorem dX11_isColumn_19 : decode cX11_isColumn 19 = .ok (.invokestatic 104, 3) := by decide +kernel
theorem dX11_isColumn_22 : decode cX11_isColumn 22 = .ok (.ifCond .eq 7, 3) := by decide +kernel
theorem dX11_isColumn_25 : decode cX11_isColumn 25 = .ok (.iconst 1, 1) := by decide +kernel
theorem dX11_isColumn_26 : decode cX11_isColumn 26 = .ok (.goto 4, 3) := by decide +kernel
theorem dX11_isColumn_29 : decode cX11_isColumn 29 = .ok (.iconst 0, 1) := by decide +kernel
theorem dX11_isColumn_30 : decode cX11_isColumn 30 = .ok (.ireturn, 1) := by decide +kernel
theorem dX11_isSeed_0 : decode cX11_isSeed 0 = .ok (.iload_n 0, 1) := by decide +kernel
theorem dX11_isSeed_1 : decode cX11_isSeed 1 = .ok (.i2l, 1) := by decide +kernel
theorem dX11_isSeed_2 : decode cX11_isSeed 2 = .ok (.lconst 0, 1) := by decide +kernel
theorem dX11_isSeed_3 : decode cX11_isSeed 3 = .ok (.ldc2_w 458, 3) := by decide +kernel
theorem dX11_isSeed_6 : decode cX11_isSeed 6 = .ok (.invokestatic 104, 3) := by decide +kernel
theorem dX11_isSeed_9 : decode cX11_isSeed 9 = .ok (.ireturn, 1) := by decide +kernel
theorem dX11_isSide_0 : decode cX11_isSide 0 = .ok (.iload_n 0, 1) := by decide +kernel
theorem dX11_isSide_1 : decode cX11_isSide 1 = .ok (.ifCond .eq 8, 3) := by decide +kernel
theorem dX11_isSide_4 : decode cX11_isSide 4 = .ok (.iload_n 0, 1) := by decide +kernel
theorem dX11_isSide_5 : decode cX11_isSide 5 = .ok (.iconst 1, 1) := by decide +kernel
theorem dX11_isSide_6 : decode cX11_isSide 6 = .ok (.if_icmp .ne 7, 3) := by decide +kernel
theorem dX11_isSide_9 : decode cX11_isSide 9 = .ok (.iconst 1, 1) := by decide +kernel
theorem dX11_isSide_10 : decode cX11_isSide 10 = .ok (.goto 4, 3) := by decide +kernel
theorem dX11_isSide_13 : decode cX11_isSide 13 = .ok (.iconst 0, 1) := by decide +kernel
theorem dX11_isSide_14 : decode cX11_isSide 14 = .ok (.ireturn, 1) := by decide +kernel
theorem dX11_isSlot_0 : decode cX11_isSlot 0 = .ok (.iload_n 0, 1) := by decide +kernel
theorem dX11_isSlot_1 : decode cX11_isSlot 1 = .ok (.i2l, 1) := by decide +kernel
theorem dX11_isSlot_2 : decode cX11_isSlot 2 = .ok (.lconst 0, 1) := by decide +kernel
theorem dX11_isSlot_3 : decode cX11_isSlot 3 = .ok (.ldc2_w 102, 3) := by decide +kernel
theorem dX11_isSlot_6 : decode cX11_isSlot 6 = .ok (.invokestatic 104, 3) := by decide +kernel
theorem dX11_isSlot_9 : decode cX11_isSlot 9 = .ok (.ireturn, 1) := by decide +kernel
theorem dX11_isSort_0 : decode cX11_isSort 0 = .ok (.iload_n 1, 1) := by decide +kernel
theorem dX11_isSort_1 : decode cX11_isSort 1 = .ok (.i2l, 1) := by decide +kernel
theorem dX11_isSort_2 : decode cX11_isSort 2 = .ok (.lconst 0, 1) := by decide +kernel
theorem dX11_isSort_3 : decode cX11_isSort 3 = .ok (.aload_n 0, 1) := by decide +kernel
theorem dX11_isSort_4 : decode cX11_isSort 4 = .ok (.getfield 37, 3) := by decide +kernel
theorem dX11_isSort_7 : decode cX11_isSort 7 = .ok (.iconst 0, 1) := by decide +kernel
theorem dX11_isSort_8 : decode cX11_isSort 8 = .ok (.iaload, 1) := by decide +kernel
theorem dX11_isSort_9 : decode cX11_isSort 9 = .ok (.iconst 1, 1) := by decide +kernel
theorem dX11_isSort_10 : decode cX11_isSort 10 = .ok (.isub, 1) := by decide +kernel
theorem dX11_isSort_11 : decode cX11_isSort 11 = .ok (.i2l, 1) := by decide +kernel
theorem dX11_isSort_12 : decode cX11_isSort 12 = .ok (.invokestatic 104, 3) := by decide +kernel
theorem dX11_isSort_15 : decode cX11_isSort 15 = .ok (.ireturn, 1) := by decide +kernel
theorem dX11_isTown_0 : decode cX11_isTown 0 = .ok (.aload_n 0, 1) := by decide +kernel
theorem dX11_isTown_1 : decode cX11_isTown 1 = .ok (.getfield 34, 3) := by decide +kernel
theorem dX11_isTown_4 : decode cX11_isTown 4 = .ok (.iconst 0, 1) := by decide +kernel
theorem dX11_isTown_5 : decode cX11_isTown 5 = .ok (.iaload, 1) := by decide +kernel
theorem dX11_isTown_6 : decode cX11_isTown 6 = .ok (.ifCond .le 7, 3) := by decide +kernel
theorem dX11_isTown_9 : decode cX11_isTown 9 = .ok (.iconst 1, 1) := by decide +kernel
theorem dX11_isTown_10 : decode cX11_isTown 10 = .ok (.goto 4, 3) := by decide +kernel
theorem dX11_isTown_13 : decode cX11_isTown 13 = .ok (.iconst 0, 1) := by decide +kernel
theorem dX11_isTown_14 : decode cX11_isTown 14 = .ok (.ireturn, 1) := by decide +kernel
theorem dX11_isVoter_0 : decode cX11_isVoter 0 = .ok (.iload_n 1, 1) := by decide +kernel
theorem dX11_isVoter_1 : decode cX11_isVoter 1 = .ok (.i2l, 1) := by decide +kernel
theorem dX11_isVoter_2 : decode cX11_isVoter 2 = .ok (.lconst 0, 1) := by decide +kernel
theorem dX11_isVoter_3 : decode cX11_isVoter 3 = .ok (.aload_n 0, 1) := by decide +kernel
theorem dX11_isVoter_4 : decode cX11_isVoter 4 = .ok (.getfield 43, 3) := by decide +kernel
theorem dX11_isVoter_7 : decode cX11_isVoter 7 = .ok (.iconst 0, 1) := by decide +kernel
theorem dX11_isVoter_8 : decode cX11_isVoter 8 = .ok (.iaload, 1) := by decide +kernel
theorem dX11_isVoter_9 : decode cX11_isVoter 9 = .ok (.iconst 1, 1) := by decide +kernel
theorem dX11_isVoter_10 : decode cX11_isVoter 10 = .ok (.isub, 1) := by decide +kernel
theorem dX11_isVoter_11 : decode cX11_isVoter 11 = .ok (.i2l, 1) := by decide +kernel
theorem dX11_isVoter_12 : decode cX11_isVoter 12 = .ok (.invokestatic 104, 3) := by decide +kernel
theorem dX11_isVoter_15 : decode cX11_isVoter 15 = .ok (.ireturn, 1) := by decide +kernel
theorem dX11_paste_0 : decode cX11_paste 0 = .ok (.aload_n 0, 1) := by decide +kernel
theorem dX11_paste_1 : decode cX11_paste 1 = .ok (.iconst 0, 1) := by decide +kernel
theorem dX11_paste_2 : decode cX11_paste 2 = .ok (.putfield 99, 3) := by decide +kernel
theorem dX11_paste_5 : decode cX11_paste 5 = .ok (.iload_n 1, 1) := by decide +kernel
theorem dX11_paste_6 : decode cX11_paste 6 = .ok (.invokestatic 108, 3) := by decide +kernel
theorem dX11_paste_9 : decode cX11_paste 9 = .ok (.ifCond .eq 10, 3) := by decide +kernel
theorem dX11_paste_12 : decode cX11_paste 12 = .ok (.iload_n 3, 1) := by decide +kernel
theorem dX11_paste_13 : decode cX11_paste 13 = .ok (.invokestatic 108, 3) := by decide +kernel
theorem dX11_paste_16 : decode cX11_paste 16 = .ok (.ifCond .ne 6, 3) := by decide +kernel
theorem dX11_paste_19 : decode cX11_paste 19 = .ok (.bipush (-2), 2) := by decide +kernel
theorem dX11_paste_21 : decode cX11_paste 21 = .ok (.ireturn, 1) := by decide +kernel
theorem dX11_paste_22 : decode cX11_paste 22 = .ok (.aload_n 0, 1) := by decide +kernel
theorem dX11_paste_23 : decode cX11_paste 23 = .ok (.getfield 7, 3) := by decide +kernel
theorem dX11_paste_26 : decode cX11_paste 26 = .ok (.iload_n 1, 1) := by decide +kernel
theorem dX11_paste_27 : decode cX11_paste 27 = .ok (.iaload, 1) := by decide +kernel
theorem dX11_paste_28 : decode cX11_paste 28 = .ok (.iconst (-1), 1) := by decide +kernel
theorem dX11_paste_29 : decode cX11_paste 29 = .ok (.if_icmp .eq 13, 3) := by decide +kernel
theorem dX11_paste_32 : decode cX11_paste 32 = .ok (.aload_n 0, 1) := by decide +kernel
theorem dX11_paste_33 : decode cX11_paste 33 = .ok (.getfield 7, 3) := by decide +kernel
theorem dX11_paste_36 : decode cX11_paste 36 = .ok (.iload_n 3, 1) := by decide +kernel
theorem dX11_paste_37 : decode cX11_paste 37 = .ok (.iaload, 1) := by decide +kernel
theorem dX11_paste_38 : decode cX11_paste 38 = .ok (.iconst (-1), 1) := by decide +kernel
theorem dX11_paste_39 : decode cX11_paste 39 = .ok (.if_icmp .ne 6, 3) := by decide +kernel
theorem dX11_paste_42 : decode cX11_paste 42 = .ok (.bipush (-6), 2) := by decide +kernel
theorem dX11_paste_44 : decode cX11_paste 44 = .ok (.ireturn, 1) := by decide +kernel
theorem dX11_paste_45 : decode cX11_paste 45 = .ok (.aload_n 0, 1) := by decide +kernel
theorem dX11_paste_46 : decode cX11_paste 46 = .ok (.getfield 7, 3) := by decide +kernel
theorem dX11_paste_49 : decode cX11_paste 49 = .ok (.iload_n 1, 1) := by decide +kernel
theorem dX11_paste_50 : decode cX11_paste 50 = .ok (.iaload, 1) := by decide +kernel
theorem dX11_paste_51 : decode cX11_paste 51 = .ok (.aload_n 0, 1) := by decide +kernel
theorem dX11_paste_52 : decode cX11_paste 52 = .ok (.getfield 7, 3) := by decide +kernel
theorem dX11_paste_55 : decode cX11_paste 55 = .ok (.iload_n 3, 1) := by decide +kernel
theorem dX11_paste_56 : decode cX11_paste 56 = .ok (.iaload, 1) := by decide +kernel
theorem dX11_paste_57 : decode cX11_paste 57 = .ok (.if_icmp .eq 6, 3) := by decide +kernel
theorem dX11_paste_60 : decode cX11_paste 60 = .ok (.bipush (-8), 2) := by decide +kernel
theorem dX11_paste_62 : decode cX11_paste 62 = .ok (.ireturn, 1) := by decide +kernel
theorem dX11_paste_63 : decode cX11_paste 63 = .ok (.iload_n 2, 1) := by decide +kernel
theorem dX11_paste_64 : decode cX11_paste 64 = .ok (.ifCond .lt 48, 3) := by decide +kernel
theorem dX11_paste_67 : decode cX11_paste 67 = .ok (.iload 4, 2) := by decide +kernel
theorem dX11_paste_69 : decode cX11_paste 69 = .ok (.ifCond .lt 43, 3) := by decide +kernel
theorem dX11_paste_72 : decode cX11_paste 72 = .ok (.iload 5, 2) := by decide +kernel
theorem dX11_paste_74 : decode cX11_paste 74 = .ok (.ifCond .lt 38, 3) := by decide +kernel
theorem dX11_paste_77 : decode cX11_paste 77 = .ok (.iload_n 2, 1) := by decide +kernel
theorem dX11_paste_78 : decode cX11_paste 78 = .ok (.i2l, 1) := by decide +kernel
theorem dX11_paste_79 : decode cX11_paste 79 = .ok (.iload 5, 2) := by decide +kernel
theorem dX11_paste_81 : decode cX11_paste 81 = .ok (.i2l, 1) := by decide +kernel
theorem dX11_paste_82 : decode cX11_paste 82 = .ok (.ladd, 1) := by decide +kernel
theorem dX11_paste_83 : decode cX11_paste 83 = .ok (.aload_n 0, 1) := by decide +kernel
theorem dX11_paste_84 : decode cX11_paste 84 = .ok (.getfield 13, 3) := by decide +kernel
theorem dX11_paste_87 : decode cX11_paste 87 = .ok (.iload_n 1, 1) := by decide +kernel
theorem dX11_paste_88 : decode cX11_paste 88 = .ok (.iaload, 1) := by decide +kernel
theorem dX11_paste_89 : decode cX11_paste 89 = .ok (.i2l, 1) := by decide +kernel
theorem dX11_paste_90 : decode cX11_paste 90 = .ok (.lcmp, 1) := by decide +kernel
theorem dX11_paste_91 : decode cX11_paste 91 = .ok (.ifCond .gt 21, 3) := by decide +kernel
theorem dX11_paste_94 : decode cX11_paste 94 = .ok (.iload 4, 2) := by decide +kernel
theorem dX11_paste_96 : decode cX11_paste 96 = .ok (.i2l, 1) := by decide +kernel
theorem dX11_paste_97 : decode cX11_paste 97 = .ok (.iload 5, 2) := by decide +kernel
theorem dX11_paste_99 : decode cX11_paste 99 = .ok (.i2l, 1) := by decide +kernel
theorem dX11_paste_100 : decode cX11_paste 100 = .ok (.ladd, 1) := by decide +kernel
theorem dX11_paste_101 : decode cX11_paste 101 = .ok (.aload_n 0, 1) := by decide +kernel
theorem dX11_paste_102 : decode cX11_paste 102 = .ok (.getfield 13, 3) := by decide +kernel
theorem dX11_paste_105 : decode cX11_paste 105 = .ok (.iload_n 3, 1) := by decide +kernel
theorem dX11_paste_106 : decode cX11_paste 106 = .ok (.iaload, 1) := by decide +kernel
theorem dX11_paste_107 : decode cX11_paste 107 = .ok (.i2l, 1) := by decide +kernel
theorem dX11_paste_108 : decode cX11_paste 108 = .ok (.lcmp, 1) := by decide +kernel
theorem dX11_paste_109 : decode cX11_paste 109 = .ok (.ifCond .le 6, 3) := by decide +kernel
theorem dX11_paste_112 : decode cX11_paste 112 = .ok (.bipush (-7), 2) := by decide +kernel
theorem dX11_paste_114 : decode cX11_paste 114 = .ok (.ireturn, 1) := by decide +kernel
theorem dX11_paste_115 : decode cX11_paste 115 = .ok (.iconst 0, 1) := by decide +kernel
theorem dX11_paste_116 : decode cX11_paste 116 = .ok (.istore 6, 2) := by decide +kernel
theorem dX11_paste_118 : decode cX11_paste 118 = .ok (.iload 6, 2) := by decide +kernel
theorem dX11_paste_120 : decode cX11_paste 120 = .ok (.iload 5, 2) := by decide +kernel
theorem dX11_paste_122 : decode cX11_paste 122 = .ok (.if_icmp .ge 30, 3) := by decide +kernel
theorem dX11_paste_125 : decode cX11_paste 125 = .ok (.aload_n 0, 1) := by decide +kernel
theorem dX11_paste_126 : decode cX11_paste 126 = .ok (.getfield 20, 3) := by decide +kernel
theorem dX11_paste_129 : decode cX11_paste 129 = .ok (.iload 6, 2) := by decide +kernel
theorem dX11_paste_131 : decode cX11_paste 131 = .ok (.aload_n 0, 1) := by decide +kernel
theorem dX11_paste_132 : decode cX11_paste 132 = .ok (.getfield 16, 3) := by decide +kernel
theorem dX11_paste_135 : decode cX11_paste 135 = .ok (.bipush 60, 2) := by decide +kernel
theorem dX11_paste_137 : decode cX11_paste 137 = .ok (.iload_n 1, 1) := by decide +kernel
theorem dX11_paste_138 : decode cX11_paste 138 = .ok (.imul, 1) := by decide +kernel
theorem dX11_paste_139 : decode cX11_paste 139 = .ok (.iload_n 2, 1) := by decide +kernel
theorem dX11_paste_140 : decode cX11_paste 140 = .ok (.iadd, 1) := by decide +kernel
theorem dX11_paste_141 : decode cX11_paste 141 = .ok (.iload 6, 2) := by decide +kernel
theorem dX11_paste_143 : decode cX11_paste 143 = .ok (.iadd, 1) := by decide +kernel
theorem dX11_paste_144 : decode cX11_paste 144 = .ok (.laload, 1) := by decide +kernel
theorem dX11_paste_145 : decode cX11_paste 145 = .ok (.lastore, 1) := by decide +kernel
theorem dX11_paste_146 : decode cX11_paste 146 = .ok (.iinc 6 1, 3) := by decide +kernel
theorem dX11_paste_149 : decode cX11_paste 149 = .ok (.goto (-31), 3) := by decide +kernel
theorem dX11_paste_152 : decode cX11_paste 152 = .ok (.iconst 0, 1) := by decide +kernel
theorem dX11_paste_153 : decode cX11_paste 153 = .ok (.istore 6, 2) := by decide +kernel
theorem dX11_paste_155 : decode cX11_paste 155 = .ok (.iload 6, 2) := by decide +kernel
theorem dX11_paste_157 : decode cX11_paste 157 = .ok (.iload 5, 2) := by decide +kernel
theorem dX11_paste_159 : decode cX11_paste 159 = .ok (.if_icmp .ge 31, 3) := by decide +kernel
theorem dX11_paste_162 : decode cX11_paste 162 = .ok (.aload_n 0, 1) := by decide +kernel
theorem dX11_paste_163 : decode cX11_paste 163 = .ok (.getfield 16, 3) := by decide +kernel
theorem dX11_paste_166 : decode cX11_paste 166 = .ok (.bipush 60, 2) := by decide +kernel
theorem dX11_paste_168 : decode cX11_paste 168 = .ok (.iload_n 3, 1) := by decide +kernel
theorem dX11_paste_169 : decode cX11_paste 169 = .ok (.imul, 1) := by decide +kernel
theorem dX11_paste_170 : decode cX11_paste 170 = .ok (.iload 4, 2) := by decide +kernel
theorem dX11_paste_172 : decode cX11_paste 172 = .ok (.iadd, 1) := by decide +kernel
theorem dX11_paste_173 : decode cX11_paste 173 = .ok (.iload 6, 2) := by decide +kernel
theorem dX11_paste_175 : decode cX11_paste 175 = .ok (.iadd, 1) := by decide +kernel
theorem dX11_paste_176 : decode cX11_paste 176 = .ok (.aload_n 0, 1) := by decide +kernel
theorem dX11_paste_177 : decode cX11_paste 177 = .ok (.getfield 20, 3) := by decide +kernel
theorem dX11_paste_180 : decode cX11_paste 180 = .ok (.iload 6, 2) := by decide +kernel
theorem dX11_paste_182 : decode cX11_paste 182 = .ok (.laload, 1) := by decide +kernel
theorem dX11_paste_183 : decode cX11_paste 183 = .ok (.lastore, 1) := by decide +kernel
theorem dX11_paste_184 : decode cX11_paste 184 = .ok (.iinc 6 1, 3) := by decide +kernel
theorem dX11_paste_187 : decode cX11_paste 187 = .ok (.goto (-32), 3) := by decide +kernel
theorem dX11_paste_190 : decode cX11_paste 190 = .ok (.iconst 0, 1) := by decide +kernel
theorem dX11_paste_191 : decode cX11_paste 191 = .ok (.ireturn, 1) := by decide +kernel
theorem dX11_row_0 : decode cX11_row 0 = .ok (.aload_n 0, 1) := by decide +kernel
theorem dX11_row_1 : decode cX11_row 1 = .ok (.iconst 0, 1) := by decide +kernel
theorem dX11_row_2 : decode cX11_row 2 = .ok (.putfield 99, 3) := by decide +kernel
theorem dX11_row_5 : decode cX11_row 5 = .ok (.iload_n 1, 1) := by decide +kernel
theorem dX11_row_6 : decode cX11_row 6 = .ok (.invokestatic 108, 3) := by decide +kernel
theorem dX11_row_9 : decode cX11_row 9 = .ok (.ifCond .eq 21, 3) := by decide +kernel
theorem dX11_row_12 : decode cX11_row 12 = .ok (.iload_n 2, 1) := by decide +kernel
theorem dX11_row_13 : decode cX11_row 13 = .ok (.i2l, 1) := by decide +kernel
theorem dX11_row_14 : decode cX11_row 14 = .ok (.lconst 0, 1) := by decide +kernel
theorem dX11_row_15 : decode cX11_row 15 = .ok (.ldc2_w 102, 3) := by decide +kernel
theorem dX11_row_18 : decode cX11_row 18 = .ok (.invokestatic 104, 3) := by decide +kernel
theorem dX11_row_21 : decode cX11_row 21 = .ok (.ifCond .eq 9, 3) := by decide +kernel
theorem dX11_row_24 : decode cX11_row 24 = .ok (.iload_n 3, 1) := by decide +kernel
theorem dX11_row_25 : decode cX11_row 25 = .ok (.bipush 60, 2) := by decide +kernel
theorem dX11_row_27 : decode cX11_row 27 = .ok (.if_icmp .le 6, 3) := by decide +kernel
theorem dX11_row_30 : decode cX11_row 30 = .ok (.bipush (-2), 2) := by decide +kernel
theorem dX11_row_32 : decode cX11_row 32 = .ok (.ireturn, 1) := by decide +kernel
theorem dX11_row_33 : decode cX11_row 33 = .ok (.iload_n 3, 1) := by decide +kernel
theorem dX11_row_34 : decode cX11_row 34 = .ok (.ifCond .ge 6, 3) := by decide +kernel
theorem dX11_row_37 : decode cX11_row 37 = .ok (.bipush (-3), 2) := by decide +kernel
theorem dX11_row_39 : decode cX11_row 39 = .ok (.ireturn, 1) := by decide +kernel
theorem dX11_row_40 : decode cX11_row 40 = .ok (.aload_n 0, 1) := by decide +kernel
theorem dX11_row_41 : decode cX11_row 41 = .ok (.getfield 7, 3) := by decide +kernel
theorem dX11_row_44 : decode cX11_row 44 = .ok (.iload_n 1, 1) := by decide +kernel
theorem dX11_row_45 : decode cX11_row 45 = .ok (.iload_n 2, 1) := by decide +kernel
theorem dX11_row_46 : decode cX11_row 46 = .ok (.iastore, 1) := by decide +kernel
theorem dX11_row_47 : decode cX11_row 47 = .ok (.aload_n 0, 1) := by decide +kernel
theorem dX11_row_48 : decode cX11_row 48 = .ok (.getfield 13, 3) := by decide +kernel
theorem dX11_row_51 : decode cX11_row 51 = .ok (.iload_n 1, 1) := by decide +kernel
theorem dX11_row_52 : decode cX11_row 52 = .ok (.iload_n 3, 1) := by decide +kernel
theorem dX11_row_53 : decode cX11_row 53 = .ok (.iastore, 1) := by decide +kernel
theorem dX11_row_54 : decode cX11_row 54 = .ok (.iconst 0, 1) := by decide +kernel
theorem dX11_row_55 : decode cX11_row 55 = .ok (.istore 4, 2) := by decide +kernel
theorem dX11_row_57 : decode cX11_row 57 = .ok (.iload 4, 2) := by decide +kernel
theorem dX11_row_59 : decode cX11_row 59 = .ok (.iload_n 3, 1) := by decide +kernel
theorem dX11_row_60 : decode cX11_row 60 = .ok (.if_icmp .ge 22, 3) := by decide +kernel
theorem dX11_row_63 : decode cX11_row 63 = .ok (.aload_n 0, 1) := by decide +kernel
theorem dX11_row_64 : decode cX11_row 64 = .ok (.getfield 16, 3) := by decide +kernel
theorem dX11_row_67 : decode cX11_row 67 = .ok (.bipush 60, 2) := by decide +kernel
theorem dX11_row_69 : decode cX11_row 69 = .ok (.iload_n 1, 1) := by decide +kernel
theorem dX11_row_70 : decode cX11_row 70 = .ok (.imul, 1) := by decide +kernel
theorem dX11_row_71 : decode cX11_row 71 = .ok (.iload 4, 2) := by decide +kernel
theorem dX11_row_73 : decode cX11_row 73 = .ok (.iadd, 1) := by decide +kernel
theorem dX11_row_74 : decode cX11_row 74 = .ok (.lconst 0, 1) := by decide +kernel
theorem dX11_row_75 : decode cX11_row 75 = .ok (.lastore, 1) := by decide +kernel
theorem dX11_row_76 : decode cX11_row 76 = .ok (.iinc 4 1, 3) := by decide +kernel
theorem dX11_row_79 : decode cX11_row 79 = .ok (.goto (-22), 3) := by decide +kernel
theorem dX11_row_82 : decode cX11_row 82 = .ok (.iconst 0, 1) := by decide +kernel
theorem dX11_row_83 : decode cX11_row 83 = .ok (.ireturn, 1) := by decide +kernel
theorem dX11_weightOf_0 : decode cX11_weightOf 0 = .ok (.aload_n 0, 1) := by decide +kernel
theorem dX11_weightOf_1 : decode cX11_weightOf 1 = .ok (.getfield 40, 3) := by decide +kernel
theorem dX11_weightOf_4 : decode cX11_weightOf 4 = .ok (.iconst 3, 1) := by decide +kernel
theorem dX11_weightOf_5 : decode cX11_weightOf 5 = .ok (.iload_n 1, 1) := by decide +kernel
theorem dX11_weightOf_6 : decode cX11_weightOf 6 = .ok (.imul, 1) := by decide +kernel
theorem dX11_weightOf_7 : decode cX11_weightOf 7 = .ok (.iaload, 1) := by decide +kernel
theorem dX11_weightOf_8 : decode cX11_weightOf 8 = .ok (.ireturn, 1) := by decide +kernel
theorem dX11_write_0 : decode cX11_write 0 = .ok (.aload_n 0, 1) := by decide +kernel
theorem dX11_write_1 : decode cX11_write 1 = .ok (.iconst 0, 1) := by decide +kernel
theorem dX11_write_2 : decode cX11_write 2 = .ok (.putfield 99, 3) := by decide +kernel
theorem dX11_write_5 : decode cX11_write 5 = .ok (.iload_n 1, 1) := by decide +kernel
theorem dX11_write_6 : decode cX11_write 6 = .ok (.invokestatic 108, 3) := by decide +kernel
theorem dX11_write_9 : decode cX11_write 9 = .ok (.ifCond .ne 6, 3) := by decide +kernel
theorem dX11_write_12 : decode cX11_write 12 = .ok (.bipush (-2), 2) := by decide +kernel
theorem dX11_write_14 : decode cX11_write 14 = .ok (.ireturn, 1) := by decide +kernel
theorem dX11_write_15 : decode cX11_write 15 = .ok (.aload_n 0, 1) := by decide +kernel
theorem dX11_write_16 : decode cX11_write 16 = .ok (.getfield 7, 3) := by decide +kernel
theorem dX11_write_19 : decode cX11_write 19 = .ok (.iload_n 1, 1) := by decide +kernel
theorem dX11_write_20 : decode cX11_write 20 = .ok (.iaload, 1) := by decide +kernel
theorem dX11_write_21 : decode cX11_write 21 = .ok (.iconst (-1), 1) := by decide +kernel
theorem dX11_write_22 : decode cX11_write 22 = .ok (.if_icmp .ne 6, 3) := by decide +kernel
theorem dX11_write_25 : decode cX11_write 25 = .ok (.bipush (-6), 2) := by decide +kernel
theorem dX11_write_27 : decode cX11_write 27 = .ok (.ireturn, 1) := by decide +kernel
theorem dX11_write_28 : decode cX11_write 28 = .ok (.iload_n 2, 1) := by decide +kernel
theorem dX11_write_29 : decode cX11_write 29 = .ok (.i2l, 1) := by decide +kernel
theorem dX11_write_30 : decode cX11_write 30 = .ok (.lconst 0, 1) := by decide +kernel
