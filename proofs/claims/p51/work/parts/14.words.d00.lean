theorem dJ6_bitCount_0f7a4_0 : decode cJ6_bitCount_0f7a4 0 = .ok (.iload_n 0, 1) := by decide +kernel
theorem dJ6_bitCount_0f7a4_1 : decode cJ6_bitCount_0f7a4 1 = .ok (.iload_n 0, 1) := by decide +kernel
theorem dJ6_bitCount_0f7a4_2 : decode cJ6_bitCount_0f7a4 2 = .ok (.iconst 1, 1) := by decide +kernel
theorem dJ6_bitCount_0f7a4_3 : decode cJ6_bitCount_0f7a4 3 = .ok (.iushr, 1) := by decide +kernel
theorem dJ6_bitCount_0f7a4_4 : decode cJ6_bitCount_0f7a4 4 = .ok (.ldc_w 265, 3) := by decide +kernel
theorem dJ6_bitCount_0f7a4_7 : decode cJ6_bitCount_0f7a4 7 = .ok (.iand, 1) := by decide +kernel
theorem dJ6_bitCount_0f7a4_8 : decode cJ6_bitCount_0f7a4 8 = .ok (.isub, 1) := by decide +kernel
theorem dJ6_bitCount_0f7a4_9 : decode cJ6_bitCount_0f7a4 9 = .ok (.istore_n 0, 1) := by decide +kernel
theorem dJ6_bitCount_0f7a4_10 : decode cJ6_bitCount_0f7a4 10 = .ok (.iload_n 0, 1) := by decide +kernel
theorem dJ6_bitCount_0f7a4_11 : decode cJ6_bitCount_0f7a4 11 = .ok (.ldc_w 266, 3) := by decide +kernel
theorem dJ6_bitCount_0f7a4_14 : decode cJ6_bitCount_0f7a4 14 = .ok (.iand, 1) := by decide +kernel
theorem dJ6_bitCount_0f7a4_15 : decode cJ6_bitCount_0f7a4 15 = .ok (.iload_n 0, 1) := by decide +kernel
theorem dJ6_bitCount_0f7a4_16 : decode cJ6_bitCount_0f7a4 16 = .ok (.iconst 2, 1) := by decide +kernel
theorem dJ6_bitCount_0f7a4_17 : decode cJ6_bitCount_0f7a4 17 = .ok (.iushr, 1) := by decide +kernel
theorem dJ6_bitCount_0f7a4_18 : decode cJ6_bitCount_0f7a4 18 = .ok (.ldc_w 266, 3) := by decide +kernel
theorem dJ6_bitCount_0f7a4_21 : decode cJ6_bitCount_0f7a4 21 = .ok (.iand, 1) := by decide +kernel
theorem dJ6_bitCount_0f7a4_22 : decode cJ6_bitCount_0f7a4 22 = .ok (.iadd, 1) := by decide +kernel
theorem dJ6_bitCount_0f7a4_23 : decode cJ6_bitCount_0f7a4 23 = .ok (.istore_n 0, 1) := by decide +kernel
theorem dJ6_bitCount_0f7a4_24 : decode cJ6_bitCount_0f7a4 24 = .ok (.iload_n 0, 1) := by decide +kernel
theorem dJ6_bitCount_0f7a4_25 : decode cJ6_bitCount_0f7a4 25 = .ok (.iload_n 0, 1) := by decide +kernel
theorem dJ6_bitCount_0f7a4_26 : decode cJ6_bitCount_0f7a4 26 = .ok (.iconst 4, 1) := by decide +kernel
theorem dJ6_bitCount_0f7a4_27 : decode cJ6_bitCount_0f7a4 27 = .ok (.iushr, 1) := by decide +kernel
theorem dJ6_bitCount_0f7a4_28 : decode cJ6_bitCount_0f7a4 28 = .ok (.iadd, 1) := by decide +kernel
theorem dJ6_bitCount_0f7a4_29 : decode cJ6_bitCount_0f7a4 29 = .ok (.ldc_w 267, 3) := by decide +kernel
theorem dJ6_bitCount_0f7a4_32 : decode cJ6_bitCount_0f7a4 32 = .ok (.iand, 1) := by decide +kernel
theorem dJ6_bitCount_0f7a4_33 : decode cJ6_bitCount_0f7a4 33 = .ok (.istore_n 0, 1) := by decide +kernel
theorem dJ6_bitCount_0f7a4_34 : decode cJ6_bitCount_0f7a4 34 = .ok (.iload_n 0, 1) := by decide +kernel
theorem dJ6_bitCount_0f7a4_35 : decode cJ6_bitCount_0f7a4 35 = .ok (.iload_n 0, 1) := by decide +kernel
theorem dJ6_bitCount_0f7a4_36 : decode cJ6_bitCount_0f7a4 36 = .ok (.bipush 8, 2) := by decide +kernel
theorem dJ6_bitCount_0f7a4_38 : decode cJ6_bitCount_0f7a4 38 = .ok (.iushr, 1) := by decide +kernel
theorem dJ6_bitCount_0f7a4_39 : decode cJ6_bitCount_0f7a4 39 = .ok (.iadd, 1) := by decide +kernel
theorem dJ6_bitCount_0f7a4_40 : decode cJ6_bitCount_0f7a4 40 = .ok (.istore_n 0, 1) := by decide +kernel
theorem dJ6_bitCount_0f7a4_41 : decode cJ6_bitCount_0f7a4 41 = .ok (.iload_n 0, 1) := by decide +kernel
theorem dJ6_bitCount_0f7a4_42 : decode cJ6_bitCount_0f7a4 42 = .ok (.iload_n 0, 1) := by decide +kernel
theorem dJ6_bitCount_0f7a4_43 : decode cJ6_bitCount_0f7a4 43 = .ok (.bipush 16, 2) := by decide +kernel
theorem dJ6_bitCount_0f7a4_45 : decode cJ6_bitCount_0f7a4 45 = .ok (.iushr, 1) := by decide +kernel
theorem dJ6_bitCount_0f7a4_46 : decode cJ6_bitCount_0f7a4 46 = .ok (.iadd, 1) := by decide +kernel
theorem dJ6_bitCount_0f7a4_47 : decode cJ6_bitCount_0f7a4 47 = .ok (.istore_n 0, 1) := by decide +kernel
theorem dJ6_bitCount_0f7a4_48 : decode cJ6_bitCount_0f7a4 48 = .ok (.iload_n 0, 1) := by decide +kernel
theorem dJ6_bitCount_0f7a4_49 : decode cJ6_bitCount_0f7a4 49 = .ok (.bipush 63, 2) := by decide +kernel
theorem dJ6_bitCount_0f7a4_51 : decode cJ6_bitCount_0f7a4 51 = .ok (.iand, 1) := by decide +kernel
theorem dJ6_bitCount_0f7a4_52 : decode cJ6_bitCount_0f7a4 52 = .ok (.ireturn, 1) := by decide +kernel
theorem dX0_lead_0 : decode cX0_lead 0 = .ok (.aload_n 0, 1) := by decide +kernel
theorem dX0_lead_1 : decode cX0_lead 1 = .ok (.getfield 42, 3) := by decide +kernel
theorem dX0_lead_4 : decode cX0_lead 4 = .ok (.iload_n 1, 1) := by decide +kernel
theorem dX0_lead_5 : decode cX0_lead 5 = .ok (.aload_n 0, 1) := by decide +kernel
theorem dX0_lead_6 : decode cX0_lead 6 = .ok (.getfield 77, 3) := by decide +kernel
theorem dX0_lead_9 : decode cX0_lead 9 = .ok (.invokevirtual 80, 3) := by decide +kernel
theorem dX0_lead_12 : decode cX0_lead 12 = .ok (.aload_n 0, 1) := by decide +kernel
theorem dX0_lead_13 : decode cX0_lead 13 = .ok (.getfield 42, 3) := by decide +kernel
theorem dX0_lead_16 : decode cX0_lead 16 = .ok (.iconst 1, 1) := by decide +kernel
theorem dX0_lead_17 : decode cX0_lead 17 = .ok (.iload_n 1, 1) := by decide +kernel
theorem dX0_lead_18 : decode cX0_lead 18 = .ok (.isub, 1) := by decide +kernel
theorem dX0_lead_19 : decode cX0_lead 19 = .ok (.aload_n 0, 1) := by decide +kernel
theorem dX0_lead_20 : decode cX0_lead 20 = .ok (.getfield 77, 3) := by decide +kernel
theorem dX0_lead_23 : decode cX0_lead 23 = .ok (.invokevirtual 80, 3) := by decide +kernel
theorem dX0_lead_26 : decode cX0_lead 26 = .ok (.isub, 1) := by decide +kernel
theorem dX0_lead_27 : decode cX0_lead 27 = .ok (.ireturn, 1) := by decide +kernel
theorem dX0_mostGain_0 : decode cX0_mostGain 0 = .ok (.iconst 1, 1) := by decide +kernel
theorem dX0_mostGain_1 : decode cX0_mostGain 1 = .ok (.istore_n 1, 1) := by decide +kernel
theorem dX0_mostGain_2 : decode cX0_mostGain 2 = .ok (.aload_n 0, 1) := by decide +kernel
theorem dX0_mostGain_3 : decode cX0_mostGain 3 = .ok (.getfield 77, 3) := by decide +kernel
theorem dX0_mostGain_6 : decode cX0_mostGain 6 = .ok (.iconst 1, 1) := by decide +kernel
theorem dX0_mostGain_7 : decode cX0_mostGain 7 = .ok (.if_icmp .ne 48, 3) := by decide +kernel
theorem dX0_mostGain_10 : decode cX0_mostGain 10 = .ok (.iconst 0, 1) := by decide +kernel
theorem dX0_mostGain_11 : decode cX0_mostGain 11 = .ok (.istore_n 2, 1) := by decide +kernel
theorem dX0_mostGain_12 : decode cX0_mostGain 12 = .ok (.iload_n 2, 1) := by decide +kernel
theorem dX0_mostGain_13 : decode cX0_mostGain 13 = .ok (.aload_n 0, 1) := by decide +kernel
theorem dX0_mostGain_14 : decode cX0_mostGain 14 = .ok (.getfield 23, 3) := by decide +kernel
theorem dX0_mostGain_17 : decode cX0_mostGain 17 = .ok (.getfield 39, 3) := by decide +kernel
theorem dX0_mostGain_20 : decode cX0_mostGain 20 = .ok (.if_icmp .ge 35, 3) := by decide +kernel
theorem dX0_mostGain_23 : decode cX0_mostGain 23 = .ok (.aload_n 0, 1) := by decide +kernel
theorem dX0_mostGain_24 : decode cX0_mostGain 24 = .ok (.getfield 42, 3) := by decide +kernel
theorem dX0_mostGain_27 : decode cX0_mostGain 27 = .ok (.getfield 83, 3) := by decide +kernel
theorem dX0_mostGain_30 : decode cX0_mostGain 30 = .ok (.iload_n 2, 1) := by decide +kernel
theorem dX0_mostGain_31 : decode cX0_mostGain 31 = .ok (.iaload, 1) := by decide +kernel
theorem dX0_mostGain_32 : decode cX0_mostGain 32 = .ok (.ifCond .le 17, 3) := by decide +kernel
theorem dX0_mostGain_35 : decode cX0_mostGain 35 = .ok (.iload_n 1, 1) := by decide +kernel
theorem dX0_mostGain_36 : decode cX0_mostGain 36 = .ok (.aload_n 0, 1) := by decide +kernel
theorem dX0_mostGain_37 : decode cX0_mostGain 37 = .ok (.getfield 23, 3) := by decide +kernel
theorem dX0_mostGain_40 : decode cX0_mostGain 40 = .ok (.getfield 73, 3) := by decide +kernel
theorem dX0_mostGain_43 : decode cX0_mostGain 43 = .ok (.iload_n 2, 1) := by decide +kernel
theorem dX0_mostGain_44 : decode cX0_mostGain 44 = .ok (.iaload, 1) := by decide +kernel
theorem dX0_mostGain_45 : decode cX0_mostGain 45 = .ok (.invokestatic 86, 3) := by decide +kernel
theorem dX0_mostGain_48 : decode cX0_mostGain 48 = .ok (.istore_n 1, 1) := by decide +kernel
theorem dX0_mostGain_49 : decode cX0_mostGain 49 = .ok (.iinc 2 1, 3) := by decide +kernel
theorem dX0_mostGain_52 : decode cX0_mostGain 52 = .ok (.goto (-40), 3) := by decide +kernel
theorem dX0_mostGain_55 : decode cX0_mostGain 55 = .ok (.iload_n 1, 1) := by decide +kernel
theorem dX0_mostGain_56 : decode cX0_mostGain 56 = .ok (.ireturn, 1) := by decide +kernel
theorem dX2_begin_0 : decode cX2_begin 0 = .ok (.aload_n 0, 1) := by decide +kernel
theorem dX2_begin_1 : decode cX2_begin 1 = .ok (.iload_n 1, 1) := by decide +kernel
theorem dX2_begin_2 : decode cX2_begin 2 = .ok (.putfield 19, 3) := by decide +kernel
theorem dX2_begin_5 : decode cX2_begin 5 = .ok (.aload_n 0, 1) := by decide +kernel
theorem dX2_begin_6 : decode cX2_begin 6 = .ok (.iload_n 2, 1) := by decide +kernel
theorem dX2_begin_7 : decode cX2_begin 7 = .ok (.putfield 15, 3) := by decide +kernel
theorem dX2_begin_10 : decode cX2_begin 10 = .ok (.aload_n 0, 1) := by decide +kernel
theorem dX2_begin_11 : decode cX2_begin 11 = .ok (.getfield 9, 3) := by decide +kernel
theorem dX2_begin_14 : decode cX2_begin 14 = .ok (.lconst 0, 1) := by decide +kernel
theorem dX2_begin_15 : decode cX2_begin 15 = .ok (.invokestatic 22, 3) := by decide +kernel
theorem dX2_begin_18 : decode cX2_begin 18 = .ok (.return_, 1) := by decide +kernel
theorem dX2_cut_0 : decode cX2_cut 0 = .ok (.aload_n 0, 1) := by decide +kernel
theorem dX2_cut_1 : decode cX2_cut 1 = .ok (.getfield 19, 3) := by decide +kernel
theorem dX2_cut_4 : decode cX2_cut 4 = .ok (.tableswitch 42 0 2 #[28, 33, 38], 28) := by decide +kernel
theorem dX2_cut_32 : decode cX2_cut 32 = .ok (.lload_n 1, 1) := by decide +kernel
theorem dX2_cut_33 : decode cX2_cut 33 = .ok (.l2i, 1) := by decide +kernel
theorem dX2_cut_34 : decode cX2_cut 34 = .ok (.i2b, 1) := by decide +kernel
theorem dX2_cut_35 : decode cX2_cut 35 = .ok (.i2l, 1) := by decide +kernel
theorem dX2_cut_36 : decode cX2_cut 36 = .ok (.lreturn, 1) := by decide +kernel
theorem dX2_cut_37 : decode cX2_cut 37 = .ok (.lload_n 1, 1) := by decide +kernel
theorem dX2_cut_38 : decode cX2_cut 38 = .ok (.l2i, 1) := by decide +kernel
theorem dX2_cut_39 : decode cX2_cut 39 = .ok (.i2s, 1) := by decide +kernel
theorem dX2_cut_40 : decode cX2_cut 40 = .ok (.i2l, 1) := by decide +kernel
theorem dX2_cut_41 : decode cX2_cut 41 = .ok (.lreturn, 1) := by decide +kernel
theorem dX2_cut_42 : decode cX2_cut 42 = .ok (.lload_n 1, 1) := by decide +kernel
theorem dX2_cut_43 : decode cX2_cut 43 = .ok (.l2i, 1) := by decide +kernel
theorem dX2_cut_44 : decode cX2_cut 44 = .ok (.i2l, 1) := by decide +kernel
theorem dX2_cut_45 : decode cX2_cut 45 = .ok (.lreturn, 1) := by decide +kernel
theorem dX2_cut_46 : decode cX2_cut 46 = .ok (.lload_n 1, 1) := by decide +kernel
theorem dX2_cut_47 : decode cX2_cut 47 = .ok (.lreturn, 1) := by decide +kernel
theorem dX2_holds_0 : decode cX2_holds 0 = .ok (.iload_n 1, 1) := by decide +kernel
theorem dX2_holds_1 : decode cX2_holds 1 = .ok (.ifCond .lt 29, 3) := by decide +kernel
theorem dX2_holds_4 : decode cX2_holds 4 = .ok (.iload_n 2, 1) := by decide +kernel
theorem dX2_holds_5 : decode cX2_holds 5 = .ok (.ifCond .lt 25, 3) := by decide +kernel
theorem dX2_holds_8 : decode cX2_holds 8 = .ok (.iload_n 2, 1) := by decide +kernel
theorem dX2_holds_9 : decode cX2_holds 9 = .ok (.aload_n 0, 1) := by decide +kernel
theorem dX2_holds_10 : decode cX2_holds 10 = .ok (.getfield 15, 3) := by decide +kernel
theorem dX2_holds_13 : decode cX2_holds 13 = .ok (.if_icmp .gt 17, 3) := by decide +kernel
theorem dX2_holds_16 : decode cX2_holds 16 = .ok (.iload_n 1, 1) := by decide +kernel
theorem dX2_holds_17 : decode cX2_holds 17 = .ok (.aload_n 0, 1) := by decide +kernel
theorem dX2_holds_18 : decode cX2_holds 18 = .ok (.getfield 15, 3) := by decide +kernel
theorem dX2_holds_21 : decode cX2_holds 21 = .ok (.iload_n 2, 1) := by decide +kernel
theorem dX2_holds_22 : decode cX2_holds 22 = .ok (.isub, 1) := by decide +kernel
theorem dX2_holds_23 : decode cX2_holds 23 = .ok (.if_icmp .gt 7, 3) := by decide +kernel
theorem dX2_holds_26 : decode cX2_holds 26 = .ok (.iconst 1, 1) := by decide +kernel
theorem dX2_holds_27 : decode cX2_holds 27 = .ok (.goto 4, 3) := by decide +kernel
theorem dX2_holds_30 : decode cX2_holds 30 = .ok (.iconst 0, 1) := by decide +kernel
theorem dX2_holds_31 : decode cX2_holds 31 = .ok (.ireturn, 1) := by decide +kernel
theorem dX2_isVoid_0 : decode cX2_isVoid 0 = .ok (.aload_n 0, 1) := by decide +kernel
theorem dX2_isVoid_1 : decode cX2_isVoid 1 = .ok (.getfield 15, 3) := by decide +kernel
theorem dX2_isVoid_4 : decode cX2_isVoid 4 = .ok (.iconst (-1), 1) := by decide +kernel
theorem dX2_isVoid_5 : decode cX2_isVoid 5 = .ok (.if_icmp .ne 7, 3) := by decide +kernel
theorem dX2_isVoid_8 : decode cX2_isVoid 8 = .ok (.iconst 1, 1) := by decide +kernel
theorem dX2_isVoid_9 : decode cX2_isVoid 9 = .ok (.goto 4, 3) := by decide +kernel
theorem dX2_isVoid_12 : decode cX2_isVoid 12 = .ok (.iconst 0, 1) := by decide +kernel
theorem dX2_isVoid_13 : decode cX2_isVoid 13 = .ok (.ireturn, 1) := by decide +kernel
theorem dX4_append_0 : decode cX4_append 0 = .ok (.bipush 24, 2) := by decide +kernel
theorem dX4_append_2 : decode cX4_append 2 = .ok (.istore_n 2, 1) := by decide +kernel
theorem dX4_append_3 : decode cX4_append 3 = .ok (.iload_n 2, 1) := by decide +kernel
theorem dX4_append_4 : decode cX4_append 4 = .ok (.ifCond .lt 42, 3) := by decide +kernel
theorem dX4_append_7 : decode cX4_append 7 = .ok (.aload_n 0, 1) := by decide +kernel
theorem dX4_append_8 : decode cX4_append 8 = .ok (.getfield 15, 3) := by decide +kernel
theorem dX4_append_11 : decode cX4_append 11 = .ok (.sipush 1600, 3) := by decide +kernel
theorem dX4_append_14 : decode cX4_append 14 = .ok (.if_icmp .ge 32, 3) := by decide +kernel
theorem dX4_append_17 : decode cX4_append 17 = .ok (.aload_n 0, 1) := by decide +kernel
theorem dX4_append_18 : decode cX4_append 18 = .ok (.getfield 9, 3) := by decide +kernel
theorem dX4_append_21 : decode cX4_append 21 = .ok (.aload_n 0, 1) := by decide +kernel
theorem dX4_append_22 : decode cX4_append 22 = .ok (.getfield 15, 3) := by decide +kernel
theorem dX4_append_25 : decode cX4_append 25 = .ok (.iload_n 1, 1) := by decide +kernel
theorem dX4_append_26 : decode cX4_append 26 = .ok (.iload_n 2, 1) := by decide +kernel
theorem dX4_append_27 : decode cX4_append 27 = .ok (.ishr, 1) := by decide +kernel
theorem dX4_append_28 : decode cX4_append 28 = .ok (.i2b, 1) := by decide +kernel
theorem dX4_append_29 : decode cX4_append 29 = .ok (.bastore, 1) := by decide +kernel
theorem dX4_append_30 : decode cX4_append 30 = .ok (.aload_n 0, 1) := by decide +kernel
theorem dX4_append_31 : decode cX4_append 31 = .ok (.dup, 1) := by decide +kernel
theorem dX4_append_32 : decode cX4_append 32 = .ok (.getfield 15, 3) := by decide +kernel
theorem dX4_append_35 : decode cX4_append 35 = .ok (.iconst 1, 1) := by decide +kernel
theorem dX4_append_36 : decode cX4_append 36 = .ok (.iadd, 1) := by decide +kernel
theorem dX4_append_37 : decode cX4_append 37 = .ok (.putfield 15, 3) := by decide +kernel
theorem dX4_append_40 : decode cX4_append 40 = .ok (.iinc 2 (-8), 3) := by decide +kernel
theorem dX4_append_43 : decode cX4_append 43 = .ok (.goto (-40), 3) := by decide +kernel
theorem dX4_append_46 : decode cX4_append 46 = .ok (.return_, 1) := by decide +kernel
theorem dX6_ahead_0 : decode cX6_ahead 0 = .ok (.iload_n 2, 1) := by decide +kernel
theorem dX6_ahead_1 : decode cX6_ahead 1 = .ok (.ifCond .ne 12, 3) := by decide +kernel
theorem dX6_ahead_4 : decode cX6_ahead 4 = .ok (.aload_n 0, 1) := by decide +kernel
theorem dX6_ahead_5 : decode cX6_ahead 5 = .ok (.getfield 9, 3) := by decide +kernel
theorem dX6_ahead_8 : decode cX6_ahead 8 = .ok (.iload_n 1, 1) := by decide +kernel
theorem dX6_ahead_9 : decode cX6_ahead 9 = .ok (.iaload, 1) := by decide +kernel
theorem dX6_ahead_10 : decode cX6_ahead 10 = .ok (.goto 10, 3) := by decide +kernel
theorem dX6_ahead_13 : decode cX6_ahead 13 = .ok (.aload_n 0, 1) := by decide +kernel
theorem dX6_ahead_14 : decode cX6_ahead 14 = .ok (.getfield 9, 3) := by decide +kernel
theorem dX6_ahead_17 : decode cX6_ahead 17 = .ok (.iload_n 1, 1) := by decide +kernel
theorem dX6_ahead_18 : decode cX6_ahead 18 = .ok (.iaload, 1) := by decide +kernel
theorem dX6_ahead_19 : decode cX6_ahead 19 = .ok (.ineg, 1) := by decide +kernel
theorem dX6_ahead_20 : decode cX6_ahead 20 = .ok (.ireturn, 1) := by decide +kernel
theorem dX6_farthestAhead_0 : decode cX6_farthestAhead 0 = .ok (.iconst 0, 1) := by decide +kernel
theorem dX6_farthestAhead_1 : decode cX6_farthestAhead 1 = .ok (.istore_n 3, 1) := by decide +kernel
theorem dX6_farthestAhead_2 : decode cX6_farthestAhead 2 = .ok (.iconst 1, 1) := by decide +kernel
theorem dX6_farthestAhead_3 : decode cX6_farthestAhead 3 = .ok (.istore 4, 2) := by decide +kernel
theorem dX6_farthestAhead_5 : decode cX6_farthestAhead 5 = .ok (.iload 4, 2) := by decide +kernel
theorem dX6_farthestAhead_7 : decode cX6_farthestAhead 7 = .ok (.aload_n 0, 1) := by decide +kernel
theorem dX6_farthestAhead_8 : decode cX6_farthestAhead 8 = .ok (.getfield 35, 3) := by decide +kernel
theorem dX6_farthestAhead_11 : decode cX6_farthestAhead 11 = .ok (.if_icmp .ge 77, 3) := by decide +kernel
theorem dX6_farthestAhead_14 : decode cX6_farthestAhead 14 = .ok (.aload_n 0, 1) := by decide +kernel
theorem dX6_farthestAhead_15 : decode cX6_farthestAhead 15 = .ok (.iload 4, 2) := by decide +kernel
theorem dX6_farthestAhead_17 : decode cX6_farthestAhead 17 = .ok (.iload_n 1, 1) := by decide +kernel
theorem dX6_farthestAhead_18 : decode cX6_farthestAhead 18 = .ok (.invokevirtual 77, 3) := by decide +kernel
theorem dX6_farthestAhead_21 : decode cX6_farthestAhead 21 = .ok (.aload_n 0, 1) := by decide +kernel
theorem dX6_farthestAhead_22 : decode cX6_farthestAhead 22 = .ok (.iload_n 3, 1) := by decide +kernel
theorem dX6_farthestAhead_23 : decode cX6_farthestAhead 23 = .ok (.iload_n 1, 1) := by decide +kernel
theorem dX6_farthestAhead_24 : decode cX6_farthestAhead 24 = .ok (.invokevirtual 77, 3) := by decide +kernel
theorem dX6_farthestAhead_27 : decode cX6_farthestAhead 27 = .ok (.isub, 1) := by decide +kernel
theorem dX6_farthestAhead_28 : decode cX6_farthestAhead 28 = .ok (.istore 5, 2) := by decide +kernel
theorem dX6_farthestAhead_30 : decode cX6_farthestAhead 30 = .ok (.iload 5, 2) := by decide +kernel
theorem dX6_farthestAhead_32 : decode cX6_farthestAhead 32 = .ok (.ifCond .gt 24, 3) := by decide +kernel
theorem dX6_farthestAhead_35 : decode cX6_farthestAhead 35 = .ok (.iload 5, 2) := by decide +kernel
theorem dX6_farthestAhead_37 : decode cX6_farthestAhead 37 = .ok (.ifCond .ne 23, 3) := by decide +kernel
theorem dX6_farthestAhead_40 : decode cX6_farthestAhead 40 = .ok (.aload_n 0, 1) := by decide +kernel
theorem dX6_farthestAhead_41 : decode cX6_farthestAhead 41 = .ok (.getfield 15, 3) := by decide +kernel
theorem dX6_farthestAhead_44 : decode cX6_farthestAhead 44 = .ok (.iload 4, 2) := by decide +kernel
theorem dX6_farthestAhead_46 : decode cX6_farthestAhead 46 = .ok (.iaload, 1) := by decide +kernel
theorem dX6_farthestAhead_47 : decode cX6_farthestAhead 47 = .ok (.aload_n 0, 1) := by decide +kernel
theorem dX6_farthestAhead_48 : decode cX6_farthestAhead 48 = .ok (.getfield 15, 3) := by decide +kernel
theorem dX6_farthestAhead_51 : decode cX6_farthestAhead 51 = .ok (.iload_n 3, 1) := by decide +kernel
theorem dX6_farthestAhead_52 : decode cX6_farthestAhead 52 = .ok (.iaload, 1) := by decide +kernel
theorem dX6_farthestAhead_53 : decode cX6_farthestAhead 53 = .ok (.if_icmp .ge 7, 3) := by decide +kernel
theorem dX6_farthestAhead_56 : decode cX6_farthestAhead 56 = .ok (.iconst 1, 1) := by decide +kernel
theorem dX6_farthestAhead_57 : decode cX6_farthestAhead 57 = .ok (.goto 4, 3) := by decide +kernel
theorem dX6_farthestAhead_60 : decode cX6_farthestAhead 60 = .ok (.iconst 0, 1) := by decide +kernel
theorem dX6_farthestAhead_61 : decode cX6_farthestAhead 61 = .ok (.istore 6, 2) := by decide +kernel
theorem dX6_farthestAhead_63 : decode cX6_farthestAhead 63 = .ok (.aload_n 0, 1) := by decide +kernel
theorem dX6_farthestAhead_64 : decode cX6_farthestAhead 64 = .ok (.getfield 15, 3) := by decide +kernel
theorem dX6_farthestAhead_67 : decode cX6_farthestAhead 67 = .ok (.iload 4, 2) := by decide +kernel
theorem dX6_farthestAhead_69 : decode cX6_farthestAhead 69 = .ok (.iaload, 1) := by decide +kernel
theorem dX6_farthestAhead_70 : decode cX6_farthestAhead 70 = .ok (.iload_n 2, 1) := by decide +kernel
theorem dX6_farthestAhead_71 : decode cX6_farthestAhead 71 = .ok (.if_icmp .gt 11, 3) := by decide +kernel
theorem dX6_farthestAhead_74 : decode cX6_farthestAhead 74 = .ok (.iload 6, 2) := by decide +kernel
theorem dX6_farthestAhead_76 : decode cX6_farthestAhead 76 = .ok (.ifCond .eq 6, 3) := by decide +kernel
theorem dX6_farthestAhead_79 : decode cX6_farthestAhead 79 = .ok (.iload 4, 2) := by decide +kernel
theorem dX6_farthestAhead_81 : decode cX6_farthestAhead 81 = .ok (.istore_n 3, 1) := by decide +kernel
theorem dX6_farthestAhead_82 : decode cX6_farthestAhead 82 = .ok (.iinc 4 1, 3) := by decide +kernel
theorem dX6_farthestAhead_85 : decode cX6_farthestAhead 85 = .ok (.goto (-80), 3) := by decide +kernel
theorem dX6_farthestAhead_88 : decode cX6_farthestAhead 88 = .ok (.iload_n 3, 1) := by decide +kernel
theorem dX6_farthestAhead_89 : decode cX6_farthestAhead 89 = .ok (.ireturn, 1) := by decide +kernel
theorem dX6_fewestAway_0 : decode cX6_fewestAway 0 = .ok (.aload_n 0, 1) := by decide +kernel
theorem dX6_fewestAway_1 : decode cX6_fewestAway 1 = .ok (.getfield 35, 3) := by decide +kernel
theorem dX6_fewestAway_4 : decode cX6_fewestAway 4 = .ok (.iconst 1, 1) := by decide +kernel
theorem dX6_fewestAway_5 : decode cX6_fewestAway 5 = .ok (.isub, 1) := by decide +kernel
theorem dX6_fewestAway_6 : decode cX6_fewestAway 6 = .ok (.istore_n 1, 1) := by decide +kernel
theorem dX6_fewestAway_7 : decode cX6_fewestAway 7 = .ok (.iconst (-1), 1) := by decide +kernel
theorem dX6_fewestAway_8 : decode cX6_fewestAway 8 = .ok (.istore_n 2, 1) := by decide +kernel
theorem dX6_fewestAway_9 : decode cX6_fewestAway 9 = .ok (.iconst 1, 1) := by decide +kernel
theorem dX6_fewestAway_10 : decode cX6_fewestAway 10 = .ok (.istore_n 3, 1) := by decide +kernel
theorem dX6_fewestAway_11 : decode cX6_fewestAway 11 = .ok (.iload_n 3, 1) := by decide +kernel
theorem dX6_fewestAway_12 : decode cX6_fewestAway 12 = .ok (.aload_n 0, 1) := by decide +kernel
theorem dX6_fewestAway_13 : decode cX6_fewestAway 13 = .ok (.getfield 35, 3) := by decide +kernel
theorem dX6_fewestAway_16 : decode cX6_fewestAway 16 = .ok (.if_icmp .ge 56, 3) := by decide +kernel
theorem dX6_fewestAway_19 : decode cX6_fewestAway 19 = .ok (.iload_n 2, 1) := by decide +kernel
theorem dX6_fewestAway_20 : decode cX6_fewestAway 20 = .ok (.iconst (-1), 1) := by decide +kernel
theorem dX6_fewestAway_21 : decode cX6_fewestAway 21 = .ok (.if_icmp .eq 14, 3) := by decide +kernel
theorem dX6_fewestAway_24 : decode cX6_fewestAway 24 = .ok (.iload_n 3, 1) := by decide +kernel
theorem dX6_fewestAway_25 : decode cX6_fewestAway 25 = .ok (.invokestatic 69, 3) := by decide +kernel
theorem dX6_fewestAway_28 : decode cX6_fewestAway 28 = .ok (.iload_n 2, 1) := by decide +kernel
theorem dX6_fewestAway_29 : decode cX6_fewestAway 29 = .ok (.invokestatic 69, 3) := by decide +kernel
theorem dX6_fewestAway_32 : decode cX6_fewestAway 32 = .ok (.if_icmp .ge 7, 3) := by decide +kernel
theorem dX6_fewestAway_35 : decode cX6_fewestAway 35 = .ok (.iconst 1, 1) := by decide +kernel
theorem dX6_fewestAway_36 : decode cX6_fewestAway 36 = .ok (.goto 4, 3) := by decide +kernel
theorem dX6_fewestAway_39 : decode cX6_fewestAway 39 = .ok (.iconst 0, 1) := by decide +kernel
theorem dX6_fewestAway_40 : decode cX6_fewestAway 40 = .ok (.istore 4, 2) := by decide +kernel
theorem dX6_fewestAway_42 : decode cX6_fewestAway 42 = .ok (.iload 4, 2) := by decide +kernel
theorem dX6_fewestAway_44 : decode cX6_fewestAway 44 = .ok (.ifCond .eq 22, 3) := by decide +kernel
theorem dX6_fewestAway_47 : decode cX6_fewestAway 47 = .ok (.aload_n 0, 1) := by decide +kernel
theorem dX6_fewestAway_48 : decode cX6_fewestAway 48 = .ok (.iload_n 1, 1) := by decide +kernel
theorem dX6_fewestAway_49 : decode cX6_fewestAway 49 = .ok (.iload_n 3, 1) := by decide +kernel
theorem dX6_fewestAway_50 : decode cX6_fewestAway 50 = .ok (.iconst (-1), 1) := by decide +kernel
theorem dX6_fewestAway_51 : decode cX6_fewestAway 51 = .ok (.ixor, 1) := by decide +kernel
theorem dX6_fewestAway_52 : decode cX6_fewestAway 52 = .ok (.iand, 1) := by decide +kernel
theorem dX6_fewestAway_53 : decode cX6_fewestAway 53 = .ok (.invokevirtual 74, 3) := by decide +kernel
theorem dX6_fewestAway_56 : decode cX6_fewestAway 56 = .ok (.aload_n 0, 1) := by decide +kernel
theorem dX6_fewestAway_57 : decode cX6_fewestAway 57 = .ok (.iload_n 1, 1) := by decide +kernel
theorem dX6_fewestAway_58 : decode cX6_fewestAway 58 = .ok (.invokevirtual 74, 3) := by decide +kernel
theorem dX6_fewestAway_61 : decode cX6_fewestAway 61 = .ok (.if_icmp .eq 5, 3) := by decide +kernel
theorem dX6_fewestAway_64 : decode cX6_fewestAway 64 = .ok (.iload_n 3, 1) := by decide +kernel
theorem dX6_fewestAway_65 : decode cX6_fewestAway 65 = .ok (.istore_n 2, 1) := by decide +kernel
theorem dX6_fewestAway_66 : decode cX6_fewestAway 66 = .ok (.iinc 3 1, 3) := by decide +kernel
theorem dX6_fewestAway_69 : decode cX6_fewestAway 69 = .ok (.goto (-58), 3) := by decide +kernel
theorem dX6_fewestAway_72 : decode cX6_fewestAway 72 = .ok (.iload_n 2, 1) := by decide +kernel
theorem dX6_fewestAway_73 : decode cX6_fewestAway 73 = .ok (.ireturn, 1) := by decide +kernel
theorem dX6_leastFar_0 : decode cX6_leastFar 0 = .ok (.iconst (-1), 1) := by decide +kernel
theorem dX6_leastFar_1 : decode cX6_leastFar 1 = .ok (.istore_n 2, 1) := by decide +kernel
theorem dX6_leastFar_2 : decode cX6_leastFar 2 = .ok (.iconst 0, 1) := by decide +kernel
theorem dX6_leastFar_3 : decode cX6_leastFar 3 = .ok (.istore_n 3, 1) := by decide +kernel
theorem dX6_leastFar_4 : decode cX6_leastFar 4 = .ok (.iload_n 3, 1) := by decide +kernel
theorem dX6_leastFar_5 : decode cX6_leastFar 5 = .ok (.aload_n 0, 1) := by decide +kernel
theorem dX6_leastFar_6 : decode cX6_leastFar 6 = .ok (.getfield 35, 3) := by decide +kernel
theorem dX6_leastFar_9 : decode cX6_leastFar 9 = .ok (.if_icmp .ge 52, 3) := by decide +kernel
theorem dX6_leastFar_12 : decode cX6_leastFar 12 = .ok (.iload_n 2, 1) := by decide +kernel
theorem dX6_leastFar_13 : decode cX6_leastFar 13 = .ok (.iconst (-1), 1) := by decide +kernel
theorem dX6_leastFar_14 : decode cX6_leastFar 14 = .ok (.if_icmp .eq 13, 3) := by decide +kernel
theorem dX6_leastFar_17 : decode cX6_leastFar 17 = .ok (.aload_n 0, 1) := by decide +kernel
theorem dX6_leastFar_18 : decode cX6_leastFar 18 = .ok (.getfield 15, 3) := by decide +kernel
theorem dX6_leastFar_21 : decode cX6_leastFar 21 = .ok (.iload_n 3, 1) := by decide +kernel
theorem dX6_leastFar_22 : decode cX6_leastFar 22 = .ok (.iaload, 1) := by decide +kernel
theorem dX6_leastFar_23 : decode cX6_leastFar 23 = .ok (.iload_n 2, 1) := by decide +kernel
theorem dX6_leastFar_24 : decode cX6_leastFar 24 = .ok (.if_icmp .ge 7, 3) := by decide +kernel
theorem dX6_leastFar_27 : decode cX6_leastFar 27 = .ok (.iconst 1, 1) := by decide +kernel
theorem dX6_leastFar_28 : decode cX6_leastFar 28 = .ok (.goto 4, 3) := by decide +kernel
theorem dX6_leastFar_31 : decode cX6_leastFar 31 = .ok (.iconst 0, 1) := by decide +kernel
theorem dX6_leastFar_32 : decode cX6_leastFar 32 = .ok (.istore 4, 2) := by decide +kernel
theorem dX6_leastFar_34 : decode cX6_leastFar 34 = .ok (.iload 4, 2) := by decide +kernel
theorem dX6_leastFar_36 : decode cX6_leastFar 36 = .ok (.ifCond .eq 19, 3) := by decide +kernel
theorem dX6_leastFar_39 : decode cX6_leastFar 39 = .ok (.aload_n 0, 1) := by decide +kernel
theorem dX6_leastFar_40 : decode cX6_leastFar 40 = .ok (.iload_n 3, 1) := by decide +kernel
theorem dX6_leastFar_41 : decode cX6_leastFar 41 = .ok (.iload_n 1, 1) := by decide +kernel
theorem dX6_leastFar_42 : decode cX6_leastFar 42 = .ok (.invokevirtual 77, 3) := by decide +kernel
theorem dX6_leastFar_45 : decode cX6_leastFar 45 = .ok (.ifCond .le 10, 3) := by decide +kernel
theorem dX6_leastFar_48 : decode cX6_leastFar 48 = .ok (.aload_n 0, 1) := by decide +kernel
theorem dX6_leastFar_49 : decode cX6_leastFar 49 = .ok (.getfield 15, 3) := by decide +kernel
theorem dX6_leastFar_52 : decode cX6_leastFar 52 = .ok (.iload_n 3, 1) := by decide +kernel
theorem dX6_leastFar_53 : decode cX6_leastFar 53 = .ok (.iaload, 1) := by decide +kernel
theorem dX6_leastFar_54 : decode cX6_leastFar 54 = .ok (.istore_n 2, 1) := by decide +kernel
theorem dX6_leastFar_55 : decode cX6_leastFar 55 = .ok (.iinc 3 1, 3) := by decide +kernel
theorem dX6_leastFar_58 : decode cX6_leastFar 58 = .ok (.goto (-54), 3) := by decide +kernel
theorem dX6_leastFar_61 : decode cX6_leastFar 61 = .ok (.iload_n 2, 1) := by decide +kernel
theorem dX6_leastFar_62 : decode cX6_leastFar 62 = .ok (.ireturn, 1) := by decide +kernel
theorem dX6_turnedBy_0 : decode cX6_turnedBy 0 = .ok (.iconst 0, 1) := by decide +kernel
theorem dX6_turnedBy_1 : decode cX6_turnedBy 1 = .ok (.istore_n 2, 1) := by decide +kernel
theorem dX6_turnedBy_2 : decode cX6_turnedBy 2 = .ok (.iconst 0, 1) := by decide +kernel
theorem dX6_turnedBy_3 : decode cX6_turnedBy 3 = .ok (.istore_n 3, 1) := by decide +kernel
theorem dX6_turnedBy_4 : decode cX6_turnedBy 4 = .ok (.iload_n 3, 1) := by decide +kernel
theorem dX6_turnedBy_5 : decode cX6_turnedBy 5 = .ok (.aload_n 0, 1) := by decide +kernel
theorem dX6_turnedBy_6 : decode cX6_turnedBy 6 = .ok (.getfield 35, 3) := by decide +kernel
theorem dX6_turnedBy_9 : decode cX6_turnedBy 9 = .ok (.if_icmp .ge 49, 3) := by decide +kernel
theorem dX6_turnedBy_12 : decode cX6_turnedBy 12 = .ok (.iload_n 3, 1) := by decide +kernel
theorem dX6_turnedBy_13 : decode cX6_turnedBy 13 = .ok (.iload_n 1, 1) := by decide +kernel
theorem dX6_turnedBy_14 : decode cX6_turnedBy 14 = .ok (.ishr, 1) := by decide +kernel
theorem dX6_turnedBy_15 : decode cX6_turnedBy 15 = .ok (.iconst 1, 1) := by decide +kernel
theorem dX6_turnedBy_16 : decode cX6_turnedBy 16 = .ok (.iand, 1) := by decide +kernel
theorem dX6_turnedBy_17 : decode cX6_turnedBy 17 = .ok (.ifCond .ne 7, 3) := by decide +kernel
theorem dX6_turnedBy_20 : decode cX6_turnedBy 20 = .ok (.iconst 1, 1) := by decide +kernel
theorem dX6_turnedBy_21 : decode cX6_turnedBy 21 = .ok (.goto 4, 3) := by decide +kernel
theorem dX6_turnedBy_24 : decode cX6_turnedBy 24 = .ok (.iconst 0, 1) := by decide +kernel
theorem dX6_turnedBy_25 : decode cX6_turnedBy 25 = .ok (.istore 4, 2) := by decide +kernel
theorem dX6_turnedBy_27 : decode cX6_turnedBy 27 = .ok (.iload 4, 2) := by decide +kernel
theorem dX6_turnedBy_29 : decode cX6_turnedBy 29 = .ok (.ifCond .eq 23, 3) := by decide +kernel
theorem dX6_turnedBy_32 : decode cX6_turnedBy 32 = .ok (.aload_n 0, 1) := by decide +kernel
theorem dX6_turnedBy_33 : decode cX6_turnedBy 33 = .ok (.iload_n 3, 1) := by decide +kernel
theorem dX6_turnedBy_34 : decode cX6_turnedBy 34 = .ok (.invokevirtual 74, 3) := by decide +kernel
theorem dX6_turnedBy_37 : decode cX6_turnedBy 37 = .ok (.aload_n 0, 1) := by decide +kernel
theorem dX6_turnedBy_38 : decode cX6_turnedBy 38 = .ok (.iload_n 3, 1) := by decide +kernel
theorem dX6_turnedBy_39 : decode cX6_turnedBy 39 = .ok (.iconst 1, 1) := by decide +kernel
theorem dX6_turnedBy_40 : decode cX6_turnedBy 40 = .ok (.iload_n 1, 1) := by decide +kernel
theorem dX6_turnedBy_41 : decode cX6_turnedBy 41 = .ok (.ishl, 1) := by decide +kernel
theorem dX6_turnedBy_42 : decode cX6_turnedBy 42 = .ok (.ior, 1) := by decide +kernel
theorem dX6_turnedBy_43 : decode cX6_turnedBy 43 = .ok (.invokevirtual 74, 3) := by decide +kernel
theorem dX6_turnedBy_46 : decode cX6_turnedBy 46 = .ok (.if_icmp .eq 6, 3) := by decide +kernel
theorem dX6_turnedBy_49 : decode cX6_turnedBy 49 = .ok (.iinc 2 1, 3) := by decide +kernel
theorem dX6_turnedBy_52 : decode cX6_turnedBy 52 = .ok (.iinc 3 1, 3) := by decide +kernel
theorem dX6_turnedBy_55 : decode cX6_turnedBy 55 = .ok (.goto (-51), 3) := by decide +kernel
theorem dX6_turnedBy_58 : decode cX6_turnedBy 58 = .ok (.iload_n 2, 1) := by decide +kernel
theorem dX6_turnedBy_59 : decode cX6_turnedBy 59 = .ok (.ireturn, 1) := by decide +kernel
theorem dX6_winnerBy_0 : decode cX6_winnerBy 0 = .ok (.aload_n 0, 1) := by decide +kernel
theorem dX6_winnerBy_1 : decode cX6_winnerBy 1 = .ok (.getfield 9, 3) := by decide +kernel
theorem dX6_winnerBy_4 : decode cX6_winnerBy 4 = .ok (.iload_n 1, 1) := by decide +kernel
theorem dX6_winnerBy_5 : decode cX6_winnerBy 5 = .ok (.iaload, 1) := by decide +kernel
theorem dX6_winnerBy_6 : decode cX6_winnerBy 6 = .ok (.ifCond .ne 8, 3) := by decide +kernel
theorem dX6_winnerBy_9 : decode cX6_winnerBy 9 = .ok (.aload_n 0, 1) := by decide +kernel
theorem dX6_winnerBy_10 : decode cX6_winnerBy 10 = .ok (.getfield 41, 3) := by decide +kernel
theorem dX6_winnerBy_13 : decode cX6_winnerBy 13 = .ok (.ireturn, 1) := by decide +kernel
theorem dX6_winnerBy_14 : decode cX6_winnerBy 14 = .ok (.aload_n 0, 1) := by decide +kernel
theorem dX6_winnerBy_15 : decode cX6_winnerBy 15 = .ok (.getfield 9, 3) := by decide +kernel
theorem dX6_winnerBy_18 : decode cX6_winnerBy 18 = .ok (.iload_n 1, 1) := by decide +kernel
theorem dX6_winnerBy_19 : decode cX6_winnerBy 19 = .ok (.iaload, 1) := by decide +kernel
theorem dX6_winnerBy_20 : decode cX6_winnerBy 20 = .ok (.ifCond .le 7, 3) := by decide +kernel
theorem dX6_winnerBy_23 : decode cX6_winnerBy 23 = .ok (.iconst 0, 1) := by decide +kernel
theorem dX6_winnerBy_24 : decode cX6_winnerBy 24 = .ok (.goto 4, 3) := by decide +kernel
theorem dX6_winnerBy_27 : decode cX6_winnerBy 27 = .ok (.iconst 1, 1) := by decide +kernel
theorem dX6_winnerBy_28 : decode cX6_winnerBy 28 = .ok (.ireturn, 1) := by decide +kernel
theorem dX9_addColumn_0 : decode cX9_addColumn 0 = .ok (.aload_n 1, 1) := by decide +kernel
theorem dX9_addColumn_1 : decode cX9_addColumn 1 = .ok (.getfield 47, 3) := by decide +kernel
theorem dX9_addColumn_4 : decode cX9_addColumn 4 = .ok (.iload_n 2, 1) := by decide +kernel
theorem dX9_addColumn_5 : decode cX9_addColumn 5 = .ok (.iaload, 1) := by decide +kernel
theorem dX9_addColumn_6 : decode cX9_addColumn 6 = .ok (.istore_n 3, 1) := by decide +kernel
theorem dX9_addColumn_7 : decode cX9_addColumn 7 = .ok (.bipush 96, 2) := by decide +kernel
theorem dX9_addColumn_9 : decode cX9_addColumn 9 = .ok (.istore 4, 2) := by decide +kernel
theorem dX9_addColumn_11 : decode cX9_addColumn 11 = .ok (.iload 4, 2) := by decide +kernel
theorem dX9_addColumn_13 : decode cX9_addColumn 13 = .ok (.ifCond .le 78, 3) := by decide +kernel
theorem dX9_addColumn_16 : decode cX9_addColumn 16 = .ok (.iconst 0, 1) := by decide +kernel
theorem dX9_addColumn_17 : decode cX9_addColumn 17 = .ok (.istore 5, 2) := by decide +kernel
theorem dX9_addColumn_19 : decode cX9_addColumn 19 = .ok (.iconst 1, 1) := by decide +kernel
theorem dX9_addColumn_20 : decode cX9_addColumn 20 = .ok (.istore 6, 2) := by decide +kernel
theorem dX9_addColumn_22 : decode cX9_addColumn 22 = .ok (.iload 6, 2) := by decide +kernel
theorem dX9_addColumn_24 : decode cX9_addColumn 24 = .ok (.iload_n 3, 1) := by decide +kernel
theorem dX9_addColumn_25 : decode cX9_addColumn 25 = .ok (.if_icmp .gt 60, 3) := by decide +kernel
theorem dX9_addColumn_28 : decode cX9_addColumn 28 = .ok (.iload 6, 2) := by decide +kernel
theorem dX9_addColumn_30 : decode cX9_addColumn 30 = .ok (.iload 4, 2) := by decide +kernel
theorem dX9_addColumn_32 : decode cX9_addColumn 32 = .ok (.if_icmp .gt 53, 3) := by decide +kernel
theorem dX9_addColumn_35 : decode cX9_addColumn 35 = .ok (.iload 5, 2) := by decide +kernel
theorem dX9_addColumn_37 : decode cX9_addColumn 37 = .ok (.aload_n 1, 1) := by decide +kernel
theorem dX9_addColumn_38 : decode cX9_addColumn 38 = .ok (.iload_n 2, 1) := by decide +kernel
theorem dX9_addColumn_39 : decode cX9_addColumn 39 = .ok (.iload_n 3, 1) := by decide +kernel
theorem dX9_addColumn_40 : decode cX9_addColumn 40 = .ok (.iload 6, 2) := by decide +kernel
theorem dX9_addColumn_42 : decode cX9_addColumn 42 = .ok (.isub, 1) := by decide +kernel
theorem dX9_addColumn_43 : decode cX9_addColumn 43 = .ok (.invokevirtual 68, 3) := by decide +kernel
theorem dX9_addColumn_46 : decode cX9_addColumn 46 = .ok (.iadd, 1) := by decide +kernel
theorem dX9_addColumn_47 : decode cX9_addColumn 47 = .ok (.istore 5, 2) := by decide +kernel
theorem dX9_addColumn_49 : decode cX9_addColumn 49 = .ok (.aload_n 0, 1) := by decide +kernel
theorem dX9_addColumn_50 : decode cX9_addColumn 50 = .ok (.getfield 9, 3) := by decide +kernel
theorem dX9_addColumn_53 : decode cX9_addColumn 53 = .ok (.iload 4, 2) := by decide +kernel
theorem dX9_addColumn_55 : decode cX9_addColumn 55 = .ok (.aload_n 0, 1) := by decide +kernel
theorem dX9_addColumn_56 : decode cX9_addColumn 56 = .ok (.getfield 9, 3) := by decide +kernel
