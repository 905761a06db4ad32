theorem dX11_tear_124 : decode cX11_tear 124 = .ok (.if_icmp .eq 19, 3) := by decide +kernel
theorem dX11_tear_127 : decode cX11_tear 127 = .ok (.iload_n 3, 1) := by decide +kernel
theorem dX11_tear_128 : decode cX11_tear 128 = .ok (.aload_n 0, 1) := by decide +kernel
theorem dX11_tear_129 : decode cX11_tear 129 = .ok (.getfield 86, 3) := by decide +kernel
theorem dX11_tear_132 : decode cX11_tear 132 = .ok (.iload 4, 2) := by decide +kernel
theorem dX11_tear_134 : decode cX11_tear 134 = .ok (.iaload, 1) := by decide +kernel
theorem dX11_tear_135 : decode cX11_tear 135 = .ok (.isub, 1) := by decide +kernel
theorem dX11_tear_136 : decode cX11_tear 136 = .ok (.iload_n 2, 1) := by decide +kernel
theorem dX11_tear_137 : decode cX11_tear 137 = .ok (.if_icmp .ge 6, 3) := by decide +kernel
theorem dX11_tear_140 : decode cX11_tear 140 = .ok (.iload 4, 2) := by decide +kernel
theorem dX11_tear_142 : decode cX11_tear 142 = .ok (.ireturn, 1) := by decide +kernel
theorem dX11_tear_143 : decode cX11_tear 143 = .ok (.iinc 4 1, 3) := by decide +kernel
theorem dX11_tear_146 : decode cX11_tear 146 = .ok (.goto (-37), 3) := by decide +kernel
theorem dX11_tear_149 : decode cX11_tear 149 = .ok (.iconst (-1), 1) := by decide +kernel
theorem dX11_tear_150 : decode cX11_tear 150 = .ok (.ireturn, 1) := by decide +kernel
theorem dX11_turn_0 : decode cX11_turn 0 = .ok (.aload_n 0, 1) := by decide +kernel
theorem dX11_turn_1 : decode cX11_turn 1 = .ok (.iconst 0, 1) := by decide +kernel
theorem dX11_turn_2 : decode cX11_turn 2 = .ok (.putfield 99, 3) := by decide +kernel
theorem dX11_turn_5 : decode cX11_turn 5 = .ok (.aload_n 0, 1) := by decide +kernel
theorem dX11_turn_6 : decode cX11_turn 6 = .ok (.invokevirtual 316, 3) := by decide +kernel
theorem dX11_turn_9 : decode cX11_turn 9 = .ok (.ifCond .eq 20, 3) := by decide +kernel
theorem dX11_turn_12 : decode cX11_turn 12 = .ok (.iload_n 1, 1) := by decide +kernel
theorem dX11_turn_13 : decode cX11_turn 13 = .ok (.invokestatic 283, 3) := by decide +kernel
theorem dX11_turn_16 : decode cX11_turn 16 = .ok (.ifCond .eq 13, 3) := by decide +kernel
theorem dX11_turn_19 : decode cX11_turn 19 = .ok (.iload_n 2, 1) := by decide +kernel
theorem dX11_turn_20 : decode cX11_turn 20 = .ok (.i2l, 1) := by decide +kernel
theorem dX11_turn_21 : decode cX11_turn 21 = .ok (.lconst 0, 1) := by decide +kernel
theorem dX11_turn_22 : decode cX11_turn 22 = .ok (.lconst 1, 1) := by decide +kernel
theorem dX11_turn_23 : decode cX11_turn 23 = .ok (.invokestatic 104, 3) := by decide +kernel
theorem dX11_turn_26 : decode cX11_turn 26 = .ok (.ifCond .ne 6, 3) := by decide +kernel
theorem dX11_turn_29 : decode cX11_turn 29 = .ok (.bipush (-2), 2) := by decide +kernel
theorem dX11_turn_31 : decode cX11_turn 31 = .ok (.ireturn, 1) := by decide +kernel
theorem dX11_turn_32 : decode cX11_turn 32 = .ok (.iconst 0, 1) := by decide +kernel
theorem dX11_turn_33 : decode cX11_turn 33 = .ok (.istore_n 3, 1) := by decide +kernel
theorem dX11_turn_34 : decode cX11_turn 34 = .ok (.iload_n 3, 1) := by decide +kernel
theorem dX11_turn_35 : decode cX11_turn 35 = .ok (.iconst 3, 1) := by decide +kernel
theorem dX11_turn_36 : decode cX11_turn 36 = .ok (.if_icmp .gt 44, 3) := by decide +kernel
theorem dX11_turn_39 : decode cX11_turn 39 = .ok (.aload_n 0, 1) := by decide +kernel
theorem dX11_turn_40 : decode cX11_turn 40 = .ok (.iload_n 1, 1) := by decide +kernel
theorem dX11_turn_41 : decode cX11_turn 41 = .ok (.iload_n 3, 1) := by decide +kernel
theorem dX11_turn_42 : decode cX11_turn 42 = .ok (.invokevirtual 413, 3) := by decide +kernel
theorem dX11_turn_45 : decode cX11_turn 45 = .ok (.aload_n 0, 1) := by decide +kernel
theorem dX11_turn_46 : decode cX11_turn 46 = .ok (.getfield 403, 3) := by decide +kernel
theorem dX11_turn_49 : decode cX11_turn 49 = .ok (.iconst (-1), 1) := by decide +kernel
theorem dX11_turn_50 : decode cX11_turn 50 = .ok (.if_icmp .eq 24, 3) := by decide +kernel
theorem dX11_turn_53 : decode cX11_turn 53 = .ok (.iload_n 2, 1) := by decide +kernel
theorem dX11_turn_54 : decode cX11_turn 54 = .ok (.ifCond .ne 7, 3) := by decide +kernel
theorem dX11_turn_57 : decode cX11_turn 57 = .ok (.iload_n 3, 1) := by decide +kernel
theorem dX11_turn_58 : decode cX11_turn 58 = .ok (.goto 15, 3) := by decide +kernel
theorem dX11_turn_61 : decode cX11_turn 61 = .ok (.iload_n 3, 1) := by decide +kernel
theorem dX11_turn_62 : decode cX11_turn 62 = .ok (.ifCond .ne 7, 3) := by decide +kernel
theorem dX11_turn_65 : decode cX11_turn 65 = .ok (.iconst (-1), 1) := by decide +kernel
theorem dX11_turn_66 : decode cX11_turn 66 = .ok (.goto 7, 3) := by decide +kernel
theorem dX11_turn_69 : decode cX11_turn 69 = .ok (.aload_n 0, 1) := by decide +kernel
theorem dX11_turn_70 : decode cX11_turn 70 = .ok (.getfield 403, 3) := by decide +kernel
theorem dX11_turn_73 : decode cX11_turn 73 = .ok (.ireturn, 1) := by decide +kernel
theorem dX11_turn_74 : decode cX11_turn 74 = .ok (.iinc 3 1, 3) := by decide +kernel
theorem dX11_turn_77 : decode cX11_turn 77 = .ok (.goto (-43), 3) := by decide +kernel
theorem dX11_turn_80 : decode cX11_turn 80 = .ok (.bipush (-3), 2) := by decide +kernel
theorem dX11_turn_82 : decode cX11_turn 82 = .ok (.ireturn, 1) := by decide +kernel
