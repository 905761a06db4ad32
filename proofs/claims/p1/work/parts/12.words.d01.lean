theorem dX7_become_108 : decode cX7_become 108 = .ok (.aload_n 1, 1) := by decide +kernel
theorem dX7_become_109 : decode cX7_become 109 = .ok (.getfield 30, 3) := by decide +kernel
theorem dX7_become_112 : decode cX7_become 112 = .ok (.iconst 0, 1) := by decide +kernel
theorem dX7_become_113 : decode cX7_become 113 = .ok (.aload_n 0, 1) := by decide +kernel
theorem dX7_become_114 : decode cX7_become 114 = .ok (.getfield 30, 3) := by decide +kernel
theorem dX7_become_117 : decode cX7_become 117 = .ok (.iconst 0, 1) := by decide +kernel
theorem dX7_become_118 : decode cX7_become 118 = .ok (.aload_n 0, 1) := by decide +kernel
theorem dX7_become_119 : decode cX7_become 119 = .ok (.getfield 30, 3) := by decide +kernel
theorem dX7_become_122 : decode cX7_become 122 = .ok (.arraylength, 1) := by decide +kernel
theorem dX7_become_123 : decode cX7_become 123 = .ok (.invokestatic 52, 3) := by decide +kernel
theorem dX7_become_126 : decode cX7_become 126 = .ok (.aload_n 1, 1) := by decide +kernel
theorem dX7_become_127 : decode cX7_become 127 = .ok (.getfield 33, 3) := by decide +kernel
theorem dX7_become_130 : decode cX7_become 130 = .ok (.iconst 0, 1) := by decide +kernel
theorem dX7_become_131 : decode cX7_become 131 = .ok (.aload_n 0, 1) := by decide +kernel
theorem dX7_become_132 : decode cX7_become 132 = .ok (.getfield 33, 3) := by decide +kernel
theorem dX7_become_135 : decode cX7_become 135 = .ok (.iconst 0, 1) := by decide +kernel
theorem dX7_become_136 : decode cX7_become 136 = .ok (.aload_n 0, 1) := by decide +kernel
theorem dX7_become_137 : decode cX7_become 137 = .ok (.getfield 33, 3) := by decide +kernel
theorem dX7_become_140 : decode cX7_become 140 = .ok (.arraylength, 1) := by decide +kernel
theorem dX7_become_141 : decode cX7_become 141 = .ok (.invokestatic 52, 3) := by decide +kernel
theorem dX7_become_144 : decode cX7_become 144 = .ok (.return_, 1) := by decide +kernel
theorem dX7_clear_0 : decode cX7_clear 0 = .ok (.aload_n 0, 1) := by decide +kernel
theorem dX7_clear_1 : decode cX7_clear 1 = .ok (.getfield 9, 3) := by decide +kernel
theorem dX7_clear_4 : decode cX7_clear 4 = .ok (.iconst 0, 1) := by decide +kernel
theorem dX7_clear_5 : decode cX7_clear 5 = .ok (.invokestatic 40, 3) := by decide +kernel
theorem dX7_clear_8 : decode cX7_clear 8 = .ok (.aload_n 0, 1) := by decide +kernel
theorem dX7_clear_9 : decode cX7_clear 9 = .ok (.getfield 27, 3) := by decide +kernel
theorem dX7_clear_12 : decode cX7_clear 12 = .ok (.iconst 0, 1) := by decide +kernel
theorem dX7_clear_13 : decode cX7_clear 13 = .ok (.invokestatic 40, 3) := by decide +kernel
theorem dX7_clear_16 : decode cX7_clear 16 = .ok (.aload_n 0, 1) := by decide +kernel
theorem dX7_clear_17 : decode cX7_clear 17 = .ok (.getfield 30, 3) := by decide +kernel
theorem dX7_clear_20 : decode cX7_clear 20 = .ok (.iconst 0, 1) := by decide +kernel
theorem dX7_clear_21 : decode cX7_clear 21 = .ok (.invokestatic 40, 3) := by decide +kernel
theorem dX7_clear_24 : decode cX7_clear 24 = .ok (.iconst 0, 1) := by decide +kernel
theorem dX7_clear_25 : decode cX7_clear 25 = .ok (.istore_n 1, 1) := by decide +kernel
theorem dX7_clear_26 : decode cX7_clear 26 = .ok (.iload_n 1, 1) := by decide +kernel
theorem dX7_clear_27 : decode cX7_clear 27 = .ok (.bipush 16, 2) := by decide +kernel
theorem dX7_clear_29 : decode cX7_clear 29 = .ok (.if_icmp .ge 20, 3) := by decide +kernel
theorem dX7_clear_32 : decode cX7_clear 32 = .ok (.aload_n 0, 1) := by decide +kernel
theorem dX7_clear_33 : decode cX7_clear 33 = .ok (.getfield 33, 3) := by decide +kernel
theorem dX7_clear_36 : decode cX7_clear 36 = .ok (.iload_n 1, 1) := by decide +kernel
theorem dX7_clear_37 : decode cX7_clear 37 = .ok (.bipush 13, 2) := by decide +kernel
theorem dX7_clear_39 : decode cX7_clear 39 = .ok (.imul, 1) := by decide +kernel
theorem dX7_clear_40 : decode cX7_clear 40 = .ok (.ldc 46, 2) := by decide +kernel
theorem dX7_clear_42 : decode cX7_clear 42 = .ok (.iastore, 1) := by decide +kernel
theorem dX7_clear_43 : decode cX7_clear 43 = .ok (.iinc 1 1, 3) := by decide +kernel
theorem dX7_clear_46 : decode cX7_clear 46 = .ok (.goto (-20), 3) := by decide +kernel
theorem dX7_clear_49 : decode cX7_clear 49 = .ok (.aload_n 0, 1) := by decide +kernel
theorem dX7_clear_50 : decode cX7_clear 50 = .ok (.getfield 36, 3) := by decide +kernel
theorem dX7_clear_53 : decode cX7_clear 53 = .ok (.getfield 47, 3) := by decide +kernel
theorem dX7_clear_56 : decode cX7_clear 56 = .ok (.iconst 0, 1) := by decide +kernel
theorem dX7_clear_57 : decode cX7_clear 57 = .ok (.aload_n 0, 1) := by decide +kernel
theorem dX7_clear_58 : decode cX7_clear 58 = .ok (.getfield 15, 3) := by decide +kernel
theorem dX7_clear_61 : decode cX7_clear 61 = .ok (.iconst 0, 1) := by decide +kernel
theorem dX7_clear_62 : decode cX7_clear 62 = .ok (.iconst 5, 1) := by decide +kernel
theorem dX7_clear_63 : decode cX7_clear 63 = .ok (.invokestatic 52, 3) := by decide +kernel
theorem dX7_clear_66 : decode cX7_clear 66 = .ok (.return_, 1) := by decide +kernel
