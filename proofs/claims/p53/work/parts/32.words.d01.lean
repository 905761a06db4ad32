theorem dX10_runs_149 : decode cX10_runs 149 = .ok (.iinc 6 1, 3) := by decide +kernel
theorem dX10_runs_152 : decode cX10_runs 152 = .ok (.goto (-76), 3) := by decide +kernel
theorem dX10_runs_155 : decode cX10_runs 155 = .ok (.iload 5, 2) := by decide +kernel
theorem dX10_runs_157 : decode cX10_runs 157 = .ok (.ireturn, 1) := by decide +kernel
theorem dX10_supports_0 : decode cX10_supports 0 = .ok (.iconst 0, 1) := by decide +kernel
theorem dX10_supports_1 : decode cX10_supports 1 = .ok (.istore 5, 2) := by decide +kernel
theorem dX10_supports_3 : decode cX10_supports 3 = .ok (.iload 4, 2) := by decide +kernel
theorem dX10_supports_5 : decode cX10_supports 5 = .ok (.aload_n 0, 1) := by decide +kernel
theorem dX10_supports_6 : decode cX10_supports 6 = .ok (.getfield 27, 3) := by decide +kernel
theorem dX10_supports_9 : decode cX10_supports 9 = .ok (.getfield 99, 3) := by decide +kernel
theorem dX10_supports_12 : decode cX10_supports 12 = .ok (.getfield 349, 3) := by decide +kernel
theorem dX10_supports_15 : decode cX10_supports 15 = .ok (.isub, 1) := by decide +kernel
theorem dX10_supports_16 : decode cX10_supports 16 = .ok (.istore 6, 2) := by decide +kernel
theorem dX10_supports_18 : decode cX10_supports 18 = .ok (.iload_n 2, 1) := by decide +kernel
theorem dX10_supports_19 : decode cX10_supports 19 = .ok (.iload_n 3, 1) := by decide +kernel
theorem dX10_supports_20 : decode cX10_supports 20 = .ok (.iadd, 1) := by decide +kernel
theorem dX10_supports_21 : decode cX10_supports 21 = .ok (.istore 7, 2) := by decide +kernel
theorem dX10_supports_23 : decode cX10_supports 23 = .ok (.iload 7, 2) := by decide +kernel
theorem dX10_supports_25 : decode cX10_supports 25 = .ok (.ifCond .lt 79, 3) := by decide +kernel
theorem dX10_supports_28 : decode cX10_supports 28 = .ok (.iload 7, 2) := by decide +kernel
theorem dX10_supports_30 : decode cX10_supports 30 = .ok (.aload_n 0, 1) := by decide +kernel
theorem dX10_supports_31 : decode cX10_supports 31 = .ok (.getfield 27, 3) := by decide +kernel
theorem dX10_supports_34 : decode cX10_supports 34 = .ok (.getfield 99, 3) := by decide +kernel
theorem dX10_supports_37 : decode cX10_supports 37 = .ok (.getfield 182, 3) := by decide +kernel
theorem dX10_supports_40 : decode cX10_supports 40 = .ok (.if_icmp .ge 64, 3) := by decide +kernel
theorem dX10_supports_43 : decode cX10_supports 43 = .ok (.iload 6, 2) := by decide +kernel
theorem dX10_supports_45 : decode cX10_supports 45 = .ok (.aload_n 0, 1) := by decide +kernel
theorem dX10_supports_46 : decode cX10_supports 46 = .ok (.getfield 27, 3) := by decide +kernel
theorem dX10_supports_49 : decode cX10_supports 49 = .ok (.getfield 121, 3) := by decide +kernel
theorem dX10_supports_52 : decode cX10_supports 52 = .ok (.getfield 148, 3) := by decide +kernel
theorem dX10_supports_55 : decode cX10_supports 55 = .ok (.iload_n 1, 1) := by decide +kernel
theorem dX10_supports_56 : decode cX10_supports 56 = .ok (.iload 7, 2) := by decide +kernel
theorem dX10_supports_58 : decode cX10_supports 58 = .ok (.invokestatic 125, 3) := by decide +kernel
theorem dX10_supports_61 : decode cX10_supports 61 = .ok (.iaload, 1) := by decide +kernel
theorem dX10_supports_62 : decode cX10_supports 62 = .ok (.isub, 1) := by decide +kernel
theorem dX10_supports_63 : decode cX10_supports 63 = .ok (.istore 8, 2) := by decide +kernel
theorem dX10_supports_65 : decode cX10_supports 65 = .ok (.iload 8, 2) := by decide +kernel
theorem dX10_supports_67 : decode cX10_supports 67 = .ok (.ifCond .gt 6, 3) := by decide +kernel
theorem dX10_supports_70 : decode cX10_supports 70 = .ok (.goto 34, 3) := by decide +kernel
theorem dX10_supports_73 : decode cX10_supports 73 = .ok (.iload 5, 2) := by decide +kernel
theorem dX10_supports_75 : decode cX10_supports 75 = .ok (.iload 8, 2) := by decide +kernel
theorem dX10_supports_77 : decode cX10_supports 77 = .ok (.iadd, 1) := by decide +kernel
theorem dX10_supports_78 : decode cX10_supports 78 = .ok (.istore 5, 2) := by decide +kernel
theorem dX10_supports_80 : decode cX10_supports 80 = .ok (.iload 6, 2) := by decide +kernel
theorem dX10_supports_82 : decode cX10_supports 82 = .ok (.aload_n 0, 1) := by decide +kernel
theorem dX10_supports_83 : decode cX10_supports 83 = .ok (.getfield 27, 3) := by decide +kernel
theorem dX10_supports_86 : decode cX10_supports 86 = .ok (.getfield 99, 3) := by decide +kernel
theorem dX10_supports_89 : decode cX10_supports 89 = .ok (.getfield 349, 3) := by decide +kernel
theorem dX10_supports_92 : decode cX10_supports 92 = .ok (.isub, 1) := by decide +kernel
theorem dX10_supports_93 : decode cX10_supports 93 = .ok (.istore 6, 2) := by decide +kernel
theorem dX10_supports_95 : decode cX10_supports 95 = .ok (.iload 7, 2) := by decide +kernel
theorem dX10_supports_97 : decode cX10_supports 97 = .ok (.iload_n 3, 1) := by decide +kernel
theorem dX10_supports_98 : decode cX10_supports 98 = .ok (.iadd, 1) := by decide +kernel
theorem dX10_supports_99 : decode cX10_supports 99 = .ok (.istore 7, 2) := by decide +kernel
theorem dX10_supports_101 : decode cX10_supports 101 = .ok (.goto (-78), 3) := by decide +kernel
theorem dX10_supports_104 : decode cX10_supports 104 = .ok (.iload 5, 2) := by decide +kernel
theorem dX10_supports_106 : decode cX10_supports 106 = .ok (.ireturn, 1) := by decide +kernel
theorem dX10_then_0 : decode cX10_then 0 = .ok (.aload_n 0, 1) := by decide +kernel
theorem dX10_then_1 : decode cX10_then 1 = .ok (.invokevirtual 196, 3) := by decide +kernel
theorem dX10_then_4 : decode cX10_then 4 = .ok (.ifCond .eq 11, 3) := by decide +kernel
theorem dX10_then_7 : decode cX10_then 7 = .ok (.aload_n 0, 1) := by decide +kernel
theorem dX10_then_8 : decode cX10_then 8 = .ok (.iload_n 1, 1) := by decide +kernel
theorem dX10_then_9 : decode cX10_then 9 = .ok (.invokevirtual 339, 3) := by decide +kernel
theorem dX10_then_12 : decode cX10_then 12 = .ok (.ifCond .ne 6, 3) := by decide +kernel
theorem dX10_then_15 : decode cX10_then 15 = .ok (.bipush (-2), 2) := by decide +kernel
theorem dX10_then_17 : decode cX10_then 17 = .ok (.ireturn, 1) := by decide +kernel
theorem dX10_then_18 : decode cX10_then 18 = .ok (.aload_n 0, 1) := by decide +kernel
theorem dX10_then_19 : decode cX10_then 19 = .ok (.getfield 47, 3) := by decide +kernel
theorem dX10_then_22 : decode cX10_then 22 = .ok (.iload_n 1, 1) := by decide +kernel
theorem dX10_then_23 : decode cX10_then 23 = .ok (.aaload, 1) := by decide +kernel
theorem dX10_then_24 : decode cX10_then 24 = .ok (.invokevirtual 342, 3) := by decide +kernel
theorem dX10_then_27 : decode cX10_then 27 = .ok (.ifCond .eq 6, 3) := by decide +kernel
theorem dX10_then_30 : decode cX10_then 30 = .ok (.bipush (-6), 2) := by decide +kernel
theorem dX10_then_32 : decode cX10_then 32 = .ok (.ireturn, 1) := by decide +kernel
theorem dX10_then_33 : decode cX10_then 33 = .ok (.aload_n 0, 1) := by decide +kernel
theorem dX10_then_34 : decode cX10_then 34 = .ok (.aload_n 0, 1) := by decide +kernel
theorem dX10_then_35 : decode cX10_then 35 = .ok (.getfield 47, 3) := by decide +kernel
theorem dX10_then_38 : decode cX10_then 38 = .ok (.iload_n 1, 1) := by decide +kernel
theorem dX10_then_39 : decode cX10_then 39 = .ok (.aaload, 1) := by decide +kernel
theorem dX10_then_40 : decode cX10_then 40 = .ok (.invokevirtual 345, 3) := by decide +kernel
theorem dX10_then_43 : decode cX10_then 43 = .ok (.pop, 1) := by decide +kernel
theorem dX10_then_44 : decode cX10_then 44 = .ok (.aload_n 0, 1) := by decide +kernel
theorem dX10_then_45 : decode cX10_then 45 = .ok (.getfield 31, 3) := by decide +kernel
theorem dX10_then_48 : decode cX10_then 48 = .ok (.aload_n 0, 1) := by decide +kernel
theorem dX10_then_49 : decode cX10_then 49 = .ok (.getfield 31, 3) := by decide +kernel
theorem dX10_then_52 : decode cX10_then 52 = .ok (.getfield 176, 3) := by decide +kernel
theorem dX10_then_55 : decode cX10_then 55 = .ok (.invokevirtual 200, 3) := by decide +kernel
theorem dX10_then_58 : decode cX10_then 58 = .ok (.ireturn, 1) := by decide +kernel
theorem dX10_write_0 : decode cX10_write 0 = .ok (.aload_n 0, 1) := by decide +kernel
theorem dX10_write_1 : decode cX10_write 1 = .ok (.iload_n 1, 1) := by decide +kernel
theorem dX10_write_2 : decode cX10_write 2 = .ok (.invokevirtual 339, 3) := by decide +kernel
theorem dX10_write_5 : decode cX10_write 5 = .ok (.ifCond .ne 6, 3) := by decide +kernel
theorem dX10_write_8 : decode cX10_write 8 = .ok (.bipush (-2), 2) := by decide +kernel
theorem dX10_write_10 : decode cX10_write 10 = .ok (.ireturn, 1) := by decide +kernel
theorem dX10_write_11 : decode cX10_write 11 = .ok (.aload_n 0, 1) := by decide +kernel
theorem dX10_write_12 : decode cX10_write 12 = .ok (.getfield 47, 3) := by decide +kernel
theorem dX10_write_15 : decode cX10_write 15 = .ok (.iload_n 1, 1) := by decide +kernel
theorem dX10_write_16 : decode cX10_write 16 = .ok (.aaload, 1) := by decide +kernel
theorem dX10_write_17 : decode cX10_write 17 = .ok (.astore 5, 2) := by decide +kernel
theorem dX10_write_19 : decode cX10_write 19 = .ok (.aload 5, 2) := by decide +kernel
theorem dX10_write_21 : decode cX10_write 21 = .ok (.invokevirtual 342, 3) := by decide +kernel
theorem dX10_write_24 : decode cX10_write 24 = .ok (.ifCond .eq 6, 3) := by decide +kernel
theorem dX10_write_27 : decode cX10_write 27 = .ok (.bipush (-6), 2) := by decide +kernel
theorem dX10_write_29 : decode cX10_write 29 = .ok (.ireturn, 1) := by decide +kernel
theorem dX10_write_30 : decode cX10_write 30 = .ok (.iload_n 2, 1) := by decide +kernel
theorem dX10_write_31 : decode cX10_write 31 = .ok (.ifCond .lt 12, 3) := by decide +kernel
theorem dX10_write_34 : decode cX10_write 34 = .ok (.iload_n 2, 1) := by decide +kernel
theorem dX10_write_35 : decode cX10_write 35 = .ok (.aload 5, 2) := by decide +kernel
theorem dX10_write_37 : decode cX10_write 37 = .ok (.getfield 367, 3) := by decide +kernel
theorem dX10_write_40 : decode cX10_write 40 = .ok (.if_icmp .lt 6, 3) := by decide +kernel
theorem dX10_write_43 : decode cX10_write 43 = .ok (.bipush (-7), 2) := by decide +kernel
theorem dX10_write_45 : decode cX10_write 45 = .ok (.ireturn, 1) := by decide +kernel
theorem dX10_write_46 : decode cX10_write 46 = .ok (.aload 5, 2) := by decide +kernel
theorem dX10_write_48 : decode cX10_write 48 = .ok (.getfield 368, 3) := by decide +kernel
theorem dX10_write_51 : decode cX10_write 51 = .ok (.iload_n 2, 1) := by decide +kernel
theorem dX10_write_52 : decode cX10_write 52 = .ok (.aload 5, 2) := by decide +kernel
theorem dX10_write_54 : decode cX10_write 54 = .ok (.lload_n 3, 1) := by decide +kernel
theorem dX10_write_55 : decode cX10_write 55 = .ok (.invokevirtual 371, 3) := by decide +kernel
theorem dX10_write_58 : decode cX10_write 58 = .ok (.lastore, 1) := by decide +kernel
theorem dX10_write_59 : decode cX10_write 59 = .ok (.iconst 0, 1) := by decide +kernel
theorem dX10_write_60 : decode cX10_write 60 = .ok (.ireturn, 1) := by decide +kernel
