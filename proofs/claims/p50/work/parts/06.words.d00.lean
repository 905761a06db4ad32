theorem dX10_indexOf_0 : decode cX10_indexOf 0 = .ok (.iload_n 0, 1) := by decide +kernel
theorem dX10_indexOf_1 : decode cX10_indexOf 1 = .ok (.bipush 12, 2) := by decide +kernel
theorem dX10_indexOf_3 : decode cX10_indexOf 3 = .ok (.imul, 1) := by decide +kernel
theorem dX10_indexOf_4 : decode cX10_indexOf 4 = .ok (.iload_n 1, 1) := by decide +kernel
theorem dX10_indexOf_5 : decode cX10_indexOf 5 = .ok (.iadd, 1) := by decide +kernel
theorem dX10_indexOf_6 : decode cX10_indexOf 6 = .ok (.ireturn, 1) := by decide +kernel
theorem dX10_placeOf_0 : decode cX10_placeOf 0 = .ok (.iload_n 0, 1) := by decide +kernel
theorem dX10_placeOf_1 : decode cX10_placeOf 1 = .ok (.bipush 8, 2) := by decide +kernel
theorem dX10_placeOf_3 : decode cX10_placeOf 3 = .ok (.imul, 1) := by decide +kernel
theorem dX10_placeOf_4 : decode cX10_placeOf 4 = .ok (.iload_n 1, 1) := by decide +kernel
theorem dX10_placeOf_5 : decode cX10_placeOf 5 = .ok (.iadd, 1) := by decide +kernel
theorem dX10_placeOf_6 : decode cX10_placeOf 6 = .ok (.ireturn, 1) := by decide +kernel
theorem dX7_fits_0 : decode cX7_fits 0 = .ok (.aload_n 0, 1) := by decide +kernel
theorem dX7_fits_1 : decode cX7_fits 1 = .ok (.getfield 9, 3) := by decide +kernel
theorem dX7_fits_4 : decode cX7_fits 4 = .ok (.iload_n 1, 1) := by decide +kernel
theorem dX7_fits_5 : decode cX7_fits 5 = .ok (.iaload, 1) := by decide +kernel
theorem dX7_fits_6 : decode cX7_fits 6 = .ok (.istore_n 3, 1) := by decide +kernel
theorem dX7_fits_7 : decode cX7_fits 7 = .ok (.iload_n 3, 1) := by decide +kernel
theorem dX7_fits_8 : decode cX7_fits 8 = .ok (.aload_n 0, 1) := by decide +kernel
theorem dX7_fits_9 : decode cX7_fits 9 = .ok (.getfield 36, 3) := by decide +kernel
theorem dX7_fits_12 : decode cX7_fits 12 = .ok (.getfield 58, 3) := by decide +kernel
theorem dX7_fits_15 : decode cX7_fits 15 = .ok (.if_icmp .ge 18, 3) := by decide +kernel
theorem dX7_fits_18 : decode cX7_fits 18 = .ok (.iload_n 2, 1) := by decide +kernel
theorem dX7_fits_19 : decode cX7_fits 19 = .ok (.aload_n 0, 1) := by decide +kernel
theorem dX7_fits_20 : decode cX7_fits 20 = .ok (.getfield 33, 3) := by decide +kernel
theorem dX7_fits_23 : decode cX7_fits 23 = .ok (.iload_n 1, 1) := by decide +kernel
theorem dX7_fits_24 : decode cX7_fits 24 = .ok (.bipush 13, 2) := by decide +kernel
theorem dX7_fits_26 : decode cX7_fits 26 = .ok (.imul, 1) := by decide +kernel
theorem dX7_fits_27 : decode cX7_fits 27 = .ok (.iload_n 3, 1) := by decide +kernel
theorem dX7_fits_28 : decode cX7_fits 28 = .ok (.iadd, 1) := by decide +kernel
theorem dX7_fits_29 : decode cX7_fits 29 = .ok (.iaload, 1) := by decide +kernel
theorem dX7_fits_30 : decode cX7_fits 30 = .ok (.if_icmp .le 5, 3) := by decide +kernel
theorem dX7_fits_33 : decode cX7_fits 33 = .ok (.iconst 0, 1) := by decide +kernel
theorem dX7_fits_34 : decode cX7_fits 34 = .ok (.ireturn, 1) := by decide +kernel
theorem dX7_fits_35 : decode cX7_fits 35 = .ok (.iload_n 1, 1) := by decide +kernel
theorem dX7_fits_36 : decode cX7_fits 36 = .ok (.bipush 8, 2) := by decide +kernel
theorem dX7_fits_38 : decode cX7_fits 38 = .ok (.irem, 1) := by decide +kernel
theorem dX7_fits_39 : decode cX7_fits 39 = .ok (.istore 4, 2) := by decide +kernel
theorem dX7_fits_41 : decode cX7_fits 41 = .ok (.iload_n 3, 1) := by decide +kernel
theorem dX7_fits_42 : decode cX7_fits 42 = .ok (.iconst 1, 1) := by decide +kernel
theorem dX7_fits_43 : decode cX7_fits 43 = .ok (.iadd, 1) := by decide +kernel
theorem dX7_fits_44 : decode cX7_fits 44 = .ok (.aload_n 0, 1) := by decide +kernel
theorem dX7_fits_45 : decode cX7_fits 45 = .ok (.getfield 36, 3) := by decide +kernel
theorem dX7_fits_48 : decode cX7_fits 48 = .ok (.getfield 62, 3) := by decide +kernel
theorem dX7_fits_51 : decode cX7_fits 51 = .ok (.isub, 1) := by decide +kernel
theorem dX7_fits_52 : decode cX7_fits 52 = .ok (.istore 5, 2) := by decide +kernel
theorem dX7_fits_54 : decode cX7_fits 54 = .ok (.iload 4, 2) := by decide +kernel
theorem dX7_fits_56 : decode cX7_fits 56 = .ok (.ifCond .le 18, 3) := by decide +kernel
theorem dX7_fits_59 : decode cX7_fits 59 = .ok (.aload_n 0, 1) := by decide +kernel
theorem dX7_fits_60 : decode cX7_fits 60 = .ok (.getfield 9, 3) := by decide +kernel
theorem dX7_fits_63 : decode cX7_fits 63 = .ok (.iload_n 1, 1) := by decide +kernel
theorem dX7_fits_64 : decode cX7_fits 64 = .ok (.iconst 1, 1) := by decide +kernel
theorem dX7_fits_65 : decode cX7_fits 65 = .ok (.isub, 1) := by decide +kernel
theorem dX7_fits_66 : decode cX7_fits 66 = .ok (.iaload, 1) := by decide +kernel
theorem dX7_fits_67 : decode cX7_fits 67 = .ok (.iload 5, 2) := by decide +kernel
theorem dX7_fits_69 : decode cX7_fits 69 = .ok (.if_icmp .ge 5, 3) := by decide +kernel
theorem dX7_fits_72 : decode cX7_fits 72 = .ok (.iconst 0, 1) := by decide +kernel
theorem dX7_fits_73 : decode cX7_fits 73 = .ok (.ireturn, 1) := by decide +kernel
theorem dX7_fits_74 : decode cX7_fits 74 = .ok (.iload 4, 2) := by decide +kernel
theorem dX7_fits_76 : decode cX7_fits 76 = .ok (.iconst 1, 1) := by decide +kernel
theorem dX7_fits_77 : decode cX7_fits 77 = .ok (.iadd, 1) := by decide +kernel
theorem dX7_fits_78 : decode cX7_fits 78 = .ok (.aload_n 0, 1) := by decide +kernel
theorem dX7_fits_79 : decode cX7_fits 79 = .ok (.getfield 36, 3) := by decide +kernel
theorem dX7_fits_82 : decode cX7_fits 82 = .ok (.getfield 65, 3) := by decide +kernel
theorem dX7_fits_85 : decode cX7_fits 85 = .ok (.if_icmp .ge 16, 3) := by decide +kernel
theorem dX7_fits_88 : decode cX7_fits 88 = .ok (.aload_n 0, 1) := by decide +kernel
theorem dX7_fits_89 : decode cX7_fits 89 = .ok (.getfield 9, 3) := by decide +kernel
theorem dX7_fits_92 : decode cX7_fits 92 = .ok (.iload_n 1, 1) := by decide +kernel
theorem dX7_fits_93 : decode cX7_fits 93 = .ok (.iconst 1, 1) := by decide +kernel
theorem dX7_fits_94 : decode cX7_fits 94 = .ok (.iadd, 1) := by decide +kernel
theorem dX7_fits_95 : decode cX7_fits 95 = .ok (.iaload, 1) := by decide +kernel
theorem dX7_fits_96 : decode cX7_fits 96 = .ok (.iload 5, 2) := by decide +kernel
theorem dX7_fits_98 : decode cX7_fits 98 = .ok (.if_icmp .lt 7, 3) := by decide +kernel
theorem dX7_fits_101 : decode cX7_fits 101 = .ok (.iconst 1, 1) := by decide +kernel
theorem dX7_fits_102 : decode cX7_fits 102 = .ok (.goto 4, 3) := by decide +kernel
theorem dX7_fits_105 : decode cX7_fits 105 = .ok (.iconst 0, 1) := by decide +kernel
theorem dX7_fits_106 : decode cX7_fits 106 = .ok (.ireturn, 1) := by decide +kernel
theorem dX7_roomOn_0 : decode cX7_roomOn 0 = .ok (.aload_n 0, 1) := by decide +kernel
theorem dX7_roomOn_1 : decode cX7_roomOn 1 = .ok (.getfield 33, 3) := by decide +kernel
theorem dX7_roomOn_4 : decode cX7_roomOn 4 = .ok (.iload_n 1, 1) := by decide +kernel
theorem dX7_roomOn_5 : decode cX7_roomOn 5 = .ok (.bipush 13, 2) := by decide +kernel
theorem dX7_roomOn_7 : decode cX7_roomOn 7 = .ok (.imul, 1) := by decide +kernel
theorem dX7_roomOn_8 : decode cX7_roomOn 8 = .ok (.aload_n 0, 1) := by decide +kernel
theorem dX7_roomOn_9 : decode cX7_roomOn 9 = .ok (.getfield 9, 3) := by decide +kernel
theorem dX7_roomOn_12 : decode cX7_roomOn 12 = .ok (.iload_n 1, 1) := by decide +kernel
theorem dX7_roomOn_13 : decode cX7_roomOn 13 = .ok (.iaload, 1) := by decide +kernel
theorem dX7_roomOn_14 : decode cX7_roomOn 14 = .ok (.iadd, 1) := by decide +kernel
theorem dX7_roomOn_15 : decode cX7_roomOn 15 = .ok (.iaload, 1) := by decide +kernel
theorem dX7_roomOn_16 : decode cX7_roomOn 16 = .ok (.ireturn, 1) := by decide +kernel
