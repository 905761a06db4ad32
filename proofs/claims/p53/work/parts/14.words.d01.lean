theorem dX9_addColumn_59 : decode cX9_addColumn 59 = .ok (.iload 4, 2) := by decide +kernel
theorem dX9_addColumn_61 : decode cX9_addColumn 61 = .ok (.iaload, 1) := by decide +kernel
theorem dX9_addColumn_62 : decode cX9_addColumn 62 = .ok (.aload_n 0, 1) := by decide +kernel
theorem dX9_addColumn_63 : decode cX9_addColumn 63 = .ok (.getfield 9, 3) := by decide +kernel
theorem dX9_addColumn_66 : decode cX9_addColumn 66 = .ok (.iload 4, 2) := by decide +kernel
theorem dX9_addColumn_68 : decode cX9_addColumn 68 = .ok (.iload 6, 2) := by decide +kernel
theorem dX9_addColumn_70 : decode cX9_addColumn 70 = .ok (.isub, 1) := by decide +kernel
theorem dX9_addColumn_71 : decode cX9_addColumn 71 = .ok (.iaload, 1) := by decide +kernel
theorem dX9_addColumn_72 : decode cX9_addColumn 72 = .ok (.iload 5, 2) := by decide +kernel
theorem dX9_addColumn_74 : decode cX9_addColumn 74 = .ok (.iadd, 1) := by decide +kernel
theorem dX9_addColumn_75 : decode cX9_addColumn 75 = .ok (.invokestatic 53, 3) := by decide +kernel
theorem dX9_addColumn_78 : decode cX9_addColumn 78 = .ok (.iastore, 1) := by decide +kernel
theorem dX9_addColumn_79 : decode cX9_addColumn 79 = .ok (.iinc 6 1, 3) := by decide +kernel
theorem dX9_addColumn_82 : decode cX9_addColumn 82 = .ok (.goto (-60), 3) := by decide +kernel
theorem dX9_addColumn_85 : decode cX9_addColumn 85 = .ok (.iinc 4 (-1), 3) := by decide +kernel
theorem dX9_addColumn_88 : decode cX9_addColumn 88 = .ok (.goto (-77), 3) := by decide +kernel
theorem dX9_addColumn_91 : decode cX9_addColumn 91 = .ok (.return_, 1) := by decide +kernel
theorem dX9_fewestOfWeight_0 : decode cX9_fewestOfWeight 0 = .ok (.aload_n 0, 1) := by decide +kernel
theorem dX9_fewestOfWeight_1 : decode cX9_fewestOfWeight 1 = .ok (.getfield 9, 3) := by decide +kernel
theorem dX9_fewestOfWeight_4 : decode cX9_fewestOfWeight 4 = .ok (.iconst 0, 1) := by decide +kernel
theorem dX9_fewestOfWeight_5 : decode cX9_fewestOfWeight 5 = .ok (.invokestatic 58, 3) := by decide +kernel
theorem dX9_fewestOfWeight_8 : decode cX9_fewestOfWeight 8 = .ok (.iconst 0, 1) := by decide +kernel
theorem dX9_fewestOfWeight_9 : decode cX9_fewestOfWeight 9 = .ok (.istore 4, 2) := by decide +kernel
theorem dX9_fewestOfWeight_11 : decode cX9_fewestOfWeight 11 = .ok (.iload 4, 2) := by decide +kernel
theorem dX9_fewestOfWeight_13 : decode cX9_fewestOfWeight 13 = .ok (.aload_n 1, 1) := by decide +kernel
theorem dX9_fewestOfWeight_14 : decode cX9_fewestOfWeight 14 = .ok (.getfield 38, 3) := by decide +kernel
theorem dX9_fewestOfWeight_17 : decode cX9_fewestOfWeight 17 = .ok (.getfield 42, 3) := by decide +kernel
theorem dX9_fewestOfWeight_20 : decode cX9_fewestOfWeight 20 = .ok (.if_icmp .ge 23, 3) := by decide +kernel
theorem dX9_fewestOfWeight_23 : decode cX9_fewestOfWeight 23 = .ok (.aload_n 0, 1) := by decide +kernel
theorem dX9_fewestOfWeight_24 : decode cX9_fewestOfWeight 24 = .ok (.aload_n 1, 1) := by decide +kernel
theorem dX9_fewestOfWeight_25 : decode cX9_fewestOfWeight 25 = .ok (.getfield 15, 3) := by decide +kernel
theorem dX9_fewestOfWeight_28 : decode cX9_fewestOfWeight 28 = .ok (.iload_n 2, 1) := by decide +kernel
theorem dX9_fewestOfWeight_29 : decode cX9_fewestOfWeight 29 = .ok (.iload 4, 2) := by decide +kernel
theorem dX9_fewestOfWeight_31 : decode cX9_fewestOfWeight 31 = .ok (.invokestatic 50, 3) := by decide +kernel
theorem dX9_fewestOfWeight_34 : decode cX9_fewestOfWeight 34 = .ok (.invokevirtual 64, 3) := by decide +kernel
theorem dX9_fewestOfWeight_37 : decode cX9_fewestOfWeight 37 = .ok (.iinc 4 1, 3) := by decide +kernel
theorem dX9_fewestOfWeight_40 : decode cX9_fewestOfWeight 40 = .ok (.goto (-29), 3) := by decide +kernel
theorem dX9_fewestOfWeight_43 : decode cX9_fewestOfWeight 43 = .ok (.iconst 1, 1) := by decide +kernel
theorem dX9_fewestOfWeight_44 : decode cX9_fewestOfWeight 44 = .ok (.istore 4, 2) := by decide +kernel
theorem dX9_fewestOfWeight_46 : decode cX9_fewestOfWeight 46 = .ok (.iload 4, 2) := by decide +kernel
theorem dX9_fewestOfWeight_48 : decode cX9_fewestOfWeight 48 = .ok (.bipush 96, 2) := by decide +kernel
theorem dX9_fewestOfWeight_50 : decode cX9_fewestOfWeight 50 = .ok (.if_icmp .gt 23, 3) := by decide +kernel
theorem dX9_fewestOfWeight_53 : decode cX9_fewestOfWeight 53 = .ok (.aload_n 0, 1) := by decide +kernel
theorem dX9_fewestOfWeight_54 : decode cX9_fewestOfWeight 54 = .ok (.getfield 9, 3) := by decide +kernel
theorem dX9_fewestOfWeight_57 : decode cX9_fewestOfWeight 57 = .ok (.iload 4, 2) := by decide +kernel
theorem dX9_fewestOfWeight_59 : decode cX9_fewestOfWeight 59 = .ok (.iaload, 1) := by decide +kernel
theorem dX9_fewestOfWeight_60 : decode cX9_fewestOfWeight 60 = .ok (.iload_n 3, 1) := by decide +kernel
theorem dX9_fewestOfWeight_61 : decode cX9_fewestOfWeight 61 = .ok (.if_icmp .lt 6, 3) := by decide +kernel
theorem dX9_fewestOfWeight_64 : decode cX9_fewestOfWeight 64 = .ok (.iload 4, 2) := by decide +kernel
theorem dX9_fewestOfWeight_66 : decode cX9_fewestOfWeight 66 = .ok (.ireturn, 1) := by decide +kernel
theorem dX9_fewestOfWeight_67 : decode cX9_fewestOfWeight 67 = .ok (.iinc 4 1, 3) := by decide +kernel
theorem dX9_fewestOfWeight_70 : decode cX9_fewestOfWeight 70 = .ok (.goto (-24), 3) := by decide +kernel
theorem dX9_fewestOfWeight_73 : decode cX9_fewestOfWeight 73 = .ok (.iconst (-1), 1) := by decide +kernel
theorem dX9_fewestOfWeight_74 : decode cX9_fewestOfWeight 74 = .ok (.ireturn, 1) := by decide +kernel
theorem dX9_fewestTorn_0 : decode cX9_fewestTorn 0 = .ok (.aload_n 1, 1) := by decide +kernel
theorem dX9_fewestTorn_1 : decode cX9_fewestTorn 1 = .ok (.getfield 15, 3) := by decide +kernel
theorem dX9_fewestTorn_4 : decode cX9_fewestTorn 4 = .ok (.iload_n 2, 1) := by decide +kernel
theorem dX9_fewestTorn_5 : decode cX9_fewestTorn 5 = .ok (.aload_n 1, 1) := by decide +kernel
theorem dX9_fewestTorn_6 : decode cX9_fewestTorn 6 = .ok (.getfield 21, 3) := by decide +kernel
theorem dX9_fewestTorn_9 : decode cX9_fewestTorn 9 = .ok (.invokevirtual 25, 3) := by decide +kernel
theorem dX9_fewestTorn_12 : decode cX9_fewestTorn 12 = .ok (.istore_n 3, 1) := by decide +kernel
theorem dX9_fewestTorn_13 : decode cX9_fewestTorn 13 = .ok (.aload_n 1, 1) := by decide +kernel
theorem dX9_fewestTorn_14 : decode cX9_fewestTorn 14 = .ok (.getfield 15, 3) := by decide +kernel
theorem dX9_fewestTorn_17 : decode cX9_fewestTorn 17 = .ok (.iconst 1, 1) := by decide +kernel
theorem dX9_fewestTorn_18 : decode cX9_fewestTorn 18 = .ok (.iload_n 2, 1) := by decide +kernel
theorem dX9_fewestTorn_19 : decode cX9_fewestTorn 19 = .ok (.isub, 1) := by decide +kernel
theorem dX9_fewestTorn_20 : decode cX9_fewestTorn 20 = .ok (.aload_n 1, 1) := by decide +kernel
theorem dX9_fewestTorn_21 : decode cX9_fewestTorn 21 = .ok (.getfield 21, 3) := by decide +kernel
theorem dX9_fewestTorn_24 : decode cX9_fewestTorn 24 = .ok (.invokevirtual 25, 3) := by decide +kernel
theorem dX9_fewestTorn_27 : decode cX9_fewestTorn 27 = .ok (.istore 4, 2) := by decide +kernel
theorem dX9_fewestTorn_29 : decode cX9_fewestTorn 29 = .ok (.iload_n 3, 1) := by decide +kernel
theorem dX9_fewestTorn_30 : decode cX9_fewestTorn 30 = .ok (.iload 4, 2) := by decide +kernel
theorem dX9_fewestTorn_32 : decode cX9_fewestTorn 32 = .ok (.if_icmp .le 5, 3) := by decide +kernel
theorem dX9_fewestTorn_35 : decode cX9_fewestTorn 35 = .ok (.iconst 0, 1) := by decide +kernel
theorem dX9_fewestTorn_36 : decode cX9_fewestTorn 36 = .ok (.ireturn, 1) := by decide +kernel
theorem dX9_fewestTorn_37 : decode cX9_fewestTorn 37 = .ok (.iload_n 3, 1) := by decide +kernel
theorem dX9_fewestTorn_38 : decode cX9_fewestTorn 38 = .ok (.ifCond .gt 5, 3) := by decide +kernel
theorem dX9_fewestTorn_41 : decode cX9_fewestTorn 41 = .ok (.iconst (-1), 1) := by decide +kernel
theorem dX9_fewestTorn_42 : decode cX9_fewestTorn 42 = .ok (.ireturn, 1) := by decide +kernel
theorem dX9_fewestTorn_43 : decode cX9_fewestTorn 43 = .ok (.aload_n 1, 1) := by decide +kernel
theorem dX9_fewestTorn_44 : decode cX9_fewestTorn 44 = .ok (.getfield 21, 3) := by decide +kernel
theorem dX9_fewestTorn_47 : decode cX9_fewestTorn 47 = .ok (.lookupswitch 52 #[(1, 25), (2, 40)], 25) := by decide +kernel
theorem dX9_fewestTorn_72 : decode cX9_fewestTorn 72 = .ok (.aload_n 0, 1) := by decide +kernel
theorem dX9_fewestTorn_73 : decode cX9_fewestTorn 73 = .ok (.aload_n 1, 1) := by decide +kernel
theorem dX9_fewestTorn_74 : decode cX9_fewestTorn 74 = .ok (.iconst 1, 1) := by decide +kernel
theorem dX9_fewestTorn_75 : decode cX9_fewestTorn 75 = .ok (.iload_n 2, 1) := by decide +kernel
theorem dX9_fewestTorn_76 : decode cX9_fewestTorn 76 = .ok (.isub, 1) := by decide +kernel
theorem dX9_fewestTorn_77 : decode cX9_fewestTorn 77 = .ok (.iload 4, 2) := by decide +kernel
theorem dX9_fewestTorn_79 : decode cX9_fewestTorn 79 = .ok (.iload_n 3, 1) := by decide +kernel
theorem dX9_fewestTorn_80 : decode cX9_fewestTorn 80 = .ok (.isub, 1) := by decide +kernel
theorem dX9_fewestTorn_81 : decode cX9_fewestTorn 81 = .ok (.iconst 1, 1) := by decide +kernel
theorem dX9_fewestTorn_82 : decode cX9_fewestTorn 82 = .ok (.iadd, 1) := by decide +kernel
theorem dX9_fewestTorn_83 : decode cX9_fewestTorn 83 = .ok (.invokevirtual 31, 3) := by decide +kernel
theorem dX9_fewestTorn_86 : decode cX9_fewestTorn 86 = .ok (.ireturn, 1) := by decide +kernel
theorem dX9_fewestTorn_87 : decode cX9_fewestTorn 87 = .ok (.aload_n 0, 1) := by decide +kernel
theorem dX9_fewestTorn_88 : decode cX9_fewestTorn 88 = .ok (.aload_n 1, 1) := by decide +kernel
theorem dX9_fewestTorn_89 : decode cX9_fewestTorn 89 = .ok (.iconst 1, 1) := by decide +kernel
theorem dX9_fewestTorn_90 : decode cX9_fewestTorn 90 = .ok (.iload_n 2, 1) := by decide +kernel
theorem dX9_fewestTorn_91 : decode cX9_fewestTorn 91 = .ok (.isub, 1) := by decide +kernel
theorem dX9_fewestTorn_92 : decode cX9_fewestTorn 92 = .ok (.iload_n 3, 1) := by decide +kernel
theorem dX9_fewestTorn_93 : decode cX9_fewestTorn 93 = .ok (.iconst 1, 1) := by decide +kernel
theorem dX9_fewestTorn_94 : decode cX9_fewestTorn 94 = .ok (.isub, 1) := by decide +kernel
theorem dX9_fewestTorn_95 : decode cX9_fewestTorn 95 = .ok (.invokevirtual 35, 3) := by decide +kernel
theorem dX9_fewestTorn_98 : decode cX9_fewestTorn 98 = .ok (.ireturn, 1) := by decide +kernel
theorem dX9_fewestTorn_99 : decode cX9_fewestTorn 99 = .ok (.iload 4, 2) := by decide +kernel
theorem dX9_fewestTorn_101 : decode cX9_fewestTorn 101 = .ok (.iload_n 3, 1) := by decide +kernel
theorem dX9_fewestTorn_102 : decode cX9_fewestTorn 102 = .ok (.isub, 1) := by decide +kernel
theorem dX9_fewestTorn_103 : decode cX9_fewestTorn 103 = .ok (.iconst 1, 1) := by decide +kernel
theorem dX9_fewestTorn_104 : decode cX9_fewestTorn 104 = .ok (.iadd, 1) := by decide +kernel
theorem dX9_fewestTorn_105 : decode cX9_fewestTorn 105 = .ok (.ireturn, 1) := by decide +kernel
theorem dX9_stonesAbove_0 : decode cX9_stonesAbove 0 = .ok (.iconst 0, 1) := by decide +kernel
theorem dX9_stonesAbove_1 : decode cX9_stonesAbove 1 = .ok (.istore 4, 2) := by decide +kernel
theorem dX9_stonesAbove_3 : decode cX9_stonesAbove 3 = .ok (.iconst 0, 1) := by decide +kernel
theorem dX9_stonesAbove_4 : decode cX9_stonesAbove 4 = .ok (.istore 5, 2) := by decide +kernel
theorem dX9_stonesAbove_6 : decode cX9_stonesAbove 6 = .ok (.iload 5, 2) := by decide +kernel
theorem dX9_stonesAbove_8 : decode cX9_stonesAbove 8 = .ok (.aload_n 1, 1) := by decide +kernel
theorem dX9_stonesAbove_9 : decode cX9_stonesAbove 9 = .ok (.getfield 38, 3) := by decide +kernel
theorem dX9_stonesAbove_12 : decode cX9_stonesAbove 12 = .ok (.getfield 42, 3) := by decide +kernel
theorem dX9_stonesAbove_15 : decode cX9_stonesAbove 15 = .ok (.if_icmp .ge 34, 3) := by decide +kernel
theorem dX9_stonesAbove_18 : decode cX9_stonesAbove 18 = .ok (.iload 4, 2) := by decide +kernel
theorem dX9_stonesAbove_20 : decode cX9_stonesAbove 20 = .ok (.iconst 0, 1) := by decide +kernel
theorem dX9_stonesAbove_21 : decode cX9_stonesAbove 21 = .ok (.aload_n 1, 1) := by decide +kernel
theorem dX9_stonesAbove_22 : decode cX9_stonesAbove 22 = .ok (.getfield 15, 3) := by decide +kernel
theorem dX9_stonesAbove_25 : decode cX9_stonesAbove 25 = .ok (.getfield 47, 3) := by decide +kernel
theorem dX9_stonesAbove_28 : decode cX9_stonesAbove 28 = .ok (.iload_n 2, 1) := by decide +kernel
theorem dX9_stonesAbove_29 : decode cX9_stonesAbove 29 = .ok (.iload 5, 2) := by decide +kernel
theorem dX9_stonesAbove_31 : decode cX9_stonesAbove 31 = .ok (.invokestatic 50, 3) := by decide +kernel
theorem dX9_stonesAbove_34 : decode cX9_stonesAbove 34 = .ok (.iaload, 1) := by decide +kernel
theorem dX9_stonesAbove_35 : decode cX9_stonesAbove 35 = .ok (.iload_n 3, 1) := by decide +kernel
theorem dX9_stonesAbove_36 : decode cX9_stonesAbove 36 = .ok (.isub, 1) := by decide +kernel
theorem dX9_stonesAbove_37 : decode cX9_stonesAbove 37 = .ok (.invokestatic 53, 3) := by decide +kernel
theorem dX9_stonesAbove_40 : decode cX9_stonesAbove 40 = .ok (.iadd, 1) := by decide +kernel
theorem dX9_stonesAbove_41 : decode cX9_stonesAbove 41 = .ok (.istore 4, 2) := by decide +kernel
theorem dX9_stonesAbove_43 : decode cX9_stonesAbove 43 = .ok (.iinc 5 1, 3) := by decide +kernel
theorem dX9_stonesAbove_46 : decode cX9_stonesAbove 46 = .ok (.goto (-40), 3) := by decide +kernel
theorem dX9_stonesAbove_49 : decode cX9_stonesAbove 49 = .ok (.iload 4, 2) := by decide +kernel
theorem dX9_stonesAbove_51 : decode cX9_stonesAbove 51 = .ok (.ireturn, 1) := by decide +kernel
