theorem dX11_builds_0 : decode cX11_builds 0 = .ok (.iconst 0, 1) := by decide +kernel
theorem dX11_builds_1 : decode cX11_builds 1 = .ok (.istore_n 1, 1) := by decide +kernel
theorem dX11_builds_2 : decode cX11_builds 2 = .ok (.iload_n 1, 1) := by decide +kernel
theorem dX11_builds_3 : decode cX11_builds 3 = .ok (.bipush 16, 2) := by decide +kernel
theorem dX11_builds_5 : decode cX11_builds 5 = .ok (.if_icmp .ge 16, 3) := by decide +kernel
theorem dX11_builds_8 : decode cX11_builds 8 = .ok (.aload_n 0, 1) := by decide +kernel
theorem dX11_builds_9 : decode cX11_builds 9 = .ok (.getfield 56, 3) := by decide +kernel
theorem dX11_builds_12 : decode cX11_builds 12 = .ok (.iload_n 1, 1) := by decide +kernel
theorem dX11_builds_13 : decode cX11_builds 13 = .ok (.iconst 0, 1) := by decide +kernel
theorem dX11_builds_14 : decode cX11_builds 14 = .ok (.iastore, 1) := by decide +kernel
theorem dX11_builds_15 : decode cX11_builds 15 = .ok (.iinc 1 1, 3) := by decide +kernel
theorem dX11_builds_18 : decode cX11_builds 18 = .ok (.goto (-16), 3) := by decide +kernel
theorem dX11_builds_21 : decode cX11_builds 21 = .ok (.iconst 0, 1) := by decide +kernel
theorem dX11_builds_22 : decode cX11_builds 22 = .ok (.istore_n 1, 1) := by decide +kernel
theorem dX11_builds_23 : decode cX11_builds 23 = .ok (.iload_n 1, 1) := by decide +kernel
theorem dX11_builds_24 : decode cX11_builds 24 = .ok (.iconst 5, 1) := by decide +kernel
theorem dX11_builds_25 : decode cX11_builds 25 = .ok (.if_icmp .ge 39, 3) := by decide +kernel
theorem dX11_builds_28 : decode cX11_builds 28 = .ok (.aload_n 0, 1) := by decide +kernel
theorem dX11_builds_29 : decode cX11_builds 29 = .ok (.getfield 68, 3) := by decide +kernel
theorem dX11_builds_32 : decode cX11_builds 32 = .ok (.iload_n 1, 1) := by decide +kernel
theorem dX11_builds_33 : decode cX11_builds 33 = .ok (.iload_n 1, 1) := by decide +kernel
theorem dX11_builds_34 : decode cX11_builds 34 = .ok (.aload_n 0, 1) := by decide +kernel
theorem dX11_builds_35 : decode cX11_builds 35 = .ok (.getfield 37, 3) := by decide +kernel
theorem dX11_builds_38 : decode cX11_builds 38 = .ok (.iconst 0, 1) := by decide +kernel
theorem dX11_builds_39 : decode cX11_builds 39 = .ok (.iaload, 1) := by decide +kernel
theorem dX11_builds_40 : decode cX11_builds 40 = .ok (.if_icmp .ge 16, 3) := by decide +kernel
theorem dX11_builds_43 : decode cX11_builds 43 = .ok (.aload_n 0, 1) := by decide +kernel
theorem dX11_builds_44 : decode cX11_builds 44 = .ok (.getfield 40, 3) := by decide +kernel
theorem dX11_builds_47 : decode cX11_builds 47 = .ok (.iconst 3, 1) := by decide +kernel
theorem dX11_builds_48 : decode cX11_builds 48 = .ok (.iload_n 1, 1) := by decide +kernel
theorem dX11_builds_49 : decode cX11_builds 49 = .ok (.imul, 1) := by decide +kernel
theorem dX11_builds_50 : decode cX11_builds 50 = .ok (.iconst 2, 1) := by decide +kernel
theorem dX11_builds_51 : decode cX11_builds 51 = .ok (.iadd, 1) := by decide +kernel
theorem dX11_builds_52 : decode cX11_builds 52 = .ok (.iaload, 1) := by decide +kernel
theorem dX11_builds_53 : decode cX11_builds 53 = .ok (.goto 4, 3) := by decide +kernel
theorem dX11_builds_56 : decode cX11_builds 56 = .ok (.iconst 0, 1) := by decide +kernel
theorem dX11_builds_57 : decode cX11_builds 57 = .ok (.iastore, 1) := by decide +kernel
theorem dX11_builds_58 : decode cX11_builds 58 = .ok (.iinc 1 1, 3) := by decide +kernel
theorem dX11_builds_61 : decode cX11_builds 61 = .ok (.goto (-38), 3) := by decide +kernel
theorem dX11_builds_64 : decode cX11_builds 64 = .ok (.aload_n 0, 1) := by decide +kernel
theorem dX11_builds_65 : decode cX11_builds 65 = .ok (.getfield 71, 3) := by decide +kernel
theorem dX11_builds_68 : decode cX11_builds 68 = .ok (.iconst 0, 1) := by decide +kernel
theorem dX11_builds_69 : decode cX11_builds 69 = .ok (.iconst 0, 1) := by decide +kernel
theorem dX11_builds_70 : decode cX11_builds 70 = .ok (.iastore, 1) := by decide +kernel
theorem dX11_builds_71 : decode cX11_builds 71 = .ok (.aload_n 0, 1) := by decide +kernel
theorem dX11_builds_72 : decode cX11_builds 72 = .ok (.getfield 71, 3) := by decide +kernel
theorem dX11_builds_75 : decode cX11_builds 75 = .ok (.iconst 1, 1) := by decide +kernel
theorem dX11_builds_76 : decode cX11_builds 76 = .ok (.iconst 2, 1) := by decide +kernel
theorem dX11_builds_77 : decode cX11_builds 77 = .ok (.iastore, 1) := by decide +kernel
theorem dX11_builds_78 : decode cX11_builds 78 = .ok (.aload_n 0, 1) := by decide +kernel
theorem dX11_builds_79 : decode cX11_builds 79 = .ok (.getfield 71, 3) := by decide +kernel
theorem dX11_builds_82 : decode cX11_builds 82 = .ok (.iconst 2, 1) := by decide +kernel
theorem dX11_builds_83 : decode cX11_builds 83 = .ok (.iconst 0, 1) := by decide +kernel
theorem dX11_builds_84 : decode cX11_builds 84 = .ok (.iastore, 1) := by decide +kernel
theorem dX11_builds_85 : decode cX11_builds 85 = .ok (.iconst 0, 1) := by decide +kernel
theorem dX11_builds_86 : decode cX11_builds 86 = .ok (.istore_n 1, 1) := by decide +kernel
theorem dX11_builds_87 : decode cX11_builds 87 = .ok (.iload_n 1, 1) := by decide +kernel
theorem dX11_builds_88 : decode cX11_builds 88 = .ok (.sipush 200, 3) := by decide +kernel
theorem dX11_builds_91 : decode cX11_builds 91 = .ok (.if_icmp .ge 16, 3) := by decide +kernel
theorem dX11_builds_94 : decode cX11_builds 94 = .ok (.aload_n 0, 1) := by decide +kernel
theorem dX11_builds_95 : decode cX11_builds 95 = .ok (.getfield 77, 3) := by decide +kernel
theorem dX11_builds_98 : decode cX11_builds 98 = .ok (.iload_n 1, 1) := by decide +kernel
theorem dX11_builds_99 : decode cX11_builds 99 = .ok (.iconst 0, 1) := by decide +kernel
theorem dX11_builds_100 : decode cX11_builds 100 = .ok (.iastore, 1) := by decide +kernel
theorem dX11_builds_101 : decode cX11_builds 101 = .ok (.iinc 1 1, 3) := by decide +kernel
theorem dX11_builds_104 : decode cX11_builds 104 = .ok (.goto (-17), 3) := by decide +kernel
theorem dX11_builds_107 : decode cX11_builds 107 = .ok (.return_, 1) := by decide +kernel
theorem dX11_clears_0 : decode cX11_clears 0 = .ok (.aload_n 0, 1) := by decide +kernel
theorem dX11_clears_1 : decode cX11_clears 1 = .ok (.getfield 31, 3) := by decide +kernel
theorem dX11_clears_4 : decode cX11_clears 4 = .ok (.iconst 4, 1) := by decide +kernel
theorem dX11_clears_5 : decode cX11_clears 5 = .ok (.iconst 0, 1) := by decide +kernel
theorem dX11_clears_6 : decode cX11_clears 6 = .ok (.iastore, 1) := by decide +kernel
theorem dX11_clears_7 : decode cX11_clears 7 = .ok (.iconst 0, 1) := by decide +kernel
theorem dX11_clears_8 : decode cX11_clears 8 = .ok (.istore_n 1, 1) := by decide +kernel
theorem dX11_clears_9 : decode cX11_clears 9 = .ok (.iload_n 1, 1) := by decide +kernel
theorem dX11_clears_10 : decode cX11_clears 10 = .ok (.iconst 3, 1) := by decide +kernel
theorem dX11_clears_11 : decode cX11_clears 11 = .ok (.if_icmp .ge 19, 3) := by decide +kernel
theorem dX11_clears_14 : decode cX11_clears 14 = .ok (.aload_n 0, 1) := by decide +kernel
theorem dX11_clears_15 : decode cX11_clears 15 = .ok (.getfield 34, 3) := by decide +kernel
theorem dX11_clears_18 : decode cX11_clears 18 = .ok (.bipush 12, 2) := by decide +kernel
theorem dX11_clears_20 : decode cX11_clears 20 = .ok (.iload_n 1, 1) := by decide +kernel
theorem dX11_clears_21 : decode cX11_clears 21 = .ok (.iadd, 1) := by decide +kernel
theorem dX11_clears_22 : decode cX11_clears 22 = .ok (.iconst 0, 1) := by decide +kernel
theorem dX11_clears_23 : decode cX11_clears 23 = .ok (.iastore, 1) := by decide +kernel
theorem dX11_clears_24 : decode cX11_clears 24 = .ok (.iinc 1 1, 3) := by decide +kernel
theorem dX11_clears_27 : decode cX11_clears 27 = .ok (.goto (-18), 3) := by decide +kernel
theorem dX11_clears_30 : decode cX11_clears 30 = .ok (.aload_n 0, 1) := by decide +kernel
theorem dX11_clears_31 : decode cX11_clears 31 = .ok (.getfield 37, 3) := by decide +kernel
theorem dX11_clears_34 : decode cX11_clears 34 = .ok (.iconst 4, 1) := by decide +kernel
theorem dX11_clears_35 : decode cX11_clears 35 = .ok (.iconst 0, 1) := by decide +kernel
theorem dX11_clears_36 : decode cX11_clears 36 = .ok (.iastore, 1) := by decide +kernel
theorem dX11_clears_37 : decode cX11_clears 37 = .ok (.aload_n 0, 1) := by decide +kernel
theorem dX11_clears_38 : decode cX11_clears 38 = .ok (.getfield 43, 3) := by decide +kernel
theorem dX11_clears_41 : decode cX11_clears 41 = .ok (.iconst 4, 1) := by decide +kernel
theorem dX11_clears_42 : decode cX11_clears 42 = .ok (.iconst 0, 1) := by decide +kernel
theorem dX11_clears_43 : decode cX11_clears 43 = .ok (.iastore, 1) := by decide +kernel
theorem dX11_clears_44 : decode cX11_clears 44 = .ok (.iconst 0, 1) := by decide +kernel
theorem dX11_clears_45 : decode cX11_clears 45 = .ok (.istore_n 1, 1) := by decide +kernel
theorem dX11_clears_46 : decode cX11_clears 46 = .ok (.iload_n 1, 1) := by decide +kernel
theorem dX11_clears_47 : decode cX11_clears 47 = .ok (.iconst 3, 1) := by decide +kernel
theorem dX11_clears_48 : decode cX11_clears 48 = .ok (.if_icmp .ge 19, 3) := by decide +kernel
theorem dX11_clears_51 : decode cX11_clears 51 = .ok (.aload_n 0, 1) := by decide +kernel
theorem dX11_clears_52 : decode cX11_clears 52 = .ok (.getfield 49, 3) := by decide +kernel
theorem dX11_clears_55 : decode cX11_clears 55 = .ok (.bipush 12, 2) := by decide +kernel
theorem dX11_clears_57 : decode cX11_clears 57 = .ok (.iload_n 1, 1) := by decide +kernel
theorem dX11_clears_58 : decode cX11_clears 58 = .ok (.iadd, 1) := by decide +kernel
theorem dX11_clears_59 : decode cX11_clears 59 = .ok (.iconst 0, 1) := by decide +kernel
theorem dX11_clears_60 : decode cX11_clears 60 = .ok (.iastore, 1) := by decide +kernel
theorem dX11_clears_61 : decode cX11_clears 61 = .ok (.iinc 1 1, 3) := by decide +kernel
theorem dX11_clears_64 : decode cX11_clears 64 = .ok (.goto (-18), 3) := by decide +kernel
theorem dX11_clears_67 : decode cX11_clears 67 = .ok (.iconst 0, 1) := by decide +kernel
theorem dX11_clears_68 : decode cX11_clears 68 = .ok (.istore_n 1, 1) := by decide +kernel
theorem dX11_clears_69 : decode cX11_clears 69 = .ok (.iload_n 1, 1) := by decide +kernel
theorem dX11_clears_70 : decode cX11_clears 70 = .ok (.iconst 3, 1) := by decide +kernel
theorem dX11_clears_71 : decode cX11_clears 71 = .ok (.if_icmp .ge 19, 3) := by decide +kernel
theorem dX11_clears_74 : decode cX11_clears 74 = .ok (.aload_n 0, 1) := by decide +kernel
theorem dX11_clears_75 : decode cX11_clears 75 = .ok (.getfield 52, 3) := by decide +kernel
theorem dX11_clears_78 : decode cX11_clears 78 = .ok (.bipush 12, 2) := by decide +kernel
theorem dX11_clears_80 : decode cX11_clears 80 = .ok (.iload_n 1, 1) := by decide +kernel
theorem dX11_clears_81 : decode cX11_clears 81 = .ok (.iadd, 1) := by decide +kernel
theorem dX11_clears_82 : decode cX11_clears 82 = .ok (.iconst 0, 1) := by decide +kernel
theorem dX11_clears_83 : decode cX11_clears 83 = .ok (.bastore, 1) := by decide +kernel
theorem dX11_clears_84 : decode cX11_clears 84 = .ok (.iinc 1 1, 3) := by decide +kernel
theorem dX11_clears_87 : decode cX11_clears 87 = .ok (.goto (-18), 3) := by decide +kernel
theorem dX11_clears_90 : decode cX11_clears 90 = .ok (.return_, 1) := by decide +kernel
theorem dX11_copyRow_0 : decode cX11_copyRow 0 = .ok (.iconst 0, 1) := by decide +kernel
theorem dX11_copyRow_1 : decode cX11_copyRow 1 = .ok (.istore 4, 2) := by decide +kernel
theorem dX11_copyRow_3 : decode cX11_copyRow 3 = .ok (.iload 4, 2) := by decide +kernel
theorem dX11_copyRow_5 : decode cX11_copyRow 5 = .ok (.iload_n 1, 1) := by decide +kernel
theorem dX11_copyRow_6 : decode cX11_copyRow 6 = .ok (.if_icmp .ge 25, 3) := by decide +kernel
theorem dX11_copyRow_9 : decode cX11_copyRow 9 = .ok (.aload_n 0, 1) := by decide +kernel
theorem dX11_copyRow_10 : decode cX11_copyRow 10 = .ok (.iload_n 1, 1) := by decide +kernel
theorem dX11_copyRow_11 : decode cX11_copyRow 11 = .ok (.iload_n 3, 1) := by decide +kernel
theorem dX11_copyRow_12 : decode cX11_copyRow 12 = .ok (.imul, 1) := by decide +kernel
theorem dX11_copyRow_13 : decode cX11_copyRow 13 = .ok (.iload 4, 2) := by decide +kernel
theorem dX11_copyRow_15 : decode cX11_copyRow 15 = .ok (.iadd, 1) := by decide +kernel
theorem dX11_copyRow_16 : decode cX11_copyRow 16 = .ok (.aload_n 0, 1) := by decide +kernel
theorem dX11_copyRow_17 : decode cX11_copyRow 17 = .ok (.iload_n 1, 1) := by decide +kernel
theorem dX11_copyRow_18 : decode cX11_copyRow 18 = .ok (.iload_n 2, 1) := by decide +kernel
theorem dX11_copyRow_19 : decode cX11_copyRow 19 = .ok (.imul, 1) := by decide +kernel
theorem dX11_copyRow_20 : decode cX11_copyRow 20 = .ok (.iload 4, 2) := by decide +kernel
theorem dX11_copyRow_22 : decode cX11_copyRow 22 = .ok (.iadd, 1) := by decide +kernel
theorem dX11_copyRow_23 : decode cX11_copyRow 23 = .ok (.iaload, 1) := by decide +kernel
theorem dX11_copyRow_24 : decode cX11_copyRow 24 = .ok (.iastore, 1) := by decide +kernel
theorem dX11_copyRow_25 : decode cX11_copyRow 25 = .ok (.iinc 4 1, 3) := by decide +kernel
theorem dX11_copyRow_28 : decode cX11_copyRow 28 = .ok (.goto (-25), 3) := by decide +kernel
theorem dX11_copyRow_31 : decode cX11_copyRow 31 = .ok (.return_, 1) := by decide +kernel
theorem dX11_copyTown_0 : decode cX11_copyTown 0 = .ok (.aload_n 0, 1) := by decide +kernel
theorem dX11_copyTown_1 : decode cX11_copyTown 1 = .ok (.getfield 31, 3) := by decide +kernel
theorem dX11_copyTown_4 : decode cX11_copyTown 4 = .ok (.iconst 1, 1) := by decide +kernel
theorem dX11_copyTown_5 : decode cX11_copyTown 5 = .ok (.iload_n 1, 1) := by decide +kernel
theorem dX11_copyTown_6 : decode cX11_copyTown 6 = .ok (.iload_n 2, 1) := by decide +kernel
theorem dX11_copyTown_7 : decode cX11_copyTown 7 = .ok (.invokestatic 276, 3) := by decide +kernel
theorem dX11_copyTown_10 : decode cX11_copyTown 10 = .ok (.aload_n 0, 1) := by decide +kernel
theorem dX11_copyTown_11 : decode cX11_copyTown 11 = .ok (.getfield 34, 3) := by decide +kernel
theorem dX11_copyTown_14 : decode cX11_copyTown 14 = .ok (.iconst 3, 1) := by decide +kernel
theorem dX11_copyTown_15 : decode cX11_copyTown 15 = .ok (.iload_n 1, 1) := by decide +kernel
theorem dX11_copyTown_16 : decode cX11_copyTown 16 = .ok (.iload_n 2, 1) := by decide +kernel
theorem dX11_copyTown_17 : decode cX11_copyTown 17 = .ok (.invokestatic 276, 3) := by decide +kernel
theorem dX11_copyTown_20 : decode cX11_copyTown 20 = .ok (.aload_n 0, 1) := by decide +kernel
theorem dX11_copyTown_21 : decode cX11_copyTown 21 = .ok (.getfield 37, 3) := by decide +kernel
theorem dX11_copyTown_24 : decode cX11_copyTown 24 = .ok (.iconst 1, 1) := by decide +kernel
theorem dX11_copyTown_25 : decode cX11_copyTown 25 = .ok (.iload_n 1, 1) := by decide +kernel
theorem dX11_copyTown_26 : decode cX11_copyTown 26 = .ok (.iload_n 2, 1) := by decide +kernel
theorem dX11_copyTown_27 : decode cX11_copyTown 27 = .ok (.invokestatic 276, 3) := by decide +kernel
theorem dX11_copyTown_30 : decode cX11_copyTown 30 = .ok (.aload_n 0, 1) := by decide +kernel
theorem dX11_copyTown_31 : decode cX11_copyTown 31 = .ok (.getfield 40, 3) := by decide +kernel
theorem dX11_copyTown_34 : decode cX11_copyTown 34 = .ok (.bipush 15, 2) := by decide +kernel
theorem dX11_copyTown_36 : decode cX11_copyTown 36 = .ok (.iload_n 1, 1) := by decide +kernel
theorem dX11_copyTown_37 : decode cX11_copyTown 37 = .ok (.iload_n 2, 1) := by decide +kernel
theorem dX11_copyTown_38 : decode cX11_copyTown 38 = .ok (.invokestatic 276, 3) := by decide +kernel
theorem dX11_copyTown_41 : decode cX11_copyTown 41 = .ok (.aload_n 0, 1) := by decide +kernel
theorem dX11_copyTown_42 : decode cX11_copyTown 42 = .ok (.getfield 43, 3) := by decide +kernel
theorem dX11_copyTown_45 : decode cX11_copyTown 45 = .ok (.iconst 1, 1) := by decide +kernel
theorem dX11_copyTown_46 : decode cX11_copyTown 46 = .ok (.iload_n 1, 1) := by decide +kernel
theorem dX11_copyTown_47 : decode cX11_copyTown 47 = .ok (.iload_n 2, 1) := by decide +kernel
theorem dX11_copyTown_48 : decode cX11_copyTown 48 = .ok (.invokestatic 276, 3) := by decide +kernel
theorem dX11_copyTown_51 : decode cX11_copyTown 51 = .ok (.aload_n 0, 1) := by decide +kernel
theorem dX11_copyTown_52 : decode cX11_copyTown 52 = .ok (.getfield 46, 3) := by decide +kernel
theorem dX11_copyTown_55 : decode cX11_copyTown 55 = .ok (.bipush 80, 2) := by decide +kernel
theorem dX11_copyTown_57 : decode cX11_copyTown 57 = .ok (.iload_n 1, 1) := by decide +kernel
theorem dX11_copyTown_58 : decode cX11_copyTown 58 = .ok (.iload_n 2, 1) := by decide +kernel
theorem dX11_copyTown_59 : decode cX11_copyTown 59 = .ok (.invokestatic 276, 3) := by decide +kernel
theorem dX11_copyTown_62 : decode cX11_copyTown 62 = .ok (.aload_n 0, 1) := by decide +kernel
theorem dX11_copyTown_63 : decode cX11_copyTown 63 = .ok (.getfield 49, 3) := by decide +kernel
theorem dX11_copyTown_66 : decode cX11_copyTown 66 = .ok (.iconst 3, 1) := by decide +kernel
theorem dX11_copyTown_67 : decode cX11_copyTown 67 = .ok (.iload_n 1, 1) := by decide +kernel
theorem dX11_copyTown_68 : decode cX11_copyTown 68 = .ok (.iload_n 2, 1) := by decide +kernel
theorem dX11_copyTown_69 : decode cX11_copyTown 69 = .ok (.invokestatic 276, 3) := by decide +kernel
theorem dX11_copyTown_72 : decode cX11_copyTown 72 = .ok (.return_, 1) := by decide +kernel
theorem dX11_copyWall_0 : decode cX11_copyWall 0 = .ok (.aload_n 0, 1) := by decide +kernel
theorem dX11_copyWall_1 : decode cX11_copyWall 1 = .ok (.getfield 56, 3) := by decide +kernel
theorem dX11_copyWall_4 : decode cX11_copyWall 4 = .ok (.bipush 16, 2) := by decide +kernel
theorem dX11_copyWall_6 : decode cX11_copyWall 6 = .ok (.iload_n 1, 1) := by decide +kernel
theorem dX11_copyWall_7 : decode cX11_copyWall 7 = .ok (.iload_n 2, 1) := by decide +kernel
theorem dX11_copyWall_8 : decode cX11_copyWall 8 = .ok (.invokestatic 276, 3) := by decide +kernel
theorem dX11_copyWall_11 : decode cX11_copyWall 11 = .ok (.aload_n 0, 1) := by decide +kernel
theorem dX11_copyWall_12 : decode cX11_copyWall 12 = .ok (.getfield 59, 3) := by decide +kernel
theorem dX11_copyWall_15 : decode cX11_copyWall 15 = .ok (.sipush 192, 3) := by decide +kernel
theorem dX11_copyWall_18 : decode cX11_copyWall 18 = .ok (.iload_n 1, 1) := by decide +kernel
theorem dX11_copyWall_19 : decode cX11_copyWall 19 = .ok (.iload_n 2, 1) := by decide +kernel
theorem dX11_copyWall_20 : decode cX11_copyWall 20 = .ok (.invokestatic 276, 3) := by decide +kernel
theorem dX11_copyWall_23 : decode cX11_copyWall 23 = .ok (.aload_n 0, 1) := by decide +kernel
theorem dX11_copyWall_24 : decode cX11_copyWall 24 = .ok (.getfield 62, 3) := by decide +kernel
theorem dX11_copyWall_27 : decode cX11_copyWall 27 = .ok (.sipush 192, 3) := by decide +kernel
theorem dX11_copyWall_30 : decode cX11_copyWall 30 = .ok (.iload_n 1, 1) := by decide +kernel
theorem dX11_copyWall_31 : decode cX11_copyWall 31 = .ok (.iload_n 2, 1) := by decide +kernel
theorem dX11_copyWall_32 : decode cX11_copyWall 32 = .ok (.invokestatic 276, 3) := by decide +kernel
theorem dX11_copyWall_35 : decode cX11_copyWall 35 = .ok (.aload_n 0, 1) := by decide +kernel
theorem dX11_copyWall_36 : decode cX11_copyWall 36 = .ok (.getfield 65, 3) := by decide +kernel
theorem dX11_copyWall_39 : decode cX11_copyWall 39 = .ok (.sipush 192, 3) := by decide +kernel
theorem dX11_copyWall_42 : decode cX11_copyWall 42 = .ok (.iload_n 1, 1) := by decide +kernel
theorem dX11_copyWall_43 : decode cX11_copyWall 43 = .ok (.iload_n 2, 1) := by decide +kernel
theorem dX11_copyWall_44 : decode cX11_copyWall 44 = .ok (.invokestatic 276, 3) := by decide +kernel
theorem dX11_copyWall_47 : decode cX11_copyWall 47 = .ok (.aload_n 0, 1) := by decide +kernel
theorem dX11_copyWall_48 : decode cX11_copyWall 48 = .ok (.getfield 68, 3) := by decide +kernel
theorem dX11_copyWall_51 : decode cX11_copyWall 51 = .ok (.iconst 5, 1) := by decide +kernel
theorem dX11_copyWall_52 : decode cX11_copyWall 52 = .ok (.iload_n 1, 1) := by decide +kernel
theorem dX11_copyWall_53 : decode cX11_copyWall 53 = .ok (.iload_n 2, 1) := by decide +kernel
theorem dX11_copyWall_54 : decode cX11_copyWall 54 = .ok (.invokestatic 276, 3) := by decide +kernel
theorem dX11_copyWall_57 : decode cX11_copyWall 57 = .ok (.aload_n 0, 1) := by decide +kernel
theorem dX11_copyWall_58 : decode cX11_copyWall 58 = .ok (.getfield 71, 3) := by decide +kernel
theorem dX11_copyWall_61 : decode cX11_copyWall 61 = .ok (.iconst 3, 1) := by decide +kernel
theorem dX11_copyWall_62 : decode cX11_copyWall 62 = .ok (.iload_n 1, 1) := by decide +kernel
theorem dX11_copyWall_63 : decode cX11_copyWall 63 = .ok (.iload_n 2, 1) := by decide +kernel
theorem dX11_copyWall_64 : decode cX11_copyWall 64 = .ok (.invokestatic 276, 3) := by decide +kernel
theorem dX11_copyWall_67 : decode cX11_copyWall 67 = .ok (.aload_n 0, 1) := by decide +kernel
theorem dX11_copyWall_68 : decode cX11_copyWall 68 = .ok (.getfield 74, 3) := by decide +kernel
theorem dX11_copyWall_71 : decode cX11_copyWall 71 = .ok (.bipush 100, 2) := by decide +kernel
theorem dX11_copyWall_73 : decode cX11_copyWall 73 = .ok (.iload_n 1, 1) := by decide +kernel
theorem dX11_copyWall_74 : decode cX11_copyWall 74 = .ok (.iload_n 2, 1) := by decide +kernel
theorem dX11_copyWall_75 : decode cX11_copyWall 75 = .ok (.invokestatic 276, 3) := by decide +kernel
theorem dX11_copyWall_78 : decode cX11_copyWall 78 = .ok (.aload_n 0, 1) := by decide +kernel
theorem dX11_copyWall_79 : decode cX11_copyWall 79 = .ok (.getfield 77, 3) := by decide +kernel
theorem dX11_copyWall_82 : decode cX11_copyWall 82 = .ok (.sipush 200, 3) := by decide +kernel
theorem dX11_copyWall_85 : decode cX11_copyWall 85 = .ok (.iload_n 1, 1) := by decide +kernel
theorem dX11_copyWall_86 : decode cX11_copyWall 86 = .ok (.iload_n 2, 1) := by decide +kernel
theorem dX11_copyWall_87 : decode cX11_copyWall 87 = .ok (.invokestatic 276, 3) := by decide +kernel
theorem dX11_copyWall_90 : decode cX11_copyWall 90 = .ok (.return_, 1) := by decide +kernel
