theorem dX11_back_0 : decode cX11_back 0 = .ok (.aload_n 0, 1) := by decide +kernel
theorem dX11_back_1 : decode cX11_back 1 = .ok (.iconst 0, 1) := by decide +kernel
theorem dX11_back_2 : decode cX11_back 2 = .ok (.putfield 99, 3) := by decide +kernel
theorem dX11_back_5 : decode cX11_back 5 = .ok (.iload_n 1, 1) := by decide +kernel
theorem dX11_back_6 : decode cX11_back 6 = .ok (.i2l, 1) := by decide +kernel
theorem dX11_back_7 : decode cX11_back 7 = .ok (.lconst 0, 1) := by decide +kernel
theorem dX11_back_8 : decode cX11_back 8 = .ok (.ldc2_w 346, 3) := by decide +kernel
theorem dX11_back_11 : decode cX11_back 11 = .ok (.invokestatic 104, 3) := by decide +kernel
theorem dX11_back_14 : decode cX11_back 14 = .ok (.ifCond .ne 6, 3) := by decide +kernel
theorem dX11_back_17 : decode cX11_back 17 = .ok (.bipush (-2), 2) := by decide +kernel
theorem dX11_back_19 : decode cX11_back 19 = .ok (.ireturn, 1) := by decide +kernel
theorem dX11_back_20 : decode cX11_back 20 = .ok (.aload_n 0, 1) := by decide +kernel
theorem dX11_back_21 : decode cX11_back 21 = .ok (.getfield 80, 3) := by decide +kernel
theorem dX11_back_24 : decode cX11_back 24 = .ok (.iload_n 1, 1) := by decide +kernel
theorem dX11_back_25 : decode cX11_back 25 = .ok (.baload, 1) := by decide +kernel
theorem dX11_back_26 : decode cX11_back 26 = .ok (.ifCond .ne 6, 3) := by decide +kernel
theorem dX11_back_29 : decode cX11_back 29 = .ok (.bipush (-6), 2) := by decide +kernel
theorem dX11_back_31 : decode cX11_back 31 = .ok (.ireturn, 1) := by decide +kernel
theorem dX11_begins_0 : decode cX11_begins 0 = .ok (.aload_n 0, 1) := by decide +kernel
theorem dX11_begins_1 : decode cX11_begins 1 = .ok (.iconst 0, 1) := by decide +kernel
theorem dX11_begins_2 : decode cX11_begins 2 = .ok (.putfield 151, 3) := by decide +kernel
theorem dX11_begins_5 : decode cX11_begins 5 = .ok (.aload_n 0, 1) := by decide +kernel
theorem dX11_begins_6 : decode cX11_begins 6 = .ok (.iconst (-1), 1) := by decide +kernel
theorem dX11_begins_7 : decode cX11_begins 7 = .ok (.putfield 154, 3) := by decide +kernel
theorem dX11_begins_10 : decode cX11_begins 10 = .ok (.aload_n 0, 1) := by decide +kernel
theorem dX11_begins_11 : decode cX11_begins 11 = .ok (.iconst 0, 1) := by decide +kernel
theorem dX11_begins_12 : decode cX11_begins 12 = .ok (.putfield 123, 3) := by decide +kernel
theorem dX11_begins_15 : decode cX11_begins 15 = .ok (.aload_n 0, 1) := by decide +kernel
theorem dX11_begins_16 : decode cX11_begins 16 = .ok (.invokevirtual 161, 3) := by decide +kernel
theorem dX11_begins_19 : decode cX11_begins 19 = .ok (.return_, 1) := by decide +kernel
theorem dX11_bribe_0 : decode cX11_bribe 0 = .ok (.aload_n 0, 1) := by decide +kernel
theorem dX11_bribe_1 : decode cX11_bribe 1 = .ok (.iconst 0, 1) := by decide +kernel
theorem dX11_bribe_2 : decode cX11_bribe 2 = .ok (.putfield 99, 3) := by decide +kernel
theorem dX11_bribe_5 : decode cX11_bribe 5 = .ok (.aload_n 0, 1) := by decide +kernel
theorem dX11_bribe_6 : decode cX11_bribe 6 = .ok (.invokevirtual 316, 3) := by decide +kernel
theorem dX11_bribe_9 : decode cX11_bribe 9 = .ok (.ifCond .eq 10, 3) := by decide +kernel
theorem dX11_bribe_19 : decode cX11_bribe 19 = .ok (.bipush (-2), 2) := by decide +kernel
theorem dX11_bribe_21 : decode cX11_bribe 21 = .ok (.ireturn, 1) := by decide +kernel
theorem dX11_cheap_0 : decode cX11_cheap 0 = .ok (.aload_n 0, 1) := by decide +kernel
theorem dX11_cheap_1 : decode cX11_cheap 1 = .ok (.iconst 0, 1) := by decide +kernel
theorem dX11_cheap_2 : decode cX11_cheap 2 = .ok (.putfield 99, 3) := by decide +kernel
theorem dX11_cheap_5 : decode cX11_cheap 5 = .ok (.aload_n 0, 1) := by decide +kernel
theorem dX11_cheap_6 : decode cX11_cheap 6 = .ok (.iload_n 1, 1) := by decide +kernel
theorem dX11_cheap_7 : decode cX11_cheap 7 = .ok (.iconst 0, 1) := by decide +kernel
theorem dX11_cheap_8 : decode cX11_cheap 8 = .ok (.invokevirtual 396, 3) := by decide +kernel
theorem dX11_cheap_11 : decode cX11_cheap 11 = .ok (.istore_n 2, 1) := by decide +kernel
theorem dX11_cheap_12 : decode cX11_cheap 12 = .ok (.iload_n 2, 1) := by decide +kernel
theorem dX11_cheap_13 : decode cX11_cheap 13 = .ok (.ifCond .eq 5, 3) := by decide +kernel
theorem dX11_cheap_16 : decode cX11_cheap 16 = .ok (.iload_n 2, 1) := by decide +kernel
theorem dX11_cheap_17 : decode cX11_cheap 17 = .ok (.ireturn, 1) := by decide +kernel
theorem dX11_clears_0 : decode cX11_clears 0 = .ok (.aload_n 0, 1) := by decide +kernel
theorem dX11_clears_1 : decode cX11_clears 1 = .ok (.getfield 31, 3) := by decide +kernel
theorem dX11_clears_4 : decode cX11_clears 4 = .ok (.iconst 4, 1) := by decide +kernel
theorem dX11_clears_5 : decode cX11_clears 5 = .ok (.iconst 0, 1) := by decide +kernel
theorem dX11_clears_6 : decode cX11_clears 6 = .ok (.iastore, 1) := by decide +kernel
theorem dX11_clears_7 : decode cX11_clears 7 = .ok (.iconst 0, 1) := by decide +kernel
theorem dX11_clears_8 : decode cX11_clears 8 = .ok (.istore_n 1, 1) := by decide +kernel
theorem dX11_clears_9 : decode cX11_clears 9 = .ok (.iload_n 1, 1) := by decide +kernel
theorem dX11_clears_10 : decode cX11_clears 10 = .ok (.iconst 3, 1) := by decide +kernel
theorem dX11_clears_11 : decode cX11_clears 11 = .ok (.if_icmp .ge 19, 3) := by decide +kernel
theorem dX11_clears_14 : decode cX11_clears 14 = .ok (.aload_n 0, 1) := by decide +kernel
theorem dX11_clears_15 : decode cX11_clears 15 = .ok (.getfield 34, 3) := by decide +kernel
theorem dX11_clears_18 : decode cX11_clears 18 = .ok (.bipush 12, 2) := by decide +kernel
theorem dX11_clears_20 : decode cX11_clears 20 = .ok (.iload_n 1, 1) := by decide +kernel
theorem dX11_clears_21 : decode cX11_clears 21 = .ok (.iadd, 1) := by decide +kernel
theorem dX11_clears_22 : decode cX11_clears 22 = .ok (.iconst 0, 1) := by decide +kernel
theorem dX11_clears_23 : decode cX11_clears 23 = .ok (.iastore, 1) := by decide +kernel
theorem dX11_clears_24 : decode cX11_clears 24 = .ok (.iinc 1 1, 3) := by decide +kernel
theorem dX11_clears_27 : decode cX11_clears 27 = .ok (.goto (-18), 3) := by decide +kernel
theorem dX11_clears_30 : decode cX11_clears 30 = .ok (.aload_n 0, 1) := by decide +kernel
theorem dX11_clears_31 : decode cX11_clears 31 = .ok (.getfield 37, 3) := by decide +kernel
theorem dX11_clears_34 : decode cX11_clears 34 = .ok (.iconst 4, 1) := by decide +kernel
theorem dX11_clears_35 : decode cX11_clears 35 = .ok (.iconst 0, 1) := by decide +kernel
theorem dX11_clears_36 : decode cX11_clears 36 = .ok (.iastore, 1) := by decide +kernel
theorem dX11_clears_37 : decode cX11_clears 37 = .ok (.aload_n 0, 1) := by decide +kernel
theorem dX11_clears_38 : decode cX11_clears 38 = .ok (.getfield 43, 3) := by decide +kernel
theorem dX11_clears_41 : decode cX11_clears 41 = .ok (.iconst 4, 1) := by decide +kernel
theorem dX11_clears_42 : decode cX11_clears 42 = .ok (.iconst 0, 1) := by decide +kernel
theorem dX11_clears_43 : decode cX11_clears 43 = .ok (.iastore, 1) := by decide +kernel
theorem dX11_clears_44 : decode cX11_clears 44 = .ok (.iconst 0, 1) := by decide +kernel
theorem dX11_clears_45 : decode cX11_clears 45 = .ok (.istore_n 1, 1) := by decide +kernel
theorem dX11_clears_46 : decode cX11_clears 46 = .ok (.iload_n 1, 1) := by decide +kernel
theorem dX11_clears_47 : decode cX11_clears 47 = .ok (.iconst 3, 1) := by decide +kernel
theorem dX11_clears_48 : decode cX11_clears 48 = .ok (.if_icmp .ge 19, 3) := by decide +kernel
theorem dX11_clears_51 : decode cX11_clears 51 = .ok (.aload_n 0, 1) := by decide +kernel
theorem dX11_clears_52 : decode cX11_clears 52 = .ok (.getfield 49, 3) := by decide +kernel
theorem dX11_clears_55 : decode cX11_clears 55 = .ok (.bipush 12, 2) := by decide +kernel
theorem dX11_clears_57 : decode cX11_clears 57 = .ok (.iload_n 1, 1) := by decide +kernel
theorem dX11_clears_58 : decode cX11_clears 58 = .ok (.iadd, 1) := by decide +kernel
theorem dX11_clears_59 : decode cX11_clears 59 = .ok (.iconst 0, 1) := by decide +kernel
theorem dX11_clears_60 : decode cX11_clears 60 = .ok (.iastore, 1) := by decide +kernel
theorem dX11_clears_61 : decode cX11_clears 61 = .ok (.iinc 1 1, 3) := by decide +kernel
theorem dX11_clears_64 : decode cX11_clears 64 = .ok (.goto (-18), 3) := by decide +kernel
theorem dX11_clears_67 : decode cX11_clears 67 = .ok (.iconst 0, 1) := by decide +kernel
theorem dX11_clears_68 : decode cX11_clears 68 = .ok (.istore_n 1, 1) := by decide +kernel
theorem dX11_clears_69 : decode cX11_clears 69 = .ok (.iload_n 1, 1) := by decide +kernel
theorem dX11_clears_70 : decode cX11_clears 70 = .ok (.iconst 3, 1) := by decide +kernel
theorem dX11_clears_71 : decode cX11_clears 71 = .ok (.if_icmp .ge 19, 3) := by decide +kernel
theorem dX11_clears_74 : decode cX11_clears 74 = .ok (.aload_n 0, 1) := by decide +kernel
theorem dX11_clears_75 : decode cX11_clears 75 = .ok (.getfield 52, 3) := by decide +kernel
theorem dX11_clears_78 : decode cX11_clears 78 = .ok (.bipush 12, 2) := by decide +kernel
theorem dX11_clears_80 : decode cX11_clears 80 = .ok (.iload_n 1, 1) := by decide +kernel
theorem dX11_clears_81 : decode cX11_clears 81 = .ok (.iadd, 1) := by decide +kernel
theorem dX11_clears_82 : decode cX11_clears 82 = .ok (.iconst 0, 1) := by decide +kernel
theorem dX11_clears_83 : decode cX11_clears 83 = .ok (.bastore, 1) := by decide +kernel
theorem dX11_clears_84 : decode cX11_clears 84 = .ok (.iinc 1 1, 3) := by decide +kernel
theorem dX11_clears_87 : decode cX11_clears 87 = .ok (.goto (-18), 3) := by decide +kernel
theorem dX11_clears_90 : decode cX11_clears 90 = .ok (.return_, 1) := by decide +kernel
theorem dX11_copyTown_0 : decode cX11_copyTown 0 = .ok (.aload_n 0, 1) := by decide +kernel
theorem dX11_copyTown_1 : decode cX11_copyTown 1 = .ok (.getfield 31, 3) := by decide +kernel
theorem dX11_copyTown_4 : decode cX11_copyTown 4 = .ok (.iconst 1, 1) := by decide +kernel
theorem dX11_copyTown_5 : decode cX11_copyTown 5 = .ok (.iload_n 1, 1) := by decide +kernel
theorem dX11_copyTown_6 : decode cX11_copyTown 6 = .ok (.iload_n 2, 1) := by decide +kernel
theorem dX11_copyTown_7 : decode cX11_copyTown 7 = .ok (.invokestatic 276, 3) := by decide +kernel
theorem dX11_copyTown_10 : decode cX11_copyTown 10 = .ok (.aload_n 0, 1) := by decide +kernel
theorem dX11_copyTown_11 : decode cX11_copyTown 11 = .ok (.getfield 34, 3) := by decide +kernel
theorem dX11_copyTown_14 : decode cX11_copyTown 14 = .ok (.iconst 3, 1) := by decide +kernel
theorem dX11_copyTown_15 : decode cX11_copyTown 15 = .ok (.iload_n 1, 1) := by decide +kernel
theorem dX11_copyTown_16 : decode cX11_copyTown 16 = .ok (.iload_n 2, 1) := by decide +kernel
theorem dX11_copyTown_17 : decode cX11_copyTown 17 = .ok (.invokestatic 276, 3) := by decide +kernel
theorem dX11_copyTown_20 : decode cX11_copyTown 20 = .ok (.aload_n 0, 1) := by decide +kernel
theorem dX11_copyTown_21 : decode cX11_copyTown 21 = .ok (.getfield 37, 3) := by decide +kernel
theorem dX11_copyTown_24 : decode cX11_copyTown 24 = .ok (.iconst 1, 1) := by decide +kernel
theorem dX11_copyTown_25 : decode cX11_copyTown 25 = .ok (.iload_n 1, 1) := by decide +kernel
theorem dX11_copyTown_26 : decode cX11_copyTown 26 = .ok (.iload_n 2, 1) := by decide +kernel
theorem dX11_copyTown_27 : decode cX11_copyTown 27 = .ok (.invokestatic 276, 3) := by decide +kernel
theorem dX11_copyTown_30 : decode cX11_copyTown 30 = .ok (.aload_n 0, 1) := by decide +kernel
theorem dX11_copyTown_31 : decode cX11_copyTown 31 = .ok (.getfield 40, 3) := by decide +kernel
theorem dX11_copyTown_34 : decode cX11_copyTown 34 = .ok (.bipush 15, 2) := by decide +kernel
theorem dX11_copyTown_36 : decode cX11_copyTown 36 = .ok (.iload_n 1, 1) := by decide +kernel
theorem dX11_copyTown_37 : decode cX11_copyTown 37 = .ok (.iload_n 2, 1) := by decide +kernel
theorem dX11_copyTown_38 : decode cX11_copyTown 38 = .ok (.invokestatic 276, 3) := by decide +kernel
theorem dX11_copyTown_41 : decode cX11_copyTown 41 = .ok (.aload_n 0, 1) := by decide +kernel
theorem dX11_copyTown_42 : decode cX11_copyTown 42 = .ok (.getfield 43, 3) := by decide +kernel
theorem dX11_copyTown_45 : decode cX11_copyTown 45 = .ok (.iconst 1, 1) := by decide +kernel
theorem dX11_copyTown_46 : decode cX11_copyTown 46 = .ok (.iload_n 1, 1) := by decide +kernel
theorem dX11_copyTown_47 : decode cX11_copyTown 47 = .ok (.iload_n 2, 1) := by decide +kernel
theorem dX11_copyTown_48 : decode cX11_copyTown 48 = .ok (.invokestatic 276, 3) := by decide +kernel
theorem dX11_copyTown_51 : decode cX11_copyTown 51 = .ok (.aload_n 0, 1) := by decide +kernel
theorem dX11_copyTown_52 : decode cX11_copyTown 52 = .ok (.getfield 46, 3) := by decide +kernel
theorem dX11_copyTown_55 : decode cX11_copyTown 55 = .ok (.bipush 80, 2) := by decide +kernel
theorem dX11_copyTown_57 : decode cX11_copyTown 57 = .ok (.iload_n 1, 1) := by decide +kernel
theorem dX11_copyTown_58 : decode cX11_copyTown 58 = .ok (.iload_n 2, 1) := by decide +kernel
theorem dX11_copyTown_59 : decode cX11_copyTown 59 = .ok (.invokestatic 276, 3) := by decide +kernel
theorem dX11_copyTown_62 : decode cX11_copyTown 62 = .ok (.aload_n 0, 1) := by decide +kernel
theorem dX11_copyTown_63 : decode cX11_copyTown 63 = .ok (.getfield 49, 3) := by decide +kernel
theorem dX11_copyTown_66 : decode cX11_copyTown 66 = .ok (.iconst 3, 1) := by decide +kernel
theorem dX11_copyTown_67 : decode cX11_copyTown 67 = .ok (.iload_n 1, 1) := by decide +kernel
theorem dX11_copyTown_68 : decode cX11_copyTown 68 = .ok (.iload_n 2, 1) := by decide +kernel
theorem dX11_copyTown_69 : decode cX11_copyTown 69 = .ok (.invokestatic 276, 3) := by decide +kernel
theorem dX11_copyTown_72 : decode cX11_copyTown 72 = .ok (.return_, 1) := by decide +kernel
theorem dX11_copyWall_0 : decode cX11_copyWall 0 = .ok (.aload_n 0, 1) := by decide +kernel
theorem dX11_copyWall_1 : decode cX11_copyWall 1 = .ok (.getfield 56, 3) := by decide +kernel
theorem dX11_copyWall_4 : decode cX11_copyWall 4 = .ok (.bipush 16, 2) := by decide +kernel
theorem dX11_copyWall_6 : decode cX11_copyWall 6 = .ok (.iload_n 1, 1) := by decide +kernel
theorem dX11_copyWall_7 : decode cX11_copyWall 7 = .ok (.iload_n 2, 1) := by decide +kernel
theorem dX11_copyWall_8 : decode cX11_copyWall 8 = .ok (.invokestatic 276, 3) := by decide +kernel
theorem dX11_copyWall_11 : decode cX11_copyWall 11 = .ok (.aload_n 0, 1) := by decide +kernel
theorem dX11_copyWall_12 : decode cX11_copyWall 12 = .ok (.getfield 59, 3) := by decide +kernel
theorem dX11_copyWall_15 : decode cX11_copyWall 15 = .ok (.sipush 192, 3) := by decide +kernel
theorem dX11_copyWall_18 : decode cX11_copyWall 18 = .ok (.iload_n 1, 1) := by decide +kernel
theorem dX11_copyWall_19 : decode cX11_copyWall 19 = .ok (.iload_n 2, 1) := by decide +kernel
theorem dX11_copyWall_20 : decode cX11_copyWall 20 = .ok (.invokestatic 276, 3) := by decide +kernel
theorem dX11_copyWall_23 : decode cX11_copyWall 23 = .ok (.aload_n 0, 1) := by decide +kernel
theorem dX11_copyWall_24 : decode cX11_copyWall 24 = .ok (.getfield 62, 3) := by decide +kernel
theorem dX11_copyWall_27 : decode cX11_copyWall 27 = .ok (.sipush 192, 3) := by decide +kernel
theorem dX11_copyWall_30 : decode cX11_copyWall 30 = .ok (.iload_n 1, 1) := by decide +kernel
theorem dX11_copyWall_31 : decode cX11_copyWall 31 = .ok (.iload_n 2, 1) := by decide +kernel
theorem dX11_copyWall_32 : decode cX11_copyWall 32 = .ok (.invokestatic 276, 3) := by decide +kernel
theorem dX11_copyWall_35 : decode cX11_copyWall 35 = .ok (.aload_n 0, 1) := by decide +kernel
theorem dX11_copyWall_36 : decode cX11_copyWall 36 = .ok (.getfield 65, 3) := by decide +kernel
theorem dX11_copyWall_39 : decode cX11_copyWall 39 = .ok (.sipush 192, 3) := by decide +kernel
theorem dX11_copyWall_42 : decode cX11_copyWall 42 = .ok (.iload_n 1, 1) := by decide +kernel
theorem dX11_copyWall_43 : decode cX11_copyWall 43 = .ok (.iload_n 2, 1) := by decide +kernel
theorem dX11_copyWall_44 : decode cX11_copyWall 44 = .ok (.invokestatic 276, 3) := by decide +kernel
theorem dX11_copyWall_47 : decode cX11_copyWall 47 = .ok (.aload_n 0, 1) := by decide +kernel
theorem dX11_copyWall_48 : decode cX11_copyWall 48 = .ok (.getfield 68, 3) := by decide +kernel
theorem dX11_copyWall_51 : decode cX11_copyWall 51 = .ok (.iconst 5, 1) := by decide +kernel
theorem dX11_copyWall_52 : decode cX11_copyWall 52 = .ok (.iload_n 1, 1) := by decide +kernel
theorem dX11_copyWall_53 : decode cX11_copyWall 53 = .ok (.iload_n 2, 1) := by decide +kernel
theorem dX11_copyWall_54 : decode cX11_copyWall 54 = .ok (.invokestatic 276, 3) := by decide +kernel
theorem dX11_copyWall_57 : decode cX11_copyWall 57 = .ok (.aload_n 0, 1) := by decide +kernel
theorem dX11_copyWall_58 : decode cX11_copyWall 58 = .ok (.getfield 71, 3) := by decide +kernel
theorem dX11_copyWall_61 : decode cX11_copyWall 61 = .ok (.iconst 3, 1) := by decide +kernel
theorem dX11_copyWall_62 : decode cX11_copyWall 62 = .ok (.iload_n 1, 1) := by decide +kernel
theorem dX11_copyWall_63 : decode cX11_copyWall 63 = .ok (.iload_n 2, 1) := by decide +kernel
theorem dX11_copyWall_64 : decode cX11_copyWall 64 = .ok (.invokestatic 276, 3) := by decide +kernel
theorem dX11_copyWall_67 : decode cX11_copyWall 67 = .ok (.aload_n 0, 1) := by decide +kernel
theorem dX11_copyWall_68 : decode cX11_copyWall 68 = .ok (.getfield 74, 3) := by decide +kernel
theorem dX11_copyWall_71 : decode cX11_copyWall 71 = .ok (.bipush 100, 2) := by decide +kernel
theorem dX11_copyWall_73 : decode cX11_copyWall 73 = .ok (.iload_n 1, 1) := by decide +kernel
theorem dX11_copyWall_74 : decode cX11_copyWall 74 = .ok (.iload_n 2, 1) := by decide +kernel
theorem dX11_copyWall_75 : decode cX11_copyWall 75 = .ok (.invokestatic 276, 3) := by decide +kernel
theorem dX11_copyWall_78 : decode cX11_copyWall 78 = .ok (.aload_n 0, 1) := by decide +kernel
theorem dX11_copyWall_79 : decode cX11_copyWall 79 = .ok (.getfield 77, 3) := by decide +kernel
theorem dX11_copyWall_82 : decode cX11_copyWall 82 = .ok (.sipush 200, 3) := by decide +kernel
theorem dX11_copyWall_85 : decode cX11_copyWall 85 = .ok (.iload_n 1, 1) := by decide +kernel
theorem dX11_copyWall_86 : decode cX11_copyWall 86 = .ok (.iload_n 2, 1) := by decide +kernel
theorem dX11_copyWall_87 : decode cX11_copyWall 87 = .ok (.invokestatic 276, 3) := by decide +kernel
theorem dX11_copyWall_90 : decode cX11_copyWall 90 = .ok (.return_, 1) := by decide +kernel
theorem dX11_count_0 : decode cX11_count 0 = .ok (.aload_n 0, 1) := by decide +kernel
theorem dX11_count_1 : decode cX11_count 1 = .ok (.iconst 0, 1) := by decide +kernel
theorem dX11_count_2 : decode cX11_count 2 = .ok (.putfield 99, 3) := by decide +kernel
theorem dX11_count_5 : decode cX11_count 5 = .ok (.iconst 0, 1) := by decide +kernel
theorem dX11_count_6 : decode cX11_count 6 = .ok (.istore_n 2, 1) := by decide +kernel
theorem dX11_count_7 : decode cX11_count 7 = .ok (.iload_n 1, 1) := by decide +kernel
theorem dX11_count_8 : decode cX11_count 8 = .ok (.tableswitch 181 0 12 #[68, 75, 82, 89, 96, 103, 110, 117, 124, 129, 136, 143, 148], 68) := by decide +kernel
theorem dX11_count_76 : decode cX11_count 76 = .ok (.aload_n 0, 1) := by decide +kernel
theorem dX11_count_77 : decode cX11_count 77 = .ok (.getfield 34, 3) := by decide +kernel
theorem dX11_count_80 : decode cX11_count 80 = .ok (.iconst 0, 1) := by decide +kernel
theorem dX11_count_81 : decode cX11_count 81 = .ok (.iaload, 1) := by decide +kernel
theorem dX11_count_82 : decode cX11_count 82 = .ok (.ireturn, 1) := by decide +kernel
theorem dX11_count_83 : decode cX11_count 83 = .ok (.aload_n 0, 1) := by decide +kernel
theorem dX11_count_84 : decode cX11_count 84 = .ok (.getfield 34, 3) := by decide +kernel
theorem dX11_count_87 : decode cX11_count 87 = .ok (.iconst 1, 1) := by decide +kernel
theorem dX11_count_88 : decode cX11_count 88 = .ok (.iaload, 1) := by decide +kernel
theorem dX11_count_89 : decode cX11_count 89 = .ok (.ireturn, 1) := by decide +kernel
theorem dX11_count_90 : decode cX11_count 90 = .ok (.aload_n 0, 1) := by decide +kernel
theorem dX11_count_91 : decode cX11_count 91 = .ok (.getfield 34, 3) := by decide +kernel
theorem dX11_count_94 : decode cX11_count 94 = .ok (.iconst 2, 1) := by decide +kernel
theorem dX11_count_95 : decode cX11_count 95 = .ok (.iaload, 1) := by decide +kernel
theorem dX11_count_96 : decode cX11_count 96 = .ok (.ireturn, 1) := by decide +kernel
theorem dX11_count_97 : decode cX11_count 97 = .ok (.aload_n 0, 1) := by decide +kernel
theorem dX11_count_98 : decode cX11_count 98 = .ok (.getfield 37, 3) := by decide +kernel
theorem dX11_count_101 : decode cX11_count 101 = .ok (.iconst 0, 1) := by decide +kernel
theorem dX11_count_102 : decode cX11_count 102 = .ok (.iaload, 1) := by decide +kernel
theorem dX11_count_103 : decode cX11_count 103 = .ok (.ireturn, 1) := by decide +kernel
theorem dX11_count_104 : decode cX11_count 104 = .ok (.aload_n 0, 1) := by decide +kernel
theorem dX11_count_105 : decode cX11_count 105 = .ok (.getfield 43, 3) := by decide +kernel
theorem dX11_count_108 : decode cX11_count 108 = .ok (.iconst 0, 1) := by decide +kernel
theorem dX11_count_109 : decode cX11_count 109 = .ok (.iaload, 1) := by decide +kernel
theorem dX11_count_110 : decode cX11_count 110 = .ok (.ireturn, 1) := by decide +kernel
theorem dX11_count_111 : decode cX11_count 111 = .ok (.aload_n 0, 1) := by decide +kernel
theorem dX11_count_112 : decode cX11_count 112 = .ok (.getfield 71, 3) := by decide +kernel
theorem dX11_count_115 : decode cX11_count 115 = .ok (.iconst 0, 1) := by decide +kernel
theorem dX11_count_116 : decode cX11_count 116 = .ok (.iaload, 1) := by decide +kernel
theorem dX11_count_117 : decode cX11_count 117 = .ok (.ireturn, 1) := by decide +kernel
theorem dX11_count_118 : decode cX11_count 118 = .ok (.aload_n 0, 1) := by decide +kernel
theorem dX11_count_119 : decode cX11_count 119 = .ok (.getfield 71, 3) := by decide +kernel
theorem dX11_count_122 : decode cX11_count 122 = .ok (.iconst 1, 1) := by decide +kernel
theorem dX11_count_123 : decode cX11_count 123 = .ok (.iaload, 1) := by decide +kernel
theorem dX11_count_124 : decode cX11_count 124 = .ok (.ireturn, 1) := by decide +kernel
theorem dX11_count_125 : decode cX11_count 125 = .ok (.aload_n 0, 1) := by decide +kernel
theorem dX11_count_126 : decode cX11_count 126 = .ok (.getfield 31, 3) := by decide +kernel
theorem dX11_count_129 : decode cX11_count 129 = .ok (.iconst 0, 1) := by decide +kernel
theorem dX11_count_130 : decode cX11_count 130 = .ok (.iaload, 1) := by decide +kernel
theorem dX11_count_131 : decode cX11_count 131 = .ok (.ireturn, 1) := by decide +kernel
theorem dX11_count_132 : decode cX11_count 132 = .ok (.aload_n 0, 1) := by decide +kernel
theorem dX11_count_133 : decode cX11_count 133 = .ok (.getfield 116, 3) := by decide +kernel
theorem dX11_count_136 : decode cX11_count 136 = .ok (.ireturn, 1) := by decide +kernel
theorem dX11_count_137 : decode cX11_count 137 = .ok (.aload_n 0, 1) := by decide +kernel
theorem dX11_count_138 : decode cX11_count 138 = .ok (.getfield 49, 3) := by decide +kernel
theorem dX11_count_141 : decode cX11_count 141 = .ok (.iconst 0, 1) := by decide +kernel
theorem dX11_count_142 : decode cX11_count 142 = .ok (.iaload, 1) := by decide +kernel
theorem dX11_count_143 : decode cX11_count 143 = .ok (.ireturn, 1) := by decide +kernel
theorem dX11_count_144 : decode cX11_count 144 = .ok (.aload_n 0, 1) := by decide +kernel
theorem dX11_count_145 : decode cX11_count 145 = .ok (.getfield 49, 3) := by decide +kernel
theorem dX11_count_148 : decode cX11_count 148 = .ok (.iconst 1, 1) := by decide +kernel
theorem dX11_count_149 : decode cX11_count 149 = .ok (.iaload, 1) := by decide +kernel
theorem dX11_count_150 : decode cX11_count 150 = .ok (.ireturn, 1) := by decide +kernel
theorem dX11_count_151 : decode cX11_count 151 = .ok (.aload_n 0, 1) := by decide +kernel
theorem dX11_count_152 : decode cX11_count 152 = .ok (.invokevirtual 484, 3) := by decide +kernel
theorem dX11_count_155 : decode cX11_count 155 = .ok (.ireturn, 1) := by decide +kernel
theorem dX11_count_156 : decode cX11_count 156 = .ok (.iconst 0, 1) := by decide +kernel
theorem dX11_count_157 : decode cX11_count 157 = .ok (.istore_n 3, 1) := by decide +kernel
theorem dX11_count_158 : decode cX11_count 158 = .ok (.iload_n 3, 1) := by decide +kernel
theorem dX11_count_159 : decode cX11_count 159 = .ok (.iconst 4, 1) := by decide +kernel
theorem dX11_count_160 : decode cX11_count 160 = .ok (.if_icmp .ge 27, 3) := by decide +kernel
theorem dX11_count_163 : decode cX11_count 163 = .ok (.iload_n 2, 1) := by decide +kernel
theorem dX11_count_164 : decode cX11_count 164 = .ok (.aload_n 0, 1) := by decide +kernel
theorem dX11_count_165 : decode cX11_count 165 = .ok (.getfield 7, 3) := by decide +kernel
theorem dX11_count_168 : decode cX11_count 168 = .ok (.iload_n 3, 1) := by decide +kernel
theorem dX11_count_169 : decode cX11_count 169 = .ok (.iaload, 1) := by decide +kernel
theorem dX11_count_170 : decode cX11_count 170 = .ok (.iconst (-1), 1) := by decide +kernel
theorem dX11_count_171 : decode cX11_count 171 = .ok (.if_icmp .ne 7, 3) := by decide +kernel
theorem dX11_count_174 : decode cX11_count 174 = .ok (.iconst 0, 1) := by decide +kernel
theorem dX11_count_175 : decode cX11_count 175 = .ok (.goto 4, 3) := by decide +kernel
theorem dX11_count_179 : decode cX11_count 179 = .ok (.iadd, 1) := by decide +kernel
theorem dX11_count_180 : decode cX11_count 180 = .ok (.istore_n 2, 1) := by decide +kernel
theorem dX11_count_181 : decode cX11_count 181 = .ok (.iinc 3 1, 3) := by decide +kernel
theorem dX11_count_184 : decode cX11_count 184 = .ok (.goto (-26), 3) := by decide +kernel
theorem dX11_count_187 : decode cX11_count 187 = .ok (.iload_n 2, 1) := by decide +kernel
theorem dX11_count_188 : decode cX11_count 188 = .ok (.ireturn, 1) := by decide +kernel
theorem dX11_count_189 : decode cX11_count 189 = .ok (.iconst (-1), 1) := by decide +kernel
theorem dX11_count_190 : decode cX11_count 190 = .ok (.ireturn, 1) := by decide +kernel
theorem dX11_course_0 : decode cX11_course 0 = .ok (.aload_n 0, 1) := by decide +kernel
theorem dX11_course_1 : decode cX11_course 1 = .ok (.iconst 0, 1) := by decide +kernel
theorem dX11_course_2 : decode cX11_course 2 = .ok (.putfield 99, 3) := by decide +kernel
theorem dX11_course_5 : decode cX11_course 5 = .ok (.aload_n 0, 1) := by decide +kernel
theorem dX11_course_6 : decode cX11_course 6 = .ok (.invokevirtual 316, 3) := by decide +kernel
theorem dX11_course_9 : decode cX11_course 9 = .ok (.ifCond .eq 22, 3) := by decide +kernel
theorem dX11_course_31 : decode cX11_course 31 = .ok (.bipush (-2), 2) := by decide +kernel
theorem dX11_course_33 : decode cX11_course 33 = .ok (.ireturn, 1) := by decide +kernel
theorem dX11_election_0 : decode cX11_election 0 = .ok (.aload_n 0, 1) := by decide +kernel
theorem dX11_election_1 : decode cX11_election 1 = .ok (.iconst 0, 1) := by decide +kernel
theorem dX11_election_2 : decode cX11_election 2 = .ok (.putfield 99, 3) := by decide +kernel
theorem dX11_election_5 : decode cX11_election 5 = .ok (.aload_n 0, 1) := by decide +kernel
theorem dX11_election_6 : decode cX11_election 6 = .ok (.iload_n 1, 1) := by decide +kernel
theorem dX11_election_7 : decode cX11_election 7 = .ok (.invokevirtual 361, 3) := by decide +kernel
theorem dX11_election_10 : decode cX11_election 10 = .ok (.istore_n 2, 1) := by decide +kernel
theorem dX11_election_11 : decode cX11_election 11 = .ok (.iload_n 2, 1) := by decide +kernel
theorem dX11_election_12 : decode cX11_election 12 = .ok (.ifCond .eq 7, 3) := by decide +kernel
theorem dX11_election_15 : decode cX11_election 15 = .ok (.iload_n 2, 1) := by decide +kernel
theorem dX11_election_16 : decode cX11_election 16 = .ok (.goto 9, 3) := by decide +kernel
theorem dX11_election_25 : decode cX11_election 25 = .ok (.ireturn, 1) := by decide +kernel
theorem dX11_end_0 : decode cX11_end 0 = .ok (.aload_n 0, 1) := by decide +kernel
theorem dX11_end_1 : decode cX11_end 1 = .ok (.iconst 0, 1) := by decide +kernel
theorem dX11_end_2 : decode cX11_end 2 = .ok (.putfield 99, 3) := by decide +kernel
theorem dX11_end_5 : decode cX11_end 5 = .ok (.iload_n 1, 1) := by decide +kernel
theorem dX11_end_6 : decode cX11_end 6 = .ok (.i2l, 1) := by decide +kernel
theorem dX11_end_7 : decode cX11_end 7 = .ok (.lconst 0, 1) := by decide +kernel
theorem dX11_end_8 : decode cX11_end 8 = .ok (.aload_n 0, 1) := by decide +kernel
theorem dX11_end_9 : decode cX11_end 9 = .ok (.getfield 116, 3) := by decide +kernel
theorem dX11_end_12 : decode cX11_end 12 = .ok (.i2l, 1) := by decide +kernel
theorem dX11_end_13 : decode cX11_end 13 = .ok (.invokestatic 104, 3) := by decide +kernel
theorem dX11_end_16 : decode cX11_end 16 = .ok (.ifCond .ne 5, 3) := by decide +kernel
theorem dX11_end_19 : decode cX11_end 19 = .ok (.iconst (-1), 1) := by decide +kernel
theorem dX11_end_20 : decode cX11_end 20 = .ok (.ireturn, 1) := by decide +kernel
theorem dX11_end_21 : decode cX11_end 21 = .ok (.aload_n 0, 1) := by decide +kernel
theorem dX11_end_22 : decode cX11_end 22 = .ok (.iload_n 1, 1) := by decide +kernel
theorem dX11_end_23 : decode cX11_end 23 = .ok (.putfield 116, 3) := by decide +kernel
theorem dX11_end_26 : decode cX11_end 26 = .ok (.iload_n 1, 1) := by decide +kernel
theorem dX11_end_27 : decode cX11_end 27 = .ok (.ireturn, 1) := by decide +kernel
theorem dX11_falls_0 : decode cX11_falls 0 = .ok (.aload_n 0, 1) := by decide +kernel
theorem dX11_falls_1 : decode cX11_falls 1 = .ok (.iconst 0, 1) := by decide +kernel
theorem dX11_falls_2 : decode cX11_falls 2 = .ok (.putfield 99, 3) := by decide +kernel
theorem dX11_falls_5 : decode cX11_falls 5 = .ok (.aload_n 0, 1) := by decide +kernel
theorem dX11_falls_6 : decode cX11_falls 6 = .ok (.invokevirtual 316, 3) := by decide +kernel
theorem dX11_falls_9 : decode cX11_falls 9 = .ok (.ifCond .eq 15, 3) := by decide +kernel
theorem dX11_falls_24 : decode cX11_falls 24 = .ok (.ldc2_w 212, 3) := by decide +kernel
theorem dX11_falls_27 : decode cX11_falls 27 = .ok (.lreturn, 1) := by decide +kernel
theorem dX11_fault_0 : decode cX11_fault 0 = .ok (.aload_n 0, 1) := by decide +kernel
theorem dX11_fault_1 : decode cX11_fault 1 = .ok (.iconst 0, 1) := by decide +kernel
theorem dX11_fault_2 : decode cX11_fault 2 = .ok (.putfield 99, 3) := by decide +kernel
theorem dX11_fault_5 : decode cX11_fault 5 = .ok (.iload_n 1, 1) := by decide +kernel
theorem dX11_fault_6 : decode cX11_fault 6 = .ok (.ifCond .ne 10, 3) := by decide +kernel
theorem dX11_fault_9 : decode cX11_fault 9 = .ok (.aload_n 0, 1) := by decide +kernel
theorem dX11_fault_10 : decode cX11_fault 10 = .ok (.getfield 178, 3) := by decide +kernel
theorem dX11_fault_13 : decode cX11_fault 13 = .ok (.goto 16, 3) := by decide +kernel
theorem dX11_fault_16 : decode cX11_fault 16 = .ok (.iload_n 1, 1) := by decide +kernel
theorem dX11_fault_17 : decode cX11_fault 17 = .ok (.iconst 1, 1) := by decide +kernel
theorem dX11_fault_18 : decode cX11_fault 18 = .ok (.if_icmp .ne 10, 3) := by decide +kernel
theorem dX11_fault_21 : decode cX11_fault 21 = .ok (.aload_n 0, 1) := by decide +kernel
theorem dX11_fault_22 : decode cX11_fault 22 = .ok (.getfield 27, 3) := by decide +kernel
theorem dX11_fault_25 : decode cX11_fault 25 = .ok (.goto 4, 3) := by decide +kernel
theorem dX11_fault_28 : decode cX11_fault 28 = .ok (.iconst (-1), 1) := by decide +kernel
theorem dX11_fault_29 : decode cX11_fault 29 = .ok (.ireturn, 1) := by decide +kernel
theorem dX11_feed_0 : decode cX11_feed 0 = .ok (.aload_n 0, 1) := by decide +kernel
theorem dX11_feed_1 : decode cX11_feed 1 = .ok (.iconst 0, 1) := by decide +kernel
theorem dX11_feed_2 : decode cX11_feed 2 = .ok (.putfield 99, 3) := by decide +kernel
theorem dX11_feed_5 : decode cX11_feed 5 = .ok (.aload_n 0, 1) := by decide +kernel
theorem dX11_feed_6 : decode cX11_feed 6 = .ok (.getfield 116, 3) := by decide +kernel
theorem dX11_feed_9 : decode cX11_feed 9 = .ok (.bipush 20, 2) := by decide +kernel
theorem dX11_feed_11 : decode cX11_feed 11 = .ok (.iadd, 1) := by decide +kernel
theorem dX11_feed_12 : decode cX11_feed 12 = .ok (.sipush 1600, 3) := by decide +kernel
theorem dX11_feed_15 : decode cX11_feed 15 = .ok (.if_icmp .le 5, 3) := by decide +kernel
theorem dX11_feed_20 : decode cX11_feed 20 = .ok (.aload_n 0, 1) := by decide +kernel
theorem dX11_feed_21 : decode cX11_feed 21 = .ok (.iload_n 1, 1) := by decide +kernel
theorem dX11_feed_22 : decode cX11_feed 22 = .ok (.invokevirtual 119, 3) := by decide +kernel
theorem dX11_feed_25 : decode cX11_feed 25 = .ok (.aload_n 0, 1) := by decide +kernel
theorem dX11_feed_26 : decode cX11_feed 26 = .ok (.iload_n 2, 1) := by decide +kernel
theorem dX11_feed_27 : decode cX11_feed 27 = .ok (.invokevirtual 119, 3) := by decide +kernel
theorem dX11_feed_30 : decode cX11_feed 30 = .ok (.aload_n 0, 1) := by decide +kernel
theorem dX11_feed_31 : decode cX11_feed 31 = .ok (.iload_n 3, 1) := by decide +kernel
theorem dX11_feed_32 : decode cX11_feed 32 = .ok (.invokevirtual 119, 3) := by decide +kernel
theorem dX11_feed_35 : decode cX11_feed 35 = .ok (.aload_n 0, 1) := by decide +kernel
theorem dX11_feed_36 : decode cX11_feed 36 = .ok (.iload 4, 2) := by decide +kernel
theorem dX11_feed_38 : decode cX11_feed 38 = .ok (.invokevirtual 119, 3) := by decide +kernel
theorem dX11_feed_41 : decode cX11_feed 41 = .ok (.aload_n 0, 1) := by decide +kernel
theorem dX11_feed_42 : decode cX11_feed 42 = .ok (.iload 5, 2) := by decide +kernel
theorem dX11_feed_44 : decode cX11_feed 44 = .ok (.invokevirtual 119, 3) := by decide +kernel
theorem dX11_feed_47 : decode cX11_feed 47 = .ok (.aload_n 0, 1) := by decide +kernel
theorem dX11_feed_48 : decode cX11_feed 48 = .ok (.getfield 116, 3) := by decide +kernel
theorem dX11_feed_51 : decode cX11_feed 51 = .ok (.ireturn, 1) := by decide +kernel
theorem dX11_fetch_0 : decode cX11_fetch 0 = .ok (.aload_n 0, 1) := by decide +kernel
theorem dX11_fetch_1 : decode cX11_fetch 1 = .ok (.iconst 0, 1) := by decide +kernel
theorem dX11_fetch_2 : decode cX11_fetch 2 = .ok (.putfield 99, 3) := by decide +kernel
theorem dX11_fetch_5 : decode cX11_fetch 5 = .ok (.aload_n 0, 1) := by decide +kernel
theorem dX11_fetch_6 : decode cX11_fetch 6 = .ok (.iload_n 1, 1) := by decide +kernel
theorem dX11_fetch_7 : decode cX11_fetch 7 = .ok (.iload_n 2, 1) := by decide +kernel
theorem dX11_fetch_8 : decode cX11_fetch 8 = .ok (.invokevirtual 396, 3) := by decide +kernel
theorem dX11_fetch_11 : decode cX11_fetch 11 = .ok (.istore_n 3, 1) := by decide +kernel
theorem dX11_fetch_12 : decode cX11_fetch 12 = .ok (.iload_n 3, 1) := by decide +kernel
theorem dX11_fetch_13 : decode cX11_fetch 13 = .ok (.ifCond .eq 5, 3) := by decide +kernel
theorem dX11_fetch_16 : decode cX11_fetch 16 = .ok (.iload_n 3, 1) := by decide +kernel
theorem dX11_fetch_17 : decode cX11_fetch 17 = .ok (.ireturn, 1) := by decide +kernel
theorem dX11_fill_0 : decode cX11_fill 0 = .ok (.aload_n 0, 1) := by decide +kernel
theorem dX11_fill_1 : decode cX11_fill 1 = .ok (.iconst 0, 1) := by decide +kernel
theorem dX11_fill_2 : decode cX11_fill 2 = .ok (.putfield 99, 3) := by decide +kernel
theorem dX11_fill_5 : decode cX11_fill 5 = .ok (.iload_n 1, 1) := by decide +kernel
theorem dX11_fill_6 : decode cX11_fill 6 = .ok (.invokestatic 283, 3) := by decide +kernel
theorem dX11_fill_9 : decode cX11_fill 9 = .ok (.ifCond .eq 11, 3) := by decide +kernel
theorem dX11_fill_12 : decode cX11_fill 12 = .ok (.aload_n 0, 1) := by decide +kernel
theorem dX11_fill_13 : decode cX11_fill 13 = .ok (.iload_n 2, 1) := by decide +kernel
theorem dX11_fill_14 : decode cX11_fill 14 = .ok (.invokevirtual 301, 3) := by decide +kernel
theorem dX11_fill_17 : decode cX11_fill 17 = .ok (.ifCond .ne 6, 3) := by decide +kernel
theorem dX11_fill_20 : decode cX11_fill 20 = .ok (.bipush (-2), 2) := by decide +kernel
theorem dX11_fill_22 : decode cX11_fill 22 = .ok (.ireturn, 1) := by decide +kernel
theorem dX11_four_0 : decode cX11_four 0 = .ok (.bipush 24, 2) := by decide +kernel
theorem dX11_four_2 : decode cX11_four 2 = .ok (.istore_n 2, 1) := by decide +kernel
