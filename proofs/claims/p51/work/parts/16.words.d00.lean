theorem dX6_branch_0 : decode cX6_branch 0 = .ok (.iload_n 2, 1) := by decide +kernel
theorem dX6_branch_1 : decode cX6_branch 1 = .ok (.aload_n 0, 1) := by decide +kernel
theorem dX6_branch_2 : decode cX6_branch 2 = .ok (.getfield 34, 3) := by decide +kernel
theorem dX6_branch_5 : decode cX6_branch 5 = .ok (.if_icmp .lt 43, 3) := by decide +kernel
theorem dX6_branch_8 : decode cX6_branch 8 = .ok (.aload_n 0, 1) := by decide +kernel
theorem dX6_branch_9 : decode cX6_branch 9 = .ok (.getfield 9, 3) := by decide +kernel
theorem dX6_branch_12 : decode cX6_branch 12 = .ok (.iload_n 3, 1) := by decide +kernel
theorem dX6_branch_13 : decode cX6_branch 13 = .ok (.aload_n 1, 1) := by decide +kernel
theorem dX6_branch_14 : decode cX6_branch 14 = .ok (.getfield 46, 3) := by decide +kernel
theorem dX6_branch_17 : decode cX6_branch 17 = .ok (.iconst 0, 1) := by decide +kernel
theorem dX6_branch_18 : decode cX6_branch 18 = .ok (.aload_n 1, 1) := by decide +kernel
theorem dX6_branch_19 : decode cX6_branch 19 = .ok (.getfield 50, 3) := by decide +kernel
theorem dX6_branch_22 : decode cX6_branch 22 = .ok (.invokevirtual 53, 3) := by decide +kernel
theorem dX6_branch_25 : decode cX6_branch 25 = .ok (.aload_n 1, 1) := by decide +kernel
theorem dX6_branch_26 : decode cX6_branch 26 = .ok (.getfield 46, 3) := by decide +kernel
theorem dX6_branch_29 : decode cX6_branch 29 = .ok (.iconst 1, 1) := by decide +kernel
theorem dX6_branch_30 : decode cX6_branch 30 = .ok (.aload_n 1, 1) := by decide +kernel
theorem dX6_branch_31 : decode cX6_branch 31 = .ok (.getfield 50, 3) := by decide +kernel
theorem dX6_branch_34 : decode cX6_branch 34 = .ok (.invokevirtual 53, 3) := by decide +kernel
theorem dX6_branch_37 : decode cX6_branch 37 = .ok (.isub, 1) := by decide +kernel
theorem dX6_branch_38 : decode cX6_branch 38 = .ok (.iastore, 1) := by decide +kernel
theorem dX6_branch_39 : decode cX6_branch 39 = .ok (.aload_n 0, 1) := by decide +kernel
theorem dX6_branch_40 : decode cX6_branch 40 = .ok (.getfield 15, 3) := by decide +kernel
theorem dX6_branch_43 : decode cX6_branch 43 = .ok (.iload_n 3, 1) := by decide +kernel
theorem dX6_branch_44 : decode cX6_branch 44 = .ok (.iload 4, 2) := by decide +kernel
theorem dX6_branch_46 : decode cX6_branch 46 = .ok (.iastore, 1) := by decide +kernel
theorem dX6_branch_47 : decode cX6_branch 47 = .ok (.return_, 1) := by decide +kernel
theorem dX6_branch_48 : decode cX6_branch 48 = .ok (.aload_n 0, 1) := by decide +kernel
theorem dX6_branch_49 : decode cX6_branch 49 = .ok (.aload_n 1, 1) := by decide +kernel
theorem dX6_branch_50 : decode cX6_branch 50 = .ok (.iload_n 2, 1) := by decide +kernel
theorem dX6_branch_51 : decode cX6_branch 51 = .ok (.iconst 1, 1) := by decide +kernel
theorem dX6_branch_52 : decode cX6_branch 52 = .ok (.iadd, 1) := by decide +kernel
theorem dX6_branch_53 : decode cX6_branch 53 = .ok (.iload_n 3, 1) := by decide +kernel
theorem dX6_branch_54 : decode cX6_branch 54 = .ok (.iload 4, 2) := by decide +kernel
theorem dX6_branch_56 : decode cX6_branch 56 = .ok (.invokevirtual 42, 3) := by decide +kernel
theorem dX6_branch_59 : decode cX6_branch 59 = .ok (.aload_n 1, 1) := by decide +kernel
theorem dX6_branch_60 : decode cX6_branch 60 = .ok (.iload_n 2, 1) := by decide +kernel
theorem dX6_branch_61 : decode cX6_branch 61 = .ok (.invokevirtual 59, 3) := by decide +kernel
theorem dX6_branch_64 : decode cX6_branch 64 = .ok (.istore 5, 2) := by decide +kernel
theorem dX6_branch_66 : decode cX6_branch 66 = .ok (.aload_n 0, 1) := by decide +kernel
theorem dX6_branch_67 : decode cX6_branch 67 = .ok (.aload_n 1, 1) := by decide +kernel
theorem dX6_branch_68 : decode cX6_branch 68 = .ok (.iload_n 2, 1) := by decide +kernel
theorem dX6_branch_69 : decode cX6_branch 69 = .ok (.iconst 1, 1) := by decide +kernel
theorem dX6_branch_70 : decode cX6_branch 70 = .ok (.iadd, 1) := by decide +kernel
theorem dX6_branch_71 : decode cX6_branch 71 = .ok (.iload_n 3, 1) := by decide +kernel
theorem dX6_branch_72 : decode cX6_branch 72 = .ok (.iconst 1, 1) := by decide +kernel
theorem dX6_branch_73 : decode cX6_branch 73 = .ok (.iload_n 2, 1) := by decide +kernel
theorem dX6_branch_74 : decode cX6_branch 74 = .ok (.ishl, 1) := by decide +kernel
theorem dX6_branch_75 : decode cX6_branch 75 = .ok (.ior, 1) := by decide +kernel
theorem dX6_branch_76 : decode cX6_branch 76 = .ok (.iload 4, 2) := by decide +kernel
theorem dX6_branch_78 : decode cX6_branch 78 = .ok (.aload_n 1, 1) := by decide +kernel
theorem dX6_branch_79 : decode cX6_branch 79 = .ok (.getfield 24, 3) := by decide +kernel
theorem dX6_branch_82 : decode cX6_branch 82 = .ok (.getfield 63, 3) := by decide +kernel
theorem dX6_branch_85 : decode cX6_branch 85 = .ok (.iload_n 2, 1) := by decide +kernel
theorem dX6_branch_86 : decode cX6_branch 86 = .ok (.iaload, 1) := by decide +kernel
theorem dX6_branch_87 : decode cX6_branch 87 = .ok (.iadd, 1) := by decide +kernel
theorem dX6_branch_88 : decode cX6_branch 88 = .ok (.invokevirtual 42, 3) := by decide +kernel
theorem dX6_branch_91 : decode cX6_branch 91 = .ok (.iload 5, 2) := by decide +kernel
theorem dX6_branch_93 : decode cX6_branch 93 = .ok (.iconst (-1), 1) := by decide +kernel
theorem dX6_branch_94 : decode cX6_branch 94 = .ok (.if_icmp .eq 13, 3) := by decide +kernel
theorem dX6_branch_97 : decode cX6_branch 97 = .ok (.aload_n 1, 1) := by decide +kernel
theorem dX6_branch_98 : decode cX6_branch 98 = .ok (.getfield 46, 3) := by decide +kernel
theorem dX6_branch_101 : decode cX6_branch 101 = .ok (.iload 5, 2) := by decide +kernel
theorem dX6_branch_103 : decode cX6_branch 103 = .ok (.invokevirtual 66, 3) := by decide +kernel
theorem dX6_branch_106 : decode cX6_branch 106 = .ok (.pop, 1) := by decide +kernel
theorem dX6_branch_107 : decode cX6_branch 107 = .ok (.return_, 1) := by decide +kernel
theorem dX6_tabulate_0 : decode cX6_tabulate 0 = .ok (.aload_n 2, 1) := by decide +kernel
theorem dX6_tabulate_1 : decode cX6_tabulate 1 = .ok (.aload_n 1, 1) := by decide +kernel
theorem dX6_tabulate_2 : decode cX6_tabulate 2 = .ok (.invokevirtual 18, 3) := by decide +kernel
theorem dX6_tabulate_5 : decode cX6_tabulate 5 = .ok (.aload_n 0, 1) := by decide +kernel
theorem dX6_tabulate_6 : decode cX6_tabulate 6 = .ok (.aload_n 1, 1) := by decide +kernel
theorem dX6_tabulate_7 : decode cX6_tabulate 7 = .ok (.getfield 24, 3) := by decide +kernel
theorem dX6_tabulate_10 : decode cX6_tabulate 10 = .ok (.getfield 28, 3) := by decide +kernel
theorem dX6_tabulate_13 : decode cX6_tabulate 13 = .ok (.putfield 34, 3) := by decide +kernel
theorem dX6_tabulate_16 : decode cX6_tabulate 16 = .ok (.aload_n 0, 1) := by decide +kernel
theorem dX6_tabulate_17 : decode cX6_tabulate 17 = .ok (.iconst 1, 1) := by decide +kernel
theorem dX6_tabulate_18 : decode cX6_tabulate 18 = .ok (.aload_n 0, 1) := by decide +kernel
theorem dX6_tabulate_19 : decode cX6_tabulate 19 = .ok (.getfield 34, 3) := by decide +kernel
theorem dX6_tabulate_22 : decode cX6_tabulate 22 = .ok (.ishl, 1) := by decide +kernel
theorem dX6_tabulate_23 : decode cX6_tabulate 23 = .ok (.putfield 35, 3) := by decide +kernel
theorem dX6_tabulate_26 : decode cX6_tabulate 26 = .ok (.aload_n 0, 1) := by decide +kernel
theorem dX6_tabulate_27 : decode cX6_tabulate 27 = .ok (.aload_n 1, 1) := by decide +kernel
theorem dX6_tabulate_28 : decode cX6_tabulate 28 = .ok (.getfield 38, 3) := by decide +kernel
theorem dX6_tabulate_31 : decode cX6_tabulate 31 = .ok (.putfield 41, 3) := by decide +kernel
theorem dX6_tabulate_34 : decode cX6_tabulate 34 = .ok (.aload_n 0, 1) := by decide +kernel
theorem dX6_tabulate_35 : decode cX6_tabulate 35 = .ok (.aload_n 2, 1) := by decide +kernel
theorem dX6_tabulate_36 : decode cX6_tabulate 36 = .ok (.iconst 0, 1) := by decide +kernel
theorem dX6_tabulate_37 : decode cX6_tabulate 37 = .ok (.iconst 0, 1) := by decide +kernel
theorem dX6_tabulate_38 : decode cX6_tabulate 38 = .ok (.iconst 0, 1) := by decide +kernel
theorem dX6_tabulate_39 : decode cX6_tabulate 39 = .ok (.invokevirtual 42, 3) := by decide +kernel
theorem dX6_tabulate_42 : decode cX6_tabulate 42 = .ok (.return_, 1) := by decide +kernel
