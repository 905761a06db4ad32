theorem dX11_power_52 : decode cX11_power 52 = .ok (.iload_n 3, 1) := by decide +kernel
theorem dX11_power_53 : decode cX11_power 53 = .ok (.invokevirtual 367, 3) := by decide +kernel
theorem dX11_power_56 : decode cX11_power 56 = .ok (.aload_n 0, 1) := by decide +kernel
theorem dX11_power_57 : decode cX11_power 57 = .ok (.iload_n 3, 1) := by decide +kernel
theorem dX11_power_58 : decode cX11_power 58 = .ok (.iconst 1, 1) := by decide +kernel
theorem dX11_power_59 : decode cX11_power 59 = .ok (.iload_n 1, 1) := by decide +kernel
theorem dX11_power_60 : decode cX11_power 60 = .ok (.ishl, 1) := by decide +kernel
theorem dX11_power_61 : decode cX11_power 61 = .ok (.ior, 1) := by decide +kernel
theorem dX11_power_62 : decode cX11_power 62 = .ok (.invokevirtual 367, 3) := by decide +kernel
theorem dX11_power_65 : decode cX11_power 65 = .ok (.if_icmp .eq 7, 3) := by decide +kernel
theorem dX11_power_68 : decode cX11_power 68 = .ok (.iconst 1, 1) := by decide +kernel
theorem dX11_power_69 : decode cX11_power 69 = .ok (.goto 4, 3) := by decide +kernel
theorem dX11_power_72 : decode cX11_power 72 = .ok (.iconst 0, 1) := by decide +kernel
theorem dX11_power_73 : decode cX11_power 73 = .ok (.iadd, 1) := by decide +kernel
theorem dX11_power_74 : decode cX11_power 74 = .ok (.istore_n 2, 1) := by decide +kernel
theorem dX11_power_75 : decode cX11_power 75 = .ok (.iinc 3 1, 3) := by decide +kernel
theorem dX11_power_78 : decode cX11_power 78 = .ok (.goto (-44), 3) := by decide +kernel
theorem dX11_power_81 : decode cX11_power 81 = .ok (.iload_n 2, 1) := by decide +kernel
theorem dX11_power_82 : decode cX11_power 82 = .ok (.ireturn, 1) := by decide +kernel
theorem dX11_rise_0 : decode cX11_rise 0 = .ok (.aload_n 0, 1) := by decide +kernel
theorem dX11_rise_1 : decode cX11_rise 1 = .ok (.iconst 0, 1) := by decide +kernel
theorem dX11_rise_2 : decode cX11_rise 2 = .ok (.putfield 99, 3) := by decide +kernel
theorem dX11_rise_5 : decode cX11_rise 5 = .ok (.aload_n 0, 1) := by decide +kernel
theorem dX11_rise_6 : decode cX11_rise 6 = .ok (.iload_n 1, 1) := by decide +kernel
theorem dX11_rise_7 : decode cX11_rise 7 = .ok (.iload_n 2, 1) := by decide +kernel
theorem dX11_rise_8 : decode cX11_rise 8 = .ok (.invokevirtual 297, 3) := by decide +kernel
theorem dX11_rise_11 : decode cX11_rise 11 = .ok (.ifCond .eq 15, 3) := by decide +kernel
theorem dX11_rise_14 : decode cX11_rise 14 = .ok (.iload_n 3, 1) := by decide +kernel
theorem dX11_rise_15 : decode cX11_rise 15 = .ok (.i2l, 1) := by decide +kernel
theorem dX11_rise_16 : decode cX11_rise 16 = .ok (.lconst 0, 1) := by decide +kernel
theorem dX11_rise_17 : decode cX11_rise 17 = .ok (.ldc2_w 437, 3) := by decide +kernel
theorem dX11_rise_20 : decode cX11_rise 20 = .ok (.invokestatic 104, 3) := by decide +kernel
theorem dX11_rise_23 : decode cX11_rise 23 = .ok (.ifCond .ne 6, 3) := by decide +kernel
theorem dX11_rise_26 : decode cX11_rise 26 = .ok (.bipush (-2), 2) := by decide +kernel
theorem dX11_rise_28 : decode cX11_rise 28 = .ok (.ireturn, 1) := by decide +kernel
theorem dX11_rise_29 : decode cX11_rise 29 = .ok (.iload_n 3, 1) := by decide +kernel
theorem dX11_rise_30 : decode cX11_rise 30 = .ok (.aload_n 0, 1) := by decide +kernel
theorem dX11_rise_31 : decode cX11_rise 31 = .ok (.getfield 34, 3) := by decide +kernel
theorem dX11_rise_34 : decode cX11_rise 34 = .ok (.iconst 1, 1) := by decide +kernel
theorem dX11_rise_35 : decode cX11_rise 35 = .ok (.iaload, 1) := by decide +kernel
theorem dX11_rise_36 : decode cX11_rise 36 = .ok (.if_icmp .le 5, 3) := by decide +kernel
theorem dX11_rise_39 : decode cX11_rise 39 = .ok (.iconst (-1), 1) := by decide +kernel
theorem dX11_rise_40 : decode cX11_rise 40 = .ok (.ireturn, 1) := by decide +kernel
theorem dX11_rise_41 : decode cX11_rise 41 = .ok (.iload_n 3, 1) := by decide +kernel
theorem dX11_rise_42 : decode cX11_rise 42 = .ok (.aload_n 0, 1) := by decide +kernel
theorem dX11_rise_43 : decode cX11_rise 43 = .ok (.getfield 56, 3) := by decide +kernel
theorem dX11_rise_46 : decode cX11_rise 46 = .ok (.iconst 0, 1) := by decide +kernel
theorem dX11_rise_47 : decode cX11_rise 47 = .ok (.iload_n 1, 1) := by decide +kernel
theorem dX11_rise_48 : decode cX11_rise 48 = .ok (.iload_n 2, 1) := by decide +kernel
theorem dX11_rise_49 : decode cX11_rise 49 = .ok (.invokestatic 280, 3) := by decide +kernel
theorem dX11_rise_52 : decode cX11_rise 52 = .ok (.iaload, 1) := by decide +kernel
theorem dX11_rise_53 : decode cX11_rise 53 = .ok (.isub, 1) := by decide +kernel
theorem dX11_rise_54 : decode cX11_rise 54 = .ok (.istore 4, 2) := by decide +kernel
theorem dX11_rise_56 : decode cX11_rise 56 = .ok (.iload 4, 2) := by decide +kernel
theorem dX11_rise_58 : decode cX11_rise 58 = .ok (.ifCond .gt 7, 3) := by decide +kernel
theorem dX11_rise_61 : decode cX11_rise 61 = .ok (.iconst 0, 1) := by decide +kernel
theorem dX11_rise_62 : decode cX11_rise 62 = .ok (.goto 23, 3) := by decide +kernel
theorem dX11_rise_65 : decode cX11_rise 65 = .ok (.iload 4, 2) := by decide +kernel
theorem dX11_rise_67 : decode cX11_rise 67 = .ok (.aload_n 0, 1) := by decide +kernel
theorem dX11_rise_68 : decode cX11_rise 68 = .ok (.iload_n 1, 1) := by decide +kernel
theorem dX11_rise_69 : decode cX11_rise 69 = .ok (.iload_n 2, 1) := by decide +kernel
theorem dX11_rise_70 : decode cX11_rise 70 = .ok (.iload_n 3, 1) := by decide +kernel
theorem dX11_rise_71 : decode cX11_rise 71 = .ok (.iconst 1, 1) := by decide +kernel
theorem dX11_rise_72 : decode cX11_rise 72 = .ok (.invokevirtual 439, 3) := by decide +kernel
theorem dX11_rise_75 : decode cX11_rise 75 = .ok (.iadd, 1) := by decide +kernel
theorem dX11_rise_76 : decode cX11_rise 76 = .ok (.aload_n 0, 1) := by decide +kernel
theorem dX11_rise_77 : decode cX11_rise 77 = .ok (.iload_n 1, 1) := by decide +kernel
theorem dX11_rise_78 : decode cX11_rise 78 = .ok (.iload_n 2, 1) := by decide +kernel
theorem dX11_rise_79 : decode cX11_rise 79 = .ok (.iload_n 3, 1) := by decide +kernel
theorem dX11_rise_80 : decode cX11_rise 80 = .ok (.iconst (-1), 1) := by decide +kernel
theorem dX11_rise_81 : decode cX11_rise 81 = .ok (.invokevirtual 439, 3) := by decide +kernel
theorem dX11_rise_84 : decode cX11_rise 84 = .ok (.iadd, 1) := by decide +kernel
theorem dX11_rise_85 : decode cX11_rise 85 = .ok (.ireturn, 1) := by decide +kernel
theorem dX11_rises_0 : decode cX11_rises 0 = .ok (.iconst 0, 1) := by decide +kernel
theorem dX11_rises_1 : decode cX11_rises 1 = .ok (.istore 5, 2) := by decide +kernel
theorem dX11_rises_3 : decode cX11_rises 3 = .ok (.iload_n 3, 1) := by decide +kernel
theorem dX11_rises_4 : decode cX11_rises 4 = .ok (.istore 6, 2) := by decide +kernel
theorem dX11_rises_6 : decode cX11_rises 6 = .ok (.iload_n 2, 1) := by decide +kernel
theorem dX11_rises_7 : decode cX11_rises 7 = .ok (.iload 4, 2) := by decide +kernel
theorem dX11_rises_9 : decode cX11_rises 9 = .ok (.iadd, 1) := by decide +kernel
theorem dX11_rises_10 : decode cX11_rises 10 = .ok (.istore 7, 2) := by decide +kernel
theorem dX11_rises_12 : decode cX11_rises 12 = .ok (.iload 7, 2) := by decide +kernel
theorem dX11_rises_14 : decode cX11_rises 14 = .ok (.i2l, 1) := by decide +kernel
theorem dX11_rises_15 : decode cX11_rises 15 = .ok (.lconst 0, 1) := by decide +kernel
theorem dX11_rises_16 : decode cX11_rises 16 = .ok (.aload_n 0, 1) := by decide +kernel
theorem dX11_rises_17 : decode cX11_rises 17 = .ok (.getfield 34, 3) := by decide +kernel
theorem dX11_rises_20 : decode cX11_rises 20 = .ok (.iconst 0, 1) := by decide +kernel
theorem dX11_rises_21 : decode cX11_rises 21 = .ok (.iaload, 1) := by decide +kernel
theorem dX11_rises_22 : decode cX11_rises 22 = .ok (.iconst 1, 1) := by decide +kernel
theorem dX11_rises_23 : decode cX11_rises 23 = .ok (.isub, 1) := by decide +kernel
theorem dX11_rises_24 : decode cX11_rises 24 = .ok (.i2l, 1) := by decide +kernel
theorem dX11_rises_25 : decode cX11_rises 25 = .ok (.invokestatic 104, 3) := by decide +kernel
theorem dX11_rises_28 : decode cX11_rises 28 = .ok (.ifCond .eq 56, 3) := by decide +kernel
theorem dX11_rises_31 : decode cX11_rises 31 = .ok (.iload 6, 2) := by decide +kernel
theorem dX11_rises_33 : decode cX11_rises 33 = .ok (.aload_n 0, 1) := by decide +kernel
theorem dX11_rises_34 : decode cX11_rises 34 = .ok (.getfield 34, 3) := by decide +kernel
theorem dX11_rises_37 : decode cX11_rises 37 = .ok (.iconst 2, 1) := by decide +kernel
theorem dX11_rises_38 : decode cX11_rises 38 = .ok (.iaload, 1) := by decide +kernel
theorem dX11_rises_39 : decode cX11_rises 39 = .ok (.isub, 1) := by decide +kernel
theorem dX11_rises_40 : decode cX11_rises 40 = .ok (.istore 6, 2) := by decide +kernel
theorem dX11_rises_42 : decode cX11_rises 42 = .ok (.iload 6, 2) := by decide +kernel
theorem dX11_rises_44 : decode cX11_rises 44 = .ok (.aload_n 0, 1) := by decide +kernel
theorem dX11_rises_45 : decode cX11_rises 45 = .ok (.getfield 56, 3) := by decide +kernel
theorem dX11_rises_48 : decode cX11_rises 48 = .ok (.iconst 0, 1) := by decide +kernel
theorem dX11_rises_49 : decode cX11_rises 49 = .ok (.iload_n 1, 1) := by decide +kernel
theorem dX11_rises_50 : decode cX11_rises 50 = .ok (.iload 7, 2) := by decide +kernel
theorem dX11_rises_52 : decode cX11_rises 52 = .ok (.invokestatic 280, 3) := by decide +kernel
theorem dX11_rises_55 : decode cX11_rises 55 = .ok (.iaload, 1) := by decide +kernel
theorem dX11_rises_56 : decode cX11_rises 56 = .ok (.isub, 1) := by decide +kernel
theorem dX11_rises_57 : decode cX11_rises 57 = .ok (.istore 8, 2) := by decide +kernel
theorem dX11_rises_59 : decode cX11_rises 59 = .ok (.iload 8, 2) := by decide +kernel
theorem dX11_rises_61 : decode cX11_rises 61 = .ok (.ifCond .gt 6, 3) := by decide +kernel
theorem dX11_rises_64 : decode cX11_rises 64 = .ok (.iload 5, 2) := by decide +kernel
theorem dX11_rises_66 : decode cX11_rises 66 = .ok (.ireturn, 1) := by decide +kernel
theorem dX11_rises_67 : decode cX11_rises 67 = .ok (.iload 5, 2) := by decide +kernel
theorem dX11_rises_69 : decode cX11_rises 69 = .ok (.iload 8, 2) := by decide +kernel
theorem dX11_rises_71 : decode cX11_rises 71 = .ok (.iadd, 1) := by decide +kernel
theorem dX11_rises_72 : decode cX11_rises 72 = .ok (.istore 5, 2) := by decide +kernel
theorem dX11_rises_74 : decode cX11_rises 74 = .ok (.iload 7, 2) := by decide +kernel
theorem dX11_rises_76 : decode cX11_rises 76 = .ok (.iload 4, 2) := by decide +kernel
theorem dX11_rises_78 : decode cX11_rises 78 = .ok (.iadd, 1) := by decide +kernel
theorem dX11_rises_79 : decode cX11_rises 79 = .ok (.istore 7, 2) := by decide +kernel
theorem dX11_rises_81 : decode cX11_rises 81 = .ok (.goto (-69), 3) := by decide +kernel
theorem dX11_rises_84 : decode cX11_rises 84 = .ok (.iload 5, 2) := by decide +kernel
theorem dX11_rises_86 : decode cX11_rises 86 = .ok (.ireturn, 1) := by decide +kernel
theorem dX11_rule_0 : decode cX11_rule 0 = .ok (.aload_n 0, 1) := by decide +kernel
theorem dX11_rule_1 : decode cX11_rule 1 = .ok (.iconst 0, 1) := by decide +kernel
theorem dX11_rule_2 : decode cX11_rule 2 = .ok (.putfield 99, 3) := by decide +kernel
theorem dX11_rule_5 : decode cX11_rule 5 = .ok (.aload_n 0, 1) := by decide +kernel
theorem dX11_rule_6 : decode cX11_rule 6 = .ok (.invokevirtual 316, 3) := by decide +kernel
theorem dX11_rule_9 : decode cX11_rule 9 = .ok (.ifCond .eq 15, 3) := by decide +kernel
theorem dX11_rule_12 : decode cX11_rule 12 = .ok (.iload_n 1, 1) := by decide +kernel
theorem dX11_rule_13 : decode cX11_rule 13 = .ok (.i2l, 1) := by decide +kernel
theorem dX11_rule_14 : decode cX11_rule 14 = .ok (.lconst 0, 1) := by decide +kernel
theorem dX11_rule_15 : decode cX11_rule 15 = .ok (.ldc2_w 346, 3) := by decide +kernel
theorem dX11_rule_18 : decode cX11_rule 18 = .ok (.invokestatic 104, 3) := by decide +kernel
theorem dX11_rule_21 : decode cX11_rule 21 = .ok (.ifCond .ne 6, 3) := by decide +kernel
theorem dX11_rule_24 : decode cX11_rule 24 = .ok (.bipush (-2), 2) := by decide +kernel
theorem dX11_rule_26 : decode cX11_rule 26 = .ok (.ireturn, 1) := by decide +kernel
theorem dX11_rule_27 : decode cX11_rule 27 = .ok (.aload_n 0, 1) := by decide +kernel
theorem dX11_rule_28 : decode cX11_rule 28 = .ok (.getfield 49, 3) := by decide +kernel
theorem dX11_rule_31 : decode cX11_rule 31 = .ok (.iconst 0, 1) := by decide +kernel
theorem dX11_rule_32 : decode cX11_rule 32 = .ok (.iaload, 1) := by decide +kernel
theorem dX11_rule_33 : decode cX11_rule 33 = .ok (.istore_n 2, 1) := by decide +kernel
theorem dX11_rule_34 : decode cX11_rule 34 = .ok (.aload_n 0, 1) := by decide +kernel
theorem dX11_rule_35 : decode cX11_rule 35 = .ok (.getfield 49, 3) := by decide +kernel
theorem dX11_rule_38 : decode cX11_rule 38 = .ok (.iconst 0, 1) := by decide +kernel
theorem dX11_rule_39 : decode cX11_rule 39 = .ok (.iload_n 1, 1) := by decide +kernel
theorem dX11_rule_40 : decode cX11_rule 40 = .ok (.iastore, 1) := by decide +kernel
theorem dX11_rule_41 : decode cX11_rule 41 = .ok (.iload_n 2, 1) := by decide +kernel
theorem dX11_rule_42 : decode cX11_rule 42 = .ok (.ireturn, 1) := by decide +kernel
theorem dX11_run_0 : decode cX11_run 0 = .ok (.aload_n 0, 1) := by decide +kernel
theorem dX11_run_1 : decode cX11_run 1 = .ok (.iconst 0, 1) := by decide +kernel
theorem dX11_run_2 : decode cX11_run 2 = .ok (.putfield 99, 3) := by decide +kernel
theorem dX11_run_5 : decode cX11_run 5 = .ok (.aload_n 0, 1) := by decide +kernel
theorem dX11_run_6 : decode cX11_run 6 = .ok (.iload_n 1, 1) := by decide +kernel
theorem dX11_run_7 : decode cX11_run 7 = .ok (.iload_n 2, 1) := by decide +kernel
theorem dX11_run_8 : decode cX11_run 8 = .ok (.invokevirtual 468, 3) := by decide +kernel
theorem dX11_run_11 : decode cX11_run 11 = .ok (.istore_n 3, 1) := by decide +kernel
theorem dX11_run_12 : decode cX11_run 12 = .ok (.iload_n 3, 1) := by decide +kernel
theorem dX11_run_13 : decode cX11_run 13 = .ok (.ifCond .eq 5, 3) := by decide +kernel
theorem dX11_run_16 : decode cX11_run 16 = .ok (.iload_n 3, 1) := by decide +kernel
theorem dX11_run_17 : decode cX11_run 17 = .ok (.ireturn, 1) := by decide +kernel
theorem dX11_run_18 : decode cX11_run 18 = .ok (.aload_n 0, 1) := by decide +kernel
theorem dX11_run_19 : decode cX11_run 19 = .ok (.iload_n 1, 1) := by decide +kernel
theorem dX11_run_20 : decode cX11_run 20 = .ok (.i2l, 1) := by decide +kernel
theorem dX11_run_21 : decode cX11_run 21 = .ok (.putfield 446, 3) := by decide +kernel
theorem dX11_run_24 : decode cX11_run 24 = .ok (.aload_n 0, 1) := by decide +kernel
theorem dX11_run_25 : decode cX11_run 25 = .ok (.iconst 0, 1) := by decide +kernel
theorem dX11_run_26 : decode cX11_run 26 = .ok (.iload_n 2, 1) := by decide +kernel
theorem dX11_run_27 : decode cX11_run 27 = .ok (.invokevirtual 471, 3) := by decide +kernel
theorem dX11_run_30 : decode cX11_run 30 = .ok (.ireturn, 1) := by decide +kernel
theorem dX11_runs_0 : decode cX11_runs 0 = .ok (.aload_n 0, 1) := by decide +kernel
theorem dX11_runs_1 : decode cX11_runs 1 = .ok (.iconst 0, 1) := by decide +kernel
theorem dX11_runs_2 : decode cX11_runs 2 = .ok (.putfield 99, 3) := by decide +kernel
theorem dX11_runs_5 : decode cX11_runs 5 = .ok (.iload_n 2, 1) := by decide +kernel
theorem dX11_runs_6 : decode cX11_runs 6 = .ok (.i2l, 1) := by decide +kernel
theorem dX11_runs_7 : decode cX11_runs 7 = .ok (.lconst 1, 1) := by decide +kernel
theorem dX11_runs_8 : decode cX11_runs 8 = .ok (.ldc2_w 474, 3) := by decide +kernel
theorem dX11_runs_11 : decode cX11_runs 11 = .ok (.invokestatic 104, 3) := by decide +kernel
theorem dX11_runs_14 : decode cX11_runs 14 = .ok (.ifCond .eq 16, 3) := by decide +kernel
theorem dX11_runs_17 : decode cX11_runs 17 = .ok (.iload 4, 2) := by decide +kernel
theorem dX11_runs_19 : decode cX11_runs 19 = .ok (.i2l, 1) := by decide +kernel
theorem dX11_runs_20 : decode cX11_runs 20 = .ok (.lconst 0, 1) := by decide +kernel
theorem dX11_runs_21 : decode cX11_runs 21 = .ok (.ldc2_w 346, 3) := by decide +kernel
theorem dX11_runs_24 : decode cX11_runs 24 = .ok (.invokestatic 104, 3) := by decide +kernel
theorem dX11_runs_27 : decode cX11_runs 27 = .ok (.ifCond .ne 6, 3) := by decide +kernel
theorem dX11_runs_30 : decode cX11_runs 30 = .ok (.bipush (-2), 2) := by decide +kernel
theorem dX11_runs_32 : decode cX11_runs 32 = .ok (.ireturn, 1) := by decide +kernel
theorem dX11_runs_33 : decode cX11_runs 33 = .ok (.aload_n 0, 1) := by decide +kernel
theorem dX11_runs_34 : decode cX11_runs 34 = .ok (.iload_n 1, 1) := by decide +kernel
theorem dX11_runs_35 : decode cX11_runs 35 = .ok (.iload_n 3, 1) := by decide +kernel
theorem dX11_runs_36 : decode cX11_runs 36 = .ok (.invokevirtual 468, 3) := by decide +kernel
theorem dX11_runs_39 : decode cX11_runs 39 = .ok (.istore 5, 2) := by decide +kernel
theorem dX11_runs_41 : decode cX11_runs 41 = .ok (.iload 5, 2) := by decide +kernel
theorem dX11_runs_43 : decode cX11_runs 43 = .ok (.ifCond .eq 6, 3) := by decide +kernel
theorem dX11_runs_46 : decode cX11_runs 46 = .ok (.iload 5, 2) := by decide +kernel
theorem dX11_runs_48 : decode cX11_runs 48 = .ok (.ireturn, 1) := by decide +kernel
theorem dX11_runs_49 : decode cX11_runs 49 = .ok (.iconst 0, 1) := by decide +kernel
theorem dX11_runs_50 : decode cX11_runs 50 = .ok (.istore 6, 2) := by decide +kernel
theorem dX11_runs_52 : decode cX11_runs 52 = .ok (.iconst 0, 1) := by decide +kernel
theorem dX11_runs_53 : decode cX11_runs 53 = .ok (.istore 7, 2) := by decide +kernel
theorem dX11_runs_55 : decode cX11_runs 55 = .ok (.iload 7, 2) := by decide +kernel
theorem dX11_runs_57 : decode cX11_runs 57 = .ok (.iload_n 2, 1) := by decide +kernel
theorem dX11_runs_58 : decode cX11_runs 58 = .ok (.if_icmp .ge 78, 3) := by decide +kernel
theorem dX11_runs_61 : decode cX11_runs 61 = .ok (.aload_n 0, 1) := by decide +kernel
theorem dX11_runs_62 : decode cX11_runs 62 = .ok (.iconst 0, 1) := by decide +kernel
theorem dX11_runs_63 : decode cX11_runs 63 = .ok (.iconst 4, 1) := by decide +kernel
theorem dX11_runs_64 : decode cX11_runs 64 = .ok (.invokevirtual 327, 3) := by decide +kernel
theorem dX11_runs_67 : decode cX11_runs 67 = .ok (.aload_n 0, 1) := by decide +kernel
theorem dX11_runs_68 : decode cX11_runs 68 = .ok (.iload_n 1, 1) := by decide +kernel
theorem dX11_runs_69 : decode cX11_runs 69 = .ok (.i2l, 1) := by decide +kernel
theorem dX11_runs_70 : decode cX11_runs 70 = .ok (.iload 7, 2) := by decide +kernel
theorem dX11_runs_72 : decode cX11_runs 72 = .ok (.i2l, 1) := by decide +kernel
theorem dX11_runs_73 : decode cX11_runs 73 = .ok (.ladd, 1) := by decide +kernel
theorem dX11_runs_74 : decode cX11_runs 74 = .ok (.putfield 446, 3) := by decide +kernel
theorem dX11_runs_77 : decode cX11_runs 77 = .ok (.aload_n 0, 1) := by decide +kernel
theorem dX11_runs_78 : decode cX11_runs 78 = .ok (.iconst 4, 1) := by decide +kernel
theorem dX11_runs_79 : decode cX11_runs 79 = .ok (.iload_n 3, 1) := by decide +kernel
theorem dX11_runs_80 : decode cX11_runs 80 = .ok (.invokevirtual 471, 3) := by decide +kernel
theorem dX11_runs_83 : decode cX11_runs 83 = .ok (.pop, 1) := by decide +kernel
theorem dX11_runs_84 : decode cX11_runs 84 = .ok (.iload 6, 2) := by decide +kernel
theorem dX11_runs_86 : decode cX11_runs 86 = .ok (.iload 4, 2) := by decide +kernel
theorem dX11_runs_88 : decode cX11_runs 88 = .ok (.iconst 2, 1) := by decide +kernel
theorem dX11_runs_89 : decode cX11_runs 89 = .ok (.if_icmp .ne 21, 3) := by decide +kernel
theorem dX11_runs_92 : decode cX11_runs 92 = .ok (.aload_n 0, 1) := by decide +kernel
theorem dX11_runs_93 : decode cX11_runs 93 = .ok (.iconst 4, 1) := by decide +kernel
theorem dX11_runs_94 : decode cX11_runs 94 = .ok (.iconst 0, 1) := by decide +kernel
theorem dX11_runs_95 : decode cX11_runs 95 = .ok (.iconst 0, 1) := by decide +kernel
theorem dX11_runs_96 : decode cX11_runs 96 = .ok (.invokevirtual 324, 3) := by decide +kernel
theorem dX11_runs_99 : decode cX11_runs 99 = .ok (.aload_n 0, 1) := by decide +kernel
theorem dX11_runs_100 : decode cX11_runs 100 = .ok (.iconst 4, 1) := by decide +kernel
theorem dX11_runs_101 : decode cX11_runs 101 = .ok (.iconst 1, 1) := by decide +kernel
theorem dX11_runs_102 : decode cX11_runs 102 = .ok (.iconst 0, 1) := by decide +kernel
theorem dX11_runs_103 : decode cX11_runs 103 = .ok (.invokevirtual 324, 3) := by decide +kernel
theorem dX11_runs_106 : decode cX11_runs 106 = .ok (.iadd, 1) := by decide +kernel
theorem dX11_runs_107 : decode cX11_runs 107 = .ok (.goto 20, 3) := by decide +kernel
theorem dX11_runs_110 : decode cX11_runs 110 = .ok (.aload_n 0, 1) := by decide +kernel
theorem dX11_runs_111 : decode cX11_runs 111 = .ok (.getfield 71, 3) := by decide +kernel
theorem dX11_runs_114 : decode cX11_runs 114 = .ok (.bipush 13, 2) := by decide +kernel
theorem dX11_runs_116 : decode cX11_runs 116 = .ok (.iaload, 1) := by decide +kernel
theorem dX11_runs_117 : decode cX11_runs 117 = .ok (.iload 4, 2) := by decide +kernel
theorem dX11_runs_119 : decode cX11_runs 119 = .ok (.if_icmp .ne 7, 3) := by decide +kernel
theorem dX11_runs_122 : decode cX11_runs 122 = .ok (.iconst 1, 1) := by decide +kernel
theorem dX11_runs_123 : decode cX11_runs 123 = .ok (.goto 4, 3) := by decide +kernel
theorem dX11_runs_126 : decode cX11_runs 126 = .ok (.iconst 0, 1) := by decide +kernel
theorem dX11_runs_127 : decode cX11_runs 127 = .ok (.iadd, 1) := by decide +kernel
theorem dX11_runs_128 : decode cX11_runs 128 = .ok (.istore 6, 2) := by decide +kernel
theorem dX11_runs_130 : decode cX11_runs 130 = .ok (.iinc 7 1, 3) := by decide +kernel
theorem dX11_runs_133 : decode cX11_runs 133 = .ok (.goto (-78), 3) := by decide +kernel
theorem dX11_runs_136 : decode cX11_runs 136 = .ok (.iload 6, 2) := by decide +kernel
theorem dX11_runs_138 : decode cX11_runs 138 = .ok (.ireturn, 1) := by decide +kernel
theorem dX11_span_0 : decode cX11_span 0 = .ok (.aload_n 0, 1) := by decide +kernel
theorem dX11_span_1 : decode cX11_span 1 = .ok (.iconst 0, 1) := by decide +kernel
theorem dX11_span_2 : decode cX11_span 2 = .ok (.putfield 99, 3) := by decide +kernel
theorem dX11_span_5 : decode cX11_span 5 = .ok (.aload_n 0, 1) := by decide +kernel
theorem dX11_span_6 : decode cX11_span 6 = .ok (.iload_n 1, 1) := by decide +kernel
theorem dX11_span_7 : decode cX11_span 7 = .ok (.invokevirtual 370, 3) := by decide +kernel
theorem dX11_span_10 : decode cX11_span 10 = .ok (.ifCond .eq 20, 3) := by decide +kernel
theorem dX11_span_13 : decode cX11_span 13 = .ok (.iload_n 2, 1) := by decide +kernel
theorem dX11_span_14 : decode cX11_span 14 = .ok (.invokestatic 283, 3) := by decide +kernel
theorem dX11_span_17 : decode cX11_span 17 = .ok (.ifCond .eq 13, 3) := by decide +kernel
theorem dX11_span_20 : decode cX11_span 20 = .ok (.iload_n 3, 1) := by decide +kernel
theorem dX11_span_21 : decode cX11_span 21 = .ok (.i2l, 1) := by decide +kernel
theorem dX11_span_22 : decode cX11_span 22 = .ok (.lconst 0, 1) := by decide +kernel
theorem dX11_span_23 : decode cX11_span 23 = .ok (.lconst 1, 1) := by decide +kernel
theorem dX11_span_24 : decode cX11_span 24 = .ok (.invokestatic 104, 3) := by decide +kernel
theorem dX11_span_27 : decode cX11_span 27 = .ok (.ifCond .ne 6, 3) := by decide +kernel
theorem dX11_span_30 : decode cX11_span 30 = .ok (.bipush (-2), 2) := by decide +kernel
theorem dX11_span_32 : decode cX11_span 32 = .ok (.ireturn, 1) := by decide +kernel
theorem dX11_span_33 : decode cX11_span 33 = .ok (.aload_n 0, 1) := by decide +kernel
theorem dX11_span_34 : decode cX11_span 34 = .ok (.iload_n 1, 1) := by decide +kernel
theorem dX11_span_35 : decode cX11_span 35 = .ok (.iload_n 2, 1) := by decide +kernel
theorem dX11_span_36 : decode cX11_span 36 = .ok (.invokevirtual 373, 3) := by decide +kernel
theorem dX11_span_39 : decode cX11_span 39 = .ok (.iload_n 3, 1) := by decide +kernel
theorem dX11_span_40 : decode cX11_span 40 = .ok (.iconst 1, 1) := by decide +kernel
theorem dX11_span_41 : decode cX11_span 41 = .ok (.if_icmp .ne 18, 3) := by decide +kernel
theorem dX11_span_44 : decode cX11_span 44 = .ok (.aload_n 0, 1) := by decide +kernel
theorem dX11_span_45 : decode cX11_span 45 = .ok (.getfield 71, 3) := by decide +kernel
theorem dX11_span_48 : decode cX11_span 48 = .ok (.iconst 2, 1) := by decide +kernel
theorem dX11_span_49 : decode cX11_span 49 = .ok (.iaload, 1) := by decide +kernel
theorem dX11_span_50 : decode cX11_span 50 = .ok (.aload_n 0, 1) := by decide +kernel
theorem dX11_span_51 : decode cX11_span 51 = .ok (.iconst (-1), 1) := by decide +kernel
theorem dX11_span_52 : decode cX11_span 52 = .ok (.invokevirtual 376, 3) := by decide +kernel
theorem dX11_span_55 : decode cX11_span 55 = .ok (.isub, 1) := by decide +kernel
theorem dX11_span_56 : decode cX11_span 56 = .ok (.goto 4, 3) := by decide +kernel
theorem dX11_span_59 : decode cX11_span 59 = .ok (.iconst 0, 1) := by decide +kernel
theorem dX11_span_60 : decode cX11_span 60 = .ok (.iadd, 1) := by decide +kernel
theorem dX11_span_61 : decode cX11_span 61 = .ok (.ireturn, 1) := by decide +kernel
theorem dX11_storm_0 : decode cX11_storm 0 = .ok (.aload_n 0, 1) := by decide +kernel
theorem dX11_storm_1 : decode cX11_storm 1 = .ok (.iconst 0, 1) := by decide +kernel
theorem dX11_storm_2 : decode cX11_storm 2 = .ok (.putfield 99, 3) := by decide +kernel
theorem dX11_storm_5 : decode cX11_storm 5 = .ok (.aload_n 0, 1) := by decide +kernel
theorem dX11_storm_6 : decode cX11_storm 6 = .ok (.invokevirtual 316, 3) := by decide +kernel
theorem dX11_storm_9 : decode cX11_storm 9 = .ok (.ifCond .eq 10, 3) := by decide +kernel
theorem dX11_storm_12 : decode cX11_storm 12 = .ok (.iload_n 1, 1) := by decide +kernel
theorem dX11_storm_13 : decode cX11_storm 13 = .ok (.invokestatic 460, 3) := by decide +kernel
theorem dX11_storm_16 : decode cX11_storm 16 = .ok (.ifCond .ne 6, 3) := by decide +kernel
theorem dX11_storm_19 : decode cX11_storm 19 = .ok (.bipush (-2), 2) := by decide +kernel
theorem dX11_storm_21 : decode cX11_storm 21 = .ok (.ireturn, 1) := by decide +kernel
theorem dX11_storm_22 : decode cX11_storm 22 = .ok (.aload_n 0, 1) := by decide +kernel
theorem dX11_storm_23 : decode cX11_storm 23 = .ok (.iload_n 1, 1) := by decide +kernel
theorem dX11_storm_24 : decode cX11_storm 24 = .ok (.i2l, 1) := by decide +kernel
theorem dX11_storm_25 : decode cX11_storm 25 = .ok (.putfield 446, 3) := by decide +kernel
theorem dX11_storm_28 : decode cX11_storm 28 = .ok (.aload_n 0, 1) := by decide +kernel
theorem dX11_storm_29 : decode cX11_storm 29 = .ok (.iconst 0, 1) := by decide +kernel
theorem dX11_storm_30 : decode cX11_storm 30 = .ok (.invokevirtual 463, 3) := by decide +kernel
theorem dX11_storm_33 : decode cX11_storm 33 = .ok (.ireturn, 1) := by decide +kernel
theorem dX11_storms_0 : decode cX11_storms 0 = .ok (.iconst 0, 1) := by decide +kernel
theorem dX11_storms_1 : decode cX11_storms 1 = .ok (.istore_n 2, 1) := by decide +kernel
theorem dX11_storms_2 : decode cX11_storms 2 = .ok (.iconst 0, 1) := by decide +kernel
theorem dX11_storms_3 : decode cX11_storms 3 = .ok (.istore_n 3, 1) := by decide +kernel
theorem dX11_storms_4 : decode cX11_storms 4 = .ok (.iload_n 3, 1) := by decide +kernel
theorem dX11_storms_5 : decode cX11_storms 5 = .ok (.bipush 16, 2) := by decide +kernel
theorem dX11_storms_7 : decode cX11_storms 7 = .ok (.if_icmp .ge 56, 3) := by decide +kernel
theorem dX11_storms_10 : decode cX11_storms 10 = .ok (.aload_n 0, 1) := by decide +kernel
theorem dX11_storms_11 : decode cX11_storms 11 = .ok (.getfield 56, 3) := by decide +kernel
theorem dX11_storms_14 : decode cX11_storms 14 = .ok (.bipush 16, 2) := by decide +kernel
theorem dX11_storms_16 : decode cX11_storms 16 = .ok (.iload_n 1, 1) := by decide +kernel
theorem dX11_storms_17 : decode cX11_storms 17 = .ok (.imul, 1) := by decide +kernel
theorem dX11_storms_18 : decode cX11_storms 18 = .ok (.iload_n 3, 1) := by decide +kernel
theorem dX11_storms_19 : decode cX11_storms 19 = .ok (.iadd, 1) := by decide +kernel
theorem dX11_storms_20 : decode cX11_storms 20 = .ok (.iaload, 1) := by decide +kernel
theorem dX11_storms_21 : decode cX11_storms 21 = .ok (.ifCond .eq 36, 3) := by decide +kernel
theorem dX11_storms_24 : decode cX11_storms 24 = .ok (.aload_n 0, 1) := by decide +kernel
theorem dX11_storms_25 : decode cX11_storms 25 = .ok (.invokevirtual 455, 3) := by decide +kernel
theorem dX11_storms_28 : decode cX11_storms 28 = .ok (.aload_n 0, 1) := by decide +kernel
theorem dX11_storms_29 : decode cX11_storms 29 = .ok (.getfield 49, 3) := by decide +kernel
theorem dX11_storms_32 : decode cX11_storms 32 = .ok (.iconst 1, 1) := by decide +kernel
theorem dX11_storms_33 : decode cX11_storms 33 = .ok (.iaload, 1) := by decide +kernel
theorem dX11_storms_34 : decode cX11_storms 34 = .ok (.if_icmp .lt 6, 3) := by decide +kernel
theorem dX11_storms_37 : decode cX11_storms 37 = .ok (.goto 20, 3) := by decide +kernel
theorem dX11_storms_40 : decode cX11_storms 40 = .ok (.aload_n 0, 1) := by decide +kernel
theorem dX11_storms_41 : decode cX11_storms 41 = .ok (.iload_n 1, 1) := by decide +kernel
theorem dX11_storms_42 : decode cX11_storms 42 = .ok (.iload_n 3, 1) := by decide +kernel
theorem dX11_storms_43 : decode cX11_storms 43 = .ok (.bipush 8, 2) := by decide +kernel
theorem dX11_storms_45 : decode cX11_storms 45 = .ok (.idiv, 1) := by decide +kernel
theorem dX11_storms_46 : decode cX11_storms 46 = .ok (.iload_n 3, 1) := by decide +kernel
theorem dX11_storms_47 : decode cX11_storms 47 = .ok (.bipush 8, 2) := by decide +kernel
theorem dX11_storms_49 : decode cX11_storms 49 = .ok (.irem, 1) := by decide +kernel
theorem dX11_storms_50 : decode cX11_storms 50 = .ok (.invokevirtual 311, 3) := by decide +kernel
theorem dX11_storms_53 : decode cX11_storms 53 = .ok (.pop, 1) := by decide +kernel
theorem dX11_storms_54 : decode cX11_storms 54 = .ok (.iinc 2 1, 3) := by decide +kernel
theorem dX11_storms_57 : decode cX11_storms 57 = .ok (.iinc 3 1, 3) := by decide +kernel
theorem dX11_storms_60 : decode cX11_storms 60 = .ok (.goto (-56), 3) := by decide +kernel
theorem dX11_storms_63 : decode cX11_storms 63 = .ok (.iload_n 2, 1) := by decide +kernel
theorem dX11_storms_64 : decode cX11_storms 64 = .ok (.ireturn, 1) := by decide +kernel
theorem dX11_suits_0 : decode cX11_suits 0 = .ok (.aload_n 0, 1) := by decide +kernel
theorem dX11_suits_1 : decode cX11_suits 1 = .ok (.iconst 0, 1) := by decide +kernel
theorem dX11_suits_2 : decode cX11_suits 2 = .ok (.putfield 99, 3) := by decide +kernel
theorem dX11_suits_5 : decode cX11_suits 5 = .ok (.aload_n 0, 1) := by decide +kernel
theorem dX11_suits_6 : decode cX11_suits 6 = .ok (.invokevirtual 316, 3) := by decide +kernel
theorem dX11_suits_9 : decode cX11_suits 9 = .ok (.ifCond .eq 10, 3) := by decide +kernel
theorem dX11_suits_12 : decode cX11_suits 12 = .ok (.iload_n 1, 1) := by decide +kernel
theorem dX11_suits_13 : decode cX11_suits 13 = .ok (.invokestatic 283, 3) := by decide +kernel
theorem dX11_suits_16 : decode cX11_suits 16 = .ok (.ifCond .ne 6, 3) := by decide +kernel
theorem dX11_suits_19 : decode cX11_suits 19 = .ok (.bipush (-2), 2) := by decide +kernel
theorem dX11_suits_21 : decode cX11_suits 21 = .ok (.ireturn, 1) := by decide +kernel
theorem dX11_suits_22 : decode cX11_suits 22 = .ok (.iconst 0, 1) := by decide +kernel
theorem dX11_suits_23 : decode cX11_suits 23 = .ok (.istore_n 2, 1) := by decide +kernel
theorem dX11_suits_24 : decode cX11_suits 24 = .ok (.iload_n 2, 1) := by decide +kernel
theorem dX11_suits_25 : decode cX11_suits 25 = .ok (.iconst 3, 1) := by decide +kernel
theorem dX11_suits_26 : decode cX11_suits 26 = .ok (.if_icmp .ge 21, 3) := by decide +kernel
theorem dX11_suits_29 : decode cX11_suits 29 = .ok (.aload_n 0, 1) := by decide +kernel
theorem dX11_suits_30 : decode cX11_suits 30 = .ok (.iconst 0, 1) := by decide +kernel
theorem dX11_suits_31 : decode cX11_suits 31 = .ok (.iload_n 2, 1) := by decide +kernel
theorem dX11_suits_32 : decode cX11_suits 32 = .ok (.invokevirtual 334, 3) := by decide +kernel
theorem dX11_suits_35 : decode cX11_suits 35 = .ok (.iload_n 1, 1) := by decide +kernel
theorem dX11_suits_36 : decode cX11_suits 36 = .ok (.if_icmp .ne 5, 3) := by decide +kernel
theorem dX11_suits_39 : decode cX11_suits 39 = .ok (.iload_n 2, 1) := by decide +kernel
theorem dX11_suits_40 : decode cX11_suits 40 = .ok (.ireturn, 1) := by decide +kernel
theorem dX11_suits_41 : decode cX11_suits 41 = .ok (.iinc 2 1, 3) := by decide +kernel
theorem dX11_suits_44 : decode cX11_suits 44 = .ok (.goto (-20), 3) := by decide +kernel
theorem dX11_suits_47 : decode cX11_suits 47 = .ok (.iconst (-1), 1) := by decide +kernel
theorem dX11_suits_48 : decode cX11_suits 48 = .ok (.ireturn, 1) := by decide +kernel
theorem dX11_then_0 : decode cX11_then 0 = .ok (.aload_n 0, 1) := by decide +kernel
theorem dX11_then_1 : decode cX11_then 1 = .ok (.iconst 0, 1) := by decide +kernel
theorem dX11_then_2 : decode cX11_then 2 = .ok (.putfield 99, 3) := by decide +kernel
theorem dX11_then_5 : decode cX11_then 5 = .ok (.aload_n 0, 1) := by decide +kernel
theorem dX11_then_6 : decode cX11_then 6 = .ok (.iload_n 1, 1) := by decide +kernel
theorem dX11_then_7 : decode cX11_then 7 = .ok (.invokevirtual 478, 3) := by decide +kernel
theorem dX11_then_10 : decode cX11_then 10 = .ok (.istore_n 2, 1) := by decide +kernel
theorem dX11_then_11 : decode cX11_then 11 = .ok (.iload_n 2, 1) := by decide +kernel
theorem dX11_then_12 : decode cX11_then 12 = .ok (.ifCond .eq 5, 3) := by decide +kernel
theorem dX11_then_15 : decode cX11_then 15 = .ok (.iload_n 2, 1) := by decide +kernel
theorem dX11_then_16 : decode cX11_then 16 = .ok (.ireturn, 1) := by decide +kernel
theorem dX11_then_17 : decode cX11_then 17 = .ok (.aload_n 0, 1) := by decide +kernel
theorem dX11_then_18 : decode cX11_then 18 = .ok (.iload_n 1, 1) := by decide +kernel
theorem dX11_then_19 : decode cX11_then 19 = .ok (.invokevirtual 481, 3) := by decide +kernel
theorem dX11_then_22 : decode cX11_then 22 = .ok (.pop, 1) := by decide +kernel
theorem dX11_then_23 : decode cX11_then 23 = .ok (.aload_n 0, 1) := by decide +kernel
theorem dX11_then_24 : decode cX11_then 24 = .ok (.iconst 4, 1) := by decide +kernel
theorem dX11_then_25 : decode cX11_then 25 = .ok (.aload_n 0, 1) := by decide +kernel
theorem dX11_then_26 : decode cX11_then 26 = .ok (.getfield 49, 3) := by decide +kernel
theorem dX11_then_29 : decode cX11_then 29 = .ok (.iconst 0, 1) := by decide +kernel
theorem dX11_then_30 : decode cX11_then 30 = .ok (.iaload, 1) := by decide +kernel
theorem dX11_then_31 : decode cX11_then 31 = .ok (.invokevirtual 334, 3) := by decide +kernel
theorem dX11_then_34 : decode cX11_then 34 = .ok (.ireturn, 1) := by decide +kernel
theorem dX11_whyNotJudged_0 : decode cX11_whyNotJudged 0 = .ok (.iload_n 1, 1) := by decide +kernel
theorem dX11_whyNotJudged_1 : decode cX11_whyNotJudged 1 = .ok (.invokestatic 108, 3) := by decide +kernel
