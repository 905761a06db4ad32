theorem dX11_lays_52 : decode cX11_lays 52 = .ok (.iload_n 1, 1) := by decide +kernel
theorem dX11_lays_53 : decode cX11_lays 53 = .ok (.imul, 1) := by decide +kernel
theorem dX11_lays_54 : decode cX11_lays 54 = .ok (.iconst 0, 1) := by decide +kernel
theorem dX11_lays_55 : decode cX11_lays 55 = .ok (.iadd, 1) := by decide +kernel
theorem dX11_lays_56 : decode cX11_lays 56 = .ok (.iaload, 1) := by decide +kernel
theorem dX11_lays_57 : decode cX11_lays 57 = .ok (.iastore, 1) := by decide +kernel
theorem dX11_lays_58 : decode cX11_lays 58 = .ok (.aload_n 0, 1) := by decide +kernel
theorem dX11_lays_59 : decode cX11_lays 59 = .ok (.getfield 56, 3) := by decide +kernel
theorem dX11_lays_62 : decode cX11_lays 62 = .ok (.iload 6, 2) := by decide +kernel
theorem dX11_lays_64 : decode cX11_lays 64 = .ok (.dup2, 1) := by decide +kernel
theorem dX11_lays_65 : decode cX11_lays 65 = .ok (.iaload, 1) := by decide +kernel
theorem dX11_lays_66 : decode cX11_lays 66 = .ok (.iconst 1, 1) := by decide +kernel
theorem dX11_lays_67 : decode cX11_lays 67 = .ok (.iadd, 1) := by decide +kernel
theorem dX11_lays_68 : decode cX11_lays 68 = .ok (.iastore, 1) := by decide +kernel
theorem dX11_lays_69 : decode cX11_lays 69 = .ok (.aload_n 0, 1) := by decide +kernel
theorem dX11_lays_70 : decode cX11_lays 70 = .ok (.getfield 68, 3) := by decide +kernel
theorem dX11_lays_73 : decode cX11_lays 73 = .ok (.iconst 5, 1) := by decide +kernel
theorem dX11_lays_74 : decode cX11_lays 74 = .ok (.iload_n 1, 1) := by decide +kernel
theorem dX11_lays_75 : decode cX11_lays 75 = .ok (.imul, 1) := by decide +kernel
theorem dX11_lays_76 : decode cX11_lays 76 = .ok (.iload 4, 2) := by decide +kernel
theorem dX11_lays_78 : decode cX11_lays 78 = .ok (.iadd, 1) := by decide +kernel
theorem dX11_lays_79 : decode cX11_lays 79 = .ok (.dup2, 1) := by decide +kernel
theorem dX11_lays_80 : decode cX11_lays 80 = .ok (.iaload, 1) := by decide +kernel
theorem dX11_lays_81 : decode cX11_lays 81 = .ok (.iconst 1, 1) := by decide +kernel
theorem dX11_lays_82 : decode cX11_lays 82 = .ok (.isub, 1) := by decide +kernel
theorem dX11_lays_83 : decode cX11_lays 83 = .ok (.iastore, 1) := by decide +kernel
theorem dX11_lays_84 : decode cX11_lays 84 = .ok (.return_, 1) := by decide +kernel
theorem dX11_leads_0 : decode cX11_leads 0 = .ok (.aload_n 0, 1) := by decide +kernel
theorem dX11_leads_1 : decode cX11_leads 1 = .ok (.iconst 0, 1) := by decide +kernel
theorem dX11_leads_2 : decode cX11_leads 2 = .ok (.putfield 99, 3) := by decide +kernel
theorem dX11_leads_5 : decode cX11_leads 5 = .ok (.aload_n 0, 1) := by decide +kernel
theorem dX11_leads_6 : decode cX11_leads 6 = .ok (.invokevirtual 316, 3) := by decide +kernel
theorem dX11_leads_9 : decode cX11_leads 9 = .ok (.ifCond .eq 17, 3) := by decide +kernel
theorem dX11_leads_12 : decode cX11_leads 12 = .ok (.aload_n 0, 1) := by decide +kernel
theorem dX11_leads_13 : decode cX11_leads 13 = .ok (.iconst 0, 1) := by decide +kernel
theorem dX11_leads_14 : decode cX11_leads 14 = .ok (.aload_n 0, 1) := by decide +kernel
theorem dX11_leads_15 : decode cX11_leads 15 = .ok (.getfield 49, 3) := by decide +kernel
theorem dX11_leads_18 : decode cX11_leads 18 = .ok (.iconst 0, 1) := by decide +kernel
theorem dX11_leads_19 : decode cX11_leads 19 = .ok (.iaload, 1) := by decide +kernel
theorem dX11_leads_20 : decode cX11_leads 20 = .ok (.invokevirtual 334, 3) := by decide +kernel
theorem dX11_leads_23 : decode cX11_leads 23 = .ok (.goto 5, 3) := by decide +kernel
theorem dX11_leads_26 : decode cX11_leads 26 = .ok (.bipush (-2), 2) := by decide +kernel
theorem dX11_leads_28 : decode cX11_leads 28 = .ok (.ireturn, 1) := by decide +kernel
theorem dX11_leadsBy_0 : decode cX11_leadsBy 0 = .ok (.aload_n 0, 1) := by decide +kernel
theorem dX11_leadsBy_1 : decode cX11_leadsBy 1 = .ok (.iload_n 1, 1) := by decide +kernel
theorem dX11_leadsBy_2 : decode cX11_leadsBy 2 = .ok (.iconst 0, 1) := by decide +kernel
theorem dX11_leadsBy_3 : decode cX11_leadsBy 3 = .ok (.iload_n 2, 1) := by decide +kernel
theorem dX11_leadsBy_4 : decode cX11_leadsBy 4 = .ok (.invokevirtual 324, 3) := by decide +kernel
theorem dX11_leadsBy_7 : decode cX11_leadsBy 7 = .ok (.aload_n 0, 1) := by decide +kernel
theorem dX11_leadsBy_8 : decode cX11_leadsBy 8 = .ok (.iload_n 1, 1) := by decide +kernel
theorem dX11_leadsBy_9 : decode cX11_leadsBy 9 = .ok (.iconst 1, 1) := by decide +kernel
theorem dX11_leadsBy_10 : decode cX11_leadsBy 10 = .ok (.iload_n 2, 1) := by decide +kernel
theorem dX11_leadsBy_11 : decode cX11_leadsBy 11 = .ok (.invokevirtual 324, 3) := by decide +kernel
theorem dX11_leadsBy_14 : decode cX11_leadsBy 14 = .ok (.isub, 1) := by decide +kernel
theorem dX11_leadsBy_15 : decode cX11_leadsBy 15 = .ok (.istore_n 3, 1) := by decide +kernel
theorem dX11_leadsBy_16 : decode cX11_leadsBy 16 = .ok (.iload_n 3, 1) := by decide +kernel
theorem dX11_leadsBy_17 : decode cX11_leadsBy 17 = .ok (.ifCond .le 7, 3) := by decide +kernel
theorem dX11_leadsBy_20 : decode cX11_leadsBy 20 = .ok (.iconst 0, 1) := by decide +kernel
theorem dX11_leadsBy_21 : decode cX11_leadsBy 21 = .ok (.goto 12, 3) := by decide +kernel
theorem dX11_leadsBy_24 : decode cX11_leadsBy 24 = .ok (.iload_n 3, 1) := by decide +kernel
theorem dX11_leadsBy_25 : decode cX11_leadsBy 25 = .ok (.ifCond .ge 7, 3) := by decide +kernel
theorem dX11_leadsBy_28 : decode cX11_leadsBy 28 = .ok (.iconst 1, 1) := by decide +kernel
theorem dX11_leadsBy_29 : decode cX11_leadsBy 29 = .ok (.goto 4, 3) := by decide +kernel
theorem dX11_leadsBy_32 : decode cX11_leadsBy 32 = .ok (.iconst 2, 1) := by decide +kernel
theorem dX11_leadsBy_33 : decode cX11_leadsBy 33 = .ok (.ireturn, 1) := by decide +kernel
theorem dX11_may_0 : decode cX11_may 0 = .ok (.aload_n 0, 1) := by decide +kernel
theorem dX11_may_1 : decode cX11_may 1 = .ok (.iload_n 1, 1) := by decide +kernel
theorem dX11_may_2 : decode cX11_may 2 = .ok (.iload_n 2, 1) := by decide +kernel
theorem dX11_may_3 : decode cX11_may 3 = .ok (.iload_n 3, 1) := by decide +kernel
theorem dX11_may_4 : decode cX11_may 4 = .ok (.aload_n 0, 1) := by decide +kernel
theorem dX11_may_5 : decode cX11_may 5 = .ok (.iload 4, 2) := by decide +kernel
theorem dX11_may_7 : decode cX11_may 7 = .ok (.invokevirtual 289, 3) := by decide +kernel
theorem dX11_may_10 : decode cX11_may 10 = .ok (.invokevirtual 293, 3) := by decide +kernel
theorem dX11_may_13 : decode cX11_may 13 = .ok (.ireturn, 1) := by decide +kernel
theorem dX11_may__0 : decode cX11_may_ 0 = .ok (.aload_n 0, 1) := by decide +kernel
theorem dX11_may__1 : decode cX11_may_ 1 = .ok (.iconst 0, 1) := by decide +kernel
theorem dX11_may__2 : decode cX11_may_ 2 = .ok (.putfield 99, 3) := by decide +kernel
theorem dX11_may__5 : decode cX11_may_ 5 = .ok (.aload_n 0, 1) := by decide +kernel
theorem dX11_may__6 : decode cX11_may_ 6 = .ok (.iload_n 1, 1) := by decide +kernel
theorem dX11_may__7 : decode cX11_may_ 7 = .ok (.iload_n 2, 1) := by decide +kernel
theorem dX11_may__8 : decode cX11_may_ 8 = .ok (.invokevirtual 297, 3) := by decide +kernel
theorem dX11_may__11 : decode cX11_may_ 11 = .ok (.ifCond .eq 11, 3) := by decide +kernel
theorem dX11_may__14 : decode cX11_may_ 14 = .ok (.aload_n 0, 1) := by decide +kernel
theorem dX11_may__15 : decode cX11_may_ 15 = .ok (.iload_n 3, 1) := by decide +kernel
theorem dX11_may__16 : decode cX11_may_ 16 = .ok (.invokevirtual 301, 3) := by decide +kernel
theorem dX11_may__19 : decode cX11_may_ 19 = .ok (.ifCond .ne 8, 3) := by decide +kernel
theorem dX11_may__22 : decode cX11_may_ 22 = .ok (.bipush (-2), 2) := by decide +kernel
theorem dX11_may__24 : decode cX11_may_ 24 = .ok (.goto 19, 3) := by decide +kernel
theorem dX11_may__27 : decode cX11_may_ 27 = .ok (.aload_n 0, 1) := by decide +kernel
theorem dX11_may__28 : decode cX11_may_ 28 = .ok (.iconst 0, 1) := by decide +kernel
theorem dX11_may__29 : decode cX11_may_ 29 = .ok (.iload_n 1, 1) := by decide +kernel
theorem dX11_may__30 : decode cX11_may_ 30 = .ok (.iload_n 2, 1) := by decide +kernel
theorem dX11_may__31 : decode cX11_may_ 31 = .ok (.iload_n 3, 1) := by decide +kernel
theorem dX11_may__32 : decode cX11_may_ 32 = .ok (.invokevirtual 304, 3) := by decide +kernel
theorem dX11_may__35 : decode cX11_may_ 35 = .ok (.ifCond .eq 7, 3) := by decide +kernel
theorem dX11_may__38 : decode cX11_may_ 38 = .ok (.iconst 1, 1) := by decide +kernel
theorem dX11_may__39 : decode cX11_may_ 39 = .ok (.goto 4, 3) := by decide +kernel
theorem dX11_may__42 : decode cX11_may_ 42 = .ok (.iconst 0, 1) := by decide +kernel
theorem dX11_may__43 : decode cX11_may_ 43 = .ok (.ireturn, 1) := by decide +kernel
theorem dX11_pile_0 : decode cX11_pile 0 = .ok (.aload_n 0, 1) := by decide +kernel
theorem dX11_pile_1 : decode cX11_pile 1 = .ok (.iconst 0, 1) := by decide +kernel
theorem dX11_pile_2 : decode cX11_pile 2 = .ok (.putfield 99, 3) := by decide +kernel
theorem dX11_pile_5 : decode cX11_pile 5 = .ok (.aload_n 0, 1) := by decide +kernel
theorem dX11_pile_6 : decode cX11_pile 6 = .ok (.iload_n 1, 1) := by decide +kernel
theorem dX11_pile_7 : decode cX11_pile 7 = .ok (.invokevirtual 301, 3) := by decide +kernel
theorem dX11_pile_10 : decode cX11_pile 10 = .ok (.ifCond .eq 12, 3) := by decide +kernel
theorem dX11_pile_13 : decode cX11_pile 13 = .ok (.aload_n 0, 1) := by decide +kernel
theorem dX11_pile_14 : decode cX11_pile 14 = .ok (.getfield 68, 3) := by decide +kernel
theorem dX11_pile_17 : decode cX11_pile 17 = .ok (.iload_n 1, 1) := by decide +kernel
theorem dX11_pile_18 : decode cX11_pile 18 = .ok (.iaload, 1) := by decide +kernel
theorem dX11_pile_19 : decode cX11_pile 19 = .ok (.goto 5, 3) := by decide +kernel
theorem dX11_pile_22 : decode cX11_pile 22 = .ok (.bipush (-2), 2) := by decide +kernel
theorem dX11_pile_24 : decode cX11_pile 24 = .ok (.ireturn, 1) := by decide +kernel
theorem dX11_side_0 : decode cX11_side 0 = .ok (.aload_n 0, 1) := by decide +kernel
theorem dX11_side_1 : decode cX11_side 1 = .ok (.iconst 0, 1) := by decide +kernel
theorem dX11_side_2 : decode cX11_side 2 = .ok (.putfield 99, 3) := by decide +kernel
theorem dX11_side_5 : decode cX11_side 5 = .ok (.aload_n 0, 1) := by decide +kernel
theorem dX11_side_6 : decode cX11_side 6 = .ok (.invokevirtual 316, 3) := by decide +kernel
theorem dX11_side_9 : decode cX11_side 9 = .ok (.ifCond .eq 22, 3) := by decide +kernel
theorem dX11_side_12 : decode cX11_side 12 = .ok (.iload_n 1, 1) := by decide +kernel
theorem dX11_side_13 : decode cX11_side 13 = .ok (.invokestatic 283, 3) := by decide +kernel
theorem dX11_side_16 : decode cX11_side 16 = .ok (.ifCond .eq 15, 3) := by decide +kernel
theorem dX11_side_19 : decode cX11_side 19 = .ok (.iload_n 2, 1) := by decide +kernel
theorem dX11_side_20 : decode cX11_side 20 = .ok (.i2l, 1) := by decide +kernel
theorem dX11_side_21 : decode cX11_side 21 = .ok (.lconst 0, 1) := by decide +kernel
theorem dX11_side_22 : decode cX11_side 22 = .ok (.ldc2_w 319, 3) := by decide +kernel
theorem dX11_side_25 : decode cX11_side 25 = .ok (.invokestatic 104, 3) := by decide +kernel
theorem dX11_side_28 : decode cX11_side 28 = .ok (.ifCond .ne 6, 3) := by decide +kernel
theorem dX11_side_31 : decode cX11_side 31 = .ok (.bipush (-2), 2) := by decide +kernel
theorem dX11_side_33 : decode cX11_side 33 = .ok (.ireturn, 1) := by decide +kernel
theorem dX11_side_34 : decode cX11_side 34 = .ok (.iload_n 2, 1) := by decide +kernel
theorem dX11_side_35 : decode cX11_side 35 = .ok (.iconst 4, 1) := by decide +kernel
theorem dX11_side_36 : decode cX11_side 36 = .ok (.if_icmp .ne 11, 3) := by decide +kernel
theorem dX11_side_39 : decode cX11_side 39 = .ok (.aload_n 0, 1) := by decide +kernel
theorem dX11_side_40 : decode cX11_side 40 = .ok (.iload_n 1, 1) := by decide +kernel
theorem dX11_side_41 : decode cX11_side 41 = .ok (.invokevirtual 321, 3) := by decide +kernel
theorem dX11_side_44 : decode cX11_side 44 = .ok (.goto 24, 3) := by decide +kernel
theorem dX11_side_47 : decode cX11_side 47 = .ok (.aload_n 0, 1) := by decide +kernel
theorem dX11_side_48 : decode cX11_side 48 = .ok (.iconst 0, 1) := by decide +kernel
theorem dX11_side_49 : decode cX11_side 49 = .ok (.iload_n 1, 1) := by decide +kernel
theorem dX11_side_50 : decode cX11_side 50 = .ok (.iload_n 2, 1) := by decide +kernel
theorem dX11_side_51 : decode cX11_side 51 = .ok (.iconst 3, 1) := by decide +kernel
theorem dX11_side_52 : decode cX11_side 52 = .ok (.if_icmp .ne 12, 3) := by decide +kernel
theorem dX11_side_55 : decode cX11_side 55 = .ok (.aload_n 0, 1) := by decide +kernel
theorem dX11_side_56 : decode cX11_side 56 = .ok (.getfield 49, 3) := by decide +kernel
theorem dX11_side_59 : decode cX11_side 59 = .ok (.iconst 0, 1) := by decide +kernel
theorem dX11_side_60 : decode cX11_side 60 = .ok (.iaload, 1) := by decide +kernel
theorem dX11_side_61 : decode cX11_side 61 = .ok (.goto 4, 3) := by decide +kernel
theorem dX11_side_64 : decode cX11_side 64 = .ok (.iload_n 2, 1) := by decide +kernel
theorem dX11_side_65 : decode cX11_side 65 = .ok (.invokevirtual 324, 3) := by decide +kernel
theorem dX11_side_68 : decode cX11_side 68 = .ok (.ireturn, 1) := by decide +kernel
theorem dX11_slack_0 : decode cX11_slack 0 = .ok (.aload_n 0, 1) := by decide +kernel
theorem dX11_slack_1 : decode cX11_slack 1 = .ok (.iconst 0, 1) := by decide +kernel
theorem dX11_slack_2 : decode cX11_slack 2 = .ok (.putfield 99, 3) := by decide +kernel
theorem dX11_slack_5 : decode cX11_slack 5 = .ok (.aload_n 0, 1) := by decide +kernel
theorem dX11_slack_6 : decode cX11_slack 6 = .ok (.invokevirtual 316, 3) := by decide +kernel
theorem dX11_slack_9 : decode cX11_slack 9 = .ok (.ifCond .eq 10, 3) := by decide +kernel
theorem dX11_slack_12 : decode cX11_slack 12 = .ok (.iload_n 1, 1) := by decide +kernel
theorem dX11_slack_13 : decode cX11_slack 13 = .ok (.invokestatic 283, 3) := by decide +kernel
theorem dX11_slack_16 : decode cX11_slack 16 = .ok (.ifCond .ne 6, 3) := by decide +kernel
theorem dX11_slack_19 : decode cX11_slack 19 = .ok (.bipush (-2), 2) := by decide +kernel
theorem dX11_slack_21 : decode cX11_slack 21 = .ok (.ireturn, 1) := by decide +kernel
theorem dX11_slack_22 : decode cX11_slack 22 = .ok (.iconst (-1), 1) := by decide +kernel
theorem dX11_slack_23 : decode cX11_slack 23 = .ok (.istore_n 2, 1) := by decide +kernel
theorem dX11_slack_24 : decode cX11_slack 24 = .ok (.iconst 0, 1) := by decide +kernel
theorem dX11_slack_25 : decode cX11_slack 25 = .ok (.istore_n 3, 1) := by decide +kernel
theorem dX11_slack_26 : decode cX11_slack 26 = .ok (.iload_n 3, 1) := by decide +kernel
theorem dX11_slack_27 : decode cX11_slack 27 = .ok (.aload_n 0, 1) := by decide +kernel
theorem dX11_slack_28 : decode cX11_slack 28 = .ok (.getfield 34, 3) := by decide +kernel
theorem dX11_slack_31 : decode cX11_slack 31 = .ok (.iconst 0, 1) := by decide +kernel
theorem dX11_slack_32 : decode cX11_slack 32 = .ok (.iaload, 1) := by decide +kernel
theorem dX11_slack_33 : decode cX11_slack 33 = .ok (.if_icmp .ge 85, 3) := by decide +kernel
theorem dX11_slack_36 : decode cX11_slack 36 = .ok (.iconst 0, 1) := by decide +kernel
theorem dX11_slack_37 : decode cX11_slack 37 = .ok (.istore 4, 2) := by decide +kernel
theorem dX11_slack_39 : decode cX11_slack 39 = .ok (.iload 4, 2) := by decide +kernel
theorem dX11_slack_41 : decode cX11_slack 41 = .ok (.aload_n 0, 1) := by decide +kernel
theorem dX11_slack_42 : decode cX11_slack 42 = .ok (.getfield 56, 3) := by decide +kernel
theorem dX11_slack_45 : decode cX11_slack 45 = .ok (.iconst 0, 1) := by decide +kernel
theorem dX11_slack_46 : decode cX11_slack 46 = .ok (.iload_n 1, 1) := by decide +kernel
theorem dX11_slack_47 : decode cX11_slack 47 = .ok (.iload_n 3, 1) := by decide +kernel
theorem dX11_slack_48 : decode cX11_slack 48 = .ok (.invokestatic 280, 3) := by decide +kernel
theorem dX11_slack_51 : decode cX11_slack 51 = .ok (.iaload, 1) := by decide +kernel
theorem dX11_slack_52 : decode cX11_slack 52 = .ok (.if_icmp .ge 60, 3) := by decide +kernel
theorem dX11_slack_55 : decode cX11_slack 55 = .ok (.aload_n 0, 1) := by decide +kernel
theorem dX11_slack_56 : decode cX11_slack 56 = .ok (.getfield 40, 3) := by decide +kernel
theorem dX11_slack_59 : decode cX11_slack 59 = .ok (.iconst 3, 1) := by decide +kernel
theorem dX11_slack_60 : decode cX11_slack 60 = .ok (.aload_n 0, 1) := by decide +kernel
theorem dX11_slack_61 : decode cX11_slack 61 = .ok (.getfield 59, 3) := by decide +kernel
theorem dX11_slack_64 : decode cX11_slack 64 = .ok (.iconst 0, 1) := by decide +kernel
theorem dX11_slack_65 : decode cX11_slack 65 = .ok (.iload_n 1, 1) := by decide +kernel
theorem dX11_slack_66 : decode cX11_slack 66 = .ok (.iload_n 3, 1) := by decide +kernel
theorem dX11_slack_67 : decode cX11_slack 67 = .ok (.iload 4, 2) := by decide +kernel
theorem dX11_slack_69 : decode cX11_slack 69 = .ok (.invokestatic 286, 3) := by decide +kernel
theorem dX11_slack_72 : decode cX11_slack 72 = .ok (.iaload, 1) := by decide +kernel
theorem dX11_slack_73 : decode cX11_slack 73 = .ok (.imul, 1) := by decide +kernel
theorem dX11_slack_74 : decode cX11_slack 74 = .ok (.iconst 1, 1) := by decide +kernel
theorem dX11_slack_75 : decode cX11_slack 75 = .ok (.iadd, 1) := by decide +kernel
theorem dX11_slack_76 : decode cX11_slack 76 = .ok (.iaload, 1) := by decide +kernel
theorem dX11_slack_77 : decode cX11_slack 77 = .ok (.aload_n 0, 1) := by decide +kernel
theorem dX11_slack_78 : decode cX11_slack 78 = .ok (.iload_n 1, 1) := by decide +kernel
theorem dX11_slack_79 : decode cX11_slack 79 = .ok (.iload_n 3, 1) := by decide +kernel
theorem dX11_slack_80 : decode cX11_slack 80 = .ok (.iload 4, 2) := by decide +kernel
theorem dX11_slack_82 : decode cX11_slack 82 = .ok (.invokevirtual 313, 3) := by decide +kernel
theorem dX11_slack_85 : decode cX11_slack 85 = .ok (.isub, 1) := by decide +kernel
theorem dX11_slack_86 : decode cX11_slack 86 = .ok (.istore 5, 2) := by decide +kernel
theorem dX11_slack_88 : decode cX11_slack 88 = .ok (.iload_n 2, 1) := by decide +kernel
theorem dX11_slack_89 : decode cX11_slack 89 = .ok (.iconst (-1), 1) := by decide +kernel
theorem dX11_slack_90 : decode cX11_slack 90 = .ok (.if_icmp .eq 9, 3) := by decide +kernel
theorem dX11_slack_93 : decode cX11_slack 93 = .ok (.iload 5, 2) := by decide +kernel
theorem dX11_slack_95 : decode cX11_slack 95 = .ok (.iload_n 2, 1) := by decide +kernel
theorem dX11_slack_96 : decode cX11_slack 96 = .ok (.if_icmp .ge 8, 3) := by decide +kernel
theorem dX11_slack_99 : decode cX11_slack 99 = .ok (.iload 5, 2) := by decide +kernel
theorem dX11_slack_101 : decode cX11_slack 101 = .ok (.goto 4, 3) := by decide +kernel
theorem dX11_slack_104 : decode cX11_slack 104 = .ok (.iload_n 2, 1) := by decide +kernel
theorem dX11_slack_105 : decode cX11_slack 105 = .ok (.istore_n 2, 1) := by decide +kernel
theorem dX11_slack_106 : decode cX11_slack 106 = .ok (.iinc 4 1, 3) := by decide +kernel
theorem dX11_slack_109 : decode cX11_slack 109 = .ok (.goto (-70), 3) := by decide +kernel
theorem dX11_slack_112 : decode cX11_slack 112 = .ok (.iinc 3 1, 3) := by decide +kernel
theorem dX11_slack_115 : decode cX11_slack 115 = .ok (.goto (-89), 3) := by decide +kernel
theorem dX11_slack_118 : decode cX11_slack 118 = .ok (.iload_n 2, 1) := by decide +kernel
theorem dX11_slack_119 : decode cX11_slack 119 = .ok (.ireturn, 1) := by decide +kernel
theorem dX11_spare_0 : decode cX11_spare 0 = .ok (.aload_n 0, 1) := by decide +kernel
theorem dX11_spare_1 : decode cX11_spare 1 = .ok (.iconst 0, 1) := by decide +kernel
theorem dX11_spare_2 : decode cX11_spare 2 = .ok (.putfield 99, 3) := by decide +kernel
theorem dX11_spare_5 : decode cX11_spare 5 = .ok (.aload_n 0, 1) := by decide +kernel
theorem dX11_spare_6 : decode cX11_spare 6 = .ok (.iload_n 1, 1) := by decide +kernel
theorem dX11_spare_7 : decode cX11_spare 7 = .ok (.iload_n 2, 1) := by decide +kernel
theorem dX11_spare_8 : decode cX11_spare 8 = .ok (.invokevirtual 297, 3) := by decide +kernel
theorem dX11_spare_11 : decode cX11_spare 11 = .ok (.ifCond .ne 6, 3) := by decide +kernel
theorem dX11_spare_14 : decode cX11_spare 14 = .ok (.bipush (-2), 2) := by decide +kernel
theorem dX11_spare_16 : decode cX11_spare 16 = .ok (.ireturn, 1) := by decide +kernel
theorem dX11_spare_17 : decode cX11_spare 17 = .ok (.bipush 9, 2) := by decide +kernel
theorem dX11_spare_19 : decode cX11_spare 19 = .ok (.istore_n 3, 1) := by decide +kernel
theorem dX11_spare_20 : decode cX11_spare 20 = .ok (.iload_n 3, 1) := by decide +kernel
theorem dX11_spare_21 : decode cX11_spare 21 = .ok (.ifCond .le 20, 3) := by decide +kernel
theorem dX11_spare_24 : decode cX11_spare 24 = .ok (.aload_n 0, 1) := by decide +kernel
theorem dX11_spare_25 : decode cX11_spare 25 = .ok (.iconst 0, 1) := by decide +kernel
theorem dX11_spare_26 : decode cX11_spare 26 = .ok (.iload_n 1, 1) := by decide +kernel
theorem dX11_spare_27 : decode cX11_spare 27 = .ok (.iload_n 2, 1) := by decide +kernel
theorem dX11_spare_28 : decode cX11_spare 28 = .ok (.iload_n 3, 1) := by decide +kernel
theorem dX11_spare_29 : decode cX11_spare 29 = .ok (.invokevirtual 293, 3) := by decide +kernel
theorem dX11_spare_32 : decode cX11_spare 32 = .ok (.ifCond .ne 9, 3) := by decide +kernel
theorem dX11_spare_35 : decode cX11_spare 35 = .ok (.iinc 3 (-1), 3) := by decide +kernel
theorem dX11_spare_38 : decode cX11_spare 38 = .ok (.goto (-18), 3) := by decide +kernel
theorem dX11_spare_41 : decode cX11_spare 41 = .ok (.iload_n 3, 1) := by decide +kernel
theorem dX11_spare_42 : decode cX11_spare 42 = .ok (.ireturn, 1) := by decide +kernel
theorem dX11_stone_0 : decode cX11_stone 0 = .ok (.aload_n 0, 1) := by decide +kernel
theorem dX11_stone_1 : decode cX11_stone 1 = .ok (.iconst 0, 1) := by decide +kernel
theorem dX11_stone_2 : decode cX11_stone 2 = .ok (.putfield 99, 3) := by decide +kernel
theorem dX11_stone_5 : decode cX11_stone 5 = .ok (.aload_n 0, 1) := by decide +kernel
theorem dX11_stone_6 : decode cX11_stone 6 = .ok (.iload_n 1, 1) := by decide +kernel
theorem dX11_stone_7 : decode cX11_stone 7 = .ok (.iload_n 2, 1) := by decide +kernel
theorem dX11_stone_8 : decode cX11_stone 8 = .ok (.invokevirtual 297, 3) := by decide +kernel
theorem dX11_stone_11 : decode cX11_stone 11 = .ok (.ifCond .eq 16, 3) := by decide +kernel
theorem dX11_stone_14 : decode cX11_stone 14 = .ok (.iload 4, 2) := by decide +kernel
theorem dX11_stone_16 : decode cX11_stone 16 = .ok (.i2l, 1) := by decide +kernel
theorem dX11_stone_17 : decode cX11_stone 17 = .ok (.lconst 0, 1) := by decide +kernel
theorem dX11_stone_18 : decode cX11_stone 18 = .ok (.ldc2_w 102, 3) := by decide +kernel
theorem dX11_stone_21 : decode cX11_stone 21 = .ok (.invokestatic 104, 3) := by decide +kernel
theorem dX11_stone_24 : decode cX11_stone 24 = .ok (.ifCond .ne 6, 3) := by decide +kernel
theorem dX11_stone_27 : decode cX11_stone 27 = .ok (.bipush (-2), 2) := by decide +kernel
theorem dX11_stone_29 : decode cX11_stone 29 = .ok (.ireturn, 1) := by decide +kernel
theorem dX11_stone_30 : decode cX11_stone 30 = .ok (.iload_n 3, 1) := by decide +kernel
theorem dX11_stone_31 : decode cX11_stone 31 = .ok (.i2l, 1) := by decide +kernel
theorem dX11_stone_32 : decode cX11_stone 32 = .ok (.lconst 0, 1) := by decide +kernel
theorem dX11_stone_33 : decode cX11_stone 33 = .ok (.aload_n 0, 1) := by decide +kernel
theorem dX11_stone_34 : decode cX11_stone 34 = .ok (.getfield 56, 3) := by decide +kernel
theorem dX11_stone_37 : decode cX11_stone 37 = .ok (.iconst 0, 1) := by decide +kernel
theorem dX11_stone_38 : decode cX11_stone 38 = .ok (.iload_n 1, 1) := by decide +kernel
theorem dX11_stone_39 : decode cX11_stone 39 = .ok (.iload_n 2, 1) := by decide +kernel
theorem dX11_stone_40 : decode cX11_stone 40 = .ok (.invokestatic 280, 3) := by decide +kernel
theorem dX11_stone_43 : decode cX11_stone 43 = .ok (.iaload, 1) := by decide +kernel
theorem dX11_stone_44 : decode cX11_stone 44 = .ok (.iconst 1, 1) := by decide +kernel
theorem dX11_stone_45 : decode cX11_stone 45 = .ok (.isub, 1) := by decide +kernel
theorem dX11_stone_46 : decode cX11_stone 46 = .ok (.i2l, 1) := by decide +kernel
theorem dX11_stone_47 : decode cX11_stone 47 = .ok (.invokestatic 104, 3) := by decide +kernel
theorem dX11_stone_50 : decode cX11_stone 50 = .ok (.ifCond .ne 5, 3) := by decide +kernel
theorem dX11_stone_53 : decode cX11_stone 53 = .ok (.iconst (-1), 1) := by decide +kernel
theorem dX11_stone_54 : decode cX11_stone 54 = .ok (.ireturn, 1) := by decide +kernel
theorem dX11_stone_55 : decode cX11_stone 55 = .ok (.iconst 0, 1) := by decide +kernel
theorem dX11_stone_56 : decode cX11_stone 56 = .ok (.iload_n 1, 1) := by decide +kernel
theorem dX11_stone_57 : decode cX11_stone 57 = .ok (.iload_n 2, 1) := by decide +kernel
theorem dX11_stone_58 : decode cX11_stone 58 = .ok (.iload_n 3, 1) := by decide +kernel
theorem dX11_stone_59 : decode cX11_stone 59 = .ok (.invokestatic 286, 3) := by decide +kernel
theorem dX11_stone_62 : decode cX11_stone 62 = .ok (.istore 5, 2) := by decide +kernel
theorem dX11_stone_64 : decode cX11_stone 64 = .ok (.iload 4, 2) := by decide +kernel
theorem dX11_stone_66 : decode cX11_stone 66 = .ok (.ifCond .ne 13, 3) := by decide +kernel
theorem dX11_stone_69 : decode cX11_stone 69 = .ok (.aload_n 0, 1) := by decide +kernel
theorem dX11_stone_70 : decode cX11_stone 70 = .ok (.getfield 59, 3) := by decide +kernel
theorem dX11_stone_73 : decode cX11_stone 73 = .ok (.iload 5, 2) := by decide +kernel
theorem dX11_stone_75 : decode cX11_stone 75 = .ok (.iaload, 1) := by decide +kernel
theorem dX11_stone_76 : decode cX11_stone 76 = .ok (.goto 42, 3) := by decide +kernel
theorem dX11_stone_79 : decode cX11_stone 79 = .ok (.iload 4, 2) := by decide +kernel
theorem dX11_stone_81 : decode cX11_stone 81 = .ok (.iconst 1, 1) := by decide +kernel
theorem dX11_stone_82 : decode cX11_stone 82 = .ok (.if_icmp .ne 13, 3) := by decide +kernel
theorem dX11_stone_85 : decode cX11_stone 85 = .ok (.aload_n 0, 1) := by decide +kernel
theorem dX11_stone_86 : decode cX11_stone 86 = .ok (.getfield 62, 3) := by decide +kernel
theorem dX11_stone_89 : decode cX11_stone 89 = .ok (.iload 5, 2) := by decide +kernel
theorem dX11_stone_91 : decode cX11_stone 91 = .ok (.iaload, 1) := by decide +kernel
theorem dX11_stone_92 : decode cX11_stone 92 = .ok (.goto 26, 3) := by decide +kernel
theorem dX11_stone_95 : decode cX11_stone 95 = .ok (.iload 4, 2) := by decide +kernel
theorem dX11_stone_97 : decode cX11_stone 97 = .ok (.iconst 2, 1) := by decide +kernel
theorem dX11_stone_98 : decode cX11_stone 98 = .ok (.if_icmp .ne 13, 3) := by decide +kernel
theorem dX11_stone_101 : decode cX11_stone 101 = .ok (.aload_n 0, 1) := by decide +kernel
theorem dX11_stone_102 : decode cX11_stone 102 = .ok (.getfield 65, 3) := by decide +kernel
theorem dX11_stone_105 : decode cX11_stone 105 = .ok (.iload 5, 2) := by decide +kernel
theorem dX11_stone_107 : decode cX11_stone 107 = .ok (.iaload, 1) := by decide +kernel
theorem dX11_stone_108 : decode cX11_stone 108 = .ok (.goto 10, 3) := by decide +kernel
theorem dX11_stone_111 : decode cX11_stone 111 = .ok (.aload_n 0, 1) := by decide +kernel
theorem dX11_stone_112 : decode cX11_stone 112 = .ok (.iload_n 1, 1) := by decide +kernel
theorem dX11_stone_113 : decode cX11_stone 113 = .ok (.iload_n 2, 1) := by decide +kernel
theorem dX11_stone_114 : decode cX11_stone 114 = .ok (.iload_n 3, 1) := by decide +kernel
theorem dX11_stone_115 : decode cX11_stone 115 = .ok (.invokevirtual 313, 3) := by decide +kernel
theorem dX11_stone_118 : decode cX11_stone 118 = .ok (.ireturn, 1) := by decide +kernel
theorem dX11_take_0 : decode cX11_take 0 = .ok (.aload_n 0, 1) := by decide +kernel
theorem dX11_take_1 : decode cX11_take 1 = .ok (.iconst 0, 1) := by decide +kernel
theorem dX11_take_2 : decode cX11_take 2 = .ok (.putfield 99, 3) := by decide +kernel
theorem dX11_take_5 : decode cX11_take 5 = .ok (.aload_n 0, 1) := by decide +kernel
theorem dX11_take_6 : decode cX11_take 6 = .ok (.iload_n 1, 1) := by decide +kernel
theorem dX11_take_7 : decode cX11_take 7 = .ok (.iload_n 2, 1) := by decide +kernel
theorem dX11_take_8 : decode cX11_take 8 = .ok (.invokevirtual 297, 3) := by decide +kernel
theorem dX11_take_11 : decode cX11_take 11 = .ok (.ifCond .ne 6, 3) := by decide +kernel
theorem dX11_take_14 : decode cX11_take 14 = .ok (.bipush (-2), 2) := by decide +kernel
theorem dX11_take_16 : decode cX11_take 16 = .ok (.ireturn, 1) := by decide +kernel
theorem dX11_take_17 : decode cX11_take 17 = .ok (.aload_n 0, 1) := by decide +kernel
theorem dX11_take_18 : decode cX11_take 18 = .ok (.getfield 56, 3) := by decide +kernel
theorem dX11_take_21 : decode cX11_take 21 = .ok (.iconst 0, 1) := by decide +kernel
theorem dX11_take_22 : decode cX11_take 22 = .ok (.iload_n 1, 1) := by decide +kernel
theorem dX11_take_23 : decode cX11_take 23 = .ok (.iload_n 2, 1) := by decide +kernel
theorem dX11_take_24 : decode cX11_take 24 = .ok (.invokestatic 280, 3) := by decide +kernel
theorem dX11_take_27 : decode cX11_take 27 = .ok (.iaload, 1) := by decide +kernel
theorem dX11_take_28 : decode cX11_take 28 = .ok (.ifCond .ne 8, 3) := by decide +kernel
theorem dX11_take_31 : decode cX11_take 31 = .ok (.bipush (-5), 2) := by decide +kernel
theorem dX11_take_33 : decode cX11_take 33 = .ok (.goto 10, 3) := by decide +kernel
theorem dX11_take_36 : decode cX11_take 36 = .ok (.aload_n 0, 1) := by decide +kernel
theorem dX11_take_37 : decode cX11_take 37 = .ok (.iconst 0, 1) := by decide +kernel
theorem dX11_take_38 : decode cX11_take 38 = .ok (.iload_n 1, 1) := by decide +kernel
theorem dX11_take_39 : decode cX11_take 39 = .ok (.iload_n 2, 1) := by decide +kernel
theorem dX11_take_40 : decode cX11_take 40 = .ok (.invokevirtual 311, 3) := by decide +kernel
theorem dX11_take_43 : decode cX11_take 43 = .ok (.ireturn, 1) := by decide +kernel
theorem dX11_takes__0 : decode cX11_takes_ 0 = .ok (.iload_n 1, 1) := by decide +kernel
theorem dX11_takes__1 : decode cX11_takes_ 1 = .ok (.iload_n 2, 1) := by decide +kernel
theorem dX11_takes__2 : decode cX11_takes_ 2 = .ok (.iload_n 3, 1) := by decide +kernel
theorem dX11_takes__3 : decode cX11_takes_ 3 = .ok (.invokestatic 280, 3) := by decide +kernel
theorem dX11_takes__6 : decode cX11_takes_ 6 = .ok (.istore 4, 2) := by decide +kernel
theorem dX11_takes__8 : decode cX11_takes_ 8 = .ok (.aload_n 0, 1) := by decide +kernel
theorem dX11_takes__9 : decode cX11_takes_ 9 = .ok (.getfield 56, 3) := by decide +kernel
theorem dX11_takes__12 : decode cX11_takes_ 12 = .ok (.iload 4, 2) := by decide +kernel
theorem dX11_takes__14 : decode cX11_takes_ 14 = .ok (.dup2, 1) := by decide +kernel
theorem dX11_takes__15 : decode cX11_takes_ 15 = .ok (.iaload, 1) := by decide +kernel
theorem dX11_takes__16 : decode cX11_takes_ 16 = .ok (.iconst 1, 1) := by decide +kernel
theorem dX11_takes__17 : decode cX11_takes_ 17 = .ok (.isub, 1) := by decide +kernel
theorem dX11_takes__18 : decode cX11_takes_ 18 = .ok (.iastore, 1) := by decide +kernel
theorem dX11_takes__19 : decode cX11_takes_ 19 = .ok (.aload_n 0, 1) := by decide +kernel
theorem dX11_takes__20 : decode cX11_takes_ 20 = .ok (.getfield 59, 3) := by decide +kernel
theorem dX11_takes__23 : decode cX11_takes_ 23 = .ok (.iload_n 1, 1) := by decide +kernel
theorem dX11_takes__24 : decode cX11_takes_ 24 = .ok (.iload_n 2, 1) := by decide +kernel
theorem dX11_takes__25 : decode cX11_takes_ 25 = .ok (.iload_n 3, 1) := by decide +kernel
theorem dX11_takes__26 : decode cX11_takes_ 26 = .ok (.aload_n 0, 1) := by decide +kernel
theorem dX11_takes__27 : decode cX11_takes_ 27 = .ok (.getfield 56, 3) := by decide +kernel
theorem dX11_takes__30 : decode cX11_takes_ 30 = .ok (.iload 4, 2) := by decide +kernel
theorem dX11_takes__32 : decode cX11_takes_ 32 = .ok (.iaload, 1) := by decide +kernel
theorem dX11_takes__33 : decode cX11_takes_ 33 = .ok (.invokestatic 286, 3) := by decide +kernel
theorem dX11_takes__36 : decode cX11_takes_ 36 = .ok (.iaload, 1) := by decide +kernel
theorem dX11_takes__37 : decode cX11_takes_ 37 = .ok (.istore 5, 2) := by decide +kernel
theorem dX11_takes__39 : decode cX11_takes_ 39 = .ok (.aload_n 0, 1) := by decide +kernel
theorem dX11_takes__40 : decode cX11_takes_ 40 = .ok (.getfield 68, 3) := by decide +kernel
theorem dX11_takes__43 : decode cX11_takes_ 43 = .ok (.iconst 5, 1) := by decide +kernel
theorem dX11_takes__44 : decode cX11_takes_ 44 = .ok (.iload_n 1, 1) := by decide +kernel
theorem dX11_takes__45 : decode cX11_takes_ 45 = .ok (.imul, 1) := by decide +kernel
theorem dX11_takes__46 : decode cX11_takes_ 46 = .ok (.iload 5, 2) := by decide +kernel
theorem dX11_takes__48 : decode cX11_takes_ 48 = .ok (.iadd, 1) := by decide +kernel
theorem dX11_takes__49 : decode cX11_takes_ 49 = .ok (.dup2, 1) := by decide +kernel
theorem dX11_takes__50 : decode cX11_takes_ 50 = .ok (.iaload, 1) := by decide +kernel
theorem dX11_takes__51 : decode cX11_takes_ 51 = .ok (.iconst 1, 1) := by decide +kernel
theorem dX11_takes__52 : decode cX11_takes_ 52 = .ok (.iadd, 1) := by decide +kernel
theorem dX11_takes__53 : decode cX11_takes_ 53 = .ok (.iastore, 1) := by decide +kernel
theorem dX11_takes__54 : decode cX11_takes_ 54 = .ok (.iload 5, 2) := by decide +kernel
theorem dX11_takes__56 : decode cX11_takes_ 56 = .ok (.ireturn, 1) := by decide +kernel
theorem dX11_weightOn_0 : decode cX11_weightOn 0 = .ok (.iconst 0, 1) := by decide +kernel
theorem dX11_weightOn_1 : decode cX11_weightOn 1 = .ok (.istore 4, 2) := by decide +kernel
theorem dX11_weightOn_3 : decode cX11_weightOn 3 = .ok (.iload_n 3, 1) := by decide +kernel
theorem dX11_weightOn_4 : decode cX11_weightOn 4 = .ok (.iconst 1, 1) := by decide +kernel
theorem dX11_weightOn_5 : decode cX11_weightOn 5 = .ok (.iadd, 1) := by decide +kernel
theorem dX11_weightOn_6 : decode cX11_weightOn 6 = .ok (.istore 5, 2) := by decide +kernel
theorem dX11_weightOn_8 : decode cX11_weightOn 8 = .ok (.iload 5, 2) := by decide +kernel
theorem dX11_weightOn_10 : decode cX11_weightOn 10 = .ok (.aload_n 0, 1) := by decide +kernel
theorem dX11_weightOn_11 : decode cX11_weightOn 11 = .ok (.getfield 56, 3) := by decide +kernel
theorem dX11_weightOn_14 : decode cX11_weightOn 14 = .ok (.iconst 0, 1) := by decide +kernel
theorem dX11_weightOn_15 : decode cX11_weightOn 15 = .ok (.iload_n 1, 1) := by decide +kernel
theorem dX11_weightOn_16 : decode cX11_weightOn 16 = .ok (.iload_n 2, 1) := by decide +kernel
theorem dX11_weightOn_17 : decode cX11_weightOn 17 = .ok (.invokestatic 280, 3) := by decide +kernel
theorem dX11_weightOn_20 : decode cX11_weightOn 20 = .ok (.iaload, 1) := by decide +kernel
theorem dX11_weightOn_21 : decode cX11_weightOn 21 = .ok (.if_icmp .ge 31, 3) := by decide +kernel
theorem dX11_weightOn_24 : decode cX11_weightOn 24 = .ok (.iload 4, 2) := by decide +kernel
theorem dX11_weightOn_26 : decode cX11_weightOn 26 = .ok (.aload_n 0, 1) := by decide +kernel
theorem dX11_weightOn_27 : decode cX11_weightOn 27 = .ok (.aload_n 0, 1) := by decide +kernel
theorem dX11_weightOn_28 : decode cX11_weightOn 28 = .ok (.getfield 59, 3) := by decide +kernel
theorem dX11_weightOn_31 : decode cX11_weightOn 31 = .ok (.iconst 0, 1) := by decide +kernel
theorem dX11_weightOn_32 : decode cX11_weightOn 32 = .ok (.iload_n 1, 1) := by decide +kernel
