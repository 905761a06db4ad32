theorem dX11_onceLine_39 : decode cX11_onceLine 39 = .ok (.aload_n 0, 1) := by decide +kernel
theorem dX11_onceLine_40 : decode cX11_onceLine 40 = .ok (.getfield 49, 3) := by decide +kernel
theorem dX11_onceLine_43 : decode cX11_onceLine 43 = .ok (.bipush 12, 2) := by decide +kernel
theorem dX11_onceLine_45 : decode cX11_onceLine 45 = .ok (.iload_n 1, 1) := by decide +kernel
theorem dX11_onceLine_46 : decode cX11_onceLine 46 = .ok (.iadd, 1) := by decide +kernel
theorem dX11_onceLine_47 : decode cX11_onceLine 47 = .ok (.iload_n 1, 1) := by decide +kernel
theorem dX11_onceLine_48 : decode cX11_onceLine 48 = .ok (.ifCond .ne 22, 3) := by decide +kernel
theorem dX11_onceLine_51 : decode cX11_onceLine 51 = .ok (.aload_n 0, 1) := by decide +kernel
theorem dX11_onceLine_52 : decode cX11_onceLine 52 = .ok (.ldc2_w 226, 3) := by decide +kernel
theorem dX11_onceLine_55 : decode cX11_onceLine 55 = .ok (.ldc2_w 228, 3) := by decide +kernel
theorem dX11_onceLine_58 : decode cX11_onceLine 58 = .ok (.ldc2_w 230, 3) := by decide +kernel
theorem dX11_onceLine_61 : decode cX11_onceLine 61 = .ok (.ldc2_w 212, 3) := by decide +kernel
theorem dX11_onceLine_64 : decode cX11_onceLine 64 = .ok (.invokevirtual 202, 3) := by decide +kernel
theorem dX11_onceLine_67 : decode cX11_onceLine 67 = .ok (.goto 25, 3) := by decide +kernel
theorem dX11_onceLine_70 : decode cX11_onceLine 70 = .ok (.iload_n 1, 1) := by decide +kernel
theorem dX11_onceLine_71 : decode cX11_onceLine 71 = .ok (.iconst 1, 1) := by decide +kernel
theorem dX11_onceLine_72 : decode cX11_onceLine 72 = .ok (.if_icmp .ne 13, 3) := by decide +kernel
theorem dX11_onceLine_75 : decode cX11_onceLine 75 = .ok (.aload_n 0, 1) := by decide +kernel
theorem dX11_onceLine_76 : decode cX11_onceLine 76 = .ok (.iconst 0, 1) := by decide +kernel
theorem dX11_onceLine_77 : decode cX11_onceLine 77 = .ok (.bipush 100, 2) := by decide +kernel
theorem dX11_onceLine_79 : decode cX11_onceLine 79 = .ok (.invokevirtual 174, 3) := by decide +kernel
theorem dX11_onceLine_82 : decode cX11_onceLine 82 = .ok (.goto 10, 3) := by decide +kernel
theorem dX11_onceLine_85 : decode cX11_onceLine 85 = .ok (.aload_n 0, 1) := by decide +kernel
theorem dX11_onceLine_86 : decode cX11_onceLine 86 = .ok (.iconst 0, 1) := by decide +kernel
theorem dX11_onceLine_87 : decode cX11_onceLine 87 = .ok (.bipush 99, 2) := by decide +kernel
theorem dX11_onceLine_89 : decode cX11_onceLine 89 = .ok (.invokevirtual 174, 3) := by decide +kernel
theorem dX11_onceLine_92 : decode cX11_onceLine 92 = .ok (.iastore, 1) := by decide +kernel
theorem dX11_onceLine_93 : decode cX11_onceLine 93 = .ok (.return_, 1) := by decide +kernel
theorem dX11_oneOf_0 : decode cX11_oneOf 0 = .ok (.aload_n 0, 1) := by decide +kernel
theorem dX11_oneOf_1 : decode cX11_oneOf 1 = .ok (.lload_n 1, 1) := by decide +kernel
theorem dX11_oneOf_2 : decode cX11_oneOf 2 = .ok (.invokevirtual 157, 3) := by decide +kernel
theorem dX11_oneOf_5 : decode cX11_oneOf 5 = .ok (.ifCond .eq 7, 3) := by decide +kernel
theorem dX11_oneOf_8 : decode cX11_oneOf 8 = .ok (.iconst 0, 1) := by decide +kernel
theorem dX11_oneOf_9 : decode cX11_oneOf 9 = .ok (.goto 42, 3) := by decide +kernel
theorem dX11_oneOf_12 : decode cX11_oneOf 12 = .ok (.aload_n 0, 1) := by decide +kernel
theorem dX11_oneOf_13 : decode cX11_oneOf 13 = .ok (.lload_n 3, 1) := by decide +kernel
theorem dX11_oneOf_14 : decode cX11_oneOf 14 = .ok (.invokevirtual 157, 3) := by decide +kernel
theorem dX11_oneOf_17 : decode cX11_oneOf 17 = .ok (.ifCond .eq 7, 3) := by decide +kernel
theorem dX11_oneOf_20 : decode cX11_oneOf 20 = .ok (.iconst 1, 1) := by decide +kernel
theorem dX11_oneOf_21 : decode cX11_oneOf 21 = .ok (.goto 30, 3) := by decide +kernel
theorem dX11_oneOf_24 : decode cX11_oneOf 24 = .ok (.aload_n 0, 1) := by decide +kernel
theorem dX11_oneOf_25 : decode cX11_oneOf 25 = .ok (.lload 5, 2) := by decide +kernel
theorem dX11_oneOf_27 : decode cX11_oneOf 27 = .ok (.invokevirtual 157, 3) := by decide +kernel
theorem dX11_oneOf_30 : decode cX11_oneOf 30 = .ok (.ifCond .eq 7, 3) := by decide +kernel
theorem dX11_oneOf_33 : decode cX11_oneOf 33 = .ok (.iconst 2, 1) := by decide +kernel
theorem dX11_oneOf_34 : decode cX11_oneOf 34 = .ok (.goto 17, 3) := by decide +kernel
theorem dX11_oneOf_37 : decode cX11_oneOf 37 = .ok (.aload_n 0, 1) := by decide +kernel
theorem dX11_oneOf_38 : decode cX11_oneOf 38 = .ok (.lload 7, 2) := by decide +kernel
theorem dX11_oneOf_40 : decode cX11_oneOf 40 = .ok (.invokevirtual 157, 3) := by decide +kernel
theorem dX11_oneOf_43 : decode cX11_oneOf 43 = .ok (.ifCond .eq 7, 3) := by decide +kernel
theorem dX11_oneOf_46 : decode cX11_oneOf 46 = .ok (.iconst 3, 1) := by decide +kernel
theorem dX11_oneOf_47 : decode cX11_oneOf 47 = .ok (.goto 4, 3) := by decide +kernel
theorem dX11_oneOf_50 : decode cX11_oneOf 50 = .ok (.iconst (-1), 1) := by decide +kernel
theorem dX11_oneOf_51 : decode cX11_oneOf 51 = .ok (.istore 9, 2) := by decide +kernel
theorem dX11_oneOf_53 : decode cX11_oneOf 53 = .ok (.iload 9, 2) := by decide +kernel
theorem dX11_oneOf_55 : decode cX11_oneOf 55 = .ok (.iconst (-1), 1) := by decide +kernel
theorem dX11_oneOf_56 : decode cX11_oneOf 56 = .ok (.if_icmp .ne 8, 3) := by decide +kernel
theorem dX11_oneOf_59 : decode cX11_oneOf 59 = .ok (.aload_n 0, 1) := by decide +kernel
theorem dX11_oneOf_60 : decode cX11_oneOf 60 = .ok (.iconst 1, 1) := by decide +kernel
theorem dX11_oneOf_61 : decode cX11_oneOf 61 = .ok (.invokevirtual 167, 3) := by decide +kernel
theorem dX11_oneOf_64 : decode cX11_oneOf 64 = .ok (.aload_n 0, 1) := by decide +kernel
theorem dX11_oneOf_65 : decode cX11_oneOf 65 = .ok (.invokevirtual 181, 3) := by decide +kernel
theorem dX11_oneOf_68 : decode cX11_oneOf 68 = .ok (.ifCond .eq 7, 3) := by decide +kernel
theorem dX11_oneOf_71 : decode cX11_oneOf 71 = .ok (.aload_n 0, 1) := by decide +kernel
theorem dX11_oneOf_72 : decode cX11_oneOf 72 = .ok (.invokevirtual 161, 3) := by decide +kernel
theorem dX11_oneOf_75 : decode cX11_oneOf 75 = .ok (.iload 9, 2) := by decide +kernel
theorem dX11_oneOf_77 : decode cX11_oneOf 77 = .ok (.ireturn, 1) := by decide +kernel
theorem dX11_sortLine_0 : decode cX11_sortLine 0 = .ok (.iconst 3, 1) := by decide +kernel
theorem dX11_sortLine_1 : decode cX11_sortLine 1 = .ok (.bipush 20, 2) := by decide +kernel
theorem dX11_sortLine_3 : decode cX11_sortLine 3 = .ok (.aload_n 0, 1) := by decide +kernel
theorem dX11_sortLine_4 : decode cX11_sortLine 4 = .ok (.getfield 37, 3) := by decide +kernel
theorem dX11_sortLine_7 : decode cX11_sortLine 7 = .ok (.iconst 4, 1) := by decide +kernel
theorem dX11_sortLine_8 : decode cX11_sortLine 8 = .ok (.iaload, 1) := by decide +kernel
theorem dX11_sortLine_9 : decode cX11_sortLine 9 = .ok (.iadd, 1) := by decide +kernel
theorem dX11_sortLine_10 : decode cX11_sortLine 10 = .ok (.imul, 1) := by decide +kernel
theorem dX11_sortLine_11 : decode cX11_sortLine 11 = .ok (.istore_n 1, 1) := by decide +kernel
theorem dX11_sortLine_12 : decode cX11_sortLine 12 = .ok (.aload_n 0, 1) := by decide +kernel
theorem dX11_sortLine_13 : decode cX11_sortLine 13 = .ok (.getfield 40, 3) := by decide +kernel
theorem dX11_sortLine_16 : decode cX11_sortLine 16 = .ok (.iload_n 1, 1) := by decide +kernel
theorem dX11_sortLine_17 : decode cX11_sortLine 17 = .ok (.aload_n 0, 1) := by decide +kernel
theorem dX11_sortLine_18 : decode cX11_sortLine 18 = .ok (.ldc2_w 185, 3) := by decide +kernel
theorem dX11_sortLine_21 : decode cX11_sortLine 21 = .ok (.iconst 1, 1) := by decide +kernel
theorem dX11_sortLine_22 : decode cX11_sortLine 22 = .ok (.bipush 9, 2) := by decide +kernel
theorem dX11_sortLine_24 : decode cX11_sortLine 24 = .ok (.invokevirtual 187, 3) := by decide +kernel
theorem dX11_sortLine_27 : decode cX11_sortLine 27 = .ok (.iastore, 1) := by decide +kernel
theorem dX11_sortLine_28 : decode cX11_sortLine 28 = .ok (.aload_n 0, 1) := by decide +kernel
theorem dX11_sortLine_29 : decode cX11_sortLine 29 = .ok (.getfield 40, 3) := by decide +kernel
theorem dX11_sortLine_32 : decode cX11_sortLine 32 = .ok (.iload_n 1, 1) := by decide +kernel
theorem dX11_sortLine_33 : decode cX11_sortLine 33 = .ok (.iconst 1, 1) := by decide +kernel
theorem dX11_sortLine_34 : decode cX11_sortLine 34 = .ok (.iadd, 1) := by decide +kernel
theorem dX11_sortLine_35 : decode cX11_sortLine 35 = .ok (.aload_n 0, 1) := by decide +kernel
theorem dX11_sortLine_36 : decode cX11_sortLine 36 = .ok (.ldc2_w 190, 3) := by decide +kernel
theorem dX11_sortLine_39 : decode cX11_sortLine 39 = .ok (.iconst 0, 1) := by decide +kernel
theorem dX11_sortLine_40 : decode cX11_sortLine 40 = .ok (.bipush 99, 2) := by decide +kernel
theorem dX11_sortLine_42 : decode cX11_sortLine 42 = .ok (.invokevirtual 187, 3) := by decide +kernel
theorem dX11_sortLine_45 : decode cX11_sortLine 45 = .ok (.iastore, 1) := by decide +kernel
theorem dX11_sortLine_46 : decode cX11_sortLine 46 = .ok (.aload_n 0, 1) := by decide +kernel
theorem dX11_sortLine_47 : decode cX11_sortLine 47 = .ok (.getfield 40, 3) := by decide +kernel
theorem dX11_sortLine_50 : decode cX11_sortLine 50 = .ok (.iload_n 1, 1) := by decide +kernel
theorem dX11_sortLine_51 : decode cX11_sortLine 51 = .ok (.iconst 2, 1) := by decide +kernel
theorem dX11_sortLine_52 : decode cX11_sortLine 52 = .ok (.iadd, 1) := by decide +kernel
theorem dX11_sortLine_53 : decode cX11_sortLine 53 = .ok (.aload_n 0, 1) := by decide +kernel
theorem dX11_sortLine_54 : decode cX11_sortLine 54 = .ok (.ldc2_w 192, 3) := by decide +kernel
theorem dX11_sortLine_57 : decode cX11_sortLine 57 = .ok (.iconst 0, 1) := by decide +kernel
theorem dX11_sortLine_58 : decode cX11_sortLine 58 = .ok (.bipush 60, 2) := by decide +kernel
theorem dX11_sortLine_60 : decode cX11_sortLine 60 = .ok (.invokevirtual 187, 3) := by decide +kernel
theorem dX11_sortLine_63 : decode cX11_sortLine 63 = .ok (.iastore, 1) := by decide +kernel
theorem dX11_sortLine_64 : decode cX11_sortLine 64 = .ok (.aload_n 0, 1) := by decide +kernel
theorem dX11_sortLine_65 : decode cX11_sortLine 65 = .ok (.getfield 37, 3) := by decide +kernel
theorem dX11_sortLine_68 : decode cX11_sortLine 68 = .ok (.iconst 4, 1) := by decide +kernel
theorem dX11_sortLine_69 : decode cX11_sortLine 69 = .ok (.dup2, 1) := by decide +kernel
theorem dX11_sortLine_70 : decode cX11_sortLine 70 = .ok (.iaload, 1) := by decide +kernel
theorem dX11_sortLine_71 : decode cX11_sortLine 71 = .ok (.iconst 1, 1) := by decide +kernel
theorem dX11_sortLine_72 : decode cX11_sortLine 72 = .ok (.iadd, 1) := by decide +kernel
theorem dX11_sortLine_73 : decode cX11_sortLine 73 = .ok (.iastore, 1) := by decide +kernel
theorem dX11_sortLine_74 : decode cX11_sortLine 74 = .ok (.return_, 1) := by decide +kernel
theorem dX11_takes_0 : decode cX11_takes 0 = .ok (.aload_n 0, 1) := by decide +kernel
theorem dX11_takes_1 : decode cX11_takes 1 = .ok (.lload_n 1, 1) := by decide +kernel
theorem dX11_takes_2 : decode cX11_takes 2 = .ok (.invokevirtual 157, 3) := by decide +kernel
theorem dX11_takes_5 : decode cX11_takes 5 = .ok (.ifCond .ne 5, 3) := by decide +kernel
theorem dX11_takes_8 : decode cX11_takes 8 = .ok (.iconst 0, 1) := by decide +kernel
theorem dX11_takes_9 : decode cX11_takes 9 = .ok (.ireturn, 1) := by decide +kernel
theorem dX11_takes_10 : decode cX11_takes 10 = .ok (.aload_n 0, 1) := by decide +kernel
theorem dX11_takes_11 : decode cX11_takes 11 = .ok (.invokevirtual 161, 3) := by decide +kernel
theorem dX11_takes_14 : decode cX11_takes 14 = .ok (.iconst 1, 1) := by decide +kernel
theorem dX11_takes_15 : decode cX11_takes 15 = .ok (.ireturn, 1) := by decide +kernel
theorem dX11_voterLine_0 : decode cX11_voterLine 0 = .ok (.bipush 8, 2) := by decide +kernel
theorem dX11_voterLine_2 : decode cX11_voterLine 2 = .ok (.bipush 40, 2) := by decide +kernel
theorem dX11_voterLine_4 : decode cX11_voterLine 4 = .ok (.aload_n 0, 1) := by decide +kernel
theorem dX11_voterLine_5 : decode cX11_voterLine 5 = .ok (.getfield 43, 3) := by decide +kernel
theorem dX11_voterLine_8 : decode cX11_voterLine 8 = .ok (.iconst 4, 1) := by decide +kernel
theorem dX11_voterLine_9 : decode cX11_voterLine 9 = .ok (.iaload, 1) := by decide +kernel
theorem dX11_voterLine_10 : decode cX11_voterLine 10 = .ok (.iadd, 1) := by decide +kernel
theorem dX11_voterLine_11 : decode cX11_voterLine 11 = .ok (.imul, 1) := by decide +kernel
theorem dX11_voterLine_12 : decode cX11_voterLine 12 = .ok (.istore_n 1, 1) := by decide +kernel
theorem dX11_voterLine_13 : decode cX11_voterLine 13 = .ok (.aload_n 0, 1) := by decide +kernel
theorem dX11_voterLine_14 : decode cX11_voterLine 14 = .ok (.getfield 46, 3) := by decide +kernel
theorem dX11_voterLine_17 : decode cX11_voterLine 17 = .ok (.iload_n 1, 1) := by decide +kernel
theorem dX11_voterLine_18 : decode cX11_voterLine 18 = .ok (.aload_n 0, 1) := by decide +kernel
theorem dX11_voterLine_19 : decode cX11_voterLine 19 = .ok (.ldc2_w 194, 3) := by decide +kernel
theorem dX11_voterLine_22 : decode cX11_voterLine 22 = .ok (.ldc2_w 196, 3) := by decide +kernel
theorem dX11_voterLine_25 : decode cX11_voterLine 25 = .ok (.ldc2_w 198, 3) := by decide +kernel
theorem dX11_voterLine_28 : decode cX11_voterLine 28 = .ok (.ldc2_w 200, 3) := by decide +kernel
theorem dX11_voterLine_31 : decode cX11_voterLine 31 = .ok (.invokevirtual 202, 3) := by decide +kernel
theorem dX11_voterLine_34 : decode cX11_voterLine 34 = .ok (.iastore, 1) := by decide +kernel
theorem dX11_voterLine_35 : decode cX11_voterLine 35 = .ok (.aload_n 0, 1) := by decide +kernel
theorem dX11_voterLine_36 : decode cX11_voterLine 36 = .ok (.getfield 46, 3) := by decide +kernel
theorem dX11_voterLine_39 : decode cX11_voterLine 39 = .ok (.iload_n 1, 1) := by decide +kernel
theorem dX11_voterLine_40 : decode cX11_voterLine 40 = .ok (.iconst 1, 1) := by decide +kernel
theorem dX11_voterLine_41 : decode cX11_voterLine 41 = .ok (.iadd, 1) := by decide +kernel
theorem dX11_voterLine_42 : decode cX11_voterLine 42 = .ok (.aload_n 0, 1) := by decide +kernel
theorem dX11_voterLine_43 : decode cX11_voterLine 43 = .ok (.ldc2_w 206, 3) := by decide +kernel
theorem dX11_voterLine_46 : decode cX11_voterLine 46 = .ok (.ldc2_w 208, 3) := by decide +kernel
theorem dX11_voterLine_49 : decode cX11_voterLine 49 = .ok (.ldc2_w 210, 3) := by decide +kernel
theorem dX11_voterLine_52 : decode cX11_voterLine 52 = .ok (.ldc2_w 212, 3) := by decide +kernel
theorem dX11_voterLine_55 : decode cX11_voterLine 55 = .ok (.invokevirtual 202, 3) := by decide +kernel
theorem dX11_voterLine_58 : decode cX11_voterLine 58 = .ok (.iastore, 1) := by decide +kernel
theorem dX11_voterLine_59 : decode cX11_voterLine 59 = .ok (.aload_n 0, 1) := by decide +kernel
theorem dX11_voterLine_60 : decode cX11_voterLine 60 = .ok (.getfield 46, 3) := by decide +kernel
theorem dX11_voterLine_63 : decode cX11_voterLine 63 = .ok (.iload_n 1, 1) := by decide +kernel
theorem dX11_voterLine_64 : decode cX11_voterLine 64 = .ok (.iconst 2, 1) := by decide +kernel
theorem dX11_voterLine_65 : decode cX11_voterLine 65 = .ok (.iadd, 1) := by decide +kernel
theorem dX11_voterLine_66 : decode cX11_voterLine 66 = .ok (.aload_n 0, 1) := by decide +kernel
theorem dX11_voterLine_67 : decode cX11_voterLine 67 = .ok (.getfield 46, 3) := by decide +kernel
theorem dX11_voterLine_70 : decode cX11_voterLine 70 = .ok (.iload_n 1, 1) := by decide +kernel
theorem dX11_voterLine_71 : decode cX11_voterLine 71 = .ok (.iconst 1, 1) := by decide +kernel
theorem dX11_voterLine_72 : decode cX11_voterLine 72 = .ok (.iadd, 1) := by decide +kernel
theorem dX11_voterLine_73 : decode cX11_voterLine 73 = .ok (.iaload, 1) := by decide +kernel
theorem dX11_voterLine_74 : decode cX11_voterLine 74 = .ok (.iconst 2, 1) := by decide +kernel
theorem dX11_voterLine_75 : decode cX11_voterLine 75 = .ok (.if_icmp .ne 20, 3) := by decide +kernel
theorem dX11_voterLine_78 : decode cX11_voterLine 78 = .ok (.aload_n 0, 1) := by decide +kernel
theorem dX11_voterLine_79 : decode cX11_voterLine 79 = .ok (.iconst 0, 1) := by decide +kernel
theorem dX11_voterLine_80 : decode cX11_voterLine 80 = .ok (.aload_n 0, 1) := by decide +kernel
theorem dX11_voterLine_81 : decode cX11_voterLine 81 = .ok (.getfield 34, 3) := by decide +kernel
theorem dX11_voterLine_84 : decode cX11_voterLine 84 = .ok (.bipush 12, 2) := by decide +kernel
theorem dX11_voterLine_86 : decode cX11_voterLine 86 = .ok (.iaload, 1) := by decide +kernel
theorem dX11_voterLine_87 : decode cX11_voterLine 87 = .ok (.iconst 1, 1) := by decide +kernel
theorem dX11_voterLine_88 : decode cX11_voterLine 88 = .ok (.isub, 1) := by decide +kernel
theorem dX11_voterLine_89 : decode cX11_voterLine 89 = .ok (.invokevirtual 174, 3) := by decide +kernel
theorem dX11_voterLine_92 : decode cX11_voterLine 92 = .ok (.goto 4, 3) := by decide +kernel
theorem dX11_voterLine_95 : decode cX11_voterLine 95 = .ok (.iconst 0, 1) := by decide +kernel
theorem dX11_voterLine_96 : decode cX11_voterLine 96 = .ok (.iastore, 1) := by decide +kernel
theorem dX11_voterLine_97 : decode cX11_voterLine 97 = .ok (.aload_n 0, 1) := by decide +kernel
theorem dX11_voterLine_98 : decode cX11_voterLine 98 = .ok (.getfield 46, 3) := by decide +kernel
theorem dX11_voterLine_101 : decode cX11_voterLine 101 = .ok (.iload_n 1, 1) := by decide +kernel
theorem dX11_voterLine_102 : decode cX11_voterLine 102 = .ok (.iconst 3, 1) := by decide +kernel
theorem dX11_voterLine_103 : decode cX11_voterLine 103 = .ok (.iadd, 1) := by decide +kernel
theorem dX11_voterLine_104 : decode cX11_voterLine 104 = .ok (.aload_n 0, 1) := by decide +kernel
theorem dX11_voterLine_105 : decode cX11_voterLine 105 = .ok (.ldc2_w 214, 3) := by decide +kernel
theorem dX11_voterLine_108 : decode cX11_voterLine 108 = .ok (.ldc2_w 216, 3) := by decide +kernel
theorem dX11_voterLine_111 : decode cX11_voterLine 111 = .ok (.ldc2_w 212, 3) := by decide +kernel
theorem dX11_voterLine_114 : decode cX11_voterLine 114 = .ok (.ldc2_w 212, 3) := by decide +kernel
theorem dX11_voterLine_117 : decode cX11_voterLine 117 = .ok (.invokevirtual 202, 3) := by decide +kernel
theorem dX11_voterLine_120 : decode cX11_voterLine 120 = .ok (.iastore, 1) := by decide +kernel
theorem dX11_voterLine_121 : decode cX11_voterLine 121 = .ok (.aload_n 0, 1) := by decide +kernel
theorem dX11_voterLine_122 : decode cX11_voterLine 122 = .ok (.getfield 46, 3) := by decide +kernel
theorem dX11_voterLine_125 : decode cX11_voterLine 125 = .ok (.iload_n 1, 1) := by decide +kernel
theorem dX11_voterLine_126 : decode cX11_voterLine 126 = .ok (.iconst 4, 1) := by decide +kernel
theorem dX11_voterLine_127 : decode cX11_voterLine 127 = .ok (.iadd, 1) := by decide +kernel
theorem dX11_voterLine_128 : decode cX11_voterLine 128 = .ok (.aload_n 0, 1) := by decide +kernel
theorem dX11_voterLine_129 : decode cX11_voterLine 129 = .ok (.ldc2_w 218, 3) := by decide +kernel
theorem dX11_voterLine_132 : decode cX11_voterLine 132 = .ok (.iconst 1, 1) := by decide +kernel
theorem dX11_voterLine_133 : decode cX11_voterLine 133 = .ok (.bipush 9, 2) := by decide +kernel
theorem dX11_voterLine_135 : decode cX11_voterLine 135 = .ok (.invokevirtual 187, 3) := by decide +kernel
theorem dX11_voterLine_138 : decode cX11_voterLine 138 = .ok (.iastore, 1) := by decide +kernel
theorem dX11_voterLine_139 : decode cX11_voterLine 139 = .ok (.aload_n 0, 1) := by decide +kernel
theorem dX11_voterLine_140 : decode cX11_voterLine 140 = .ok (.getfield 46, 3) := by decide +kernel
theorem dX11_voterLine_143 : decode cX11_voterLine 143 = .ok (.iload_n 1, 1) := by decide +kernel
theorem dX11_voterLine_144 : decode cX11_voterLine 144 = .ok (.iconst 5, 1) := by decide +kernel
theorem dX11_voterLine_145 : decode cX11_voterLine 145 = .ok (.iadd, 1) := by decide +kernel
theorem dX11_voterLine_146 : decode cX11_voterLine 146 = .ok (.aload_n 0, 1) := by decide +kernel
theorem dX11_voterLine_147 : decode cX11_voterLine 147 = .ok (.ldc2_w 220, 3) := by decide +kernel
theorem dX11_voterLine_150 : decode cX11_voterLine 150 = .ok (.iconst 0, 1) := by decide +kernel
theorem dX11_voterLine_151 : decode cX11_voterLine 151 = .ok (.bipush 99, 2) := by decide +kernel
theorem dX11_voterLine_153 : decode cX11_voterLine 153 = .ok (.invokevirtual 187, 3) := by decide +kernel
theorem dX11_voterLine_156 : decode cX11_voterLine 156 = .ok (.iastore, 1) := by decide +kernel
theorem dX11_voterLine_157 : decode cX11_voterLine 157 = .ok (.aload_n 0, 1) := by decide +kernel
theorem dX11_voterLine_158 : decode cX11_voterLine 158 = .ok (.getfield 46, 3) := by decide +kernel
theorem dX11_voterLine_161 : decode cX11_voterLine 161 = .ok (.iload_n 1, 1) := by decide +kernel
theorem dX11_voterLine_162 : decode cX11_voterLine 162 = .ok (.bipush 6, 2) := by decide +kernel
theorem dX11_voterLine_164 : decode cX11_voterLine 164 = .ok (.iadd, 1) := by decide +kernel
theorem dX11_voterLine_165 : decode cX11_voterLine 165 = .ok (.aload_n 0, 1) := by decide +kernel
theorem dX11_voterLine_166 : decode cX11_voterLine 166 = .ok (.ldc2_w 222, 3) := by decide +kernel
theorem dX11_voterLine_169 : decode cX11_voterLine 169 = .ok (.invokevirtual 164, 3) := by decide +kernel
theorem dX11_voterLine_172 : decode cX11_voterLine 172 = .ok (.ifCond .eq 13, 3) := by decide +kernel
theorem dX11_voterLine_175 : decode cX11_voterLine 175 = .ok (.aload_n 0, 1) := by decide +kernel
theorem dX11_voterLine_176 : decode cX11_voterLine 176 = .ok (.iconst 0, 1) := by decide +kernel
theorem dX11_voterLine_177 : decode cX11_voterLine 177 = .ok (.bipush 99, 2) := by decide +kernel
theorem dX11_voterLine_179 : decode cX11_voterLine 179 = .ok (.invokevirtual 174, 3) := by decide +kernel
theorem dX11_voterLine_182 : decode cX11_voterLine 182 = .ok (.goto 4, 3) := by decide +kernel
theorem dX11_voterLine_185 : decode cX11_voterLine 185 = .ok (.iconst 0, 1) := by decide +kernel
theorem dX11_voterLine_186 : decode cX11_voterLine 186 = .ok (.iastore, 1) := by decide +kernel
theorem dX11_voterLine_187 : decode cX11_voterLine 187 = .ok (.aload_n 0, 1) := by decide +kernel
theorem dX11_voterLine_188 : decode cX11_voterLine 188 = .ok (.getfield 46, 3) := by decide +kernel
theorem dX11_voterLine_191 : decode cX11_voterLine 191 = .ok (.iload_n 1, 1) := by decide +kernel
theorem dX11_voterLine_192 : decode cX11_voterLine 192 = .ok (.bipush 7, 2) := by decide +kernel
theorem dX11_voterLine_194 : decode cX11_voterLine 194 = .ok (.iadd, 1) := by decide +kernel
theorem dX11_voterLine_195 : decode cX11_voterLine 195 = .ok (.aload_n 0, 1) := by decide +kernel
theorem dX11_voterLine_196 : decode cX11_voterLine 196 = .ok (.ldc2_w 224, 3) := by decide +kernel
theorem dX11_voterLine_199 : decode cX11_voterLine 199 = .ok (.invokevirtual 164, 3) := by decide +kernel
theorem dX11_voterLine_202 : decode cX11_voterLine 202 = .ok (.ifCond .eq 21, 3) := by decide +kernel
theorem dX11_voterLine_205 : decode cX11_voterLine 205 = .ok (.aload_n 0, 1) := by decide +kernel
theorem dX11_voterLine_206 : decode cX11_voterLine 206 = .ok (.aload_n 0, 1) := by decide +kernel
theorem dX11_voterLine_207 : decode cX11_voterLine 207 = .ok (.getfield 46, 3) := by decide +kernel
theorem dX11_voterLine_210 : decode cX11_voterLine 210 = .ok (.iload_n 1, 1) := by decide +kernel
theorem dX11_voterLine_211 : decode cX11_voterLine 211 = .ok (.bipush 6, 2) := by decide +kernel
theorem dX11_voterLine_213 : decode cX11_voterLine 213 = .ok (.iadd, 1) := by decide +kernel
theorem dX11_voterLine_214 : decode cX11_voterLine 214 = .ok (.iaload, 1) := by decide +kernel
theorem dX11_voterLine_215 : decode cX11_voterLine 215 = .ok (.bipush 99, 2) := by decide +kernel
theorem dX11_voterLine_217 : decode cX11_voterLine 217 = .ok (.invokevirtual 174, 3) := by decide +kernel
theorem dX11_voterLine_220 : decode cX11_voterLine 220 = .ok (.goto 5, 3) := by decide +kernel
theorem dX11_voterLine_223 : decode cX11_voterLine 223 = .ok (.bipush 99, 2) := by decide +kernel
theorem dX11_voterLine_225 : decode cX11_voterLine 225 = .ok (.iastore, 1) := by decide +kernel
theorem dX11_voterLine_226 : decode cX11_voterLine 226 = .ok (.aload_n 0, 1) := by decide +kernel
theorem dX11_voterLine_227 : decode cX11_voterLine 227 = .ok (.getfield 43, 3) := by decide +kernel
theorem dX11_voterLine_230 : decode cX11_voterLine 230 = .ok (.iconst 4, 1) := by decide +kernel
theorem dX11_voterLine_231 : decode cX11_voterLine 231 = .ok (.dup2, 1) := by decide +kernel
theorem dX11_voterLine_232 : decode cX11_voterLine 232 = .ok (.iaload, 1) := by decide +kernel
theorem dX11_voterLine_233 : decode cX11_voterLine 233 = .ok (.iconst 1, 1) := by decide +kernel
theorem dX11_voterLine_234 : decode cX11_voterLine 234 = .ok (.iadd, 1) := by decide +kernel
theorem dX11_voterLine_235 : decode cX11_voterLine 235 = .ok (.iastore, 1) := by decide +kernel
theorem dX11_voterLine_236 : decode cX11_voterLine 236 = .ok (.return_, 1) := by decide +kernel
