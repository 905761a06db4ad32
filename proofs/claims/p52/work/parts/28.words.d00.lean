theorem dX10_bribe_0 : decode cX10_bribe 0 = .ok (.aload_n 0, 1) := by decide +kernel
theorem dX10_bribe_1 : decode cX10_bribe 1 = .ok (.iload_n 1, 1) := by decide +kernel
theorem dX10_bribe_2 : decode cX10_bribe 2 = .ok (.invokevirtual 170, 3) := by decide +kernel
theorem dX10_bribe_5 : decode cX10_bribe 5 = .ok (.ifCond .ne 6, 3) := by decide +kernel
theorem dX10_bribe_8 : decode cX10_bribe 8 = .ok (.bipush (-2), 2) := by decide +kernel
theorem dX10_bribe_10 : decode cX10_bribe 10 = .ok (.ireturn, 1) := by decide +kernel
theorem dX10_bribe_11 : decode cX10_bribe 11 = .ok (.aload_n 0, 1) := by decide +kernel
theorem dX10_bribe_12 : decode cX10_bribe 12 = .ok (.getfield 31, 3) := by decide +kernel
theorem dX10_bribe_15 : decode cX10_bribe 15 = .ok (.aload_n 0, 1) := by decide +kernel
theorem dX10_bribe_16 : decode cX10_bribe 16 = .ok (.getfield 27, 3) := by decide +kernel
theorem dX10_bribe_19 : decode cX10_bribe 19 = .ok (.invokevirtual 188, 3) := by decide +kernel
theorem dX10_bribe_22 : decode cX10_bribe 22 = .ok (.aload_n 0, 1) := by decide +kernel
theorem dX10_bribe_23 : decode cX10_bribe 23 = .ok (.getfield 68, 3) := by decide +kernel
theorem dX10_bribe_26 : decode cX10_bribe 26 = .ok (.aload_n 0, 1) := by decide +kernel
theorem dX10_bribe_27 : decode cX10_bribe 27 = .ok (.getfield 31, 3) := by decide +kernel
theorem dX10_bribe_30 : decode cX10_bribe 30 = .ok (.iload_n 1, 1) := by decide +kernel
theorem dX10_bribe_31 : decode cX10_bribe 31 = .ok (.invokevirtual 281, 3) := by decide +kernel
theorem dX10_bribe_34 : decode cX10_bribe 34 = .ok (.istore_n 2, 1) := by decide +kernel
theorem dX10_bribe_35 : decode cX10_bribe 35 = .ok (.iload_n 2, 1) := by decide +kernel
theorem dX10_bribe_36 : decode cX10_bribe 36 = .ok (.bipush (-3), 2) := by decide +kernel
theorem dX10_bribe_38 : decode cX10_bribe 38 = .ok (.if_icmp .ne 8, 3) := by decide +kernel
theorem dX10_bribe_41 : decode cX10_bribe 41 = .ok (.bipush (-3), 2) := by decide +kernel
theorem dX10_bribe_43 : decode cX10_bribe 43 = .ok (.goto 15, 3) := by decide +kernel
theorem dX10_bribe_46 : decode cX10_bribe 46 = .ok (.iload_n 2, 1) := by decide +kernel
theorem dX10_bribe_47 : decode cX10_bribe 47 = .ok (.aload_n 0, 1) := by decide +kernel
theorem dX10_bribe_48 : decode cX10_bribe 48 = .ok (.getfield 27, 3) := by decide +kernel
theorem dX10_bribe_51 : decode cX10_bribe 51 = .ok (.getfield 99, 3) := by decide +kernel
theorem dX10_bribe_54 : decode cX10_bribe 54 = .ok (.getfield 284, 3) := by decide +kernel
theorem dX10_bribe_57 : decode cX10_bribe 57 = .ok (.imul, 1) := by decide +kernel
theorem dX10_bribe_58 : decode cX10_bribe 58 = .ok (.ireturn, 1) := by decide +kernel
theorem dX10_cheap_0 : decode cX10_cheap 0 = .ok (.aload_n 0, 1) := by decide +kernel
theorem dX10_cheap_1 : decode cX10_cheap 1 = .ok (.iload_n 1, 1) := by decide +kernel
theorem dX10_cheap_2 : decode cX10_cheap 2 = .ok (.invokevirtual 170, 3) := by decide +kernel
theorem dX10_cheap_5 : decode cX10_cheap 5 = .ok (.ifCond .ne 6, 3) := by decide +kernel
theorem dX10_cheap_8 : decode cX10_cheap 8 = .ok (.bipush (-2), 2) := by decide +kernel
theorem dX10_cheap_10 : decode cX10_cheap 10 = .ok (.ireturn, 1) := by decide +kernel
theorem dX10_cheap_11 : decode cX10_cheap 11 = .ok (.aload_n 0, 1) := by decide +kernel
theorem dX10_cheap_12 : decode cX10_cheap 12 = .ok (.invokevirtual 221, 3) := by decide +kernel
theorem dX10_cheap_15 : decode cX10_cheap 15 = .ok (.ifCond .eq 6, 3) := by decide +kernel
theorem dX10_cheap_18 : decode cX10_cheap 18 = .ok (.bipush (-3), 2) := by decide +kernel
theorem dX10_cheap_20 : decode cX10_cheap 20 = .ok (.ireturn, 1) := by decide +kernel
theorem dX10_cheap_21 : decode cX10_cheap 21 = .ok (.aload_n 0, 1) := by decide +kernel
theorem dX10_cheap_22 : decode cX10_cheap 22 = .ok (.getfield 54, 3) := by decide +kernel
theorem dX10_cheap_25 : decode cX10_cheap 25 = .ok (.aload_n 0, 1) := by decide +kernel
theorem dX10_cheap_26 : decode cX10_cheap 26 = .ok (.getfield 27, 3) := by decide +kernel
theorem dX10_cheap_29 : decode cX10_cheap 29 = .ok (.aload_n 0, 1) := by decide +kernel
theorem dX10_cheap_30 : decode cX10_cheap 30 = .ok (.getfield 31, 3) := by decide +kernel
theorem dX10_cheap_33 : decode cX10_cheap 33 = .ok (.invokevirtual 252, 3) := by decide +kernel
theorem dX10_cheap_36 : decode cX10_cheap 36 = .ok (.aload_n 0, 1) := by decide +kernel
theorem dX10_cheap_37 : decode cX10_cheap 37 = .ok (.getfield 54, 3) := by decide +kernel
theorem dX10_cheap_40 : decode cX10_cheap 40 = .ok (.iload_n 1, 1) := by decide +kernel
theorem dX10_cheap_41 : decode cX10_cheap 41 = .ok (.invokevirtual 271, 3) := by decide +kernel
theorem dX10_cheap_44 : decode cX10_cheap 44 = .ok (.ireturn, 1) := by decide +kernel
theorem dX10_falls_0 : decode cX10_falls 0 = .ok (.aload_n 0, 1) := by decide +kernel
theorem dX10_falls_1 : decode cX10_falls 1 = .ok (.invokevirtual 196, 3) := by decide +kernel
theorem dX10_falls_4 : decode cX10_falls 4 = .ok (.ifCond .eq 13, 3) := by decide +kernel
theorem dX10_falls_7 : decode cX10_falls 7 = .ok (.iload_n 1, 1) := by decide +kernel
theorem dX10_falls_8 : decode cX10_falls 8 = .ok (.ifCond .lt 9, 3) := by decide +kernel
theorem dX10_falls_11 : decode cX10_falls 11 = .ok (.iload_n 1, 1) := by decide +kernel
theorem dX10_falls_12 : decode cX10_falls 12 = .ok (.bipush 16, 2) := by decide +kernel
theorem dX10_falls_14 : decode cX10_falls 14 = .ok (.if_icmp .le 7, 3) := by decide +kernel
theorem dX10_falls_17 : decode cX10_falls 17 = .ok (.ldc2_w 290, 3) := by decide +kernel
theorem dX10_falls_20 : decode cX10_falls 20 = .ok (.lreturn, 1) := by decide +kernel
theorem dX10_falls_21 : decode cX10_falls 21 = .ok (.aload_n 0, 1) := by decide +kernel
theorem dX10_falls_22 : decode cX10_falls 22 = .ok (.getfield 61, 3) := by decide +kernel
theorem dX10_falls_25 : decode cX10_falls 25 = .ok (.aload_n 0, 1) := by decide +kernel
theorem dX10_falls_26 : decode cX10_falls 26 = .ok (.getfield 27, 3) := by decide +kernel
theorem dX10_falls_29 : decode cX10_falls 29 = .ok (.invokevirtual 292, 3) := by decide +kernel
theorem dX10_falls_32 : decode cX10_falls 32 = .ok (.aload_n 0, 1) := by decide +kernel
theorem dX10_falls_33 : decode cX10_falls 33 = .ok (.getfield 61, 3) := by decide +kernel
theorem dX10_falls_36 : decode cX10_falls 36 = .ok (.getfield 299, 3) := by decide +kernel
theorem dX10_falls_39 : decode cX10_falls 39 = .ok (.iload_n 1, 1) := by decide +kernel
theorem dX10_falls_40 : decode cX10_falls 40 = .ok (.laload, 1) := by decide +kernel
theorem dX10_falls_41 : decode cX10_falls 41 = .ok (.lreturn, 1) := by decide +kernel
theorem dX10_fetch_0 : decode cX10_fetch 0 = .ok (.aload_n 0, 1) := by decide +kernel
theorem dX10_fetch_1 : decode cX10_fetch 1 = .ok (.iload_n 1, 1) := by decide +kernel
theorem dX10_fetch_2 : decode cX10_fetch 2 = .ok (.invokevirtual 170, 3) := by decide +kernel
theorem dX10_fetch_5 : decode cX10_fetch 5 = .ok (.ifCond .eq 14, 3) := by decide +kernel
theorem dX10_fetch_8 : decode cX10_fetch 8 = .ok (.iload_n 2, 1) := by decide +kernel
theorem dX10_fetch_9 : decode cX10_fetch 9 = .ok (.ifCond .lt 10, 3) := by decide +kernel
theorem dX10_fetch_12 : decode cX10_fetch 12 = .ok (.iload_n 2, 1) := by decide +kernel
theorem dX10_fetch_13 : decode cX10_fetch 13 = .ok (.sipush 999, 3) := by decide +kernel
theorem dX10_fetch_16 : decode cX10_fetch 16 = .ok (.if_icmp .le 6, 3) := by decide +kernel
theorem dX10_fetch_19 : decode cX10_fetch 19 = .ok (.bipush (-2), 2) := by decide +kernel
theorem dX10_fetch_21 : decode cX10_fetch 21 = .ok (.ireturn, 1) := by decide +kernel
theorem dX10_fetch_22 : decode cX10_fetch 22 = .ok (.aload_n 0, 1) := by decide +kernel
theorem dX10_fetch_23 : decode cX10_fetch 23 = .ok (.invokevirtual 221, 3) := by decide +kernel
theorem dX10_fetch_26 : decode cX10_fetch 26 = .ok (.ifCond .eq 6, 3) := by decide +kernel
theorem dX10_fetch_29 : decode cX10_fetch 29 = .ok (.bipush (-3), 2) := by decide +kernel
theorem dX10_fetch_31 : decode cX10_fetch 31 = .ok (.ireturn, 1) := by decide +kernel
theorem dX10_fetch_32 : decode cX10_fetch 32 = .ok (.aload_n 0, 1) := by decide +kernel
theorem dX10_fetch_33 : decode cX10_fetch 33 = .ok (.getfield 54, 3) := by decide +kernel
theorem dX10_fetch_36 : decode cX10_fetch 36 = .ok (.aload_n 0, 1) := by decide +kernel
theorem dX10_fetch_37 : decode cX10_fetch 37 = .ok (.getfield 27, 3) := by decide +kernel
theorem dX10_fetch_40 : decode cX10_fetch 40 = .ok (.aload_n 0, 1) := by decide +kernel
theorem dX10_fetch_41 : decode cX10_fetch 41 = .ok (.getfield 31, 3) := by decide +kernel
theorem dX10_fetch_44 : decode cX10_fetch 44 = .ok (.invokevirtual 252, 3) := by decide +kernel
theorem dX10_fetch_47 : decode cX10_fetch 47 = .ok (.aload_n 0, 1) := by decide +kernel
theorem dX10_fetch_48 : decode cX10_fetch 48 = .ok (.getfield 54, 3) := by decide +kernel
theorem dX10_fetch_51 : decode cX10_fetch 51 = .ok (.iload_n 1, 1) := by decide +kernel
theorem dX10_fetch_52 : decode cX10_fetch 52 = .ok (.iload_n 2, 1) := by decide +kernel
theorem dX10_fetch_53 : decode cX10_fetch 53 = .ok (.invokevirtual 264, 3) := by decide +kernel
theorem dX10_fetch_56 : decode cX10_fetch 56 = .ok (.ireturn, 1) := by decide +kernel
theorem dX10_gale_0 : decode cX10_gale 0 = .ok (.aload_n 0, 1) := by decide +kernel
theorem dX10_gale_1 : decode cX10_gale 1 = .ok (.invokevirtual 196, 3) := by decide +kernel
theorem dX10_gale_4 : decode cX10_gale 4 = .ok (.ifCond .eq 12, 3) := by decide +kernel
theorem dX10_gale_7 : decode cX10_gale 7 = .ok (.iload_n 1, 1) := by decide +kernel
theorem dX10_gale_8 : decode cX10_gale 8 = .ok (.ifCond .lt 8, 3) := by decide +kernel
theorem dX10_gale_11 : decode cX10_gale 11 = .ok (.iload_n 1, 1) := by decide +kernel
theorem dX10_gale_12 : decode cX10_gale 12 = .ok (.iconst 2, 1) := by decide +kernel
theorem dX10_gale_13 : decode cX10_gale 13 = .ok (.if_icmp .le 7, 3) := by decide +kernel
theorem dX10_gale_16 : decode cX10_gale 16 = .ok (.ldc2_w 290, 3) := by decide +kernel
theorem dX10_gale_19 : decode cX10_gale 19 = .ok (.lreturn, 1) := by decide +kernel
theorem dX10_gale_20 : decode cX10_gale 20 = .ok (.aload_n 0, 1) := by decide +kernel
theorem dX10_gale_21 : decode cX10_gale 21 = .ok (.getfield 61, 3) := by decide +kernel
theorem dX10_gale_24 : decode cX10_gale 24 = .ok (.aload_n 0, 1) := by decide +kernel
theorem dX10_gale_25 : decode cX10_gale 25 = .ok (.getfield 27, 3) := by decide +kernel
theorem dX10_gale_28 : decode cX10_gale 28 = .ok (.invokevirtual 292, 3) := by decide +kernel
theorem dX10_gale_31 : decode cX10_gale 31 = .ok (.aload_n 0, 1) := by decide +kernel
theorem dX10_gale_32 : decode cX10_gale 32 = .ok (.getfield 61, 3) := by decide +kernel
theorem dX10_gale_35 : decode cX10_gale 35 = .ok (.getfield 295, 3) := by decide +kernel
theorem dX10_gale_38 : decode cX10_gale 38 = .ok (.iload_n 1, 1) := by decide +kernel
theorem dX10_gale_39 : decode cX10_gale 39 = .ok (.laload, 1) := by decide +kernel
theorem dX10_gale_40 : decode cX10_gale 40 = .ok (.lreturn, 1) := by decide +kernel
theorem dX10_margin_0 : decode cX10_margin 0 = .ok (.aload_n 0, 1) := by decide +kernel
theorem dX10_margin_1 : decode cX10_margin 1 = .ok (.iload_n 1, 1) := by decide +kernel
theorem dX10_margin_2 : decode cX10_margin 2 = .ok (.invokevirtual 170, 3) := by decide +kernel
theorem dX10_margin_5 : decode cX10_margin 5 = .ok (.ifCond .eq 21, 3) := by decide +kernel
theorem dX10_margin_8 : decode cX10_margin 8 = .ok (.iload_n 2, 1) := by decide +kernel
theorem dX10_margin_9 : decode cX10_margin 9 = .ok (.ifCond .lt 17, 3) := by decide +kernel
theorem dX10_margin_12 : decode cX10_margin 12 = .ok (.iload_n 2, 1) := by decide +kernel
theorem dX10_margin_13 : decode cX10_margin 13 = .ok (.sipush 999, 3) := by decide +kernel
theorem dX10_margin_16 : decode cX10_margin 16 = .ok (.if_icmp .gt 10, 3) := by decide +kernel
theorem dX10_margin_19 : decode cX10_margin 19 = .ok (.aload_n 0, 1) := by decide +kernel
theorem dX10_margin_20 : decode cX10_margin 20 = .ok (.invokevirtual 221, 3) := by decide +kernel
theorem dX10_margin_23 : decode cX10_margin 23 = .ok (.ifCond .eq 7, 3) := by decide +kernel
theorem dX10_margin_26 : decode cX10_margin 26 = .ok (.ldc_w 267, 3) := by decide +kernel
theorem dX10_margin_29 : decode cX10_margin 29 = .ok (.ireturn, 1) := by decide +kernel
theorem dX10_margin_30 : decode cX10_margin 30 = .ok (.aload_n 0, 1) := by decide +kernel
theorem dX10_margin_31 : decode cX10_margin 31 = .ok (.getfield 54, 3) := by decide +kernel
theorem dX10_margin_34 : decode cX10_margin 34 = .ok (.aload_n 0, 1) := by decide +kernel
theorem dX10_margin_35 : decode cX10_margin 35 = .ok (.getfield 27, 3) := by decide +kernel
theorem dX10_margin_38 : decode cX10_margin 38 = .ok (.aload_n 0, 1) := by decide +kernel
theorem dX10_margin_39 : decode cX10_margin 39 = .ok (.getfield 31, 3) := by decide +kernel
theorem dX10_margin_42 : decode cX10_margin 42 = .ok (.invokevirtual 252, 3) := by decide +kernel
theorem dX10_margin_45 : decode cX10_margin 45 = .ok (.aload_n 0, 1) := by decide +kernel
theorem dX10_margin_46 : decode cX10_margin 46 = .ok (.getfield 54, 3) := by decide +kernel
theorem dX10_margin_49 : decode cX10_margin 49 = .ok (.aload_n 0, 1) := by decide +kernel
theorem dX10_margin_50 : decode cX10_margin 50 = .ok (.getfield 54, 3) := by decide +kernel
theorem dX10_margin_53 : decode cX10_margin 53 = .ok (.iload_n 1, 1) := by decide +kernel
theorem dX10_margin_54 : decode cX10_margin 54 = .ok (.iload_n 2, 1) := by decide +kernel
theorem dX10_margin_55 : decode cX10_margin 55 = .ok (.invokevirtual 264, 3) := by decide +kernel
theorem dX10_margin_58 : decode cX10_margin 58 = .ok (.iload_n 1, 1) := by decide +kernel
theorem dX10_margin_59 : decode cX10_margin 59 = .ok (.invokevirtual 268, 3) := by decide +kernel
theorem dX10_margin_62 : decode cX10_margin 62 = .ok (.ireturn, 1) := by decide +kernel
theorem dX10_mean_0 : decode cX10_mean 0 = .ok (.aload_n 0, 1) := by decide +kernel
theorem dX10_mean_1 : decode cX10_mean 1 = .ok (.iload_n 1, 1) := by decide +kernel
theorem dX10_mean_2 : decode cX10_mean 2 = .ok (.invokevirtual 170, 3) := by decide +kernel
theorem dX10_mean_5 : decode cX10_mean 5 = .ok (.ifCond .ne 7, 3) := by decide +kernel
theorem dX10_mean_8 : decode cX10_mean 8 = .ok (.ldc2_w 290, 3) := by decide +kernel
theorem dX10_mean_11 : decode cX10_mean 11 = .ok (.lreturn, 1) := by decide +kernel
theorem dX10_mean_12 : decode cX10_mean 12 = .ok (.aload_n 0, 1) := by decide +kernel
theorem dX10_mean_13 : decode cX10_mean 13 = .ok (.getfield 61, 3) := by decide +kernel
theorem dX10_mean_16 : decode cX10_mean 16 = .ok (.aload_n 0, 1) := by decide +kernel
theorem dX10_mean_17 : decode cX10_mean 17 = .ok (.getfield 27, 3) := by decide +kernel
theorem dX10_mean_20 : decode cX10_mean 20 = .ok (.invokevirtual 292, 3) := by decide +kernel
theorem dX10_mean_23 : decode cX10_mean 23 = .ok (.aload_n 0, 1) := by decide +kernel
theorem dX10_mean_24 : decode cX10_mean 24 = .ok (.getfield 61, 3) := by decide +kernel
theorem dX10_mean_27 : decode cX10_mean 27 = .ok (.getfield 314, 3) := by decide +kernel
theorem dX10_mean_30 : decode cX10_mean 30 = .ok (.iload_n 1, 1) := by decide +kernel
theorem dX10_mean_31 : decode cX10_mean 31 = .ok (.laload, 1) := by decide +kernel
theorem dX10_mean_32 : decode cX10_mean 32 = .ok (.ldc2_w 317, 3) := by decide +kernel
theorem dX10_mean_35 : decode cX10_mean 35 = .ok (.ldiv, 1) := by decide +kernel
theorem dX10_mean_36 : decode cX10_mean 36 = .ok (.lreturn, 1) := by decide +kernel
theorem dX10_pivot_0 : decode cX10_pivot 0 = .ok (.aload_n 0, 1) := by decide +kernel
theorem dX10_pivot_1 : decode cX10_pivot 1 = .ok (.invokevirtual 196, 3) := by decide +kernel
theorem dX10_pivot_4 : decode cX10_pivot 4 = .ok (.ifCond .eq 12, 3) := by decide +kernel
theorem dX10_pivot_7 : decode cX10_pivot 7 = .ok (.iload_n 1, 1) := by decide +kernel
theorem dX10_pivot_8 : decode cX10_pivot 8 = .ok (.ifCond .lt 8, 3) := by decide +kernel
theorem dX10_pivot_11 : decode cX10_pivot 11 = .ok (.iload_n 1, 1) := by decide +kernel
theorem dX10_pivot_12 : decode cX10_pivot 12 = .ok (.iconst 1, 1) := by decide +kernel
theorem dX10_pivot_13 : decode cX10_pivot 13 = .ok (.if_icmp .le 6, 3) := by decide +kernel
theorem dX10_pivot_16 : decode cX10_pivot 16 = .ok (.bipush (-2), 2) := by decide +kernel
theorem dX10_pivot_18 : decode cX10_pivot 18 = .ok (.ireturn, 1) := by decide +kernel
theorem dX10_pivot_19 : decode cX10_pivot 19 = .ok (.aload_n 0, 1) := by decide +kernel
theorem dX10_pivot_20 : decode cX10_pivot 20 = .ok (.invokevirtual 221, 3) := by decide +kernel
theorem dX10_pivot_23 : decode cX10_pivot 23 = .ok (.ifCond .eq 6, 3) := by decide +kernel
theorem dX10_pivot_26 : decode cX10_pivot 26 = .ok (.bipush (-3), 2) := by decide +kernel
theorem dX10_pivot_28 : decode cX10_pivot 28 = .ok (.ireturn, 1) := by decide +kernel
theorem dX10_pivot_29 : decode cX10_pivot 29 = .ok (.aload_n 0, 1) := by decide +kernel
theorem dX10_pivot_30 : decode cX10_pivot 30 = .ok (.getfield 54, 3) := by decide +kernel
theorem dX10_pivot_33 : decode cX10_pivot 33 = .ok (.aload_n 0, 1) := by decide +kernel
theorem dX10_pivot_34 : decode cX10_pivot 34 = .ok (.getfield 27, 3) := by decide +kernel
theorem dX10_pivot_37 : decode cX10_pivot 37 = .ok (.aload_n 0, 1) := by decide +kernel
theorem dX10_pivot_38 : decode cX10_pivot 38 = .ok (.getfield 31, 3) := by decide +kernel
theorem dX10_pivot_41 : decode cX10_pivot 41 = .ok (.invokevirtual 252, 3) := by decide +kernel
theorem dX10_pivot_44 : decode cX10_pivot 44 = .ok (.aload_n 0, 1) := by decide +kernel
theorem dX10_pivot_45 : decode cX10_pivot 45 = .ok (.getfield 54, 3) := by decide +kernel
theorem dX10_pivot_48 : decode cX10_pivot 48 = .ok (.invokevirtual 256, 3) := by decide +kernel
theorem dX10_pivot_51 : decode cX10_pivot 51 = .ok (.istore_n 2, 1) := by decide +kernel
theorem dX10_pivot_52 : decode cX10_pivot 52 = .ok (.iload_n 1, 1) := by decide +kernel
theorem dX10_pivot_53 : decode cX10_pivot 53 = .ok (.ifCond .ne 15, 3) := by decide +kernel
theorem dX10_pivot_56 : decode cX10_pivot 56 = .ok (.iload_n 2, 1) := by decide +kernel
theorem dX10_pivot_57 : decode cX10_pivot 57 = .ok (.iconst (-1), 1) := by decide +kernel
theorem dX10_pivot_58 : decode cX10_pivot 58 = .ok (.if_icmp .eq 10, 3) := by decide +kernel
theorem dX10_pivot_61 : decode cX10_pivot 61 = .ok (.iload_n 2, 1) := by decide +kernel
theorem dX10_pivot_62 : decode cX10_pivot 62 = .ok (.invokestatic 259, 3) := by decide +kernel
theorem dX10_pivot_65 : decode cX10_pivot 65 = .ok (.goto 4, 3) := by decide +kernel
theorem dX10_pivot_68 : decode cX10_pivot 68 = .ok (.iload_n 2, 1) := by decide +kernel
theorem dX10_pivot_69 : decode cX10_pivot 69 = .ok (.ireturn, 1) := by decide +kernel
theorem dX10_power_0 : decode cX10_power 0 = .ok (.aload_n 0, 1) := by decide +kernel
theorem dX10_power_1 : decode cX10_power 1 = .ok (.iload_n 1, 1) := by decide +kernel
theorem dX10_power_2 : decode cX10_power 2 = .ok (.invokevirtual 203, 3) := by decide +kernel
theorem dX10_power_5 : decode cX10_power 5 = .ok (.ifCond .ne 6, 3) := by decide +kernel
theorem dX10_power_8 : decode cX10_power 8 = .ok (.bipush (-2), 2) := by decide +kernel
theorem dX10_power_10 : decode cX10_power 10 = .ok (.ireturn, 1) := by decide +kernel
theorem dX10_power_11 : decode cX10_power 11 = .ok (.aload_n 0, 1) := by decide +kernel
theorem dX10_power_12 : decode cX10_power 12 = .ok (.invokevirtual 221, 3) := by decide +kernel
theorem dX10_power_15 : decode cX10_power 15 = .ok (.ifCond .eq 6, 3) := by decide +kernel
theorem dX10_power_18 : decode cX10_power 18 = .ok (.bipush (-3), 2) := by decide +kernel
theorem dX10_power_20 : decode cX10_power 20 = .ok (.ireturn, 1) := by decide +kernel
theorem dX10_power_21 : decode cX10_power 21 = .ok (.aload_n 0, 1) := by decide +kernel
theorem dX10_power_22 : decode cX10_power 22 = .ok (.getfield 54, 3) := by decide +kernel
theorem dX10_power_25 : decode cX10_power 25 = .ok (.aload_n 0, 1) := by decide +kernel
theorem dX10_power_26 : decode cX10_power 26 = .ok (.getfield 27, 3) := by decide +kernel
theorem dX10_power_29 : decode cX10_power 29 = .ok (.aload_n 0, 1) := by decide +kernel
theorem dX10_power_30 : decode cX10_power 30 = .ok (.getfield 31, 3) := by decide +kernel
theorem dX10_power_33 : decode cX10_power 33 = .ok (.invokevirtual 252, 3) := by decide +kernel
theorem dX10_power_36 : decode cX10_power 36 = .ok (.aload_n 0, 1) := by decide +kernel
theorem dX10_power_37 : decode cX10_power 37 = .ok (.getfield 54, 3) := by decide +kernel
theorem dX10_power_40 : decode cX10_power 40 = .ok (.iload_n 1, 1) := by decide +kernel
theorem dX10_power_41 : decode cX10_power 41 = .ok (.invokevirtual 302, 3) := by decide +kernel
theorem dX10_power_44 : decode cX10_power 44 = .ok (.ireturn, 1) := by decide +kernel
theorem dX10_result_0 : decode cX10_result 0 = .ok (.aload_n 0, 1) := by decide +kernel
theorem dX10_result_1 : decode cX10_result 1 = .ok (.iload_n 1, 1) := by decide +kernel
theorem dX10_result_2 : decode cX10_result 2 = .ok (.invokevirtual 218, 3) := by decide +kernel
theorem dX10_result_5 : decode cX10_result 5 = .ok (.ifCond .ne 6, 3) := by decide +kernel
theorem dX10_result_8 : decode cX10_result 8 = .ok (.bipush (-2), 2) := by decide +kernel
theorem dX10_result_10 : decode cX10_result 10 = .ok (.ireturn, 1) := by decide +kernel
theorem dX10_result_11 : decode cX10_result 11 = .ok (.aload_n 0, 1) := by decide +kernel
theorem dX10_result_12 : decode cX10_result 12 = .ok (.invokevirtual 221, 3) := by decide +kernel
theorem dX10_result_15 : decode cX10_result 15 = .ok (.ifCond .eq 6, 3) := by decide +kernel
theorem dX10_result_18 : decode cX10_result 18 = .ok (.bipush (-3), 2) := by decide +kernel
theorem dX10_result_20 : decode cX10_result 20 = .ok (.ireturn, 1) := by decide +kernel
theorem dX10_result_21 : decode cX10_result 21 = .ok (.aload_n 0, 1) := by decide +kernel
theorem dX10_result_22 : decode cX10_result 22 = .ok (.getfield 31, 3) := by decide +kernel
theorem dX10_result_25 : decode cX10_result 25 = .ok (.aload_n 0, 1) := by decide +kernel
theorem dX10_result_26 : decode cX10_result 26 = .ok (.getfield 27, 3) := by decide +kernel
theorem dX10_result_29 : decode cX10_result 29 = .ok (.invokevirtual 188, 3) := by decide +kernel
theorem dX10_result_32 : decode cX10_result 32 = .ok (.aload_n 0, 1) := by decide +kernel
theorem dX10_result_33 : decode cX10_result 33 = .ok (.getfield 31, 3) := by decide +kernel
theorem dX10_result_36 : decode cX10_result 36 = .ok (.iload_n 1, 1) := by decide +kernel
theorem dX10_result_37 : decode cX10_result 37 = .ok (.invokevirtual 224, 3) := by decide +kernel
theorem dX10_result_40 : decode cX10_result 40 = .ok (.ireturn, 1) := by decide +kernel
theorem dX10_tear_0 : decode cX10_tear 0 = .ok (.aload_n 0, 1) := by decide +kernel
theorem dX10_tear_1 : decode cX10_tear 1 = .ok (.iload_n 1, 1) := by decide +kernel
theorem dX10_tear_2 : decode cX10_tear 2 = .ok (.invokevirtual 170, 3) := by decide +kernel
theorem dX10_tear_5 : decode cX10_tear 5 = .ok (.ifCond .ne 6, 3) := by decide +kernel
theorem dX10_tear_8 : decode cX10_tear 8 = .ok (.bipush (-2), 2) := by decide +kernel
theorem dX10_tear_10 : decode cX10_tear 10 = .ok (.ireturn, 1) := by decide +kernel
theorem dX10_tear_11 : decode cX10_tear 11 = .ok (.aload_n 0, 1) := by decide +kernel
theorem dX10_tear_12 : decode cX10_tear 12 = .ok (.getfield 75, 3) := by decide +kernel
theorem dX10_tear_15 : decode cX10_tear 15 = .ok (.aload_n 0, 1) := by decide +kernel
theorem dX10_tear_16 : decode cX10_tear 16 = .ok (.getfield 27, 3) := by decide +kernel
theorem dX10_tear_19 : decode cX10_tear 19 = .ok (.iload_n 1, 1) := by decide +kernel
theorem dX10_tear_20 : decode cX10_tear 20 = .ok (.invokevirtual 287, 3) := by decide +kernel
theorem dX10_tear_23 : decode cX10_tear 23 = .ok (.ireturn, 1) := by decide +kernel
theorem dX10_turn_0 : decode cX10_turn 0 = .ok (.aload_n 0, 1) := by decide +kernel
theorem dX10_turn_1 : decode cX10_turn 1 = .ok (.iload_n 1, 1) := by decide +kernel
theorem dX10_turn_2 : decode cX10_turn 2 = .ok (.invokevirtual 170, 3) := by decide +kernel
theorem dX10_turn_5 : decode cX10_turn 5 = .ok (.ifCond .eq 12, 3) := by decide +kernel
theorem dX10_turn_8 : decode cX10_turn 8 = .ok (.iload_n 2, 1) := by decide +kernel
theorem dX10_turn_9 : decode cX10_turn 9 = .ok (.ifCond .lt 8, 3) := by decide +kernel
theorem dX10_turn_12 : decode cX10_turn 12 = .ok (.iload_n 2, 1) := by decide +kernel
theorem dX10_turn_13 : decode cX10_turn 13 = .ok (.iconst 1, 1) := by decide +kernel
theorem dX10_turn_14 : decode cX10_turn 14 = .ok (.if_icmp .le 6, 3) := by decide +kernel
theorem dX10_turn_17 : decode cX10_turn 17 = .ok (.bipush (-2), 2) := by decide +kernel
theorem dX10_turn_19 : decode cX10_turn 19 = .ok (.ireturn, 1) := by decide +kernel
theorem dX10_turn_20 : decode cX10_turn 20 = .ok (.aload_n 0, 1) := by decide +kernel
theorem dX10_turn_21 : decode cX10_turn 21 = .ok (.getfield 31, 3) := by decide +kernel
theorem dX10_turn_24 : decode cX10_turn 24 = .ok (.aload_n 0, 1) := by decide +kernel
theorem dX10_turn_25 : decode cX10_turn 25 = .ok (.getfield 27, 3) := by decide +kernel
theorem dX10_turn_28 : decode cX10_turn 28 = .ok (.invokevirtual 188, 3) := by decide +kernel
theorem dX10_turn_31 : decode cX10_turn 31 = .ok (.aload_n 0, 1) := by decide +kernel
theorem dX10_turn_32 : decode cX10_turn 32 = .ok (.getfield 68, 3) := by decide +kernel
theorem dX10_turn_35 : decode cX10_turn 35 = .ok (.aload_n 0, 1) := by decide +kernel
theorem dX10_turn_36 : decode cX10_turn 36 = .ok (.getfield 31, 3) := by decide +kernel
theorem dX10_turn_39 : decode cX10_turn 39 = .ok (.iload_n 1, 1) := by decide +kernel
theorem dX10_turn_40 : decode cX10_turn 40 = .ok (.invokevirtual 274, 3) := by decide +kernel
theorem dX10_turn_43 : decode cX10_turn 43 = .ok (.istore_n 3, 1) := by decide +kernel
theorem dX10_turn_44 : decode cX10_turn 44 = .ok (.iload_n 2, 1) := by decide +kernel
theorem dX10_turn_45 : decode cX10_turn 45 = .ok (.ifCond .eq 9, 3) := by decide +kernel
theorem dX10_turn_48 : decode cX10_turn 48 = .ok (.iload_n 3, 1) := by decide +kernel
theorem dX10_turn_49 : decode cX10_turn 49 = .ok (.bipush (-3), 2) := by decide +kernel
theorem dX10_turn_51 : decode cX10_turn 51 = .ok (.if_icmp .ne 5, 3) := by decide +kernel
theorem dX10_turn_54 : decode cX10_turn 54 = .ok (.iload_n 3, 1) := by decide +kernel
theorem dX10_turn_55 : decode cX10_turn 55 = .ok (.ireturn, 1) := by decide +kernel
theorem dX10_turn_56 : decode cX10_turn 56 = .ok (.iload_n 3, 1) := by decide +kernel
theorem dX10_turn_57 : decode cX10_turn 57 = .ok (.ifCond .ne 7, 3) := by decide +kernel
theorem dX10_turn_60 : decode cX10_turn 60 = .ok (.iconst (-1), 1) := by decide +kernel
theorem dX10_turn_61 : decode cX10_turn 61 = .ok (.goto 10, 3) := by decide +kernel
theorem dX10_turn_64 : decode cX10_turn 64 = .ok (.aload_n 0, 1) := by decide +kernel
theorem dX10_turn_65 : decode cX10_turn 65 = .ok (.getfield 68, 3) := by decide +kernel
theorem dX10_turn_68 : decode cX10_turn 68 = .ok (.getfield 278, 3) := by decide +kernel
theorem dX10_turn_71 : decode cX10_turn 71 = .ok (.ireturn, 1) := by decide +kernel
