theorem dX3_draw_0 : decode cX3_draw 0 = .ok (.aload_n 0, 1) := by decide +kernel
theorem dX3_draw_1 : decode cX3_draw 1 = .ok (.ldc2_w 140, 3) := by decide +kernel
theorem dX3_draw_4 : decode cX3_draw 4 = .ok (.aload_n 0, 1) := by decide +kernel
theorem dX3_draw_5 : decode cX3_draw 5 = .ok (.getfield 142, 3) := by decide +kernel
theorem dX3_draw_8 : decode cX3_draw 8 = .ok (.lmul, 1) := by decide +kernel
theorem dX3_draw_9 : decode cX3_draw 9 = .ok (.ldc2_w 146, 3) := by decide +kernel
theorem dX3_draw_12 : decode cX3_draw 12 = .ok (.ladd, 1) := by decide +kernel
theorem dX3_draw_13 : decode cX3_draw 13 = .ok (.ldc2_w 148, 3) := by decide +kernel
theorem dX3_draw_16 : decode cX3_draw 16 = .ok (.lrem, 1) := by decide +kernel
theorem dX3_draw_17 : decode cX3_draw 17 = .ok (.putfield 142, 3) := by decide +kernel
theorem dX3_draw_20 : decode cX3_draw 20 = .ok (.aload_n 0, 1) := by decide +kernel
theorem dX3_draw_21 : decode cX3_draw 21 = .ok (.getfield 142, 3) := by decide +kernel
theorem dX3_draw_24 : decode cX3_draw 24 = .ok (.ldc2_w 150, 3) := by decide +kernel
theorem dX3_draw_27 : decode cX3_draw 27 = .ok (.ldiv, 1) := by decide +kernel
theorem dX3_draw_28 : decode cX3_draw 28 = .ok (.ldc2_w 152, 3) := by decide +kernel
theorem dX3_draw_31 : decode cX3_draw 31 = .ok (.lrem, 1) := by decide +kernel
theorem dX3_draw_32 : decode cX3_draw 32 = .ok (.l2i, 1) := by decide +kernel
theorem dX3_draw_33 : decode cX3_draw 33 = .ok (.ireturn, 1) := by decide +kernel
theorem dX3_leader_0 : decode cX3_leader 0 = .ok (.aload_n 0, 1) := by decide +kernel
theorem dX3_leader_1 : decode cX3_leader 1 = .ok (.getfield 26, 3) := by decide +kernel
theorem dX3_leader_4 : decode cX3_leader 4 = .ok (.iconst 0, 1) := by decide +kernel
theorem dX3_leader_5 : decode cX3_leader 5 = .ok (.iload_n 1, 1) := by decide +kernel
theorem dX3_leader_6 : decode cX3_leader 6 = .ok (.invokevirtual 68, 3) := by decide +kernel
theorem dX3_leader_9 : decode cX3_leader 9 = .ok (.istore_n 2, 1) := by decide +kernel
theorem dX3_leader_10 : decode cX3_leader 10 = .ok (.aload_n 0, 1) := by decide +kernel
theorem dX3_leader_11 : decode cX3_leader 11 = .ok (.getfield 26, 3) := by decide +kernel
theorem dX3_leader_14 : decode cX3_leader 14 = .ok (.iconst 1, 1) := by decide +kernel
theorem dX3_leader_15 : decode cX3_leader 15 = .ok (.iload_n 1, 1) := by decide +kernel
theorem dX3_leader_16 : decode cX3_leader 16 = .ok (.invokevirtual 68, 3) := by decide +kernel
theorem dX3_leader_19 : decode cX3_leader 19 = .ok (.istore_n 3, 1) := by decide +kernel
theorem dX3_leader_20 : decode cX3_leader 20 = .ok (.iload_n 2, 1) := by decide +kernel
theorem dX3_leader_21 : decode cX3_leader 21 = .ok (.iload_n 3, 1) := by decide +kernel
theorem dX3_leader_22 : decode cX3_leader 22 = .ok (.if_icmp .ne 5, 3) := by decide +kernel
theorem dX3_leader_25 : decode cX3_leader 25 = .ok (.iconst 2, 1) := by decide +kernel
theorem dX3_leader_26 : decode cX3_leader 26 = .ok (.ireturn, 1) := by decide +kernel
theorem dX3_leader_27 : decode cX3_leader 27 = .ok (.iload_n 2, 1) := by decide +kernel
theorem dX3_leader_28 : decode cX3_leader 28 = .ok (.iload_n 3, 1) := by decide +kernel
theorem dX3_leader_29 : decode cX3_leader 29 = .ok (.if_icmp .le 7, 3) := by decide +kernel
theorem dX3_leader_32 : decode cX3_leader 32 = .ok (.iconst 0, 1) := by decide +kernel
theorem dX3_leader_33 : decode cX3_leader 33 = .ok (.goto 4, 3) := by decide +kernel
theorem dX3_leader_36 : decode cX3_leader 36 = .ok (.iconst 1, 1) := by decide +kernel
theorem dX3_leader_37 : decode cX3_leader 37 = .ok (.ireturn, 1) := by decide +kernel
theorem dX3_mayVote_0 : decode cX3_mayVote 0 = .ok (.aload_n 0, 1) := by decide +kernel
theorem dX3_mayVote_1 : decode cX3_mayVote 1 = .ok (.getfield 41, 3) := by decide +kernel
theorem dX3_mayVote_4 : decode cX3_mayVote 4 = .ok (.aload_n 0, 1) := by decide +kernel
theorem dX3_mayVote_5 : decode cX3_mayVote 5 = .ok (.getfield 22, 3) := by decide +kernel
theorem dX3_mayVote_8 : decode cX3_mayVote 8 = .ok (.getfield 72, 3) := by decide +kernel
theorem dX3_mayVote_11 : decode cX3_mayVote 11 = .ok (.iload_n 1, 1) := by decide +kernel
theorem dX3_mayVote_12 : decode cX3_mayVote 12 = .ok (.iaload, 1) := by decide +kernel
theorem dX3_mayVote_13 : decode cX3_mayVote 13 = .ok (.if_icmp .lt 23, 3) := by decide +kernel
theorem dX3_mayVote_16 : decode cX3_mayVote 16 = .ok (.aload_n 0, 1) := by decide +kernel
theorem dX3_mayVote_17 : decode cX3_mayVote 17 = .ok (.getfield 41, 3) := by decide +kernel
theorem dX3_mayVote_20 : decode cX3_mayVote 20 = .ok (.aload_n 0, 1) := by decide +kernel
theorem dX3_mayVote_21 : decode cX3_mayVote 21 = .ok (.getfield 22, 3) := by decide +kernel
theorem dX3_mayVote_24 : decode cX3_mayVote 24 = .ok (.getfield 75, 3) := by decide +kernel
theorem dX3_mayVote_27 : decode cX3_mayVote 27 = .ok (.iload_n 1, 1) := by decide +kernel
theorem dX3_mayVote_28 : decode cX3_mayVote 28 = .ok (.iaload, 1) := by decide +kernel
theorem dX3_mayVote_29 : decode cX3_mayVote 29 = .ok (.if_icmp .gt 7, 3) := by decide +kernel
theorem dX3_mayVote_32 : decode cX3_mayVote 32 = .ok (.iconst 1, 1) := by decide +kernel
theorem dX3_mayVote_33 : decode cX3_mayVote 33 = .ok (.goto 4, 3) := by decide +kernel
theorem dX3_mayVote_36 : decode cX3_mayVote 36 = .ok (.iconst 0, 1) := by decide +kernel
theorem dX3_mayVote_37 : decode cX3_mayVote 37 = .ok (.ireturn, 1) := by decide +kernel
theorem dX3_sideOf_0 : decode cX3_sideOf 0 = .ok (.aload_n 0, 1) := by decide +kernel
theorem dX3_sideOf_1 : decode cX3_sideOf 1 = .ok (.getfield 22, 3) := by decide +kernel
theorem dX3_sideOf_4 : decode cX3_sideOf 4 = .ok (.getfield 85, 3) := by decide +kernel
theorem dX3_sideOf_7 : decode cX3_sideOf 7 = .ok (.iload_n 1, 1) := by decide +kernel
theorem dX3_sideOf_8 : decode cX3_sideOf 8 = .ok (.iaload, 1) := by decide +kernel
theorem dX3_sideOf_9 : decode cX3_sideOf 9 = .ok (.lookupswitch 55 #[(2, 27), (3, 41)], 27) := by decide +kernel
theorem dX3_sideOf_36 : decode cX3_sideOf 36 = .ok (.aload_n 0, 1) := by decide +kernel
theorem dX3_sideOf_37 : decode cX3_sideOf 37 = .ok (.getfield 9, 3) := by decide +kernel
theorem dX3_sideOf_40 : decode cX3_sideOf 40 = .ok (.iconst 1, 1) := by decide +kernel
theorem dX3_sideOf_41 : decode cX3_sideOf 41 = .ok (.if_icmp .ne 7, 3) := by decide +kernel
theorem dX3_sideOf_44 : decode cX3_sideOf 44 = .ok (.iconst 1, 1) := by decide +kernel
theorem dX3_sideOf_45 : decode cX3_sideOf 45 = .ok (.goto 4, 3) := by decide +kernel
theorem dX3_sideOf_48 : decode cX3_sideOf 48 = .ok (.iconst 0, 1) := by decide +kernel
theorem dX3_sideOf_49 : decode cX3_sideOf 49 = .ok (.ireturn, 1) := by decide +kernel
theorem dX3_sideOf_50 : decode cX3_sideOf 50 = .ok (.aload_n 0, 1) := by decide +kernel
theorem dX3_sideOf_51 : decode cX3_sideOf 51 = .ok (.getfield 9, 3) := by decide +kernel
theorem dX3_sideOf_54 : decode cX3_sideOf 54 = .ok (.iconst 1, 1) := by decide +kernel
theorem dX3_sideOf_55 : decode cX3_sideOf 55 = .ok (.if_icmp .ne 7, 3) := by decide +kernel
theorem dX3_sideOf_58 : decode cX3_sideOf 58 = .ok (.iconst 0, 1) := by decide +kernel
theorem dX3_sideOf_59 : decode cX3_sideOf 59 = .ok (.goto 4, 3) := by decide +kernel
theorem dX3_sideOf_62 : decode cX3_sideOf 62 = .ok (.iconst 1, 1) := by decide +kernel
theorem dX3_sideOf_63 : decode cX3_sideOf 63 = .ok (.ireturn, 1) := by decide +kernel
theorem dX3_sideOf_64 : decode cX3_sideOf 64 = .ok (.aload_n 0, 1) := by decide +kernel
theorem dX3_sideOf_65 : decode cX3_sideOf 65 = .ok (.getfield 22, 3) := by decide +kernel
theorem dX3_sideOf_68 : decode cX3_sideOf 68 = .ok (.getfield 85, 3) := by decide +kernel
theorem dX3_sideOf_71 : decode cX3_sideOf 71 = .ok (.iload_n 1, 1) := by decide +kernel
theorem dX3_sideOf_72 : decode cX3_sideOf 72 = .ok (.iaload, 1) := by decide +kernel
theorem dX3_sideOf_73 : decode cX3_sideOf 73 = .ok (.ireturn, 1) := by decide +kernel
theorem dX3_sortOf_0 : decode cX3_sortOf 0 = .ok (.iconst (-1), 1) := by decide +kernel
theorem dX3_sortOf_1 : decode cX3_sortOf 1 = .ok (.istore_n 2, 1) := by decide +kernel
theorem dX3_sortOf_2 : decode cX3_sortOf 2 = .ok (.iconst 0, 1) := by decide +kernel
theorem dX3_sortOf_3 : decode cX3_sortOf 3 = .ok (.istore_n 3, 1) := by decide +kernel
theorem dX3_sortOf_4 : decode cX3_sortOf 4 = .ok (.iload_n 3, 1) := by decide +kernel
theorem dX3_sortOf_5 : decode cX3_sortOf 5 = .ok (.aload_n 0, 1) := by decide +kernel
theorem dX3_sortOf_6 : decode cX3_sortOf 6 = .ok (.getfield 22, 3) := by decide +kernel
theorem dX3_sortOf_9 : decode cX3_sortOf 9 = .ok (.getfield 88, 3) := by decide +kernel
theorem dX3_sortOf_12 : decode cX3_sortOf 12 = .ok (.if_icmp .ge 71, 3) := by decide +kernel
theorem dX3_sortOf_15 : decode cX3_sortOf 15 = .ok (.aload_n 0, 1) := by decide +kernel
theorem dX3_sortOf_16 : decode cX3_sortOf 16 = .ok (.getfield 26, 3) := by decide +kernel
theorem dX3_sortOf_19 : decode cX3_sortOf 19 = .ok (.getfield 91, 3) := by decide +kernel
theorem dX3_sortOf_22 : decode cX3_sortOf 22 = .ok (.iload_n 3, 1) := by decide +kernel
theorem dX3_sortOf_23 : decode cX3_sortOf 23 = .ok (.iaload, 1) := by decide +kernel
theorem dX3_sortOf_24 : decode cX3_sortOf 24 = .ok (.ifCond .le 28, 3) := by decide +kernel
theorem dX3_sortOf_27 : decode cX3_sortOf 27 = .ok (.aload_n 0, 1) := by decide +kernel
theorem dX3_sortOf_28 : decode cX3_sortOf 28 = .ok (.getfield 22, 3) := by decide +kernel
theorem dX3_sortOf_31 : decode cX3_sortOf 31 = .ok (.getfield 94, 3) := by decide +kernel
theorem dX3_sortOf_34 : decode cX3_sortOf 34 = .ok (.iload_n 3, 1) := by decide +kernel
theorem dX3_sortOf_35 : decode cX3_sortOf 35 = .ok (.iaload, 1) := by decide +kernel
theorem dX3_sortOf_36 : decode cX3_sortOf 36 = .ok (.aload_n 0, 1) := by decide +kernel
theorem dX3_sortOf_37 : decode cX3_sortOf 37 = .ok (.getfield 22, 3) := by decide +kernel
theorem dX3_sortOf_40 : decode cX3_sortOf 40 = .ok (.getfield 97, 3) := by decide +kernel
theorem dX3_sortOf_43 : decode cX3_sortOf 43 = .ok (.iload_n 1, 1) := by decide +kernel
theorem dX3_sortOf_44 : decode cX3_sortOf 44 = .ok (.iaload, 1) := by decide +kernel
theorem dX3_sortOf_45 : decode cX3_sortOf 45 = .ok (.if_icmp .gt 7, 3) := by decide +kernel
theorem dX3_sortOf_48 : decode cX3_sortOf 48 = .ok (.iconst 1, 1) := by decide +kernel
theorem dX3_sortOf_49 : decode cX3_sortOf 49 = .ok (.goto 4, 3) := by decide +kernel
theorem dX3_sortOf_52 : decode cX3_sortOf 52 = .ok (.iconst 0, 1) := by decide +kernel
theorem dX3_sortOf_53 : decode cX3_sortOf 53 = .ok (.istore 4, 2) := by decide +kernel
theorem dX3_sortOf_55 : decode cX3_sortOf 55 = .ok (.iload 4, 2) := by decide +kernel
theorem dX3_sortOf_57 : decode cX3_sortOf 57 = .ok (.ifCond .eq 20, 3) := by decide +kernel
theorem dX3_sortOf_60 : decode cX3_sortOf 60 = .ok (.iload_n 2, 1) := by decide +kernel
theorem dX3_sortOf_61 : decode cX3_sortOf 61 = .ok (.iconst (-1), 1) := by decide +kernel
theorem dX3_sortOf_62 : decode cX3_sortOf 62 = .ok (.if_icmp .eq 13, 3) := by decide +kernel
theorem dX3_sortOf_65 : decode cX3_sortOf 65 = .ok (.aload_n 0, 1) := by decide +kernel
theorem dX3_sortOf_66 : decode cX3_sortOf 66 = .ok (.iload_n 1, 1) := by decide +kernel
theorem dX3_sortOf_67 : decode cX3_sortOf 67 = .ok (.iload_n 3, 1) := by decide +kernel
theorem dX3_sortOf_68 : decode cX3_sortOf 68 = .ok (.iload_n 2, 1) := by decide +kernel
theorem dX3_sortOf_69 : decode cX3_sortOf 69 = .ok (.invokevirtual 100, 3) := by decide +kernel
theorem dX3_sortOf_72 : decode cX3_sortOf 72 = .ok (.ifCond .eq 5, 3) := by decide +kernel
theorem dX3_sortOf_75 : decode cX3_sortOf 75 = .ok (.iload_n 3, 1) := by decide +kernel
theorem dX3_sortOf_76 : decode cX3_sortOf 76 = .ok (.istore_n 2, 1) := by decide +kernel
theorem dX3_sortOf_77 : decode cX3_sortOf 77 = .ok (.iinc 3 1, 3) := by decide +kernel
theorem dX3_sortOf_80 : decode cX3_sortOf 80 = .ok (.goto (-76), 3) := by decide +kernel
theorem dX3_sortOf_83 : decode cX3_sortOf 83 = .ok (.iload_n 2, 1) := by decide +kernel
theorem dX3_sortOf_84 : decode cX3_sortOf 84 = .ok (.ireturn, 1) := by decide +kernel
theorem dX3_suitsBetter_0 : decode cX3_suitsBetter 0 = .ok (.aload_n 0, 1) := by decide +kernel
theorem dX3_suitsBetter_1 : decode cX3_suitsBetter 1 = .ok (.getfield 22, 3) := by decide +kernel
theorem dX3_suitsBetter_4 : decode cX3_suitsBetter 4 = .ok (.getfield 94, 3) := by decide +kernel
theorem dX3_suitsBetter_7 : decode cX3_suitsBetter 7 = .ok (.iload_n 2, 1) := by decide +kernel
theorem dX3_suitsBetter_8 : decode cX3_suitsBetter 8 = .ok (.iaload, 1) := by decide +kernel
theorem dX3_suitsBetter_9 : decode cX3_suitsBetter 9 = .ok (.aload_n 0, 1) := by decide +kernel
theorem dX3_suitsBetter_10 : decode cX3_suitsBetter 10 = .ok (.getfield 22, 3) := by decide +kernel
theorem dX3_suitsBetter_13 : decode cX3_suitsBetter 13 = .ok (.getfield 94, 3) := by decide +kernel
theorem dX3_suitsBetter_16 : decode cX3_suitsBetter 16 = .ok (.iload_n 3, 1) := by decide +kernel
theorem dX3_suitsBetter_17 : decode cX3_suitsBetter 17 = .ok (.iaload, 1) := by decide +kernel
theorem dX3_suitsBetter_18 : decode cX3_suitsBetter 18 = .ok (.isub, 1) := by decide +kernel
theorem dX3_suitsBetter_19 : decode cX3_suitsBetter 19 = .ok (.istore 4, 2) := by decide +kernel
theorem dX3_suitsBetter_21 : decode cX3_suitsBetter 21 = .ok (.aload_n 0, 1) := by decide +kernel
theorem dX3_suitsBetter_22 : decode cX3_suitsBetter 22 = .ok (.getfield 22, 3) := by decide +kernel
theorem dX3_suitsBetter_25 : decode cX3_suitsBetter 25 = .ok (.getfield 104, 3) := by decide +kernel
theorem dX3_suitsBetter_28 : decode cX3_suitsBetter 28 = .ok (.iload_n 1, 1) := by decide +kernel
theorem dX3_suitsBetter_29 : decode cX3_suitsBetter 29 = .ok (.iaload, 1) := by decide +kernel
theorem dX3_suitsBetter_30 : decode cX3_suitsBetter 30 = .ok (.iconst 1, 1) := by decide +kernel
theorem dX3_suitsBetter_31 : decode cX3_suitsBetter 31 = .ok (.if_icmp .ne 16, 3) := by decide +kernel
theorem dX3_suitsBetter_34 : decode cX3_suitsBetter 34 = .ok (.iload 4, 2) := by decide +kernel
theorem dX3_suitsBetter_36 : decode cX3_suitsBetter 36 = .ok (.ifCond .le 7, 3) := by decide +kernel
theorem dX3_suitsBetter_39 : decode cX3_suitsBetter 39 = .ok (.iconst 1, 1) := by decide +kernel
theorem dX3_suitsBetter_40 : decode cX3_suitsBetter 40 = .ok (.goto 17, 3) := by decide +kernel
theorem dX3_suitsBetter_43 : decode cX3_suitsBetter 43 = .ok (.iconst 0, 1) := by decide +kernel
theorem dX3_suitsBetter_44 : decode cX3_suitsBetter 44 = .ok (.goto 13, 3) := by decide +kernel
theorem dX3_suitsBetter_47 : decode cX3_suitsBetter 47 = .ok (.iload 4, 2) := by decide +kernel
theorem dX3_suitsBetter_49 : decode cX3_suitsBetter 49 = .ok (.ifCond .ge 7, 3) := by decide +kernel
theorem dX3_suitsBetter_52 : decode cX3_suitsBetter 52 = .ok (.iconst 1, 1) := by decide +kernel
theorem dX3_suitsBetter_53 : decode cX3_suitsBetter 53 = .ok (.goto 4, 3) := by decide +kernel
theorem dX3_suitsBetter_56 : decode cX3_suitsBetter 56 = .ok (.iconst 0, 1) := by decide +kernel
theorem dX3_suitsBetter_57 : decode cX3_suitsBetter 57 = .ok (.ireturn, 1) := by decide +kernel
theorem dX3_votersNow_0 : decode cX3_votersNow 0 = .ok (.iconst 0, 1) := by decide +kernel
theorem dX3_votersNow_1 : decode cX3_votersNow 1 = .ok (.istore_n 1, 1) := by decide +kernel
theorem dX3_votersNow_2 : decode cX3_votersNow 2 = .ok (.iconst 0, 1) := by decide +kernel
theorem dX3_votersNow_3 : decode cX3_votersNow 3 = .ok (.istore_n 2, 1) := by decide +kernel
theorem dX3_votersNow_4 : decode cX3_votersNow 4 = .ok (.iload_n 2, 1) := by decide +kernel
theorem dX3_votersNow_5 : decode cX3_votersNow 5 = .ok (.aload_n 0, 1) := by decide +kernel
theorem dX3_votersNow_6 : decode cX3_votersNow 6 = .ok (.getfield 22, 3) := by decide +kernel
theorem dX3_votersNow_9 : decode cX3_votersNow 9 = .ok (.getfield 78, 3) := by decide +kernel
theorem dX3_votersNow_12 : decode cX3_votersNow 12 = .ok (.if_icmp .ge 23, 3) := by decide +kernel
theorem dX3_votersNow_15 : decode cX3_votersNow 15 = .ok (.aload_n 0, 1) := by decide +kernel
theorem dX3_votersNow_16 : decode cX3_votersNow 16 = .ok (.iload_n 2, 1) := by decide +kernel
theorem dX3_votersNow_17 : decode cX3_votersNow 17 = .ok (.invokevirtual 81, 3) := by decide +kernel
theorem dX3_votersNow_20 : decode cX3_votersNow 20 = .ok (.ifCond .eq 9, 3) := by decide +kernel
theorem dX3_votersNow_23 : decode cX3_votersNow 23 = .ok (.iload_n 1, 1) := by decide +kernel
theorem dX3_votersNow_24 : decode cX3_votersNow 24 = .ok (.iconst 1, 1) := by decide +kernel
theorem dX3_votersNow_25 : decode cX3_votersNow 25 = .ok (.iload_n 2, 1) := by decide +kernel
theorem dX3_votersNow_26 : decode cX3_votersNow 26 = .ok (.ishl, 1) := by decide +kernel
theorem dX3_votersNow_27 : decode cX3_votersNow 27 = .ok (.ior, 1) := by decide +kernel
theorem dX3_votersNow_28 : decode cX3_votersNow 28 = .ok (.istore_n 1, 1) := by decide +kernel
theorem dX3_votersNow_29 : decode cX3_votersNow 29 = .ok (.iinc 2 1, 3) := by decide +kernel
theorem dX3_votersNow_32 : decode cX3_votersNow 32 = .ok (.goto (-28), 3) := by decide +kernel
theorem dX3_votersNow_35 : decode cX3_votersNow 35 = .ok (.iload_n 1, 1) := by decide +kernel
theorem dX3_votersNow_36 : decode cX3_votersNow 36 = .ok (.ireturn, 1) := by decide +kernel
