theorem dJ7_fill_d0a16_0 : decode cJ7_fill_d0a16 0 = .ok (.iconst 0, 1) := by decide +kernel
theorem dJ7_fill_d0a16_1 : decode cJ7_fill_d0a16 1 = .ok (.istore_n 3, 1) := by decide +kernel
theorem dJ7_fill_d0a16_2 : decode cJ7_fill_d0a16 2 = .ok (.aload_n 0, 1) := by decide +kernel
theorem dJ7_fill_d0a16_3 : decode cJ7_fill_d0a16 3 = .ok (.arraylength, 1) := by decide +kernel
theorem dJ7_fill_d0a16_4 : decode cJ7_fill_d0a16 4 = .ok (.istore 4, 2) := by decide +kernel
theorem dJ7_fill_d0a16_6 : decode cJ7_fill_d0a16 6 = .ok (.iload_n 3, 1) := by decide +kernel
theorem dJ7_fill_d0a16_7 : decode cJ7_fill_d0a16 7 = .ok (.iload 4, 2) := by decide +kernel
theorem dJ7_fill_d0a16_9 : decode cJ7_fill_d0a16 9 = .ok (.if_icmp .ge 13, 3) := by decide +kernel
theorem dJ7_fill_d0a16_12 : decode cJ7_fill_d0a16 12 = .ok (.aload_n 0, 1) := by decide +kernel
theorem dJ7_fill_d0a16_13 : decode cJ7_fill_d0a16 13 = .ok (.iload_n 3, 1) := by decide +kernel
theorem dJ7_fill_d0a16_14 : decode cJ7_fill_d0a16 14 = .ok (.lload_n 1, 1) := by decide +kernel
theorem dJ7_fill_d0a16_15 : decode cJ7_fill_d0a16 15 = .ok (.lastore, 1) := by decide +kernel
theorem dJ7_fill_d0a16_16 : decode cJ7_fill_d0a16 16 = .ok (.iinc 3 1, 3) := by decide +kernel
theorem dJ7_fill_d0a16_19 : decode cJ7_fill_d0a16 19 = .ok (.goto (-13), 3) := by decide +kernel
theorem dJ7_fill_d0a16_22 : decode cJ7_fill_d0a16 22 = .ok (.return_, 1) := by decide +kernel
theorem dX6_begin_0 : decode cX6_begin 0 = .ok (.aload_n 0, 1) := by decide +kernel
theorem dX6_begin_1 : decode cX6_begin 1 = .ok (.iload_n 1, 1) := by decide +kernel
theorem dX6_begin_2 : decode cX6_begin 2 = .ok (.putfield 15, 3) := by decide +kernel
theorem dX6_begin_5 : decode cX6_begin 5 = .ok (.aload_n 0, 1) := by decide +kernel
theorem dX6_begin_6 : decode cX6_begin 6 = .ok (.iload_n 2, 1) := by decide +kernel
theorem dX6_begin_7 : decode cX6_begin 7 = .ok (.putfield 19, 3) := by decide +kernel
theorem dX6_begin_10 : decode cX6_begin 10 = .ok (.aload_n 0, 1) := by decide +kernel
theorem dX6_begin_11 : decode cX6_begin 11 = .ok (.getfield 9, 3) := by decide +kernel
theorem dX6_begin_14 : decode cX6_begin 14 = .ok (.lconst 0, 1) := by decide +kernel
theorem dX6_begin_15 : decode cX6_begin 15 = .ok (.invokestatic 22, 3) := by decide +kernel
theorem dX6_begin_18 : decode cX6_begin 18 = .ok (.return_, 1) := by decide +kernel
theorem dX9_anew_0 : decode cX9_anew 0 = .ok (.aload_n 0, 1) := by decide +kernel
theorem dX9_anew_1 : decode cX9_anew 1 = .ok (.getfield 19, 3) := by decide +kernel
theorem dX9_anew_4 : decode cX9_anew 4 = .ok (.invokevirtual 141, 3) := by decide +kernel
theorem dX9_anew_7 : decode cX9_anew 7 = .ok (.ifCond .eq 6, 3) := by decide +kernel
theorem dX9_anew_10 : decode cX9_anew 10 = .ok (.bipush (-2), 2) := by decide +kernel
theorem dX9_anew_12 : decode cX9_anew 12 = .ok (.ireturn, 1) := by decide +kernel
theorem dX9_anew_13 : decode cX9_anew 13 = .ok (.aload_n 0, 1) := by decide +kernel
theorem dX9_anew_14 : decode cX9_anew 14 = .ok (.getfield 56, 3) := by decide +kernel
theorem dX9_anew_17 : decode cX9_anew 17 = .ok (.invokevirtual 104, 3) := by decide +kernel
theorem dX9_anew_20 : decode cX9_anew 20 = .ok (.aload_n 0, 1) := by decide +kernel
theorem dX9_anew_21 : decode cX9_anew 21 = .ok (.getfield 19, 3) := by decide +kernel
theorem dX9_anew_24 : decode cX9_anew 24 = .ok (.getfield 359, 3) := by decide +kernel
theorem dX9_anew_27 : decode cX9_anew 27 = .ok (.istore_n 1, 1) := by decide +kernel
theorem dX9_anew_28 : decode cX9_anew 28 = .ok (.iconst 0, 1) := by decide +kernel
theorem dX9_anew_29 : decode cX9_anew 29 = .ok (.istore_n 2, 1) := by decide +kernel
theorem dX9_anew_30 : decode cX9_anew 30 = .ok (.iload_n 2, 1) := by decide +kernel
theorem dX9_anew_31 : decode cX9_anew 31 = .ok (.iload_n 1, 1) := by decide +kernel
theorem dX9_anew_32 : decode cX9_anew 32 = .ok (.if_icmp .ge 16, 3) := by decide +kernel
theorem dX9_anew_35 : decode cX9_anew 35 = .ok (.aload_n 0, 1) := by decide +kernel
theorem dX9_anew_36 : decode cX9_anew 36 = .ok (.getfield 19, 3) := by decide +kernel
theorem dX9_anew_39 : decode cX9_anew 39 = .ok (.invokevirtual 368, 3) := by decide +kernel
theorem dX9_anew_42 : decode cX9_anew 42 = .ok (.iinc 2 1, 3) := by decide +kernel
theorem dX9_anew_45 : decode cX9_anew 45 = .ok (.goto (-15), 3) := by decide +kernel
theorem dX9_anew_48 : decode cX9_anew 48 = .ok (.iload_n 1, 1) := by decide +kernel
theorem dX9_anew_49 : decode cX9_anew 49 = .ok (.ireturn, 1) := by decide +kernel
theorem dX9_areTwo_0 : decode cX9_areTwo 0 = .ok (.aload_n 0, 1) := by decide +kernel
theorem dX9_areTwo_1 : decode cX9_areTwo 1 = .ok (.getfield 19, 3) := by decide +kernel
theorem dX9_areTwo_4 : decode cX9_areTwo 4 = .ok (.iload_n 1, 1) := by decide +kernel
theorem dX9_areTwo_5 : decode cX9_areTwo 5 = .ok (.invokevirtual 130, 3) := by decide +kernel
theorem dX9_areTwo_8 : decode cX9_areTwo 8 = .ok (.ifCond .eq 23, 3) := by decide +kernel
theorem dX9_areTwo_11 : decode cX9_areTwo 11 = .ok (.aload_n 0, 1) := by decide +kernel
theorem dX9_areTwo_12 : decode cX9_areTwo 12 = .ok (.getfield 19, 3) := by decide +kernel
theorem dX9_areTwo_15 : decode cX9_areTwo 15 = .ok (.iload_n 2, 1) := by decide +kernel
theorem dX9_areTwo_16 : decode cX9_areTwo 16 = .ok (.invokevirtual 130, 3) := by decide +kernel
theorem dX9_areTwo_19 : decode cX9_areTwo 19 = .ok (.ifCond .eq 12, 3) := by decide +kernel
theorem dX9_areTwo_22 : decode cX9_areTwo 22 = .ok (.iload_n 1, 1) := by decide +kernel
theorem dX9_areTwo_23 : decode cX9_areTwo 23 = .ok (.iload_n 2, 1) := by decide +kernel
theorem dX9_areTwo_24 : decode cX9_areTwo 24 = .ok (.if_icmp .eq 7, 3) := by decide +kernel
theorem dX9_areTwo_27 : decode cX9_areTwo 27 = .ok (.iconst 1, 1) := by decide +kernel
theorem dX9_areTwo_28 : decode cX9_areTwo 28 = .ok (.goto 4, 3) := by decide +kernel
theorem dX9_areTwo_31 : decode cX9_areTwo 31 = .ok (.iconst 0, 1) := by decide +kernel
theorem dX9_areTwo_32 : decode cX9_areTwo 32 = .ok (.ireturn, 1) := by decide +kernel
theorem dX9_ask_0 : decode cX9_ask 0 = .ok (.aload_n 0, 1) := by decide +kernel
theorem dX9_ask_1 : decode cX9_ask 1 = .ok (.iload_n 1, 1) := by decide +kernel
theorem dX9_ask_2 : decode cX9_ask 2 = .ok (.invokevirtual 268, 3) := by decide +kernel
theorem dX9_ask_5 : decode cX9_ask 5 = .ok (.istore_n 2, 1) := by decide +kernel
theorem dX9_ask_6 : decode cX9_ask 6 = .ok (.iload_n 2, 1) := by decide +kernel
theorem dX9_ask_7 : decode cX9_ask 7 = .ok (.ifCond .eq 7, 3) := by decide +kernel
theorem dX9_ask_10 : decode cX9_ask 10 = .ok (.iload_n 2, 1) := by decide +kernel
theorem dX9_ask_11 : decode cX9_ask 11 = .ok (.goto 23, 3) := by decide +kernel
theorem dX9_ask_14 : decode cX9_ask 14 = .ok (.aload_n 0, 1) := by decide +kernel
theorem dX9_ask_15 : decode cX9_ask 15 = .ok (.getfield 63, 3) := by decide +kernel
theorem dX9_ask_18 : decode cX9_ask 18 = .ok (.aload_n 0, 1) := by decide +kernel
theorem dX9_ask_19 : decode cX9_ask 19 = .ok (.getfield 63, 3) := by decide +kernel
theorem dX9_ask_22 : decode cX9_ask 22 = .ok (.aload_n 0, 1) := by decide +kernel
theorem dX9_ask_23 : decode cX9_ask 23 = .ok (.getfield 38, 3) := by decide +kernel
theorem dX9_ask_26 : decode cX9_ask 26 = .ok (.iload_n 1, 1) := by decide +kernel
theorem dX9_ask_27 : decode cX9_ask 27 = .ok (.aaload, 1) := by decide +kernel
theorem dX9_ask_28 : decode cX9_ask 28 = .ok (.invokevirtual 271, 3) := by decide +kernel
theorem dX9_ask_31 : decode cX9_ask 31 = .ok (.invokevirtual 275, 3) := by decide +kernel
theorem dX9_ask_34 : decode cX9_ask 34 = .ok (.ireturn, 1) := by decide +kernel
theorem dX9_at_0 : decode cX9_at 0 = .ok (.aload_n 0, 1) := by decide +kernel
theorem dX9_at_1 : decode cX9_at 1 = .ok (.getfield 19, 3) := by decide +kernel
theorem dX9_at_4 : decode cX9_at 4 = .ok (.iload_n 1, 1) := by decide +kernel
theorem dX9_at_5 : decode cX9_at 5 = .ok (.invokevirtual 116, 3) := by decide +kernel
theorem dX9_at_8 : decode cX9_at 8 = .ok (.ifCond .eq 10, 3) := by decide +kernel
theorem dX9_at_11 : decode cX9_at 11 = .ok (.iload_n 2, 1) := by decide +kernel
theorem dX9_at_12 : decode cX9_at 12 = .ok (.invokestatic 147, 3) := by decide +kernel
theorem dX9_at_15 : decode cX9_at 15 = .ok (.ifCond .ne 6, 3) := by decide +kernel
theorem dX9_at_18 : decode cX9_at 18 = .ok (.bipush (-2), 2) := by decide +kernel
theorem dX9_at_20 : decode cX9_at 20 = .ok (.ireturn, 1) := by decide +kernel
theorem dX9_at_21 : decode cX9_at 21 = .ok (.aload_n 0, 1) := by decide +kernel
theorem dX9_at_22 : decode cX9_at 22 = .ok (.iload_n 1, 1) := by decide +kernel
theorem dX9_at_23 : decode cX9_at 23 = .ok (.invokevirtual 150, 3) := by decide +kernel
theorem dX9_at_26 : decode cX9_at 26 = .ok (.aload_n 0, 1) := by decide +kernel
theorem dX9_at_27 : decode cX9_at 27 = .ok (.getfield 47, 3) := by decide +kernel
theorem dX9_at_30 : decode cX9_at 30 = .ok (.iload_n 2, 1) := by decide +kernel
theorem dX9_at_31 : decode cX9_at 31 = .ok (.invokevirtual 153, 3) := by decide +kernel
theorem dX9_at_34 : decode cX9_at 34 = .ok (.ireturn, 1) := by decide +kernel
theorem dX9_atRest_0 : decode cX9_atRest 0 = .ok (.aload_n 0, 1) := by decide +kernel
theorem dX9_atRest_1 : decode cX9_atRest 1 = .ok (.iload_n 1, 1) := by decide +kernel
theorem dX9_atRest_2 : decode cX9_atRest 2 = .ok (.iload_n 2, 1) := by decide +kernel
theorem dX9_atRest_3 : decode cX9_atRest 3 = .ok (.iload_n 3, 1) := by decide +kernel
theorem dX9_atRest_4 : decode cX9_atRest 4 = .ok (.iload 4, 2) := by decide +kernel
theorem dX9_atRest_6 : decode cX9_atRest 6 = .ok (.invokevirtual 343, 3) := by decide +kernel
theorem dX9_atRest_9 : decode cX9_atRest 9 = .ok (.aload_n 0, 1) := by decide +kernel
theorem dX9_atRest_10 : decode cX9_atRest 10 = .ok (.iload_n 1, 1) := by decide +kernel
theorem dX9_atRest_11 : decode cX9_atRest 11 = .ok (.iload_n 2, 1) := by decide +kernel
theorem dX9_atRest_12 : decode cX9_atRest 12 = .ok (.iconst 1, 1) := by decide +kernel
theorem dX9_atRest_13 : decode cX9_atRest 13 = .ok (.iload_n 3, 1) := by decide +kernel
theorem dX9_atRest_14 : decode cX9_atRest 14 = .ok (.isub, 1) := by decide +kernel
theorem dX9_atRest_15 : decode cX9_atRest 15 = .ok (.iload 4, 2) := by decide +kernel
theorem dX9_atRest_17 : decode cX9_atRest 17 = .ok (.invokevirtual 343, 3) := by decide +kernel
theorem dX9_atRest_20 : decode cX9_atRest 20 = .ok (.if_icmp .lt 30, 3) := by decide +kernel
theorem dX9_atRest_23 : decode cX9_atRest 23 = .ok (.aload_n 0, 1) := by decide +kernel
theorem dX9_atRest_24 : decode cX9_atRest 24 = .ok (.iload_n 2, 1) := by decide +kernel
theorem dX9_atRest_25 : decode cX9_atRest 25 = .ok (.iload_n 1, 1) := by decide +kernel
theorem dX9_atRest_26 : decode cX9_atRest 26 = .ok (.iload 4, 2) := by decide +kernel
theorem dX9_atRest_28 : decode cX9_atRest 28 = .ok (.iload_n 3, 1) := by decide +kernel
theorem dX9_atRest_29 : decode cX9_atRest 29 = .ok (.invokevirtual 343, 3) := by decide +kernel
theorem dX9_atRest_32 : decode cX9_atRest 32 = .ok (.aload_n 0, 1) := by decide +kernel
theorem dX9_atRest_33 : decode cX9_atRest 33 = .ok (.iload_n 2, 1) := by decide +kernel
theorem dX9_atRest_34 : decode cX9_atRest 34 = .ok (.iload_n 1, 1) := by decide +kernel
theorem dX9_atRest_35 : decode cX9_atRest 35 = .ok (.iconst 1, 1) := by decide +kernel
theorem dX9_atRest_36 : decode cX9_atRest 36 = .ok (.iload 4, 2) := by decide +kernel
theorem dX9_atRest_38 : decode cX9_atRest 38 = .ok (.isub, 1) := by decide +kernel
theorem dX9_atRest_39 : decode cX9_atRest 39 = .ok (.iload_n 3, 1) := by decide +kernel
theorem dX9_atRest_40 : decode cX9_atRest 40 = .ok (.invokevirtual 343, 3) := by decide +kernel
theorem dX9_atRest_43 : decode cX9_atRest 43 = .ok (.if_icmp .lt 7, 3) := by decide +kernel
theorem dX9_atRest_46 : decode cX9_atRest 46 = .ok (.iconst 1, 1) := by decide +kernel
theorem dX9_atRest_47 : decode cX9_atRest 47 = .ok (.goto 4, 3) := by decide +kernel
theorem dX9_atRest_50 : decode cX9_atRest 50 = .ok (.iconst 0, 1) := by decide +kernel
theorem dX9_atRest_51 : decode cX9_atRest 51 = .ok (.ireturn, 1) := by decide +kernel
theorem dX9_back_0 : decode cX9_back 0 = .ok (.iload_n 1, 1) := by decide +kernel
theorem dX9_back_1 : decode cX9_back 1 = .ok (.ifCond .lt 8, 3) := by decide +kernel
theorem dX9_back_4 : decode cX9_back 4 = .ok (.iload_n 1, 1) := by decide +kernel
theorem dX9_back_5 : decode cX9_back 5 = .ok (.iconst 3, 1) := by decide +kernel
theorem dX9_back_6 : decode cX9_back 6 = .ok (.if_icmp .lt 6, 3) := by decide +kernel
theorem dX9_back_9 : decode cX9_back 9 = .ok (.bipush (-2), 2) := by decide +kernel
theorem dX9_back_11 : decode cX9_back 11 = .ok (.ireturn, 1) := by decide +kernel
theorem dX9_back_12 : decode cX9_back 12 = .ok (.aload_n 0, 1) := by decide +kernel
theorem dX9_back_13 : decode cX9_back 13 = .ok (.getfield 81, 3) := by decide +kernel
theorem dX9_back_16 : decode cX9_back 16 = .ok (.iload_n 1, 1) := by decide +kernel
theorem dX9_back_17 : decode cX9_back 17 = .ok (.baload, 1) := by decide +kernel
theorem dX9_back_18 : decode cX9_back 18 = .ok (.ifCond .ne 6, 3) := by decide +kernel
theorem dX9_back_21 : decode cX9_back 21 = .ok (.bipush (-6), 2) := by decide +kernel
theorem dX9_back_23 : decode cX9_back 23 = .ok (.ireturn, 1) := by decide +kernel
theorem dX9_back_24 : decode cX9_back 24 = .ok (.aload_n 0, 1) := by decide +kernel
theorem dX9_back_25 : decode cX9_back 25 = .ok (.getfield 19, 3) := by decide +kernel
theorem dX9_back_28 : decode cX9_back 28 = .ok (.aload_n 0, 1) := by decide +kernel
theorem dX9_back_29 : decode cX9_back 29 = .ok (.getfield 32, 3) := by decide +kernel
theorem dX9_back_32 : decode cX9_back 32 = .ok (.iload_n 1, 1) := by decide +kernel
theorem dX9_back_33 : decode cX9_back 33 = .ok (.aaload, 1) := by decide +kernel
theorem dX9_back_34 : decode cX9_back 34 = .ok (.invokevirtual 101, 3) := by decide +kernel
theorem dX9_back_37 : decode cX9_back 37 = .ok (.aload_n 0, 1) := by decide +kernel
theorem dX9_back_38 : decode cX9_back 38 = .ok (.getfield 56, 3) := by decide +kernel
theorem dX9_back_41 : decode cX9_back 41 = .ok (.invokevirtual 104, 3) := by decide +kernel
theorem dX9_back_44 : decode cX9_back 44 = .ok (.iconst 0, 1) := by decide +kernel
theorem dX9_back_45 : decode cX9_back 45 = .ok (.ireturn, 1) := by decide +kernel
theorem dX9_began_0 : decode cX9_began 0 = .ok (.aload_n 0, 1) := by decide +kernel
theorem dX9_began_1 : decode cX9_began 1 = .ok (.iload_n 1, 1) := by decide +kernel
theorem dX9_began_2 : decode cX9_began 2 = .ok (.invokevirtual 278, 3) := by decide +kernel
theorem dX9_began_5 : decode cX9_began 5 = .ok (.istore_n 2, 1) := by decide +kernel
theorem dX9_began_6 : decode cX9_began 6 = .ok (.iload_n 2, 1) := by decide +kernel
theorem dX9_began_7 : decode cX9_began 7 = .ok (.ifCond .eq 7, 3) := by decide +kernel
theorem dX9_began_10 : decode cX9_began 10 = .ok (.iload_n 2, 1) := by decide +kernel
theorem dX9_began_11 : decode cX9_began 11 = .ok (.goto 16, 3) := by decide +kernel
theorem dX9_began_14 : decode cX9_began 14 = .ok (.aload_n 0, 1) := by decide +kernel
theorem dX9_began_15 : decode cX9_began 15 = .ok (.getfield 63, 3) := by decide +kernel
theorem dX9_began_18 : decode cX9_began 18 = .ok (.aload_n 0, 1) := by decide +kernel
theorem dX9_began_19 : decode cX9_began 19 = .ok (.getfield 38, 3) := by decide +kernel
theorem dX9_began_22 : decode cX9_began 22 = .ok (.iload_n 1, 1) := by decide +kernel
theorem dX9_began_23 : decode cX9_began 23 = .ok (.aaload, 1) := by decide +kernel
theorem dX9_began_24 : decode cX9_began 24 = .ok (.invokevirtual 281, 3) := by decide +kernel
theorem dX9_began_27 : decode cX9_began 27 = .ok (.ireturn, 1) := by decide +kernel
theorem dX9_bends_0 : decode cX9_bends 0 = .ok (.aload_n 0, 1) := by decide +kernel
theorem dX9_bends_1 : decode cX9_bends 1 = .ok (.getfield 19, 3) := by decide +kernel
theorem dX9_bends_4 : decode cX9_bends 4 = .ok (.iload_n 1, 1) := by decide +kernel
theorem dX9_bends_5 : decode cX9_bends 5 = .ok (.invokevirtual 116, 3) := by decide +kernel
theorem dX9_bends_8 : decode cX9_bends 8 = .ok (.ifCond .ne 6, 3) := by decide +kernel
theorem dX9_bends_11 : decode cX9_bends 11 = .ok (.bipush (-2), 2) := by decide +kernel
theorem dX9_bends_13 : decode cX9_bends 13 = .ok (.ireturn, 1) := by decide +kernel
theorem dX9_bends_14 : decode cX9_bends 14 = .ok (.aload_n 0, 1) := by decide +kernel
theorem dX9_bends_15 : decode cX9_bends 15 = .ok (.iload_n 1, 1) := by decide +kernel
theorem dX9_bends_16 : decode cX9_bends 16 = .ok (.invokevirtual 150, 3) := by decide +kernel
theorem dX9_bends_19 : decode cX9_bends 19 = .ok (.aload_n 0, 1) := by decide +kernel
theorem dX9_bends_20 : decode cX9_bends 20 = .ok (.getfield 47, 3) := by decide +kernel
theorem dX9_bends_23 : decode cX9_bends 23 = .ok (.getfield 164, 3) := by decide +kernel
theorem dX9_bends_26 : decode cX9_bends 26 = .ok (.ireturn, 1) := by decide +kernel
theorem dX9_best_0 : decode cX9_best 0 = .ok (.aload_n 0, 1) := by decide +kernel
theorem dX9_best_1 : decode cX9_best 1 = .ok (.getfield 19, 3) := by decide +kernel
theorem dX9_best_4 : decode cX9_best 4 = .ok (.invokevirtual 141, 3) := by decide +kernel
theorem dX9_best_7 : decode cX9_best 7 = .ok (.ifCond .ne 10, 3) := by decide +kernel
theorem dX9_best_10 : decode cX9_best 10 = .ok (.iload_n 1, 1) := by decide +kernel
theorem dX9_best_11 : decode cX9_best 11 = .ok (.invokestatic 253, 3) := by decide +kernel
theorem dX9_best_14 : decode cX9_best 14 = .ok (.ifCond .ne 6, 3) := by decide +kernel
theorem dX9_best_17 : decode cX9_best 17 = .ok (.bipush (-2), 2) := by decide +kernel
theorem dX9_best_19 : decode cX9_best 19 = .ok (.ireturn, 1) := by decide +kernel
theorem dX9_best_20 : decode cX9_best 20 = .ok (.aload_n 0, 1) := by decide +kernel
theorem dX9_best_21 : decode cX9_best 21 = .ok (.getfield 56, 3) := by decide +kernel
theorem dX9_best_24 : decode cX9_best 24 = .ok (.invokevirtual 241, 3) := by decide +kernel
theorem dX9_best_27 : decode cX9_best 27 = .ok (.aload_n 0, 1) := by decide +kernel
theorem dX9_best_28 : decode cX9_best 28 = .ok (.getfield 19, 3) := by decide +kernel
theorem dX9_best_31 : decode cX9_best 31 = .ok (.aload_n 0, 1) := by decide +kernel
theorem dX9_best_32 : decode cX9_best 32 = .ok (.getfield 56, 3) := by decide +kernel
theorem dX9_best_35 : decode cX9_best 35 = .ok (.iload_n 1, 1) := by decide +kernel
theorem dX9_best_36 : decode cX9_best 36 = .ok (.invokevirtual 256, 3) := by decide +kernel
theorem dX9_best_39 : decode cX9_best 39 = .ok (.invokevirtual 259, 3) := by decide +kernel
theorem dX9_best_42 : decode cX9_best 42 = .ok (.ireturn, 1) := by decide +kernel
theorem dX9_bestChange_0 : decode cX9_bestChange 0 = .ok (.iconst (-1), 1) := by decide +kernel
theorem dX9_bestChange_1 : decode cX9_bestChange 1 = .ok (.istore_n 2, 1) := by decide +kernel
theorem dX9_bestChange_2 : decode cX9_bestChange 2 = .ok (.aload_n 0, 1) := by decide +kernel
theorem dX9_bestChange_3 : decode cX9_bestChange 3 = .ok (.aload_n 0, 1) := by decide +kernel
theorem dX9_bestChange_4 : decode cX9_bestChange 4 = .ok (.getfield 19, 3) := by decide +kernel
theorem dX9_bestChange_7 : decode cX9_bestChange 7 = .ok (.getfield 144, 3) := by decide +kernel
theorem dX9_bestChange_10 : decode cX9_bestChange 10 = .ok (.aload_n 0, 1) := by decide +kernel
theorem dX9_bestChange_11 : decode cX9_bestChange 11 = .ok (.getfield 19, 3) := by decide +kernel
theorem dX9_bestChange_14 : decode cX9_bestChange 14 = .ok (.getfield 195, 3) := by decide +kernel
theorem dX9_bestChange_17 : decode cX9_bestChange 17 = .ok (.invokevirtual 201, 3) := by decide +kernel
theorem dX9_bestChange_20 : decode cX9_bestChange 20 = .ok (.istore_n 3, 1) := by decide +kernel
theorem dX9_bestChange_21 : decode cX9_bestChange 21 = .ok (.iconst 0, 1) := by decide +kernel
theorem dX9_bestChange_22 : decode cX9_bestChange 22 = .ok (.istore 4, 2) := by decide +kernel
theorem dX9_bestChange_24 : decode cX9_bestChange 24 = .ok (.iload 4, 2) := by decide +kernel
theorem dX9_bestChange_26 : decode cX9_bestChange 26 = .ok (.aload_n 0, 1) := by decide +kernel
theorem dX9_bestChange_27 : decode cX9_bestChange 27 = .ok (.getfield 19, 3) := by decide +kernel
theorem dX9_bestChange_30 : decode cX9_bestChange 30 = .ok (.invokevirtual 192, 3) := by decide +kernel
theorem dX9_bestChange_33 : decode cX9_bestChange 33 = .ok (.if_icmp .ge 55, 3) := by decide +kernel
theorem dX9_bestChange_36 : decode cX9_bestChange 36 = .ok (.iload_n 1, 1) := by decide +kernel
theorem dX9_bestChange_37 : decode cX9_bestChange 37 = .ok (.iload 4, 2) := by decide +kernel
theorem dX9_bestChange_39 : decode cX9_bestChange 39 = .ok (.invokestatic 228, 3) := by decide +kernel
theorem dX9_bestChange_42 : decode cX9_bestChange 42 = .ok (.ifCond .eq 40, 3) := by decide +kernel
theorem dX9_bestChange_45 : decode cX9_bestChange 45 = .ok (.aload_n 0, 1) := by decide +kernel
theorem dX9_bestChange_46 : decode cX9_bestChange 46 = .ok (.aload_n 0, 1) := by decide +kernel
theorem dX9_bestChange_47 : decode cX9_bestChange 47 = .ok (.getfield 19, 3) := by decide +kernel
theorem dX9_bestChange_50 : decode cX9_bestChange 50 = .ok (.getfield 144, 3) := by decide +kernel
theorem dX9_bestChange_53 : decode cX9_bestChange 53 = .ok (.iconst 1, 1) := by decide +kernel
theorem dX9_bestChange_54 : decode cX9_bestChange 54 = .ok (.iload 4, 2) := by decide +kernel
theorem dX9_bestChange_56 : decode cX9_bestChange 56 = .ok (.ishl, 1) := by decide +kernel
theorem dX9_bestChange_57 : decode cX9_bestChange 57 = .ok (.ixor, 1) := by decide +kernel
theorem dX9_bestChange_58 : decode cX9_bestChange 58 = .ok (.aload_n 0, 1) := by decide +kernel
theorem dX9_bestChange_59 : decode cX9_bestChange 59 = .ok (.getfield 19, 3) := by decide +kernel
theorem dX9_bestChange_62 : decode cX9_bestChange 62 = .ok (.getfield 195, 3) := by decide +kernel
theorem dX9_bestChange_65 : decode cX9_bestChange 65 = .ok (.invokevirtual 201, 3) := by decide +kernel
theorem dX9_bestChange_68 : decode cX9_bestChange 68 = .ok (.istore 5, 2) := by decide +kernel
theorem dX9_bestChange_70 : decode cX9_bestChange 70 = .ok (.iload 5, 2) := by decide +kernel
theorem dX9_bestChange_72 : decode cX9_bestChange 72 = .ok (.iload_n 3, 1) := by decide +kernel
theorem dX9_bestChange_73 : decode cX9_bestChange 73 = .ok (.if_icmp .le 9, 3) := by decide +kernel
theorem dX9_bestChange_76 : decode cX9_bestChange 76 = .ok (.iload 5, 2) := by decide +kernel
theorem dX9_bestChange_78 : decode cX9_bestChange 78 = .ok (.istore_n 3, 1) := by decide +kernel
theorem dX9_bestChange_79 : decode cX9_bestChange 79 = .ok (.iload 4, 2) := by decide +kernel
theorem dX9_bestChange_81 : decode cX9_bestChange 81 = .ok (.istore_n 2, 1) := by decide +kernel
theorem dX9_bestChange_82 : decode cX9_bestChange 82 = .ok (.iinc 4 1, 3) := by decide +kernel
theorem dX9_bestChange_85 : decode cX9_bestChange 85 = .ok (.goto (-61), 3) := by decide +kernel
theorem dX9_bestChange_88 : decode cX9_bestChange 88 = .ok (.iload_n 2, 1) := by decide +kernel
theorem dX9_bestChange_89 : decode cX9_bestChange 89 = .ok (.ireturn, 1) := by decide +kernel
theorem dX9_bests_0 : decode cX9_bests 0 = .ok (.aload_n 0, 1) := by decide +kernel
theorem dX9_bests_1 : decode cX9_bests 1 = .ok (.getfield 19, 3) := by decide +kernel
theorem dX9_bests_4 : decode cX9_bests 4 = .ok (.invokevirtual 141, 3) := by decide +kernel
theorem dX9_bests_7 : decode cX9_bests 7 = .ok (.ifCond .ne 10, 3) := by decide +kernel
theorem dX9_bests_10 : decode cX9_bests 10 = .ok (.iload_n 1, 1) := by decide +kernel
theorem dX9_bests_11 : decode cX9_bests 11 = .ok (.invokestatic 253, 3) := by decide +kernel
theorem dX9_bests_14 : decode cX9_bests 14 = .ok (.ifCond .ne 6, 3) := by decide +kernel
theorem dX9_bests_17 : decode cX9_bests 17 = .ok (.bipush (-2), 2) := by decide +kernel
theorem dX9_bests_19 : decode cX9_bests 19 = .ok (.ireturn, 1) := by decide +kernel
theorem dX9_bests_20 : decode cX9_bests 20 = .ok (.aload_n 0, 1) := by decide +kernel
theorem dX9_bests_21 : decode cX9_bests 21 = .ok (.getfield 56, 3) := by decide +kernel
theorem dX9_bests_24 : decode cX9_bests 24 = .ok (.invokevirtual 241, 3) := by decide +kernel
theorem dX9_bests_27 : decode cX9_bests 27 = .ok (.aload_n 0, 1) := by decide +kernel
theorem dX9_bests_28 : decode cX9_bests 28 = .ok (.getfield 56, 3) := by decide +kernel
theorem dX9_bests_31 : decode cX9_bests 31 = .ok (.getfield 250, 3) := by decide +kernel
theorem dX9_bests_34 : decode cX9_bests 34 = .ok (.aload_n 0, 1) := by decide +kernel
theorem dX9_bests_35 : decode cX9_bests 35 = .ok (.getfield 56, 3) := by decide +kernel
theorem dX9_bests_38 : decode cX9_bests 38 = .ok (.iload_n 1, 1) := by decide +kernel
theorem dX9_bests_39 : decode cX9_bests 39 = .ok (.invokevirtual 256, 3) := by decide +kernel
theorem dX9_bests_42 : decode cX9_bests 42 = .ok (.iaload, 1) := by decide +kernel
theorem dX9_bests_43 : decode cX9_bests 43 = .ok (.ireturn, 1) := by decide +kernel
theorem dX9_by_0 : decode cX9_by 0 = .ok (.aload_n 0, 1) := by decide +kernel
theorem dX9_by_1 : decode cX9_by 1 = .ok (.getfield 19, 3) := by decide +kernel
theorem dX9_by_4 : decode cX9_by 4 = .ok (.invokevirtual 141, 3) := by decide +kernel
theorem dX9_by_7 : decode cX9_by 7 = .ok (.ifCond .ne 12, 3) := by decide +kernel
theorem dX9_by_10 : decode cX9_by 10 = .ok (.iload_n 1, 1) := by decide +kernel
theorem dX9_by_11 : decode cX9_by 11 = .ok (.ifCond .lt 8, 3) := by decide +kernel
theorem dX9_by_14 : decode cX9_by 14 = .ok (.iload_n 1, 1) := by decide +kernel
theorem dX9_by_15 : decode cX9_by 15 = .ok (.iconst 4, 1) := by decide +kernel
theorem dX9_by_16 : decode cX9_by 16 = .ok (.if_icmp .lt 6, 3) := by decide +kernel
theorem dX9_by_19 : decode cX9_by 19 = .ok (.bipush (-2), 2) := by decide +kernel
theorem dX9_by_21 : decode cX9_by 21 = .ok (.ireturn, 1) := by decide +kernel
theorem dX9_by_22 : decode cX9_by 22 = .ok (.aload_n 0, 1) := by decide +kernel
theorem dX9_by_23 : decode cX9_by 23 = .ok (.aload_n 0, 1) := by decide +kernel
theorem dX9_by_24 : decode cX9_by 24 = .ok (.getfield 19, 3) := by decide +kernel
theorem dX9_by_27 : decode cX9_by 27 = .ok (.getfield 144, 3) := by decide +kernel
theorem dX9_by_30 : decode cX9_by 30 = .ok (.iload_n 1, 1) := by decide +kernel
theorem dX9_by_31 : decode cX9_by 31 = .ok (.invokevirtual 201, 3) := by decide +kernel
theorem dX9_by_34 : decode cX9_by 34 = .ok (.ireturn, 1) := by decide +kernel
theorem dX9_calls_0 : decode cX9_calls 0 = .ok (.aload_n 0, 1) := by decide +kernel
theorem dX9_calls_1 : decode cX9_calls 1 = .ok (.getfield 19, 3) := by decide +kernel
theorem dX9_calls_4 : decode cX9_calls 4 = .ok (.invokevirtual 141, 3) := by decide +kernel
theorem dX9_calls_7 : decode cX9_calls 7 = .ok (.ifCond .ne 10, 3) := by decide +kernel
theorem dX9_calls_10 : decode cX9_calls 10 = .ok (.iload_n 1, 1) := by decide +kernel
theorem dX9_calls_11 : decode cX9_calls 11 = .ok (.invokestatic 147, 3) := by decide +kernel
theorem dX9_calls_14 : decode cX9_calls 14 = .ok (.ifCond .ne 6, 3) := by decide +kernel
theorem dX9_calls_17 : decode cX9_calls 17 = .ok (.bipush (-2), 2) := by decide +kernel
theorem dX9_calls_19 : decode cX9_calls 19 = .ok (.ireturn, 1) := by decide +kernel
theorem dX9_calls_20 : decode cX9_calls 20 = .ok (.aload_n 0, 1) := by decide +kernel
theorem dX9_calls_21 : decode cX9_calls 21 = .ok (.aload_n 0, 1) := by decide +kernel
theorem dX9_calls_22 : decode cX9_calls 22 = .ok (.getfield 19, 3) := by decide +kernel
theorem dX9_calls_25 : decode cX9_calls 25 = .ok (.invokevirtual 232, 3) := by decide +kernel
theorem dX9_calls_28 : decode cX9_calls 28 = .ok (.iload_n 1, 1) := by decide +kernel
theorem dX9_calls_29 : decode cX9_calls 29 = .ok (.invokevirtual 176, 3) := by decide +kernel
theorem dX9_calls_32 : decode cX9_calls 32 = .ok (.ireturn, 1) := by decide +kernel
theorem dX9_chance_0 : decode cX9_chance 0 = .ok (.aload_n 0, 1) := by decide +kernel
theorem dX9_chance_1 : decode cX9_chance 1 = .ok (.getfield 19, 3) := by decide +kernel
theorem dX9_chance_4 : decode cX9_chance 4 = .ok (.iload_n 1, 1) := by decide +kernel
theorem dX9_chance_5 : decode cX9_chance 5 = .ok (.invokevirtual 130, 3) := by decide +kernel
theorem dX9_chance_8 : decode cX9_chance 8 = .ok (.ifCond .eq 10, 3) := by decide +kernel
theorem dX9_chance_11 : decode cX9_chance 11 = .ok (.iload_n 2, 1) := by decide +kernel
theorem dX9_chance_12 : decode cX9_chance 12 = .ok (.invokestatic 293, 3) := by decide +kernel
theorem dX9_chance_15 : decode cX9_chance 15 = .ok (.ifCond .ne 6, 3) := by decide +kernel
theorem dX9_chance_18 : decode cX9_chance 18 = .ok (.bipush (-2), 2) := by decide +kernel
theorem dX9_chance_20 : decode cX9_chance 20 = .ok (.ireturn, 1) := by decide +kernel
theorem dX9_chance_21 : decode cX9_chance 21 = .ok (.aload_n 0, 1) := by decide +kernel
theorem dX9_chance_22 : decode cX9_chance 22 = .ok (.getfield 77, 3) := by decide +kernel
theorem dX9_chance_25 : decode cX9_chance 25 = .ok (.iload_n 1, 1) := by decide +kernel
theorem dX9_chance_26 : decode cX9_chance 26 = .ok (.invokevirtual 347, 3) := by decide +kernel
theorem dX9_chance_29 : decode cX9_chance 29 = .ok (.aload_n 0, 1) := by decide +kernel
theorem dX9_chance_30 : decode cX9_chance 30 = .ok (.getfield 77, 3) := by decide +kernel
theorem dX9_chance_33 : decode cX9_chance 33 = .ok (.invokevirtual 350, 3) := by decide +kernel
theorem dX9_chance_36 : decode cX9_chance 36 = .ok (.iload_n 2, 1) := by decide +kernel
theorem dX9_chance_37 : decode cX9_chance 37 = .ok (.invokestatic 299, 3) := by decide +kernel
theorem dX9_chance_40 : decode cX9_chance 40 = .ok (.ireturn, 1) := by decide +kernel
theorem dX9_count_0 : decode cX9_count 0 = .ok (.iload_n 1, 1) := by decide +kernel
theorem dX9_count_1 : decode cX9_count 1 = .ok (.tableswitch 156 0 11 #[63, 71, 79, 87, 95, 103, 111, 119, 127, 135, 143, 151], 63) := by decide +kernel
theorem dX9_count_64 : decode cX9_count 64 = .ok (.aload_n 0, 1) := by decide +kernel
theorem dX9_count_65 : decode cX9_count 65 = .ok (.getfield 19, 3) := by decide +kernel
theorem dX9_count_68 : decode cX9_count 68 = .ok (.getfield 380, 3) := by decide +kernel
theorem dX9_count_71 : decode cX9_count 71 = .ok (.ireturn, 1) := by decide +kernel
theorem dX9_count_72 : decode cX9_count 72 = .ok (.aload_n 0, 1) := by decide +kernel
theorem dX9_count_73 : decode cX9_count 73 = .ok (.getfield 19, 3) := by decide +kernel
theorem dX9_count_76 : decode cX9_count 76 = .ok (.getfield 383, 3) := by decide +kernel
theorem dX9_count_79 : decode cX9_count 79 = .ok (.ireturn, 1) := by decide +kernel
theorem dX9_count_80 : decode cX9_count 80 = .ok (.aload_n 0, 1) := by decide +kernel
theorem dX9_count_81 : decode cX9_count 81 = .ok (.getfield 19, 3) := by decide +kernel
theorem dX9_count_84 : decode cX9_count 84 = .ok (.getfield 195, 3) := by decide +kernel
theorem dX9_count_87 : decode cX9_count 87 = .ok (.ireturn, 1) := by decide +kernel
theorem dX9_count_88 : decode cX9_count 88 = .ok (.aload_n 0, 1) := by decide +kernel
theorem dX9_count_89 : decode cX9_count 89 = .ok (.getfield 19, 3) := by decide +kernel
theorem dX9_count_92 : decode cX9_count 92 = .ok (.getfield 386, 3) := by decide +kernel
theorem dX9_count_95 : decode cX9_count 95 = .ok (.ireturn, 1) := by decide +kernel
theorem dX9_count_96 : decode cX9_count 96 = .ok (.aload_n 0, 1) := by decide +kernel
theorem dX9_count_97 : decode cX9_count 97 = .ok (.getfield 19, 3) := by decide +kernel
theorem dX9_count_100 : decode cX9_count 100 = .ok (.getfield 389, 3) := by decide +kernel
theorem dX9_count_103 : decode cX9_count 103 = .ok (.ireturn, 1) := by decide +kernel
theorem dX9_count_104 : decode cX9_count 104 = .ok (.aload_n 0, 1) := by decide +kernel
theorem dX9_count_105 : decode cX9_count 105 = .ok (.getfield 19, 3) := by decide +kernel
theorem dX9_count_108 : decode cX9_count 108 = .ok (.invokevirtual 192, 3) := by decide +kernel
theorem dX9_count_111 : decode cX9_count 111 = .ok (.ireturn, 1) := by decide +kernel
theorem dX9_count_112 : decode cX9_count 112 = .ok (.aload_n 0, 1) := by decide +kernel
theorem dX9_count_113 : decode cX9_count 113 = .ok (.getfield 19, 3) := by decide +kernel
theorem dX9_count_116 : decode cX9_count 116 = .ok (.getfield 210, 3) := by decide +kernel
theorem dX9_count_119 : decode cX9_count 119 = .ok (.ireturn, 1) := by decide +kernel
theorem dX9_count_120 : decode cX9_count 120 = .ok (.aload_n 0, 1) := by decide +kernel
theorem dX9_count_121 : decode cX9_count 121 = .ok (.getfield 19, 3) := by decide +kernel
theorem dX9_count_124 : decode cX9_count 124 = .ok (.getfield 216, 3) := by decide +kernel
theorem dX9_count_127 : decode cX9_count 127 = .ok (.ireturn, 1) := by decide +kernel
theorem dX9_count_128 : decode cX9_count 128 = .ok (.aload_n 0, 1) := by decide +kernel
theorem dX9_count_129 : decode cX9_count 129 = .ok (.getfield 19, 3) := by decide +kernel
theorem dX9_count_132 : decode cX9_count 132 = .ok (.getfield 359, 3) := by decide +kernel
theorem dX9_count_135 : decode cX9_count 135 = .ok (.ireturn, 1) := by decide +kernel
theorem dX9_count_136 : decode cX9_count 136 = .ok (.aload_n 0, 1) := by decide +kernel
theorem dX9_count_137 : decode cX9_count 137 = .ok (.getfield 19, 3) := by decide +kernel
theorem dX9_count_140 : decode cX9_count 140 = .ok (.getfield 107, 3) := by decide +kernel
theorem dX9_count_143 : decode cX9_count 143 = .ok (.ireturn, 1) := by decide +kernel
theorem dX9_count_144 : decode cX9_count 144 = .ok (.aload_n 0, 1) := by decide +kernel
theorem dX9_count_145 : decode cX9_count 145 = .ok (.getfield 10, 3) := by decide +kernel
theorem dX9_count_148 : decode cX9_count 148 = .ok (.getfield 86, 3) := by decide +kernel
theorem dX9_count_151 : decode cX9_count 151 = .ok (.ireturn, 1) := by decide +kernel
theorem dX9_count_152 : decode cX9_count 152 = .ok (.aload_n 0, 1) := by decide +kernel
theorem dX9_count_153 : decode cX9_count 153 = .ok (.invokevirtual 392, 3) := by decide +kernel
theorem dX9_count_156 : decode cX9_count 156 = .ok (.ireturn, 1) := by decide +kernel
theorem dX9_count_157 : decode cX9_count 157 = .ok (.iconst (-1), 1) := by decide +kernel
theorem dX9_count_158 : decode cX9_count 158 = .ok (.ireturn, 1) := by decide +kernel
theorem dX9_cut_0 : decode cX9_cut 0 = .ok (.aload_n 0, 1) := by decide +kernel
theorem dX9_cut_1 : decode cX9_cut 1 = .ok (.getfield 19, 3) := by decide +kernel
theorem dX9_cut_4 : decode cX9_cut 4 = .ok (.iload_n 1, 1) := by decide +kernel
theorem dX9_cut_5 : decode cX9_cut 5 = .ok (.invokevirtual 130, 3) := by decide +kernel
theorem dX9_cut_8 : decode cX9_cut 8 = .ok (.ifCond .eq 10, 3) := by decide +kernel
theorem dX9_cut_11 : decode cX9_cut 11 = .ok (.iload_n 2, 1) := by decide +kernel
theorem dX9_cut_12 : decode cX9_cut 12 = .ok (.invokestatic 293, 3) := by decide +kernel
theorem dX9_cut_15 : decode cX9_cut 15 = .ok (.ifCond .ne 6, 3) := by decide +kernel
theorem dX9_cut_18 : decode cX9_cut 18 = .ok (.bipush (-2), 2) := by decide +kernel
theorem dX9_cut_20 : decode cX9_cut 20 = .ok (.ireturn, 1) := by decide +kernel
theorem dX9_cut_21 : decode cX9_cut 21 = .ok (.aload_n 0, 1) := by decide +kernel
theorem dX9_cut_22 : decode cX9_cut 22 = .ok (.getfield 56, 3) := by decide +kernel
theorem dX9_cut_25 : decode cX9_cut 25 = .ok (.invokevirtual 241, 3) := by decide +kernel
theorem dX9_cut_28 : decode cX9_cut 28 = .ok (.aload_n 0, 1) := by decide +kernel
theorem dX9_cut_29 : decode cX9_cut 29 = .ok (.getfield 56, 3) := by decide +kernel
theorem dX9_cut_32 : decode cX9_cut 32 = .ok (.aload_n 0, 1) := by decide +kernel
theorem dX9_cut_33 : decode cX9_cut 33 = .ok (.getfield 19, 3) := by decide +kernel
theorem dX9_cut_36 : decode cX9_cut 36 = .ok (.invokevirtual 321, 3) := by decide +kernel
theorem dX9_cut_39 : decode cX9_cut 39 = .ok (.invokevirtual 324, 3) := by decide +kernel
theorem dX9_cut_42 : decode cX9_cut 42 = .ok (.iconst (-1), 1) := by decide +kernel
theorem dX9_cut_43 : decode cX9_cut 43 = .ok (.if_icmp .ne 5, 3) := by decide +kernel
theorem dX9_cut_46 : decode cX9_cut 46 = .ok (.iconst (-1), 1) := by decide +kernel
theorem dX9_cut_47 : decode cX9_cut 47 = .ok (.ireturn, 1) := by decide +kernel
theorem dX9_cut_48 : decode cX9_cut 48 = .ok (.aload_n 0, 1) := by decide +kernel
theorem dX9_cut_49 : decode cX9_cut 49 = .ok (.getfield 56, 3) := by decide +kernel
theorem dX9_cut_52 : decode cX9_cut 52 = .ok (.iload_n 1, 1) := by decide +kernel
theorem dX9_cut_53 : decode cX9_cut 53 = .ok (.invokevirtual 327, 3) := by decide +kernel
theorem dX9_cut_56 : decode cX9_cut 56 = .ok (.aload_n 0, 1) := by decide +kernel
theorem dX9_cut_57 : decode cX9_cut 57 = .ok (.getfield 56, 3) := by decide +kernel
theorem dX9_cut_60 : decode cX9_cut 60 = .ok (.invokevirtual 330, 3) := by decide +kernel
theorem dX9_cut_63 : decode cX9_cut 63 = .ok (.iload_n 2, 1) := by decide +kernel
theorem dX9_cut_64 : decode cX9_cut 64 = .ok (.invokestatic 299, 3) := by decide +kernel
theorem dX9_cut_67 : decode cX9_cut 67 = .ok (.ireturn, 1) := by decide +kernel
theorem dX9_drawn_0 : decode cX9_drawn 0 = .ok (.aload_n 0, 1) := by decide +kernel
theorem dX9_drawn_1 : decode cX9_drawn 1 = .ok (.getfield 19, 3) := by decide +kernel
theorem dX9_drawn_4 : decode cX9_drawn 4 = .ok (.invokevirtual 141, 3) := by decide +kernel
theorem dX9_drawn_7 : decode cX9_drawn 7 = .ok (.ifCond .ne 19, 3) := by decide +kernel
theorem dX9_drawn_10 : decode cX9_drawn 10 = .ok (.iload_n 1, 1) := by decide +kernel
theorem dX9_drawn_11 : decode cX9_drawn 11 = .ok (.invokestatic 371, 3) := by decide +kernel
theorem dX9_drawn_14 : decode cX9_drawn 14 = .ok (.ifCond .eq 12, 3) := by decide +kernel
theorem dX9_drawn_17 : decode cX9_drawn 17 = .ok (.iload_n 2, 1) := by decide +kernel
theorem dX9_drawn_18 : decode cX9_drawn 18 = .ok (.ifCond .lt 8, 3) := by decide +kernel
theorem dX9_drawn_21 : decode cX9_drawn 21 = .ok (.iload_n 2, 1) := by decide +kernel
theorem dX9_drawn_22 : decode cX9_drawn 22 = .ok (.iconst 1, 1) := by decide +kernel
theorem dX9_drawn_23 : decode cX9_drawn 23 = .ok (.if_icmp .le 6, 3) := by decide +kernel
theorem dX9_drawn_26 : decode cX9_drawn 26 = .ok (.bipush (-2), 2) := by decide +kernel
theorem dX9_drawn_28 : decode cX9_drawn 28 = .ok (.ireturn, 1) := by decide +kernel
theorem dX9_drawn_29 : decode cX9_drawn 29 = .ok (.aload_n 0, 1) := by decide +kernel
theorem dX9_drawn_30 : decode cX9_drawn 30 = .ok (.getfield 77, 3) := by decide +kernel
theorem dX9_drawn_33 : decode cX9_drawn 33 = .ok (.iload_n 1, 1) := by decide +kernel
theorem dX9_drawn_34 : decode cX9_drawn 34 = .ok (.invokevirtual 374, 3) := by decide +kernel
theorem dX9_drawn_37 : decode cX9_drawn 37 = .ok (.istore_n 3, 1) := by decide +kernel
theorem dX9_drawn_38 : decode cX9_drawn 38 = .ok (.iload_n 2, 1) := by decide +kernel
theorem dX9_drawn_39 : decode cX9_drawn 39 = .ok (.ifCond .ne 7, 3) := by decide +kernel
theorem dX9_drawn_42 : decode cX9_drawn 42 = .ok (.iload_n 3, 1) := by decide +kernel
theorem dX9_drawn_43 : decode cX9_drawn 43 = .ok (.goto 11, 3) := by decide +kernel
theorem dX9_drawn_46 : decode cX9_drawn 46 = .ok (.aload_n 0, 1) := by decide +kernel
theorem dX9_drawn_47 : decode cX9_drawn 47 = .ok (.getfield 77, 3) := by decide +kernel
theorem dX9_drawn_50 : decode cX9_drawn 50 = .ok (.iload_n 3, 1) := by decide +kernel
theorem dX9_drawn_51 : decode cX9_drawn 51 = .ok (.invokevirtual 377, 3) := by decide +kernel
theorem dX9_drawn_54 : decode cX9_drawn 54 = .ok (.ireturn, 1) := by decide +kernel
theorem dX9_ears_0 : decode cX9_ears 0 = .ok (.aload_n 0, 1) := by decide +kernel
theorem dX9_ears_1 : decode cX9_ears 1 = .ok (.getfield 19, 3) := by decide +kernel
theorem dX9_ears_4 : decode cX9_ears 4 = .ok (.iload_n 1, 1) := by decide +kernel
theorem dX9_ears_5 : decode cX9_ears 5 = .ok (.invokevirtual 170, 3) := by decide +kernel
theorem dX9_ears_8 : decode cX9_ears 8 = .ok (.ifCond .ne 6, 3) := by decide +kernel
theorem dX9_ears_11 : decode cX9_ears 11 = .ok (.bipush (-2), 2) := by decide +kernel
theorem dX9_ears_13 : decode cX9_ears 13 = .ok (.ireturn, 1) := by decide +kernel
theorem dX9_ears_14 : decode cX9_ears 14 = .ok (.aload_n 0, 1) := by decide +kernel
theorem dX9_ears_15 : decode cX9_ears 15 = .ok (.invokevirtual 186, 3) := by decide +kernel
theorem dX9_ears_18 : decode cX9_ears 18 = .ok (.aload_n 0, 1) := by decide +kernel
theorem dX9_ears_19 : decode cX9_ears 19 = .ok (.getfield 47, 3) := by decide +kernel
theorem dX9_ears_22 : decode cX9_ears 22 = .ok (.iload_n 1, 1) := by decide +kernel
theorem dX9_ears_23 : decode cX9_ears 23 = .ok (.invokevirtual 189, 3) := by decide +kernel
theorem dX9_ears_26 : decode cX9_ears 26 = .ok (.ireturn, 1) := by decide +kernel
theorem dX9_earshotOfUnpaid_0 : decode cX9_earshotOfUnpaid 0 = .ok (.iconst 0, 1) := by decide +kernel
theorem dX9_earshotOfUnpaid_1 : decode cX9_earshotOfUnpaid 1 = .ok (.istore_n 1, 1) := by decide +kernel
theorem dX9_earshotOfUnpaid_2 : decode cX9_earshotOfUnpaid 2 = .ok (.iconst 0, 1) := by decide +kernel
theorem dX9_earshotOfUnpaid_3 : decode cX9_earshotOfUnpaid 3 = .ok (.istore_n 2, 1) := by decide +kernel
theorem dX9_earshotOfUnpaid_4 : decode cX9_earshotOfUnpaid 4 = .ok (.iload_n 2, 1) := by decide +kernel
theorem dX9_earshotOfUnpaid_5 : decode cX9_earshotOfUnpaid 5 = .ok (.aload_n 0, 1) := by decide +kernel
theorem dX9_earshotOfUnpaid_6 : decode cX9_earshotOfUnpaid 6 = .ok (.getfield 19, 3) := by decide +kernel
theorem dX9_earshotOfUnpaid_9 : decode cX9_earshotOfUnpaid 9 = .ok (.getfield 216, 3) := by decide +kernel
theorem dX9_earshotOfUnpaid_12 : decode cX9_earshotOfUnpaid 12 = .ok (.if_icmp .ge 32, 3) := by decide +kernel
theorem dX9_earshotOfUnpaid_15 : decode cX9_earshotOfUnpaid 15 = .ok (.aload_n 0, 1) := by decide +kernel
theorem dX9_earshotOfUnpaid_16 : decode cX9_earshotOfUnpaid 16 = .ok (.getfield 19, 3) := by decide +kernel
theorem dX9_earshotOfUnpaid_19 : decode cX9_earshotOfUnpaid 19 = .ok (.getfield 135, 3) := by decide +kernel
theorem dX9_earshotOfUnpaid_22 : decode cX9_earshotOfUnpaid 22 = .ok (.iload_n 2, 1) := by decide +kernel
theorem dX9_earshotOfUnpaid_23 : decode cX9_earshotOfUnpaid 23 = .ok (.iaload, 1) := by decide +kernel
theorem dX9_earshotOfUnpaid_24 : decode cX9_earshotOfUnpaid 24 = .ok (.ifCond .ne 14, 3) := by decide +kernel
theorem dX9_earshotOfUnpaid_27 : decode cX9_earshotOfUnpaid 27 = .ok (.iload_n 1, 1) := by decide +kernel
theorem dX9_earshotOfUnpaid_28 : decode cX9_earshotOfUnpaid 28 = .ok (.aload_n 0, 1) := by decide +kernel
theorem dX9_earshotOfUnpaid_29 : decode cX9_earshotOfUnpaid 29 = .ok (.getfield 19, 3) := by decide +kernel
theorem dX9_earshotOfUnpaid_32 : decode cX9_earshotOfUnpaid 32 = .ok (.iload_n 2, 1) := by decide +kernel
theorem dX9_earshotOfUnpaid_33 : decode cX9_earshotOfUnpaid 33 = .ok (.invokevirtual 180, 3) := by decide +kernel
theorem dX9_earshotOfUnpaid_36 : decode cX9_earshotOfUnpaid 36 = .ok (.ior, 1) := by decide +kernel
theorem dX9_earshotOfUnpaid_37 : decode cX9_earshotOfUnpaid 37 = .ok (.istore_n 1, 1) := by decide +kernel
theorem dX9_earshotOfUnpaid_38 : decode cX9_earshotOfUnpaid 38 = .ok (.iinc 2 1, 3) := by decide +kernel
theorem dX9_earshotOfUnpaid_41 : decode cX9_earshotOfUnpaid 41 = .ok (.goto (-37), 3) := by decide +kernel
theorem dX9_earshotOfUnpaid_44 : decode cX9_earshotOfUnpaid 44 = .ok (.iload_n 1, 1) := by decide +kernel
theorem dX9_earshotOfUnpaid_45 : decode cX9_earshotOfUnpaid 45 = .ok (.ireturn, 1) := by decide +kernel
theorem dX9_end_0 : decode cX9_end 0 = .ok (.iload_n 1, 1) := by decide +kernel
theorem dX9_end_1 : decode cX9_end 1 = .ok (.ifCond .lt 14, 3) := by decide +kernel
theorem dX9_end_4 : decode cX9_end 4 = .ok (.iload_n 1, 1) := by decide +kernel
theorem dX9_end_5 : decode cX9_end 5 = .ok (.aload_n 0, 1) := by decide +kernel
theorem dX9_end_6 : decode cX9_end 6 = .ok (.getfield 10, 3) := by decide +kernel
theorem dX9_end_9 : decode cX9_end 9 = .ok (.getfield 86, 3) := by decide +kernel
theorem dX9_end_12 : decode cX9_end 12 = .ok (.if_icmp .le 5, 3) := by decide +kernel
theorem dX9_end_15 : decode cX9_end 15 = .ok (.iconst (-1), 1) := by decide +kernel
theorem dX9_end_16 : decode cX9_end 16 = .ok (.ireturn, 1) := by decide +kernel
theorem dX9_end_17 : decode cX9_end 17 = .ok (.aload_n 0, 1) := by decide +kernel
theorem dX9_end_18 : decode cX9_end 18 = .ok (.getfield 10, 3) := by decide +kernel
theorem dX9_end_21 : decode cX9_end 21 = .ok (.iload_n 1, 1) := by decide +kernel
theorem dX9_end_22 : decode cX9_end 22 = .ok (.putfield 86, 3) := by decide +kernel
theorem dX9_end_25 : decode cX9_end 25 = .ok (.iload_n 1, 1) := by decide +kernel
theorem dX9_end_26 : decode cX9_end 26 = .ok (.ireturn, 1) := by decide +kernel
theorem dX9_farthest_0 : decode cX9_farthest 0 = .ok (.aload_n 0, 1) := by decide +kernel
theorem dX9_farthest_1 : decode cX9_farthest 1 = .ok (.getfield 19, 3) := by decide +kernel
theorem dX9_farthest_4 : decode cX9_farthest 4 = .ok (.iload_n 1, 1) := by decide +kernel
theorem dX9_farthest_5 : decode cX9_farthest 5 = .ok (.invokevirtual 116, 3) := by decide +kernel
theorem dX9_farthest_8 : decode cX9_farthest 8 = .ok (.ifCond .ne 6, 3) := by decide +kernel
theorem dX9_farthest_11 : decode cX9_farthest 11 = .ok (.bipush (-2), 2) := by decide +kernel
theorem dX9_farthest_13 : decode cX9_farthest 13 = .ok (.ireturn, 1) := by decide +kernel
theorem dX9_farthest_14 : decode cX9_farthest 14 = .ok (.aload_n 0, 1) := by decide +kernel
theorem dX9_farthest_15 : decode cX9_farthest 15 = .ok (.iload_n 1, 1) := by decide +kernel
theorem dX9_farthest_16 : decode cX9_farthest 16 = .ok (.invokevirtual 150, 3) := by decide +kernel
theorem dX9_farthest_19 : decode cX9_farthest 19 = .ok (.aload_n 0, 1) := by decide +kernel
theorem dX9_farthest_20 : decode cX9_farthest 20 = .ok (.getfield 47, 3) := by decide +kernel
theorem dX9_farthest_23 : decode cX9_farthest 23 = .ok (.invokevirtual 167, 3) := by decide +kernel
theorem dX9_farthest_26 : decode cX9_farthest 26 = .ok (.istore_n 2, 1) := by decide +kernel
theorem dX9_farthest_27 : decode cX9_farthest 27 = .ok (.aload_n 0, 1) := by decide +kernel
theorem dX9_farthest_28 : decode cX9_farthest 28 = .ok (.getfield 19, 3) := by decide +kernel
theorem dX9_farthest_31 : decode cX9_farthest 31 = .ok (.getfield 120, 3) := by decide +kernel
theorem dX9_farthest_34 : decode cX9_farthest 34 = .ok (.iload_n 1, 1) := by decide +kernel
theorem dX9_farthest_35 : decode cX9_farthest 35 = .ok (.iaload, 1) := by decide +kernel
theorem dX9_farthest_36 : decode cX9_farthest 36 = .ok (.istore_n 3, 1) := by decide +kernel
theorem dX9_farthest_37 : decode cX9_farthest 37 = .ok (.iload_n 3, 1) := by decide +kernel
theorem dX9_farthest_38 : decode cX9_farthest 38 = .ok (.istore 4, 2) := by decide +kernel
theorem dX9_farthest_40 : decode cX9_farthest 40 = .ok (.iconst 0, 1) := by decide +kernel
theorem dX9_farthest_41 : decode cX9_farthest 41 = .ok (.istore 5, 2) := by decide +kernel
theorem dX9_farthest_43 : decode cX9_farthest 43 = .ok (.iload 5, 2) := by decide +kernel
theorem dX9_farthest_45 : decode cX9_farthest 45 = .ok (.aload_n 0, 1) := by decide +kernel
theorem dX9_farthest_46 : decode cX9_farthest 46 = .ok (.getfield 19, 3) := by decide +kernel
theorem dX9_farthest_49 : decode cX9_farthest 49 = .ok (.invokevirtual 192, 3) := by decide +kernel
theorem dX9_farthest_52 : decode cX9_farthest 52 = .ok (.if_icmp .ge 45, 3) := by decide +kernel
theorem dX9_farthest_55 : decode cX9_farthest 55 = .ok (.iload_n 2, 1) := by decide +kernel
theorem dX9_farthest_56 : decode cX9_farthest 56 = .ok (.iload 5, 2) := by decide +kernel
theorem dX9_farthest_58 : decode cX9_farthest 58 = .ok (.invokestatic 228, 3) := by decide +kernel
theorem dX9_farthest_61 : decode cX9_farthest 61 = .ok (.ifCond .eq 30, 3) := by decide +kernel
theorem dX9_farthest_64 : decode cX9_farthest 64 = .ok (.aload_n 0, 1) := by decide +kernel
theorem dX9_farthest_65 : decode cX9_farthest 65 = .ok (.getfield 19, 3) := by decide +kernel
theorem dX9_farthest_68 : decode cX9_farthest 68 = .ok (.iload_n 3, 1) := by decide +kernel
theorem dX9_farthest_69 : decode cX9_farthest 69 = .ok (.iload 5, 2) := by decide +kernel
theorem dX9_farthest_71 : decode cX9_farthest 71 = .ok (.invokevirtual 235, 3) := by decide +kernel
theorem dX9_farthest_74 : decode cX9_farthest 74 = .ok (.aload_n 0, 1) := by decide +kernel
theorem dX9_farthest_75 : decode cX9_farthest 75 = .ok (.getfield 19, 3) := by decide +kernel
theorem dX9_farthest_78 : decode cX9_farthest 78 = .ok (.iload_n 3, 1) := by decide +kernel
theorem dX9_farthest_79 : decode cX9_farthest 79 = .ok (.iload 4, 2) := by decide +kernel
theorem dX9_farthest_81 : decode cX9_farthest 81 = .ok (.invokevirtual 235, 3) := by decide +kernel
theorem dX9_farthest_84 : decode cX9_farthest 84 = .ok (.if_icmp .le 7, 3) := by decide +kernel
theorem dX9_farthest_87 : decode cX9_farthest 87 = .ok (.iload 5, 2) := by decide +kernel
theorem dX9_farthest_89 : decode cX9_farthest 89 = .ok (.istore 4, 2) := by decide +kernel
theorem dX9_farthest_91 : decode cX9_farthest 91 = .ok (.iinc 5 1, 3) := by decide +kernel
theorem dX9_farthest_94 : decode cX9_farthest 94 = .ok (.goto (-51), 3) := by decide +kernel
theorem dX9_farthest_97 : decode cX9_farthest 97 = .ok (.iload 4, 2) := by decide +kernel
theorem dX9_farthest_99 : decode cX9_farthest 99 = .ok (.ireturn, 1) := by decide +kernel
theorem dX9_fault_0 : decode cX9_fault 0 = .ok (.iload_n 1, 1) := by decide +kernel
theorem dX9_fault_1 : decode cX9_fault 1 = .ok (.ifCond .ne 11, 3) := by decide +kernel
theorem dX9_fault_4 : decode cX9_fault 4 = .ok (.aload_n 0, 1) := by decide +kernel
theorem dX9_fault_5 : decode cX9_fault 5 = .ok (.getfield 28, 3) := by decide +kernel
theorem dX9_fault_8 : decode cX9_fault 8 = .ok (.getfield 110, 3) := by decide +kernel
theorem dX9_fault_11 : decode cX9_fault 11 = .ok (.ireturn, 1) := by decide +kernel
theorem dX9_fault_12 : decode cX9_fault 12 = .ok (.iload_n 1, 1) := by decide +kernel
theorem dX9_fault_13 : decode cX9_fault 13 = .ok (.iconst 1, 1) := by decide +kernel
theorem dX9_fault_14 : decode cX9_fault 14 = .ok (.if_icmp .ne 13, 3) := by decide +kernel
theorem dX9_fault_17 : decode cX9_fault 17 = .ok (.aload_n 0, 1) := by decide +kernel
theorem dX9_fault_18 : decode cX9_fault 18 = .ok (.getfield 28, 3) := by decide +kernel
theorem dX9_fault_21 : decode cX9_fault 21 = .ok (.getfield 113, 3) := by decide +kernel
theorem dX9_fault_24 : decode cX9_fault 24 = .ok (.goto 4, 3) := by decide +kernel
theorem dX9_fault_27 : decode cX9_fault 27 = .ok (.iconst (-1), 1) := by decide +kernel
theorem dX9_fault_28 : decode cX9_fault 28 = .ok (.ireturn, 1) := by decide +kernel
theorem dX9_feed_0 : decode cX9_feed 0 = .ok (.aload_n 0, 1) := by decide +kernel
theorem dX9_feed_1 : decode cX9_feed 1 = .ok (.getfield 10, 3) := by decide +kernel
theorem dX9_feed_4 : decode cX9_feed 4 = .ok (.getfield 86, 3) := by decide +kernel
theorem dX9_feed_7 : decode cX9_feed 7 = .ok (.bipush 20, 2) := by decide +kernel
theorem dX9_feed_9 : decode cX9_feed 9 = .ok (.iadd, 1) := by decide +kernel
theorem dX9_feed_10 : decode cX9_feed 10 = .ok (.sipush 800, 3) := by decide +kernel
theorem dX9_feed_13 : decode cX9_feed 13 = .ok (.if_icmp .le 5, 3) := by decide +kernel
theorem dX9_feed_16 : decode cX9_feed 16 = .ok (.iconst (-1), 1) := by decide +kernel
theorem dX9_feed_17 : decode cX9_feed 17 = .ok (.ireturn, 1) := by decide +kernel
theorem dX9_feed_18 : decode cX9_feed 18 = .ok (.aload_n 0, 1) := by decide +kernel
theorem dX9_feed_19 : decode cX9_feed 19 = .ok (.getfield 10, 3) := by decide +kernel
theorem dX9_feed_22 : decode cX9_feed 22 = .ok (.iload_n 1, 1) := by decide +kernel
theorem dX9_feed_23 : decode cX9_feed 23 = .ok (.invokevirtual 90, 3) := by decide +kernel
theorem dX9_feed_26 : decode cX9_feed 26 = .ok (.aload_n 0, 1) := by decide +kernel
theorem dX9_feed_27 : decode cX9_feed 27 = .ok (.getfield 10, 3) := by decide +kernel
theorem dX9_feed_30 : decode cX9_feed 30 = .ok (.iload_n 2, 1) := by decide +kernel
theorem dX9_feed_31 : decode cX9_feed 31 = .ok (.invokevirtual 90, 3) := by decide +kernel
theorem dX9_feed_34 : decode cX9_feed 34 = .ok (.aload_n 0, 1) := by decide +kernel
theorem dX9_feed_35 : decode cX9_feed 35 = .ok (.getfield 10, 3) := by decide +kernel
theorem dX9_feed_38 : decode cX9_feed 38 = .ok (.iload_n 3, 1) := by decide +kernel
theorem dX9_feed_39 : decode cX9_feed 39 = .ok (.invokevirtual 90, 3) := by decide +kernel
theorem dX9_feed_42 : decode cX9_feed 42 = .ok (.aload_n 0, 1) := by decide +kernel
theorem dX9_feed_43 : decode cX9_feed 43 = .ok (.getfield 10, 3) := by decide +kernel
theorem dX9_feed_46 : decode cX9_feed 46 = .ok (.iload 4, 2) := by decide +kernel
theorem dX9_feed_48 : decode cX9_feed 48 = .ok (.invokevirtual 90, 3) := by decide +kernel
theorem dX9_feed_51 : decode cX9_feed 51 = .ok (.aload_n 0, 1) := by decide +kernel
theorem dX9_feed_52 : decode cX9_feed 52 = .ok (.getfield 10, 3) := by decide +kernel
theorem dX9_feed_55 : decode cX9_feed 55 = .ok (.iload 5, 2) := by decide +kernel
theorem dX9_feed_57 : decode cX9_feed 57 = .ok (.invokevirtual 90, 3) := by decide +kernel
theorem dX9_feed_60 : decode cX9_feed 60 = .ok (.aload_n 0, 1) := by decide +kernel
theorem dX9_feed_61 : decode cX9_feed 61 = .ok (.getfield 10, 3) := by decide +kernel
theorem dX9_feed_64 : decode cX9_feed 64 = .ok (.getfield 86, 3) := by decide +kernel
theorem dX9_feed_67 : decode cX9_feed 67 = .ok (.ireturn, 1) := by decide +kernel
theorem dX9_fewest_0 : decode cX9_fewest 0 = .ok (.aload_n 0, 1) := by decide +kernel
theorem dX9_fewest_1 : decode cX9_fewest 1 = .ok (.getfield 19, 3) := by decide +kernel
theorem dX9_fewest_4 : decode cX9_fewest 4 = .ok (.iload_n 1, 1) := by decide +kernel
theorem dX9_fewest_5 : decode cX9_fewest 5 = .ok (.invokevirtual 238, 3) := by decide +kernel
theorem dX9_fewest_8 : decode cX9_fewest 8 = .ok (.ifCond .ne 6, 3) := by decide +kernel
theorem dX9_fewest_11 : decode cX9_fewest 11 = .ok (.bipush (-2), 2) := by decide +kernel
theorem dX9_fewest_13 : decode cX9_fewest 13 = .ok (.ireturn, 1) := by decide +kernel
theorem dX9_fewest_14 : decode cX9_fewest 14 = .ok (.aload_n 0, 1) := by decide +kernel
theorem dX9_fewest_15 : decode cX9_fewest 15 = .ok (.getfield 56, 3) := by decide +kernel
theorem dX9_fewest_18 : decode cX9_fewest 18 = .ok (.invokevirtual 241, 3) := by decide +kernel
theorem dX9_fewest_21 : decode cX9_fewest 21 = .ok (.aload_n 0, 1) := by decide +kernel
theorem dX9_fewest_22 : decode cX9_fewest 22 = .ok (.getfield 56, 3) := by decide +kernel
theorem dX9_fewest_25 : decode cX9_fewest 25 = .ok (.iload_n 1, 1) := by decide +kernel
theorem dX9_fewest_26 : decode cX9_fewest 26 = .ok (.invokevirtual 244, 3) := by decide +kernel
theorem dX9_fewest_29 : decode cX9_fewest 29 = .ok (.istore_n 2, 1) := by decide +kernel
theorem dX9_fewest_30 : decode cX9_fewest 30 = .ok (.iload_n 2, 1) := by decide +kernel
theorem dX9_fewest_31 : decode cX9_fewest 31 = .ok (.iconst (-1), 1) := by decide +kernel
theorem dX9_fewest_32 : decode cX9_fewest 32 = .ok (.if_icmp .ne 7, 3) := by decide +kernel
theorem dX9_fewest_35 : decode cX9_fewest 35 = .ok (.iconst (-1), 1) := by decide +kernel
theorem dX9_fewest_36 : decode cX9_fewest 36 = .ok (.goto 12, 3) := by decide +kernel
theorem dX9_fewest_39 : decode cX9_fewest 39 = .ok (.aload_n 0, 1) := by decide +kernel
theorem dX9_fewest_40 : decode cX9_fewest 40 = .ok (.getfield 56, 3) := by decide +kernel
theorem dX9_fewest_43 : decode cX9_fewest 43 = .ok (.getfield 247, 3) := by decide +kernel
theorem dX9_fewest_46 : decode cX9_fewest 46 = .ok (.iload_n 2, 1) := by decide +kernel
theorem dX9_fewest_47 : decode cX9_fewest 47 = .ok (.iaload, 1) := by decide +kernel
theorem dX9_fewest_48 : decode cX9_fewest 48 = .ok (.ireturn, 1) := by decide +kernel
theorem dX9_first_0 : decode cX9_first 0 = .ok (.aload_n 0, 1) := by decide +kernel
theorem dX9_first_1 : decode cX9_first 1 = .ok (.getfield 19, 3) := by decide +kernel
theorem dX9_first_4 : decode cX9_first 4 = .ok (.invokevirtual 141, 3) := by decide +kernel
theorem dX9_first_7 : decode cX9_first 7 = .ok (.ifCond .eq 6, 3) := by decide +kernel
theorem dX9_first_10 : decode cX9_first 10 = .ok (.bipush (-2), 2) := by decide +kernel
theorem dX9_first_12 : decode cX9_first 12 = .ok (.ireturn, 1) := by decide +kernel
theorem dX9_first_13 : decode cX9_first 13 = .ok (.aload_n 0, 1) := by decide +kernel
theorem dX9_first_14 : decode cX9_first 14 = .ok (.invokevirtual 207, 3) := by decide +kernel
theorem dX9_first_17 : decode cX9_first 17 = .ok (.istore_n 1, 1) := by decide +kernel
theorem dX9_first_18 : decode cX9_first 18 = .ok (.iconst (-1), 1) := by decide +kernel
theorem dX9_first_19 : decode cX9_first 19 = .ok (.istore_n 2, 1) := by decide +kernel
theorem dX9_first_20 : decode cX9_first 20 = .ok (.iconst 0, 1) := by decide +kernel
theorem dX9_first_21 : decode cX9_first 21 = .ok (.istore_n 3, 1) := by decide +kernel
theorem dX9_first_22 : decode cX9_first 22 = .ok (.iload_n 3, 1) := by decide +kernel
theorem dX9_first_23 : decode cX9_first 23 = .ok (.aload_n 0, 1) := by decide +kernel
theorem dX9_first_24 : decode cX9_first 24 = .ok (.getfield 19, 3) := by decide +kernel
theorem dX9_first_27 : decode cX9_first 27 = .ok (.getfield 210, 3) := by decide +kernel
theorem dX9_first_30 : decode cX9_first 30 = .ok (.if_icmp .ge 44, 3) := by decide +kernel
theorem dX9_first_33 : decode cX9_first 33 = .ok (.aload_n 0, 1) := by decide +kernel
theorem dX9_first_34 : decode cX9_first 34 = .ok (.iload_n 3, 1) := by decide +kernel
theorem dX9_first_35 : decode cX9_first 35 = .ok (.invokevirtual 150, 3) := by decide +kernel
theorem dX9_first_38 : decode cX9_first 38 = .ok (.aload_n 0, 1) := by decide +kernel
theorem dX9_first_39 : decode cX9_first 39 = .ok (.getfield 47, 3) := by decide +kernel
theorem dX9_first_42 : decode cX9_first 42 = .ok (.iload_n 1, 1) := by decide +kernel
theorem dX9_first_43 : decode cX9_first 43 = .ok (.invokevirtual 213, 3) := by decide +kernel
theorem dX9_first_46 : decode cX9_first 46 = .ok (.istore 4, 2) := by decide +kernel
theorem dX9_first_48 : decode cX9_first 48 = .ok (.iload 4, 2) := by decide +kernel
theorem dX9_first_50 : decode cX9_first 50 = .ok (.iconst (-1), 1) := by decide +kernel
theorem dX9_first_51 : decode cX9_first 51 = .ok (.if_icmp .eq 17, 3) := by decide +kernel
theorem dX9_first_54 : decode cX9_first 54 = .ok (.iload_n 2, 1) := by decide +kernel
theorem dX9_first_55 : decode cX9_first 55 = .ok (.iconst (-1), 1) := by decide +kernel
theorem dX9_first_56 : decode cX9_first 56 = .ok (.if_icmp .eq 9, 3) := by decide +kernel
theorem dX9_first_59 : decode cX9_first 59 = .ok (.iload 4, 2) := by decide +kernel
theorem dX9_first_61 : decode cX9_first 61 = .ok (.iload_n 2, 1) := by decide +kernel
theorem dX9_first_62 : decode cX9_first 62 = .ok (.if_icmp .ge 6, 3) := by decide +kernel
theorem dX9_first_65 : decode cX9_first 65 = .ok (.iload 4, 2) := by decide +kernel
theorem dX9_first_67 : decode cX9_first 67 = .ok (.istore_n 2, 1) := by decide +kernel
theorem dX9_first_68 : decode cX9_first 68 = .ok (.iinc 3 1, 3) := by decide +kernel
theorem dX9_first_71 : decode cX9_first 71 = .ok (.goto (-49), 3) := by decide +kernel
theorem dX9_first_74 : decode cX9_first 74 = .ok (.iload_n 2, 1) := by decide +kernel
theorem dX9_first_75 : decode cX9_first 75 = .ok (.ireturn, 1) := by decide +kernel
theorem dX9_flight_0 : decode cX9_flight 0 = .ok (.aload_n 0, 1) := by decide +kernel
theorem dX9_flight_1 : decode cX9_flight 1 = .ok (.getfield 19, 3) := by decide +kernel
theorem dX9_flight_4 : decode cX9_flight 4 = .ok (.iload_n 1, 1) := by decide +kernel
theorem dX9_flight_5 : decode cX9_flight 5 = .ok (.invokevirtual 116, 3) := by decide +kernel
theorem dX9_flight_8 : decode cX9_flight 8 = .ok (.ifCond .ne 6, 3) := by decide +kernel
theorem dX9_flight_11 : decode cX9_flight 11 = .ok (.bipush (-2), 2) := by decide +kernel
theorem dX9_flight_13 : decode cX9_flight 13 = .ok (.ireturn, 1) := by decide +kernel
theorem dX9_flight_14 : decode cX9_flight 14 = .ok (.iload_n 2, 1) := by decide +kernel
theorem dX9_flight_15 : decode cX9_flight 15 = .ok (.tableswitch 55 0 2 #[25, 35, 45], 25) := by decide +kernel
theorem dX9_flight_40 : decode cX9_flight 40 = .ok (.aload_n 0, 1) := by decide +kernel
theorem dX9_flight_41 : decode cX9_flight 41 = .ok (.getfield 19, 3) := by decide +kernel
theorem dX9_flight_44 : decode cX9_flight 44 = .ok (.getfield 120, 3) := by decide +kernel
theorem dX9_flight_47 : decode cX9_flight 47 = .ok (.iload_n 1, 1) := by decide +kernel
theorem dX9_flight_48 : decode cX9_flight 48 = .ok (.iaload, 1) := by decide +kernel
theorem dX9_flight_49 : decode cX9_flight 49 = .ok (.ireturn, 1) := by decide +kernel
theorem dX9_flight_50 : decode cX9_flight 50 = .ok (.aload_n 0, 1) := by decide +kernel
theorem dX9_flight_51 : decode cX9_flight 51 = .ok (.getfield 19, 3) := by decide +kernel
theorem dX9_flight_54 : decode cX9_flight 54 = .ok (.getfield 124, 3) := by decide +kernel
theorem dX9_flight_57 : decode cX9_flight 57 = .ok (.iload_n 1, 1) := by decide +kernel
theorem dX9_flight_58 : decode cX9_flight 58 = .ok (.iaload, 1) := by decide +kernel
theorem dX9_flight_59 : decode cX9_flight 59 = .ok (.ireturn, 1) := by decide +kernel
theorem dX9_flight_60 : decode cX9_flight 60 = .ok (.aload_n 0, 1) := by decide +kernel
theorem dX9_flight_61 : decode cX9_flight 61 = .ok (.getfield 19, 3) := by decide +kernel
theorem dX9_flight_64 : decode cX9_flight 64 = .ok (.getfield 127, 3) := by decide +kernel
theorem dX9_flight_67 : decode cX9_flight 67 = .ok (.iload_n 1, 1) := by decide +kernel
theorem dX9_flight_68 : decode cX9_flight 68 = .ok (.iaload, 1) := by decide +kernel
theorem dX9_flight_69 : decode cX9_flight 69 = .ok (.ireturn, 1) := by decide +kernel
theorem dX9_flight_70 : decode cX9_flight 70 = .ok (.bipush (-2), 2) := by decide +kernel
theorem dX9_flight_72 : decode cX9_flight 72 = .ok (.ireturn, 1) := by decide +kernel
theorem dX9_flightsOver_0 : decode cX9_flightsOver 0 = .ok (.iconst 0, 1) := by decide +kernel
theorem dX9_flightsOver_1 : decode cX9_flightsOver 1 = .ok (.istore_n 2, 1) := by decide +kernel
theorem dX9_flightsOver_2 : decode cX9_flightsOver 2 = .ok (.iconst 0, 1) := by decide +kernel
theorem dX9_flightsOver_3 : decode cX9_flightsOver 3 = .ok (.istore_n 3, 1) := by decide +kernel
theorem dX9_flightsOver_4 : decode cX9_flightsOver 4 = .ok (.iload_n 3, 1) := by decide +kernel
theorem dX9_flightsOver_5 : decode cX9_flightsOver 5 = .ok (.aload_n 0, 1) := by decide +kernel
theorem dX9_flightsOver_6 : decode cX9_flightsOver 6 = .ok (.getfield 19, 3) := by decide +kernel
theorem dX9_flightsOver_9 : decode cX9_flightsOver 9 = .ok (.getfield 210, 3) := by decide +kernel
theorem dX9_flightsOver_12 : decode cX9_flightsOver 12 = .ok (.if_icmp .ge 32, 3) := by decide +kernel
theorem dX9_flightsOver_15 : decode cX9_flightsOver 15 = .ok (.aload_n 0, 1) := by decide +kernel
theorem dX9_flightsOver_16 : decode cX9_flightsOver 16 = .ok (.iload_n 3, 1) := by decide +kernel
theorem dX9_flightsOver_17 : decode cX9_flightsOver 17 = .ok (.invokevirtual 150, 3) := by decide +kernel
theorem dX9_flightsOver_20 : decode cX9_flightsOver 20 = .ok (.aload_n 0, 1) := by decide +kernel
theorem dX9_flightsOver_21 : decode cX9_flightsOver 21 = .ok (.getfield 47, 3) := by decide +kernel
theorem dX9_flightsOver_24 : decode cX9_flightsOver 24 = .ok (.invokevirtual 167, 3) := by decide +kernel
theorem dX9_flightsOver_27 : decode cX9_flightsOver 27 = .ok (.iload_n 1, 1) := by decide +kernel
theorem dX9_flightsOver_28 : decode cX9_flightsOver 28 = .ok (.iand, 1) := by decide +kernel
theorem dX9_flightsOver_29 : decode cX9_flightsOver 29 = .ok (.ifCond .eq 9, 3) := by decide +kernel
theorem dX9_flightsOver_32 : decode cX9_flightsOver 32 = .ok (.iload_n 2, 1) := by decide +kernel
theorem dX9_flightsOver_33 : decode cX9_flightsOver 33 = .ok (.iconst 1, 1) := by decide +kernel
theorem dX9_flightsOver_34 : decode cX9_flightsOver 34 = .ok (.iload_n 3, 1) := by decide +kernel
theorem dX9_flightsOver_35 : decode cX9_flightsOver 35 = .ok (.ishl, 1) := by decide +kernel
theorem dX9_flightsOver_36 : decode cX9_flightsOver 36 = .ok (.ior, 1) := by decide +kernel
theorem dX9_flightsOver_37 : decode cX9_flightsOver 37 = .ok (.istore_n 2, 1) := by decide +kernel
theorem dX9_flightsOver_38 : decode cX9_flightsOver 38 = .ok (.iinc 3 1, 3) := by decide +kernel
theorem dX9_flightsOver_41 : decode cX9_flightsOver 41 = .ok (.goto (-37), 3) := by decide +kernel
theorem dX9_flightsOver_44 : decode cX9_flightsOver 44 = .ok (.iload_n 2, 1) := by decide +kernel
theorem dX9_flightsOver_45 : decode cX9_flightsOver 45 = .ok (.ireturn, 1) := by decide +kernel
theorem dX9_flown_0 : decode cX9_flown 0 = .ok (.aload_n 0, 1) := by decide +kernel
theorem dX9_flown_1 : decode cX9_flown 1 = .ok (.getfield 19, 3) := by decide +kernel
theorem dX9_flown_4 : decode cX9_flown 4 = .ok (.invokevirtual 141, 3) := by decide +kernel
theorem dX9_flown_7 : decode cX9_flown 7 = .ok (.ifCond .ne 19, 3) := by decide +kernel
theorem dX9_flown_10 : decode cX9_flown 10 = .ok (.iload_n 1, 1) := by decide +kernel
theorem dX9_flown_11 : decode cX9_flown 11 = .ok (.ifCond .lt 15, 3) := by decide +kernel
theorem dX9_flown_14 : decode cX9_flown 14 = .ok (.iload_n 1, 1) := by decide +kernel
theorem dX9_flown_15 : decode cX9_flown 15 = .ok (.iconst 4, 1) := by decide +kernel
theorem dX9_flown_16 : decode cX9_flown 16 = .ok (.if_icmp .gt 10, 3) := by decide +kernel
theorem dX9_flown_19 : decode cX9_flown 19 = .ok (.iload_n 2, 1) := by decide +kernel
theorem dX9_flown_20 : decode cX9_flown 20 = .ok (.invokestatic 293, 3) := by decide +kernel
theorem dX9_flown_23 : decode cX9_flown 23 = .ok (.ifCond .ne 6, 3) := by decide +kernel
theorem dX9_flown_26 : decode cX9_flown 26 = .ok (.bipush (-2), 2) := by decide +kernel
theorem dX9_flown_28 : decode cX9_flown 28 = .ok (.ireturn, 1) := by decide +kernel
theorem dX9_flown_29 : decode cX9_flown 29 = .ok (.aload_n 0, 1) := by decide +kernel
theorem dX9_flown_30 : decode cX9_flown 30 = .ok (.getfield 77, 3) := by decide +kernel
theorem dX9_flown_33 : decode cX9_flown 33 = .ok (.iload_n 1, 1) := by decide +kernel
theorem dX9_flown_34 : decode cX9_flown 34 = .ok (.invokevirtual 356, 3) := by decide +kernel
theorem dX9_flown_37 : decode cX9_flown 37 = .ok (.aload_n 0, 1) := by decide +kernel
theorem dX9_flown_38 : decode cX9_flown 38 = .ok (.getfield 77, 3) := by decide +kernel
theorem dX9_flown_41 : decode cX9_flown 41 = .ok (.invokevirtual 350, 3) := by decide +kernel
theorem dX9_flown_44 : decode cX9_flown 44 = .ok (.iload_n 2, 1) := by decide +kernel
theorem dX9_flown_45 : decode cX9_flown 45 = .ok (.invokestatic 299, 3) := by decide +kernel
theorem dX9_flown_48 : decode cX9_flown 48 = .ok (.ireturn, 1) := by decide +kernel
theorem dX9_followNow_0 : decode cX9_followNow 0 = .ok (.aload_n 0, 1) := by decide +kernel
theorem dX9_followNow_1 : decode cX9_followNow 1 = .ok (.getfield 47, 3) := by decide +kernel
theorem dX9_followNow_4 : decode cX9_followNow 4 = .ok (.aload_n 0, 1) := by decide +kernel
theorem dX9_followNow_5 : decode cX9_followNow 5 = .ok (.getfield 19, 3) := by decide +kernel
theorem dX9_followNow_8 : decode cX9_followNow 8 = .ok (.getfield 144, 3) := by decide +kernel
theorem dX9_followNow_11 : decode cX9_followNow 11 = .ok (.aload_n 0, 1) := by decide +kernel
theorem dX9_followNow_12 : decode cX9_followNow 12 = .ok (.getfield 19, 3) := by decide +kernel
theorem dX9_followNow_15 : decode cX9_followNow 15 = .ok (.getfield 195, 3) := by decide +kernel
theorem dX9_followNow_18 : decode cX9_followNow 18 = .ok (.invokevirtual 430, 3) := by decide +kernel
theorem dX9_followNow_21 : decode cX9_followNow 21 = .ok (.aload_n 0, 1) := by decide +kernel
theorem dX9_followNow_22 : decode cX9_followNow 22 = .ok (.getfield 47, 3) := by decide +kernel
theorem dX9_followNow_25 : decode cX9_followNow 25 = .ok (.iload_n 1, 1) := by decide +kernel
theorem dX9_followNow_26 : decode cX9_followNow 26 = .ok (.invokevirtual 433, 3) := by decide +kernel
theorem dX9_followNow_29 : decode cX9_followNow 29 = .ok (.return_, 1) := by decide +kernel
theorem dX9_gain_0 : decode cX9_gain 0 = .ok (.iconst 1, 1) := by decide +kernel
theorem dX9_gain_1 : decode cX9_gain 1 = .ok (.aload_n 0, 1) := by decide +kernel
theorem dX9_gain_2 : decode cX9_gain 2 = .ok (.getfield 19, 3) := by decide +kernel
theorem dX9_gain_5 : decode cX9_gain 5 = .ok (.getfield 133, 3) := by decide +kernel
theorem dX9_gain_8 : decode cX9_gain 8 = .ok (.iload_n 1, 1) := by decide +kernel
theorem dX9_gain_9 : decode cX9_gain 9 = .ok (.iaload, 1) := by decide +kernel
theorem dX9_gain_10 : decode cX9_gain 10 = .ok (.ishl, 1) := by decide +kernel
theorem dX9_gain_11 : decode cX9_gain 11 = .ok (.istore 5, 2) := by decide +kernel
theorem dX9_gain_13 : decode cX9_gain 13 = .ok (.iconst 1, 1) := by decide +kernel
theorem dX9_gain_14 : decode cX9_gain 14 = .ok (.aload_n 0, 1) := by decide +kernel
theorem dX9_gain_15 : decode cX9_gain 15 = .ok (.getfield 19, 3) := by decide +kernel
theorem dX9_gain_18 : decode cX9_gain 18 = .ok (.getfield 133, 3) := by decide +kernel
theorem dX9_gain_21 : decode cX9_gain 21 = .ok (.iload_n 2, 1) := by decide +kernel
theorem dX9_gain_22 : decode cX9_gain 22 = .ok (.iaload, 1) := by decide +kernel
theorem dX9_gain_23 : decode cX9_gain 23 = .ok (.ishl, 1) := by decide +kernel
theorem dX9_gain_24 : decode cX9_gain 24 = .ok (.istore 6, 2) := by decide +kernel
theorem dX9_gain_26 : decode cX9_gain 26 = .ok (.aload_n 0, 1) := by decide +kernel
theorem dX9_gain_27 : decode cX9_gain 27 = .ok (.getfield 19, 3) := by decide +kernel
theorem dX9_gain_30 : decode cX9_gain 30 = .ok (.getfield 144, 3) := by decide +kernel
theorem dX9_gain_33 : decode cX9_gain 33 = .ok (.iload 5, 2) := by decide +kernel
theorem dX9_gain_35 : decode cX9_gain 35 = .ok (.iconst (-1), 1) := by decide +kernel
theorem dX9_gain_36 : decode cX9_gain 36 = .ok (.ixor, 1) := by decide +kernel
theorem dX9_gain_37 : decode cX9_gain 37 = .ok (.iand, 1) := by decide +kernel
theorem dX9_gain_38 : decode cX9_gain 38 = .ok (.iload 6, 2) := by decide +kernel
theorem dX9_gain_40 : decode cX9_gain 40 = .ok (.iconst (-1), 1) := by decide +kernel
theorem dX9_gain_41 : decode cX9_gain 41 = .ok (.ixor, 1) := by decide +kernel
theorem dX9_gain_42 : decode cX9_gain 42 = .ok (.iand, 1) := by decide +kernel
theorem dX9_gain_43 : decode cX9_gain 43 = .ok (.istore 7, 2) := by decide +kernel
theorem dX9_gain_45 : decode cX9_gain 45 = .ok (.iload 7, 2) := by decide +kernel
theorem dX9_gain_47 : decode cX9_gain 47 = .ok (.iload_n 3, 1) := by decide +kernel
theorem dX9_gain_48 : decode cX9_gain 48 = .ok (.iconst 1, 1) := by decide +kernel
theorem dX9_gain_49 : decode cX9_gain 49 = .ok (.if_icmp .ne 8, 3) := by decide +kernel
theorem dX9_gain_52 : decode cX9_gain 52 = .ok (.iload 5, 2) := by decide +kernel
theorem dX9_gain_54 : decode cX9_gain 54 = .ok (.goto 4, 3) := by decide +kernel
theorem dX9_gain_57 : decode cX9_gain 57 = .ok (.iconst 0, 1) := by decide +kernel
theorem dX9_gain_58 : decode cX9_gain 58 = .ok (.ior, 1) := by decide +kernel
theorem dX9_gain_59 : decode cX9_gain 59 = .ok (.istore 7, 2) := by decide +kernel
theorem dX9_gain_61 : decode cX9_gain 61 = .ok (.iload 7, 2) := by decide +kernel
theorem dX9_gain_63 : decode cX9_gain 63 = .ok (.iload 4, 2) := by decide +kernel
theorem dX9_gain_65 : decode cX9_gain 65 = .ok (.iconst 1, 1) := by decide +kernel
theorem dX9_gain_66 : decode cX9_gain 66 = .ok (.if_icmp .ne 8, 3) := by decide +kernel
theorem dX9_gain_69 : decode cX9_gain 69 = .ok (.iload 6, 2) := by decide +kernel
theorem dX9_gain_71 : decode cX9_gain 71 = .ok (.goto 4, 3) := by decide +kernel
theorem dX9_gain_74 : decode cX9_gain 74 = .ok (.iconst 0, 1) := by decide +kernel
theorem dX9_gain_75 : decode cX9_gain 75 = .ok (.ior, 1) := by decide +kernel
theorem dX9_gain_76 : decode cX9_gain 76 = .ok (.istore 7, 2) := by decide +kernel
theorem dX9_gain_78 : decode cX9_gain 78 = .ok (.aload_n 0, 1) := by decide +kernel
theorem dX9_gain_79 : decode cX9_gain 79 = .ok (.iload 7, 2) := by decide +kernel
theorem dX9_gain_81 : decode cX9_gain 81 = .ok (.aload_n 0, 1) := by decide +kernel
theorem dX9_gain_82 : decode cX9_gain 82 = .ok (.getfield 19, 3) := by decide +kernel
theorem dX9_gain_85 : decode cX9_gain 85 = .ok (.getfield 195, 3) := by decide +kernel
theorem dX9_gain_88 : decode cX9_gain 88 = .ok (.invokevirtual 198, 3) := by decide +kernel
theorem dX9_gain_91 : decode cX9_gain 91 = .ok (.iload_n 1, 1) := by decide +kernel
theorem dX9_gain_92 : decode cX9_gain 92 = .ok (.invokestatic 228, 3) := by decide +kernel
theorem dX9_gain_95 : decode cX9_gain 95 = .ok (.ifCond .eq 15, 3) := by decide +kernel
theorem dX9_gain_98 : decode cX9_gain 98 = .ok (.aload_n 0, 1) := by decide +kernel
theorem dX9_gain_99 : decode cX9_gain 99 = .ok (.getfield 19, 3) := by decide +kernel
theorem dX9_gain_102 : decode cX9_gain 102 = .ok (.getfield 138, 3) := by decide +kernel
theorem dX9_gain_105 : decode cX9_gain 105 = .ok (.iload_n 1, 1) := by decide +kernel
theorem dX9_gain_106 : decode cX9_gain 106 = .ok (.iaload, 1) := by decide +kernel
theorem dX9_gain_107 : decode cX9_gain 107 = .ok (.goto 4, 3) := by decide +kernel
theorem dX9_gain_110 : decode cX9_gain 110 = .ok (.iconst 0, 1) := by decide +kernel
theorem dX9_gain_111 : decode cX9_gain 111 = .ok (.istore 8, 2) := by decide +kernel
theorem dX9_gain_113 : decode cX9_gain 113 = .ok (.iload_n 3, 1) := by decide +kernel
theorem dX9_gain_114 : decode cX9_gain 114 = .ok (.iconst 1, 1) := by decide +kernel
theorem dX9_gain_115 : decode cX9_gain 115 = .ok (.if_icmp .ne 10, 3) := by decide +kernel
theorem dX9_gain_118 : decode cX9_gain 118 = .ok (.iload 8, 2) := by decide +kernel
theorem dX9_gain_120 : decode cX9_gain 120 = .ok (.iconst 5, 1) := by decide +kernel
theorem dX9_gain_121 : decode cX9_gain 121 = .ok (.isub, 1) := by decide +kernel
theorem dX9_gain_122 : decode cX9_gain 122 = .ok (.goto 5, 3) := by decide +kernel
theorem dX9_gain_125 : decode cX9_gain 125 = .ok (.iload 8, 2) := by decide +kernel
theorem dX9_gain_127 : decode cX9_gain 127 = .ok (.ireturn, 1) := by decide +kernel
theorem dX9_geese_0 : decode cX9_geese 0 = .ok (.aload_n 0, 1) := by decide +kernel
theorem dX9_geese_1 : decode cX9_geese 1 = .ok (.getfield 19, 3) := by decide +kernel
theorem dX9_geese_4 : decode cX9_geese 4 = .ok (.iload_n 1, 1) := by decide +kernel
theorem dX9_geese_5 : decode cX9_geese 5 = .ok (.invokevirtual 170, 3) := by decide +kernel
theorem dX9_geese_8 : decode cX9_geese 8 = .ok (.ifCond .eq 10, 3) := by decide +kernel
theorem dX9_geese_11 : decode cX9_geese 11 = .ok (.iload_n 2, 1) := by decide +kernel
theorem dX9_geese_12 : decode cX9_geese 12 = .ok (.invokestatic 147, 3) := by decide +kernel
theorem dX9_geese_15 : decode cX9_geese 15 = .ok (.ifCond .ne 6, 3) := by decide +kernel
theorem dX9_geese_18 : decode cX9_geese 18 = .ok (.bipush (-2), 2) := by decide +kernel
theorem dX9_geese_20 : decode cX9_geese 20 = .ok (.ireturn, 1) := by decide +kernel
theorem dX9_geese_21 : decode cX9_geese 21 = .ok (.aload_n 0, 1) := by decide +kernel
theorem dX9_geese_22 : decode cX9_geese 22 = .ok (.iconst 1, 1) := by decide +kernel
theorem dX9_geese_23 : decode cX9_geese 23 = .ok (.iload_n 1, 1) := by decide +kernel
theorem dX9_geese_24 : decode cX9_geese 24 = .ok (.ishl, 1) := by decide +kernel
theorem dX9_geese_25 : decode cX9_geese 25 = .ok (.iload_n 2, 1) := by decide +kernel
theorem dX9_geese_26 : decode cX9_geese 26 = .ok (.invokevirtual 176, 3) := by decide +kernel
theorem dX9_geese_29 : decode cX9_geese 29 = .ok (.ireturn, 1) := by decide +kernel
theorem dX9_geeseWithin_0 : decode cX9_geeseWithin 0 = .ok (.iconst 0, 1) := by decide +kernel
theorem dX9_geeseWithin_1 : decode cX9_geeseWithin 1 = .ok (.istore_n 3, 1) := by decide +kernel
theorem dX9_geeseWithin_2 : decode cX9_geeseWithin 2 = .ok (.iconst 0, 1) := by decide +kernel
theorem dX9_geeseWithin_3 : decode cX9_geeseWithin 3 = .ok (.istore 4, 2) := by decide +kernel
theorem dX9_geeseWithin_5 : decode cX9_geeseWithin 5 = .ok (.iload 4, 2) := by decide +kernel
theorem dX9_geeseWithin_7 : decode cX9_geeseWithin 7 = .ok (.aload_n 0, 1) := by decide +kernel
theorem dX9_geeseWithin_8 : decode cX9_geeseWithin 8 = .ok (.getfield 19, 3) := by decide +kernel
theorem dX9_geeseWithin_11 : decode cX9_geeseWithin 11 = .ok (.getfield 210, 3) := by decide +kernel
theorem dX9_geeseWithin_14 : decode cX9_geeseWithin 14 = .ok (.if_icmp .ge 53, 3) := by decide +kernel
theorem dX9_geeseWithin_17 : decode cX9_geeseWithin 17 = .ok (.aload_n 0, 1) := by decide +kernel
theorem dX9_geeseWithin_18 : decode cX9_geeseWithin 18 = .ok (.iload 4, 2) := by decide +kernel
theorem dX9_geeseWithin_20 : decode cX9_geeseWithin 20 = .ok (.invokevirtual 150, 3) := by decide +kernel
theorem dX9_geeseWithin_23 : decode cX9_geeseWithin 23 = .ok (.aload_n 0, 1) := by decide +kernel
theorem dX9_geeseWithin_24 : decode cX9_geeseWithin 24 = .ok (.getfield 47, 3) := by decide +kernel
theorem dX9_geeseWithin_27 : decode cX9_geeseWithin 27 = .ok (.iload_n 2, 1) := by decide +kernel
theorem dX9_geeseWithin_28 : decode cX9_geeseWithin 28 = .ok (.invokevirtual 153, 3) := by decide +kernel
theorem dX9_geeseWithin_31 : decode cX9_geeseWithin 31 = .ok (.istore 5, 2) := by decide +kernel
theorem dX9_geeseWithin_33 : decode cX9_geeseWithin 33 = .ok (.iload 5, 2) := by decide +kernel
theorem dX9_geeseWithin_35 : decode cX9_geeseWithin 35 = .ok (.iconst (-1), 1) := by decide +kernel
theorem dX9_geeseWithin_36 : decode cX9_geeseWithin 36 = .ok (.if_icmp .eq 25, 3) := by decide +kernel
theorem dX9_geeseWithin_39 : decode cX9_geeseWithin 39 = .ok (.iload_n 1, 1) := by decide +kernel
theorem dX9_geeseWithin_40 : decode cX9_geeseWithin 40 = .ok (.iload 5, 2) := by decide +kernel
theorem dX9_geeseWithin_42 : decode cX9_geeseWithin 42 = .ok (.invokestatic 228, 3) := by decide +kernel
theorem dX9_geeseWithin_45 : decode cX9_geeseWithin 45 = .ok (.ifCond .eq 16, 3) := by decide +kernel
theorem dX9_geeseWithin_48 : decode cX9_geeseWithin 48 = .ok (.iload_n 3, 1) := by decide +kernel
theorem dX9_geeseWithin_49 : decode cX9_geeseWithin 49 = .ok (.aload_n 0, 1) := by decide +kernel
theorem dX9_geeseWithin_50 : decode cX9_geeseWithin 50 = .ok (.getfield 19, 3) := by decide +kernel
theorem dX9_geeseWithin_53 : decode cX9_geeseWithin 53 = .ok (.getfield 127, 3) := by decide +kernel
theorem dX9_geeseWithin_56 : decode cX9_geeseWithin 56 = .ok (.iload 4, 2) := by decide +kernel
theorem dX9_geeseWithin_58 : decode cX9_geeseWithin 58 = .ok (.iaload, 1) := by decide +kernel
theorem dX9_geeseWithin_59 : decode cX9_geeseWithin 59 = .ok (.iadd, 1) := by decide +kernel
theorem dX9_geeseWithin_60 : decode cX9_geeseWithin 60 = .ok (.istore_n 3, 1) := by decide +kernel
theorem dX9_geeseWithin_61 : decode cX9_geeseWithin 61 = .ok (.iinc 4 1, 3) := by decide +kernel
theorem dX9_geeseWithin_64 : decode cX9_geeseWithin 64 = .ok (.goto (-59), 3) := by decide +kernel
theorem dX9_geeseWithin_67 : decode cX9_geeseWithin 67 = .ok (.iload_n 3, 1) := by decide +kernel
theorem dX9_geeseWithin_68 : decode cX9_geeseWithin 68 = .ok (.ireturn, 1) := by decide +kernel
theorem dX9_has_0 : decode cX9_has 0 = .ok (.aload_n 0, 1) := by decide +kernel
theorem dX9_has_1 : decode cX9_has 1 = .ok (.iload_n 1, 1) := by decide +kernel
theorem dX9_has_2 : decode cX9_has 2 = .ok (.iload_n 2, 1) := by decide +kernel
theorem dX9_has_3 : decode cX9_has 3 = .ok (.invokevirtual 333, 3) := by decide +kernel
theorem dX9_has_6 : decode cX9_has 6 = .ok (.ifCond .eq 18, 3) := by decide +kernel
theorem dX9_has_9 : decode cX9_has 9 = .ok (.iload_n 3, 1) := by decide +kernel
theorem dX9_has_10 : decode cX9_has 10 = .ok (.invokestatic 340, 3) := by decide +kernel
theorem dX9_has_13 : decode cX9_has 13 = .ok (.ifCond .eq 11, 3) := by decide +kernel
theorem dX9_has_16 : decode cX9_has 16 = .ok (.iload 4, 2) := by decide +kernel
theorem dX9_has_18 : decode cX9_has 18 = .ok (.invokestatic 340, 3) := by decide +kernel
theorem dX9_has_21 : decode cX9_has 21 = .ok (.ifCond .ne 7, 3) := by decide +kernel
theorem dX9_has_24 : decode cX9_has 24 = .ok (.sipush (-1000), 3) := by decide +kernel
theorem dX9_has_27 : decode cX9_has 27 = .ok (.ireturn, 1) := by decide +kernel
theorem dX9_has_28 : decode cX9_has 28 = .ok (.aload_n 0, 1) := by decide +kernel
theorem dX9_has_29 : decode cX9_has 29 = .ok (.iload_n 1, 1) := by decide +kernel
theorem dX9_has_30 : decode cX9_has 30 = .ok (.iload_n 2, 1) := by decide +kernel
theorem dX9_has_31 : decode cX9_has 31 = .ok (.iload_n 3, 1) := by decide +kernel
theorem dX9_has_32 : decode cX9_has 32 = .ok (.iload 4, 2) := by decide +kernel
theorem dX9_has_34 : decode cX9_has 34 = .ok (.invokevirtual 343, 3) := by decide +kernel
theorem dX9_has_37 : decode cX9_has 37 = .ok (.ireturn, 1) := by decide +kernel
theorem dX9_heads_0 : decode cX9_heads 0 = .ok (.aload_n 0, 1) := by decide +kernel
theorem dX9_heads_1 : decode cX9_heads 1 = .ok (.getfield 19, 3) := by decide +kernel
theorem dX9_heads_4 : decode cX9_heads 4 = .ok (.iload_n 1, 1) := by decide +kernel
theorem dX9_heads_5 : decode cX9_heads 5 = .ok (.invokevirtual 116, 3) := by decide +kernel
theorem dX9_heads_8 : decode cX9_heads 8 = .ok (.ifCond .eq 10, 3) := by decide +kernel
theorem dX9_heads_11 : decode cX9_heads 11 = .ok (.iload_n 2, 1) := by decide +kernel
theorem dX9_heads_12 : decode cX9_heads 12 = .ok (.invokestatic 147, 3) := by decide +kernel
theorem dX9_heads_15 : decode cX9_heads 15 = .ok (.ifCond .ne 6, 3) := by decide +kernel
theorem dX9_heads_18 : decode cX9_heads 18 = .ok (.bipush (-2), 2) := by decide +kernel
theorem dX9_heads_20 : decode cX9_heads 20 = .ok (.ireturn, 1) := by decide +kernel
theorem dX9_heads_21 : decode cX9_heads 21 = .ok (.aload_n 0, 1) := by decide +kernel
theorem dX9_heads_22 : decode cX9_heads 22 = .ok (.iload_n 1, 1) := by decide +kernel
theorem dX9_heads_23 : decode cX9_heads 23 = .ok (.invokevirtual 150, 3) := by decide +kernel
theorem dX9_heads_26 : decode cX9_heads 26 = .ok (.aload_n 0, 1) := by decide +kernel
theorem dX9_heads_27 : decode cX9_heads 27 = .ok (.getfield 47, 3) := by decide +kernel
theorem dX9_heads_30 : decode cX9_heads 30 = .ok (.iload_n 2, 1) := by decide +kernel
theorem dX9_heads_31 : decode cX9_heads 31 = .ok (.invokevirtual 157, 3) := by decide +kernel
theorem dX9_heads_34 : decode cX9_heads 34 = .ok (.ireturn, 1) := by decide +kernel
theorem dX9_heard_0 : decode cX9_heard 0 = .ok (.aload_n 0, 1) := by decide +kernel
theorem dX9_heard_1 : decode cX9_heard 1 = .ok (.getfield 19, 3) := by decide +kernel
theorem dX9_heard_4 : decode cX9_heard 4 = .ok (.iload_n 1, 1) := by decide +kernel
theorem dX9_heard_5 : decode cX9_heard 5 = .ok (.invokevirtual 130, 3) := by decide +kernel
theorem dX9_heard_8 : decode cX9_heard 8 = .ok (.ifCond .ne 6, 3) := by decide +kernel
theorem dX9_heard_11 : decode cX9_heard 11 = .ok (.bipush (-2), 2) := by decide +kernel
theorem dX9_heard_13 : decode cX9_heard 13 = .ok (.ireturn, 1) := by decide +kernel
theorem dX9_heard_14 : decode cX9_heard 14 = .ok (.aload_n 0, 1) := by decide +kernel
theorem dX9_heard_15 : decode cX9_heard 15 = .ok (.invokevirtual 186, 3) := by decide +kernel
theorem dX9_heard_18 : decode cX9_heard 18 = .ok (.aload_n 0, 1) := by decide +kernel
theorem dX9_heard_19 : decode cX9_heard 19 = .ok (.getfield 47, 3) := by decide +kernel
theorem dX9_heard_22 : decode cX9_heard 22 = .ok (.aload_n 0, 1) := by decide +kernel
theorem dX9_heard_23 : decode cX9_heard 23 = .ok (.getfield 19, 3) := by decide +kernel
theorem dX9_heard_26 : decode cX9_heard 26 = .ok (.getfield 133, 3) := by decide +kernel
theorem dX9_heard_29 : decode cX9_heard 29 = .ok (.iload_n 1, 1) := by decide +kernel
theorem dX9_heard_30 : decode cX9_heard 30 = .ok (.iaload, 1) := by decide +kernel
theorem dX9_heard_31 : decode cX9_heard 31 = .ok (.invokevirtual 189, 3) := by decide +kernel
theorem dX9_heard_34 : decode cX9_heard 34 = .ok (.ireturn, 1) := by decide +kernel
theorem dX9_hears_0 : decode cX9_hears 0 = .ok (.aload_n 0, 1) := by decide +kernel
theorem dX9_hears_1 : decode cX9_hears 1 = .ok (.getfield 19, 3) := by decide +kernel
theorem dX9_hears_4 : decode cX9_hears 4 = .ok (.iload_n 1, 1) := by decide +kernel
theorem dX9_hears_5 : decode cX9_hears 5 = .ok (.invokevirtual 130, 3) := by decide +kernel
theorem dX9_hears_8 : decode cX9_hears 8 = .ok (.ifCond .eq 14, 3) := by decide +kernel
theorem dX9_hears_11 : decode cX9_hears 11 = .ok (.aload_n 0, 1) := by decide +kernel
theorem dX9_hears_12 : decode cX9_hears 12 = .ok (.getfield 19, 3) := by decide +kernel
theorem dX9_hears_15 : decode cX9_hears 15 = .ok (.iload_n 2, 1) := by decide +kernel
theorem dX9_hears_16 : decode cX9_hears 16 = .ok (.invokevirtual 116, 3) := by decide +kernel
theorem dX9_hears_19 : decode cX9_hears 19 = .ok (.ifCond .ne 6, 3) := by decide +kernel
theorem dX9_hears_22 : decode cX9_hears 22 = .ok (.bipush (-2), 2) := by decide +kernel
theorem dX9_hears_24 : decode cX9_hears 24 = .ok (.ireturn, 1) := by decide +kernel
theorem dX9_hears_25 : decode cX9_hears 25 = .ok (.aload_n 0, 1) := by decide +kernel
theorem dX9_hears_26 : decode cX9_hears 26 = .ok (.iload_n 2, 1) := by decide +kernel
theorem dX9_hears_27 : decode cX9_hears 27 = .ok (.invokevirtual 150, 3) := by decide +kernel
theorem dX9_hears_30 : decode cX9_hears 30 = .ok (.aload_n 0, 1) := by decide +kernel
theorem dX9_hears_31 : decode cX9_hears 31 = .ok (.getfield 47, 3) := by decide +kernel
theorem dX9_hears_34 : decode cX9_hears 34 = .ok (.aload_n 0, 1) := by decide +kernel
theorem dX9_hears_35 : decode cX9_hears 35 = .ok (.getfield 19, 3) := by decide +kernel
theorem dX9_hears_38 : decode cX9_hears 38 = .ok (.iload_n 1, 1) := by decide +kernel
theorem dX9_hears_39 : decode cX9_hears 39 = .ok (.invokevirtual 180, 3) := by decide +kernel
theorem dX9_hears_42 : decode cX9_hears 42 = .ok (.invokevirtual 183, 3) := by decide +kernel
theorem dX9_hears_45 : decode cX9_hears 45 = .ok (.ireturn, 1) := by decide +kernel
theorem dX9_home_0 : decode cX9_home 0 = .ok (.aload_n 0, 1) := by decide +kernel
theorem dX9_home_1 : decode cX9_home 1 = .ok (.getfield 19, 3) := by decide +kernel
theorem dX9_home_4 : decode cX9_home 4 = .ok (.iload_n 1, 1) := by decide +kernel
theorem dX9_home_5 : decode cX9_home 5 = .ok (.invokevirtual 130, 3) := by decide +kernel
theorem dX9_home_8 : decode cX9_home 8 = .ok (.ifCond .ne 6, 3) := by decide +kernel
theorem dX9_home_11 : decode cX9_home 11 = .ok (.bipush (-2), 2) := by decide +kernel
theorem dX9_home_13 : decode cX9_home 13 = .ok (.ireturn, 1) := by decide +kernel
theorem dX9_home_14 : decode cX9_home 14 = .ok (.aload_n 0, 1) := by decide +kernel
theorem dX9_home_15 : decode cX9_home 15 = .ok (.getfield 70, 3) := by decide +kernel
theorem dX9_home_18 : decode cX9_home 18 = .ok (.invokevirtual 303, 3) := by decide +kernel
theorem dX9_home_21 : decode cX9_home 21 = .ok (.aload_n 0, 1) := by decide +kernel
theorem dX9_home_22 : decode cX9_home 22 = .ok (.getfield 70, 3) := by decide +kernel
theorem dX9_home_25 : decode cX9_home 25 = .ok (.iload_n 1, 1) := by decide +kernel
theorem dX9_home_26 : decode cX9_home 26 = .ok (.invokevirtual 309, 3) := by decide +kernel
theorem dX9_home_29 : decode cX9_home 29 = .ok (.ireturn, 1) := by decide +kernel
theorem dX9_homes_0 : decode cX9_homes 0 = .ok (.aload_n 0, 1) := by decide +kernel
theorem dX9_homes_1 : decode cX9_homes 1 = .ok (.getfield 19, 3) := by decide +kernel
theorem dX9_homes_4 : decode cX9_homes 4 = .ok (.invokevirtual 141, 3) := by decide +kernel
theorem dX9_homes_7 : decode cX9_homes 7 = .ok (.ifCond .eq 6, 3) := by decide +kernel
theorem dX9_homes_10 : decode cX9_homes 10 = .ok (.bipush (-2), 2) := by decide +kernel
theorem dX9_homes_12 : decode cX9_homes 12 = .ok (.ireturn, 1) := by decide +kernel
theorem dX9_homes_13 : decode cX9_homes 13 = .ok (.aload_n 0, 1) := by decide +kernel
theorem dX9_homes_14 : decode cX9_homes 14 = .ok (.getfield 70, 3) := by decide +kernel
theorem dX9_homes_17 : decode cX9_homes 17 = .ok (.invokevirtual 303, 3) := by decide +kernel
theorem dX9_homes_20 : decode cX9_homes 20 = .ok (.aload_n 0, 1) := by decide +kernel
theorem dX9_homes_21 : decode cX9_homes 21 = .ok (.getfield 70, 3) := by decide +kernel
theorem dX9_homes_24 : decode cX9_homes 24 = .ok (.getfield 306, 3) := by decide +kernel
theorem dX9_homes_27 : decode cX9_homes 27 = .ok (.iconst 0, 1) := by decide +kernel
theorem dX9_homes_28 : decode cX9_homes 28 = .ok (.iaload, 1) := by decide +kernel
theorem dX9_homes_29 : decode cX9_homes 29 = .ok (.ireturn, 1) := by decide +kernel
theorem dX9_image_0 : decode cX9_image 0 = .ok (.iload_n 1, 1) := by decide +kernel
theorem dX9_image_1 : decode cX9_image 1 = .ok (.ifCond .lt 8, 3) := by decide +kernel
theorem dX9_image_4 : decode cX9_image 4 = .ok (.iload_n 1, 1) := by decide +kernel
theorem dX9_image_5 : decode cX9_image 5 = .ok (.iconst 3, 1) := by decide +kernel
theorem dX9_image_6 : decode cX9_image 6 = .ok (.if_icmp .lt 6, 3) := by decide +kernel
theorem dX9_image_9 : decode cX9_image 9 = .ok (.bipush (-2), 2) := by decide +kernel
theorem dX9_image_11 : decode cX9_image 11 = .ok (.ireturn, 1) := by decide +kernel
theorem dX9_image_12 : decode cX9_image 12 = .ok (.aload_n 0, 1) := by decide +kernel
theorem dX9_image_13 : decode cX9_image 13 = .ok (.getfield 32, 3) := by decide +kernel
theorem dX9_image_16 : decode cX9_image 16 = .ok (.iload_n 1, 1) := by decide +kernel
theorem dX9_image_17 : decode cX9_image 17 = .ok (.aaload, 1) := by decide +kernel
theorem dX9_image_18 : decode cX9_image 18 = .ok (.aload_n 0, 1) := by decide +kernel
theorem dX9_image_19 : decode cX9_image 19 = .ok (.getfield 19, 3) := by decide +kernel
theorem dX9_image_22 : decode cX9_image 22 = .ok (.invokevirtual 101, 3) := by decide +kernel
theorem dX9_image_25 : decode cX9_image 25 = .ok (.aload_n 0, 1) := by decide +kernel
theorem dX9_image_26 : decode cX9_image 26 = .ok (.getfield 81, 3) := by decide +kernel
theorem dX9_image_29 : decode cX9_image 29 = .ok (.iload_n 1, 1) := by decide +kernel
theorem dX9_image_30 : decode cX9_image 30 = .ok (.iconst 1, 1) := by decide +kernel
theorem dX9_image_31 : decode cX9_image 31 = .ok (.bastore, 1) := by decide +kernel
theorem dX9_image_32 : decode cX9_image 32 = .ok (.iconst 0, 1) := by decide +kernel
theorem dX9_image_33 : decode cX9_image 33 = .ok (.ireturn, 1) := by decide +kernel
theorem dX9_income_0 : decode cX9_income 0 = .ok (.aload_n 0, 1) := by decide +kernel
theorem dX9_income_1 : decode cX9_income 1 = .ok (.getfield 19, 3) := by decide +kernel
theorem dX9_income_4 : decode cX9_income 4 = .ok (.invokevirtual 141, 3) := by decide +kernel
theorem dX9_income_7 : decode cX9_income 7 = .ok (.ifCond .eq 8, 3) := by decide +kernel
theorem dX9_income_10 : decode cX9_income 10 = .ok (.bipush (-2), 2) := by decide +kernel
theorem dX9_income_12 : decode cX9_income 12 = .ok (.goto 21, 3) := by decide +kernel
theorem dX9_income_15 : decode cX9_income 15 = .ok (.aload_n 0, 1) := by decide +kernel
theorem dX9_income_16 : decode cX9_income 16 = .ok (.aload_n 0, 1) := by decide +kernel
theorem dX9_income_17 : decode cX9_income 17 = .ok (.getfield 19, 3) := by decide +kernel
theorem dX9_income_20 : decode cX9_income 20 = .ok (.getfield 144, 3) := by decide +kernel
theorem dX9_income_23 : decode cX9_income 23 = .ok (.aload_n 0, 1) := by decide +kernel
theorem dX9_income_24 : decode cX9_income 24 = .ok (.getfield 19, 3) := by decide +kernel
theorem dX9_income_27 : decode cX9_income 27 = .ok (.getfield 195, 3) := by decide +kernel
theorem dX9_income_30 : decode cX9_income 30 = .ok (.invokevirtual 201, 3) := by decide +kernel
theorem dX9_income_33 : decode cX9_income 33 = .ok (.ireturn, 1) := by decide +kernel
theorem dX9_incomeUnder_0 : decode cX9_incomeUnder 0 = .ok (.aload_n 0, 1) := by decide +kernel
theorem dX9_incomeUnder_1 : decode cX9_incomeUnder 1 = .ok (.getfield 19, 3) := by decide +kernel
theorem dX9_incomeUnder_4 : decode cX9_incomeUnder 4 = .ok (.aload_n 0, 1) := by decide +kernel
theorem dX9_incomeUnder_5 : decode cX9_incomeUnder 5 = .ok (.iload_n 1, 1) := by decide +kernel
theorem dX9_incomeUnder_6 : decode cX9_incomeUnder 6 = .ok (.iload_n 2, 1) := by decide +kernel
theorem dX9_incomeUnder_7 : decode cX9_incomeUnder 7 = .ok (.invokevirtual 198, 3) := by decide +kernel
theorem dX9_incomeUnder_10 : decode cX9_incomeUnder 10 = .ok (.invokevirtual 259, 3) := by decide +kernel
theorem dX9_incomeUnder_13 : decode cX9_incomeUnder 13 = .ok (.ireturn, 1) := by decide +kernel
theorem dX9_lacks_0 : decode cX9_lacks 0 = .ok (.aload_n 0, 1) := by decide +kernel
theorem dX9_lacks_1 : decode cX9_lacks 1 = .ok (.getfield 19, 3) := by decide +kernel
theorem dX9_lacks_4 : decode cX9_lacks 4 = .ok (.invokevirtual 141, 3) := by decide +kernel
theorem dX9_lacks_7 : decode cX9_lacks 7 = .ok (.ifCond .eq 6, 3) := by decide +kernel
theorem dX9_lacks_10 : decode cX9_lacks 10 = .ok (.bipush (-2), 2) := by decide +kernel
theorem dX9_lacks_12 : decode cX9_lacks 12 = .ok (.ireturn, 1) := by decide +kernel
theorem dX9_lacks_13 : decode cX9_lacks 13 = .ok (.aload_n 0, 1) := by decide +kernel
theorem dX9_lacks_14 : decode cX9_lacks 14 = .ok (.invokevirtual 186, 3) := by decide +kernel
theorem dX9_lacks_17 : decode cX9_lacks 17 = .ok (.iconst (-1), 1) := by decide +kernel
theorem dX9_lacks_18 : decode cX9_lacks 18 = .ok (.istore_n 1, 1) := by decide +kernel
theorem dX9_lacks_19 : decode cX9_lacks 19 = .ok (.iconst 0, 1) := by decide +kernel
theorem dX9_lacks_20 : decode cX9_lacks 20 = .ok (.istore_n 2, 1) := by decide +kernel
theorem dX9_lacks_21 : decode cX9_lacks 21 = .ok (.iconst 0, 1) := by decide +kernel
theorem dX9_lacks_22 : decode cX9_lacks 22 = .ok (.istore_n 3, 1) := by decide +kernel
theorem dX9_lacks_23 : decode cX9_lacks 23 = .ok (.iload_n 3, 1) := by decide +kernel
theorem dX9_lacks_24 : decode cX9_lacks 24 = .ok (.aload_n 0, 1) := by decide +kernel
theorem dX9_lacks_25 : decode cX9_lacks 25 = .ok (.getfield 19, 3) := by decide +kernel
theorem dX9_lacks_28 : decode cX9_lacks 28 = .ok (.getfield 216, 3) := by decide +kernel
theorem dX9_lacks_31 : decode cX9_lacks 31 = .ok (.if_icmp .ge 48, 3) := by decide +kernel
theorem dX9_lacks_34 : decode cX9_lacks 34 = .ok (.aload_n 0, 1) := by decide +kernel
theorem dX9_lacks_35 : decode cX9_lacks 35 = .ok (.getfield 19, 3) := by decide +kernel
theorem dX9_lacks_38 : decode cX9_lacks 38 = .ok (.getfield 135, 3) := by decide +kernel
theorem dX9_lacks_41 : decode cX9_lacks 41 = .ok (.iload_n 3, 1) := by decide +kernel
theorem dX9_lacks_42 : decode cX9_lacks 42 = .ok (.iaload, 1) := by decide +kernel
theorem dX9_lacks_43 : decode cX9_lacks 43 = .ok (.aload_n 0, 1) := by decide +kernel
theorem dX9_lacks_44 : decode cX9_lacks 44 = .ok (.getfield 47, 3) := by decide +kernel
theorem dX9_lacks_47 : decode cX9_lacks 47 = .ok (.aload_n 0, 1) := by decide +kernel
theorem dX9_lacks_48 : decode cX9_lacks 48 = .ok (.getfield 19, 3) := by decide +kernel
theorem dX9_lacks_51 : decode cX9_lacks 51 = .ok (.getfield 133, 3) := by decide +kernel
theorem dX9_lacks_54 : decode cX9_lacks 54 = .ok (.iload_n 3, 1) := by decide +kernel
theorem dX9_lacks_55 : decode cX9_lacks 55 = .ok (.iaload, 1) := by decide +kernel
theorem dX9_lacks_56 : decode cX9_lacks 56 = .ok (.invokevirtual 189, 3) := by decide +kernel
theorem dX9_lacks_59 : decode cX9_lacks 59 = .ok (.isub, 1) := by decide +kernel
theorem dX9_lacks_60 : decode cX9_lacks 60 = .ok (.istore 4, 2) := by decide +kernel
theorem dX9_lacks_62 : decode cX9_lacks 62 = .ok (.iload 4, 2) := by decide +kernel
theorem dX9_lacks_64 : decode cX9_lacks 64 = .ok (.iload_n 2, 1) := by decide +kernel
theorem dX9_lacks_65 : decode cX9_lacks 65 = .ok (.if_icmp .le 8, 3) := by decide +kernel
theorem dX9_lacks_68 : decode cX9_lacks 68 = .ok (.iload 4, 2) := by decide +kernel
theorem dX9_lacks_70 : decode cX9_lacks 70 = .ok (.istore_n 2, 1) := by decide +kernel
theorem dX9_lacks_71 : decode cX9_lacks 71 = .ok (.iload_n 3, 1) := by decide +kernel
theorem dX9_lacks_72 : decode cX9_lacks 72 = .ok (.istore_n 1, 1) := by decide +kernel
theorem dX9_lacks_73 : decode cX9_lacks 73 = .ok (.iinc 3 1, 3) := by decide +kernel
theorem dX9_lacks_76 : decode cX9_lacks 76 = .ok (.goto (-53), 3) := by decide +kernel
theorem dX9_lacks_79 : decode cX9_lacks 79 = .ok (.iload_n 1, 1) := by decide +kernel
theorem dX9_lacks_80 : decode cX9_lacks 80 = .ok (.ireturn, 1) := by decide +kernel
theorem dX9_lamps_0 : decode cX9_lamps 0 = .ok (.aload_n 0, 1) := by decide +kernel
theorem dX9_lamps_1 : decode cX9_lamps 1 = .ok (.getfield 19, 3) := by decide +kernel
theorem dX9_lamps_4 : decode cX9_lamps 4 = .ok (.invokevirtual 141, 3) := by decide +kernel
theorem dX9_lamps_7 : decode cX9_lamps 7 = .ok (.ifCond .eq 8, 3) := by decide +kernel
theorem dX9_lamps_10 : decode cX9_lamps 10 = .ok (.bipush (-2), 2) := by decide +kernel
theorem dX9_lamps_12 : decode cX9_lamps 12 = .ok (.goto 10, 3) := by decide +kernel
theorem dX9_lamps_15 : decode cX9_lamps 15 = .ok (.aload_n 0, 1) := by decide +kernel
theorem dX9_lamps_16 : decode cX9_lamps 16 = .ok (.getfield 19, 3) := by decide +kernel
theorem dX9_lamps_19 : decode cX9_lamps 19 = .ok (.getfield 144, 3) := by decide +kernel
theorem dX9_lamps_22 : decode cX9_lamps 22 = .ok (.ireturn, 1) := by decide +kernel
theorem dX9_land_0 : decode cX9_land 0 = .ok (.aload_n 0, 1) := by decide +kernel
theorem dX9_land_1 : decode cX9_land 1 = .ok (.getfield 28, 3) := by decide +kernel
theorem dX9_land_4 : decode cX9_land 4 = .ok (.invokevirtual 94, 3) := by decide +kernel
theorem dX9_land_7 : decode cX9_land 7 = .ok (.ifCond .ne 6, 3) := by decide +kernel
theorem dX9_land_10 : decode cX9_land 10 = .ok (.bipush (-4), 2) := by decide +kernel
theorem dX9_land_12 : decode cX9_land 12 = .ok (.ireturn, 1) := by decide +kernel
theorem dX9_land_13 : decode cX9_land 13 = .ok (.aload_n 0, 1) := by decide +kernel
theorem dX9_land_14 : decode cX9_land 14 = .ok (.getfield 10, 3) := by decide +kernel
theorem dX9_land_17 : decode cX9_land 17 = .ok (.iconst 0, 1) := by decide +kernel
theorem dX9_land_18 : decode cX9_land 18 = .ok (.putfield 86, 3) := by decide +kernel
theorem dX9_land_21 : decode cX9_land 21 = .ok (.aload_n 0, 1) := by decide +kernel
theorem dX9_land_22 : decode cX9_land 22 = .ok (.getfield 19, 3) := by decide +kernel
theorem dX9_land_25 : decode cX9_land 25 = .ok (.aload_n 0, 1) := by decide +kernel
theorem dX9_land_26 : decode cX9_land 26 = .ok (.getfield 28, 3) := by decide +kernel
theorem dX9_land_29 : decode cX9_land 29 = .ok (.getfield 98, 3) := by decide +kernel
theorem dX9_land_32 : decode cX9_land 32 = .ok (.invokevirtual 101, 3) := by decide +kernel
theorem dX9_land_35 : decode cX9_land 35 = .ok (.aload_n 0, 1) := by decide +kernel
theorem dX9_land_36 : decode cX9_land 36 = .ok (.getfield 56, 3) := by decide +kernel
theorem dX9_land_39 : decode cX9_land 39 = .ok (.invokevirtual 104, 3) := by decide +kernel
theorem dX9_land_42 : decode cX9_land 42 = .ok (.aload_n 0, 1) := by decide +kernel
theorem dX9_land_43 : decode cX9_land 43 = .ok (.getfield 19, 3) := by decide +kernel
theorem dX9_land_46 : decode cX9_land 46 = .ok (.getfield 107, 3) := by decide +kernel
theorem dX9_land_49 : decode cX9_land 49 = .ok (.ireturn, 1) := by decide +kernel
theorem dX9_law_0 : decode cX9_law 0 = .ok (.aload_n 0, 1) := by decide +kernel
theorem dX9_law_1 : decode cX9_law 1 = .ok (.getfield 19, 3) := by decide +kernel
theorem dX9_law_4 : decode cX9_law 4 = .ok (.invokevirtual 141, 3) := by decide +kernel
theorem dX9_law_7 : decode cX9_law 7 = .ok (.ifCond .eq 6, 3) := by decide +kernel
theorem dX9_law_10 : decode cX9_law 10 = .ok (.bipush (-2), 2) := by decide +kernel
theorem dX9_law_12 : decode cX9_law 12 = .ok (.ireturn, 1) := by decide +kernel
theorem dX9_law_13 : decode cX9_law 13 = .ok (.iconst 0, 1) := by decide +kernel
theorem dX9_law_14 : decode cX9_law 14 = .ok (.istore_n 1, 1) := by decide +kernel
theorem dX9_law_15 : decode cX9_law 15 = .ok (.aload_n 0, 1) := by decide +kernel
theorem dX9_law_16 : decode cX9_law 16 = .ok (.aload_n 0, 1) := by decide +kernel
theorem dX9_law_17 : decode cX9_law 17 = .ok (.getfield 19, 3) := by decide +kernel
theorem dX9_law_20 : decode cX9_law 20 = .ok (.getfield 144, 3) := by decide +kernel
theorem dX9_law_23 : decode cX9_law 23 = .ok (.iconst 0, 1) := by decide +kernel
theorem dX9_law_24 : decode cX9_law 24 = .ok (.invokevirtual 201, 3) := by decide +kernel
theorem dX9_law_27 : decode cX9_law 27 = .ok (.istore_n 2, 1) := by decide +kernel
theorem dX9_law_28 : decode cX9_law 28 = .ok (.iconst 1, 1) := by decide +kernel
theorem dX9_law_29 : decode cX9_law 29 = .ok (.istore_n 3, 1) := by decide +kernel
theorem dX9_law_30 : decode cX9_law 30 = .ok (.iload_n 3, 1) := by decide +kernel
theorem dX9_law_31 : decode cX9_law 31 = .ok (.iconst 4, 1) := by decide +kernel
theorem dX9_law_32 : decode cX9_law 32 = .ok (.if_icmp .ge 34, 3) := by decide +kernel
theorem dX9_law_35 : decode cX9_law 35 = .ok (.aload_n 0, 1) := by decide +kernel
theorem dX9_law_36 : decode cX9_law 36 = .ok (.aload_n 0, 1) := by decide +kernel
theorem dX9_law_37 : decode cX9_law 37 = .ok (.getfield 19, 3) := by decide +kernel
theorem dX9_law_40 : decode cX9_law 40 = .ok (.getfield 144, 3) := by decide +kernel
theorem dX9_law_43 : decode cX9_law 43 = .ok (.iload_n 3, 1) := by decide +kernel
theorem dX9_law_44 : decode cX9_law 44 = .ok (.invokevirtual 201, 3) := by decide +kernel
theorem dX9_law_47 : decode cX9_law 47 = .ok (.istore 4, 2) := by decide +kernel
theorem dX9_law_49 : decode cX9_law 49 = .ok (.iload 4, 2) := by decide +kernel
theorem dX9_law_51 : decode cX9_law 51 = .ok (.iload_n 2, 1) := by decide +kernel
theorem dX9_law_52 : decode cX9_law 52 = .ok (.if_icmp .le 8, 3) := by decide +kernel
theorem dX9_law_55 : decode cX9_law 55 = .ok (.iload 4, 2) := by decide +kernel
theorem dX9_law_57 : decode cX9_law 57 = .ok (.istore_n 2, 1) := by decide +kernel
theorem dX9_law_58 : decode cX9_law 58 = .ok (.iload_n 3, 1) := by decide +kernel
theorem dX9_law_59 : decode cX9_law 59 = .ok (.istore_n 1, 1) := by decide +kernel
theorem dX9_law_60 : decode cX9_law 60 = .ok (.iinc 3 1, 3) := by decide +kernel
theorem dX9_law_63 : decode cX9_law 63 = .ok (.goto (-33), 3) := by decide +kernel
theorem dX9_law_66 : decode cX9_law 66 = .ok (.iload_n 1, 1) := by decide +kernel
theorem dX9_law_67 : decode cX9_law 67 = .ok (.ireturn, 1) := by decide +kernel
theorem dX9_laws_0 : decode cX9_laws 0 = .ok (.aload_n 0, 1) := by decide +kernel
theorem dX9_laws_1 : decode cX9_laws 1 = .ok (.iload_n 1, 1) := by decide +kernel
theorem dX9_laws_2 : decode cX9_laws 2 = .ok (.invokevirtual 268, 3) := by decide +kernel
theorem dX9_laws_5 : decode cX9_laws 5 = .ok (.istore_n 2, 1) := by decide +kernel
theorem dX9_laws_6 : decode cX9_laws 6 = .ok (.iload_n 2, 1) := by decide +kernel
theorem dX9_laws_7 : decode cX9_laws 7 = .ok (.ifCond .eq 7, 3) := by decide +kernel
theorem dX9_laws_10 : decode cX9_laws 10 = .ok (.iload_n 2, 1) := by decide +kernel
theorem dX9_laws_11 : decode cX9_laws 11 = .ok (.goto 16, 3) := by decide +kernel
theorem dX9_laws_14 : decode cX9_laws 14 = .ok (.aload_n 0, 1) := by decide +kernel
theorem dX9_laws_15 : decode cX9_laws 15 = .ok (.getfield 63, 3) := by decide +kernel
theorem dX9_laws_18 : decode cX9_laws 18 = .ok (.aload_n 0, 1) := by decide +kernel
theorem dX9_laws_19 : decode cX9_laws 19 = .ok (.getfield 38, 3) := by decide +kernel
theorem dX9_laws_22 : decode cX9_laws 22 = .ok (.iload_n 1, 1) := by decide +kernel
theorem dX9_laws_23 : decode cX9_laws 23 = .ok (.aaload, 1) := by decide +kernel
theorem dX9_laws_24 : decode cX9_laws 24 = .ok (.invokevirtual 271, 3) := by decide +kernel
theorem dX9_laws_27 : decode cX9_laws 27 = .ok (.ireturn, 1) := by decide +kernel
theorem dX9_leaves_0 : decode cX9_leaves 0 = .ok (.aload_n 0, 1) := by decide +kernel
theorem dX9_leaves_1 : decode cX9_leaves 1 = .ok (.iload_n 1, 1) := by decide +kernel
theorem dX9_leaves_2 : decode cX9_leaves 2 = .ok (.invokevirtual 278, 3) := by decide +kernel
theorem dX9_leaves_5 : decode cX9_leaves 5 = .ok (.istore_n 2, 1) := by decide +kernel
theorem dX9_leaves_6 : decode cX9_leaves 6 = .ok (.iload_n 2, 1) := by decide +kernel
theorem dX9_leaves_7 : decode cX9_leaves 7 = .ok (.ifCond .eq 5, 3) := by decide +kernel
theorem dX9_leaves_10 : decode cX9_leaves 10 = .ok (.iload_n 2, 1) := by decide +kernel
theorem dX9_leaves_11 : decode cX9_leaves 11 = .ok (.ireturn, 1) := by decide +kernel
theorem dX9_leaves_12 : decode cX9_leaves 12 = .ok (.aload_n 0, 1) := by decide +kernel
theorem dX9_leaves_13 : decode cX9_leaves 13 = .ok (.getfield 63, 3) := by decide +kernel
theorem dX9_leaves_16 : decode cX9_leaves 16 = .ok (.aload_n 0, 1) := by decide +kernel
theorem dX9_leaves_17 : decode cX9_leaves 17 = .ok (.getfield 38, 3) := by decide +kernel
theorem dX9_leaves_20 : decode cX9_leaves 20 = .ok (.iload_n 1, 1) := by decide +kernel
theorem dX9_leaves_21 : decode cX9_leaves 21 = .ok (.aaload, 1) := by decide +kernel
theorem dX9_leaves_22 : decode cX9_leaves 22 = .ok (.invokevirtual 281, 3) := by decide +kernel
theorem dX9_leaves_25 : decode cX9_leaves 25 = .ok (.istore_n 3, 1) := by decide +kernel
theorem dX9_leaves_26 : decode cX9_leaves 26 = .ok (.aload_n 0, 1) := by decide +kernel
theorem dX9_leaves_27 : decode cX9_leaves 27 = .ok (.getfield 63, 3) := by decide +kernel
theorem dX9_leaves_30 : decode cX9_leaves 30 = .ok (.iload_n 3, 1) := by decide +kernel
theorem dX9_leaves_31 : decode cX9_leaves 31 = .ok (.invokevirtual 287, 3) := by decide +kernel
theorem dX9_leaves_34 : decode cX9_leaves 34 = .ok (.istore 4, 2) := by decide +kernel
theorem dX9_leaves_36 : decode cX9_leaves 36 = .ok (.iload 4, 2) := by decide +kernel
theorem dX9_leaves_38 : decode cX9_leaves 38 = .ok (.iconst (-1), 1) := by decide +kernel
theorem dX9_leaves_39 : decode cX9_leaves 39 = .ok (.if_icmp .ne 7, 3) := by decide +kernel
theorem dX9_leaves_42 : decode cX9_leaves 42 = .ok (.iload_n 3, 1) := by decide +kernel
theorem dX9_leaves_43 : decode cX9_leaves 43 = .ok (.goto 13, 3) := by decide +kernel
theorem dX9_leaves_46 : decode cX9_leaves 46 = .ok (.aload_n 0, 1) := by decide +kernel
theorem dX9_leaves_47 : decode cX9_leaves 47 = .ok (.getfield 63, 3) := by decide +kernel
theorem dX9_leaves_50 : decode cX9_leaves 50 = .ok (.iload_n 3, 1) := by decide +kernel
theorem dX9_leaves_51 : decode cX9_leaves 51 = .ok (.iload 4, 2) := by decide +kernel
theorem dX9_leaves_53 : decode cX9_leaves 53 = .ok (.invokevirtual 290, 3) := by decide +kernel
theorem dX9_leaves_56 : decode cX9_leaves 56 = .ok (.ireturn, 1) := by decide +kernel
theorem dX9_less_0 : decode cX9_less 0 = .ok (.aload_n 0, 1) := by decide +kernel
theorem dX9_less_1 : decode cX9_less 1 = .ok (.getfield 19, 3) := by decide +kernel
theorem dX9_less_4 : decode cX9_less 4 = .ok (.invokevirtual 141, 3) := by decide +kernel
theorem dX9_less_7 : decode cX9_less 7 = .ok (.ifCond .eq 8, 3) := by decide +kernel
theorem dX9_less_10 : decode cX9_less 10 = .ok (.bipush (-2), 2) := by decide +kernel
theorem dX9_less_12 : decode cX9_less 12 = .ok (.goto 14, 3) := by decide +kernel
theorem dX9_less_15 : decode cX9_less 15 = .ok (.aload_n 0, 1) := by decide +kernel
theorem dX9_less_16 : decode cX9_less 16 = .ok (.aload_n 0, 1) := by decide +kernel
theorem dX9_less_17 : decode cX9_less 17 = .ok (.getfield 19, 3) := by decide +kernel
theorem dX9_less_20 : decode cX9_less 20 = .ok (.getfield 144, 3) := by decide +kernel
theorem dX9_less_23 : decode cX9_less 23 = .ok (.invokevirtual 265, 3) := by decide +kernel
theorem dX9_less_26 : decode cX9_less 26 = .ok (.ireturn, 1) := by decide +kernel
theorem dX9_light_0 : decode cX9_light 0 = .ok (.aload_n 0, 1) := by decide +kernel
theorem dX9_light_1 : decode cX9_light 1 = .ok (.getfield 19, 3) := by decide +kernel
theorem dX9_light_4 : decode cX9_light 4 = .ok (.iload_n 1, 1) := by decide +kernel
theorem dX9_light_5 : decode cX9_light 5 = .ok (.invokevirtual 170, 3) := by decide +kernel
theorem dX9_light_8 : decode cX9_light 8 = .ok (.ifCond .eq 10, 3) := by decide +kernel
theorem dX9_light_11 : decode cX9_light 11 = .ok (.iload_n 2, 1) := by decide +kernel
theorem dX9_light_12 : decode cX9_light 12 = .ok (.invokestatic 340, 3) := by decide +kernel
theorem dX9_light_15 : decode cX9_light 15 = .ok (.ifCond .ne 6, 3) := by decide +kernel
theorem dX9_light_18 : decode cX9_light 18 = .ok (.bipush (-2), 2) := by decide +kernel
theorem dX9_light_20 : decode cX9_light 20 = .ok (.ireturn, 1) := by decide +kernel
theorem dX9_light_21 : decode cX9_light 21 = .ok (.aload_n 0, 1) := by decide +kernel
theorem dX9_light_22 : decode cX9_light 22 = .ok (.getfield 19, 3) := by decide +kernel
theorem dX9_light_25 : decode cX9_light 25 = .ok (.getfield 359, 3) := by decide +kernel
theorem dX9_light_28 : decode cX9_light 28 = .ok (.bipush 40, 2) := by decide +kernel
theorem dX9_light_30 : decode cX9_light 30 = .ok (.if_icmp .lt 8, 3) := by decide +kernel
theorem dX9_light_33 : decode cX9_light 33 = .ok (.bipush (-5), 2) := by decide +kernel
theorem dX9_light_35 : decode cX9_light 35 = .ok (.goto 12, 3) := by decide +kernel
theorem dX9_light_38 : decode cX9_light 38 = .ok (.aload_n 0, 1) := by decide +kernel
theorem dX9_light_39 : decode cX9_light 39 = .ok (.getfield 19, 3) := by decide +kernel
theorem dX9_light_42 : decode cX9_light 42 = .ok (.iload_n 1, 1) := by decide +kernel
theorem dX9_light_43 : decode cX9_light 43 = .ok (.iload_n 2, 1) := by decide +kernel
theorem dX9_light_44 : decode cX9_light 44 = .ok (.invokevirtual 362, 3) := by decide +kernel
theorem dX9_light_47 : decode cX9_light 47 = .ok (.ireturn, 1) := by decide +kernel
theorem dX9_lights_0 : decode cX9_lights 0 = .ok (.aload_n 0, 1) := by decide +kernel
theorem dX9_lights_1 : decode cX9_lights 1 = .ok (.getfield 19, 3) := by decide +kernel
theorem dX9_lights_4 : decode cX9_lights 4 = .ok (.iload_n 1, 1) := by decide +kernel
theorem dX9_lights_5 : decode cX9_lights 5 = .ok (.invokevirtual 238, 3) := by decide +kernel
theorem dX9_lights_8 : decode cX9_lights 8 = .ok (.ifCond .ne 6, 3) := by decide +kernel
theorem dX9_lights_11 : decode cX9_lights 11 = .ok (.bipush (-2), 2) := by decide +kernel
theorem dX9_lights_13 : decode cX9_lights 13 = .ok (.ireturn, 1) := by decide +kernel
theorem dX9_lights_14 : decode cX9_lights 14 = .ok (.aload_n 0, 1) := by decide +kernel
theorem dX9_lights_15 : decode cX9_lights 15 = .ok (.getfield 56, 3) := by decide +kernel
theorem dX9_lights_18 : decode cX9_lights 18 = .ok (.invokevirtual 241, 3) := by decide +kernel
theorem dX9_lights_21 : decode cX9_lights 21 = .ok (.aload_n 0, 1) := by decide +kernel
theorem dX9_lights_22 : decode cX9_lights 22 = .ok (.getfield 56, 3) := by decide +kernel
theorem dX9_lights_25 : decode cX9_lights 25 = .ok (.iload_n 1, 1) := by decide +kernel
theorem dX9_lights_26 : decode cX9_lights 26 = .ok (.invokevirtual 244, 3) := by decide +kernel
theorem dX9_lights_29 : decode cX9_lights 29 = .ok (.istore_n 2, 1) := by decide +kernel
theorem dX9_lights_30 : decode cX9_lights 30 = .ok (.iload_n 2, 1) := by decide +kernel
theorem dX9_lights_31 : decode cX9_lights 31 = .ok (.iconst (-1), 1) := by decide +kernel
theorem dX9_lights_32 : decode cX9_lights 32 = .ok (.if_icmp .ne 7, 3) := by decide +kernel
theorem dX9_lights_35 : decode cX9_lights 35 = .ok (.iconst (-1), 1) := by decide +kernel
theorem dX9_lights_36 : decode cX9_lights 36 = .ok (.goto 12, 3) := by decide +kernel
theorem dX9_lights_39 : decode cX9_lights 39 = .ok (.aload_n 0, 1) := by decide +kernel
theorem dX9_lights_40 : decode cX9_lights 40 = .ok (.getfield 56, 3) := by decide +kernel
theorem dX9_lights_43 : decode cX9_lights 43 = .ok (.getfield 250, 3) := by decide +kernel
theorem dX9_lights_46 : decode cX9_lights 46 = .ok (.iload_n 2, 1) := by decide +kernel
theorem dX9_lights_47 : decode cX9_lights 47 = .ok (.iaload, 1) := by decide +kernel
theorem dX9_lights_48 : decode cX9_lights 48 = .ok (.ireturn, 1) := by decide +kernel
theorem dX9_lone_0 : decode cX9_lone 0 = .ok (.aload_n 0, 1) := by decide +kernel
theorem dX9_lone_1 : decode cX9_lone 1 = .ok (.getfield 19, 3) := by decide +kernel
theorem dX9_lone_4 : decode cX9_lone 4 = .ok (.invokevirtual 141, 3) := by decide +kernel
theorem dX9_lone_7 : decode cX9_lone 7 = .ok (.ifCond .eq 6, 3) := by decide +kernel
theorem dX9_lone_10 : decode cX9_lone 10 = .ok (.bipush (-2), 2) := by decide +kernel
theorem dX9_lone_12 : decode cX9_lone 12 = .ok (.ireturn, 1) := by decide +kernel
theorem dX9_lone_13 : decode cX9_lone 13 = .ok (.aload_n 0, 1) := by decide +kernel
theorem dX9_lone_14 : decode cX9_lone 14 = .ok (.invokevirtual 186, 3) := by decide +kernel
theorem dX9_lone_17 : decode cX9_lone 17 = .ok (.aload_n 0, 1) := by decide +kernel
theorem dX9_lone_18 : decode cX9_lone 18 = .ok (.getfield 47, 3) := by decide +kernel
theorem dX9_lone_21 : decode cX9_lone 21 = .ok (.invokevirtual 219, 3) := by decide +kernel
theorem dX9_lone_24 : decode cX9_lone 24 = .ok (.ireturn, 1) := by decide +kernel
theorem dX9_loud_0 : decode cX9_loud 0 = .ok (.aload_n 0, 1) := by decide +kernel
theorem dX9_loud_1 : decode cX9_loud 1 = .ok (.getfield 19, 3) := by decide +kernel
theorem dX9_loud_4 : decode cX9_loud 4 = .ok (.invokevirtual 141, 3) := by decide +kernel
theorem dX9_loud_7 : decode cX9_loud 7 = .ok (.ifCond .eq 6, 3) := by decide +kernel
theorem dX9_loud_10 : decode cX9_loud 10 = .ok (.bipush (-2), 2) := by decide +kernel
theorem dX9_loud_12 : decode cX9_loud 12 = .ok (.ireturn, 1) := by decide +kernel
theorem dX9_loud_13 : decode cX9_loud 13 = .ok (.aload_n 0, 1) := by decide +kernel
theorem dX9_loud_14 : decode cX9_loud 14 = .ok (.invokevirtual 186, 3) := by decide +kernel
theorem dX9_loud_17 : decode cX9_loud 17 = .ok (.iconst 0, 1) := by decide +kernel
theorem dX9_loud_18 : decode cX9_loud 18 = .ok (.istore_n 1, 1) := by decide +kernel
theorem dX9_loud_19 : decode cX9_loud 19 = .ok (.iconst 1, 1) := by decide +kernel
theorem dX9_loud_20 : decode cX9_loud 20 = .ok (.istore_n 2, 1) := by decide +kernel
theorem dX9_loud_21 : decode cX9_loud 21 = .ok (.iload_n 2, 1) := by decide +kernel
theorem dX9_loud_22 : decode cX9_loud 22 = .ok (.aload_n 0, 1) := by decide +kernel
theorem dX9_loud_23 : decode cX9_loud 23 = .ok (.getfield 19, 3) := by decide +kernel
theorem dX9_loud_26 : decode cX9_loud 26 = .ok (.invokevirtual 192, 3) := by decide +kernel
theorem dX9_loud_29 : decode cX9_loud 29 = .ok (.if_icmp .ge 30, 3) := by decide +kernel
theorem dX9_loud_32 : decode cX9_loud 32 = .ok (.aload_n 0, 1) := by decide +kernel
theorem dX9_loud_33 : decode cX9_loud 33 = .ok (.getfield 47, 3) := by decide +kernel
theorem dX9_loud_36 : decode cX9_loud 36 = .ok (.iload_n 2, 1) := by decide +kernel
theorem dX9_loud_37 : decode cX9_loud 37 = .ok (.invokevirtual 189, 3) := by decide +kernel
theorem dX9_loud_40 : decode cX9_loud 40 = .ok (.aload_n 0, 1) := by decide +kernel
theorem dX9_loud_41 : decode cX9_loud 41 = .ok (.getfield 47, 3) := by decide +kernel
theorem dX9_loud_44 : decode cX9_loud 44 = .ok (.iload_n 1, 1) := by decide +kernel
theorem dX9_loud_45 : decode cX9_loud 45 = .ok (.invokevirtual 189, 3) := by decide +kernel
theorem dX9_loud_48 : decode cX9_loud 48 = .ok (.if_icmp .le 5, 3) := by decide +kernel
theorem dX9_loud_51 : decode cX9_loud 51 = .ok (.iload_n 2, 1) := by decide +kernel
theorem dX9_loud_52 : decode cX9_loud 52 = .ok (.istore_n 1, 1) := by decide +kernel
theorem dX9_loud_53 : decode cX9_loud 53 = .ok (.iinc 2 1, 3) := by decide +kernel
theorem dX9_loud_56 : decode cX9_loud 56 = .ok (.goto (-35), 3) := by decide +kernel
theorem dX9_loud_59 : decode cX9_loud 59 = .ok (.iload_n 1, 1) := by decide +kernel
theorem dX9_loud_60 : decode cX9_loud 60 = .ok (.ireturn, 1) := by decide +kernel
theorem dX9_luck_0 : decode cX9_luck 0 = .ok (.aload_n 0, 1) := by decide +kernel
theorem dX9_luck_1 : decode cX9_luck 1 = .ok (.getfield 19, 3) := by decide +kernel
theorem dX9_luck_4 : decode cX9_luck 4 = .ok (.iload_n 3, 1) := by decide +kernel
theorem dX9_luck_5 : decode cX9_luck 5 = .ok (.invokevirtual 130, 3) := by decide +kernel
theorem dX9_luck_8 : decode cX9_luck 8 = .ok (.ifCond .eq 21, 3) := by decide +kernel
theorem dX9_luck_11 : decode cX9_luck 11 = .ok (.iload_n 1, 1) := by decide +kernel
theorem dX9_luck_12 : decode cX9_luck 12 = .ok (.invokestatic 371, 3) := by decide +kernel
theorem dX9_luck_15 : decode cX9_luck 15 = .ok (.ifCond .eq 14, 3) := by decide +kernel
theorem dX9_luck_18 : decode cX9_luck 18 = .ok (.iload_n 2, 1) := by decide +kernel
theorem dX9_luck_19 : decode cX9_luck 19 = .ok (.iconst 1, 1) := by decide +kernel
theorem dX9_luck_20 : decode cX9_luck 20 = .ok (.if_icmp .lt 9, 3) := by decide +kernel
theorem dX9_luck_23 : decode cX9_luck 23 = .ok (.iload_n 2, 1) := by decide +kernel
theorem dX9_luck_24 : decode cX9_luck 24 = .ok (.bipush 20, 2) := by decide +kernel
theorem dX9_luck_26 : decode cX9_luck 26 = .ok (.if_icmp .le 6, 3) := by decide +kernel
theorem dX9_luck_29 : decode cX9_luck 29 = .ok (.bipush (-2), 2) := by decide +kernel
theorem dX9_luck_31 : decode cX9_luck 31 = .ok (.ireturn, 1) := by decide +kernel
theorem dX9_luck_32 : decode cX9_luck 32 = .ok (.iconst 0, 1) := by decide +kernel
theorem dX9_luck_33 : decode cX9_luck 33 = .ok (.istore 4, 2) := by decide +kernel
theorem dX9_luck_35 : decode cX9_luck 35 = .ok (.iconst 0, 1) := by decide +kernel
theorem dX9_luck_36 : decode cX9_luck 36 = .ok (.istore 5, 2) := by decide +kernel
theorem dX9_luck_38 : decode cX9_luck 38 = .ok (.iload 5, 2) := by decide +kernel
theorem dX9_luck_40 : decode cX9_luck 40 = .ok (.iload_n 2, 1) := by decide +kernel
theorem dX9_luck_41 : decode cX9_luck 41 = .ok (.if_icmp .ge 37, 3) := by decide +kernel
theorem dX9_luck_44 : decode cX9_luck 44 = .ok (.aload_n 0, 1) := by decide +kernel
theorem dX9_luck_45 : decode cX9_luck 45 = .ok (.getfield 77, 3) := by decide +kernel
theorem dX9_luck_48 : decode cX9_luck 48 = .ok (.aload_n 0, 1) := by decide +kernel
theorem dX9_luck_49 : decode cX9_luck 49 = .ok (.getfield 77, 3) := by decide +kernel
theorem dX9_luck_52 : decode cX9_luck 52 = .ok (.iload_n 1, 1) := by decide +kernel
theorem dX9_luck_53 : decode cX9_luck 53 = .ok (.iload 5, 2) := by decide +kernel
theorem dX9_luck_55 : decode cX9_luck 55 = .ok (.iadd, 1) := by decide +kernel
theorem dX9_luck_56 : decode cX9_luck 56 = .ok (.invokevirtual 374, 3) := by decide +kernel
theorem dX9_luck_59 : decode cX9_luck 59 = .ok (.invokevirtual 377, 3) := by decide +kernel
theorem dX9_luck_62 : decode cX9_luck 62 = .ok (.iload_n 3, 1) := by decide +kernel
theorem dX9_luck_63 : decode cX9_luck 63 = .ok (.invokestatic 228, 3) := by decide +kernel
theorem dX9_luck_66 : decode cX9_luck 66 = .ok (.ifCond .eq 6, 3) := by decide +kernel
theorem dX9_luck_69 : decode cX9_luck 69 = .ok (.iinc 4 1, 3) := by decide +kernel
theorem dX9_luck_72 : decode cX9_luck 72 = .ok (.iinc 5 1, 3) := by decide +kernel
theorem dX9_luck_75 : decode cX9_luck 75 = .ok (.goto (-37), 3) := by decide +kernel
theorem dX9_luck_78 : decode cX9_luck 78 = .ok (.iload 4, 2) := by decide +kernel
theorem dX9_luck_80 : decode cX9_luck 80 = .ok (.ireturn, 1) := by decide +kernel
theorem dX9_mean_0 : decode cX9_mean 0 = .ok (.aload_n 0, 1) := by decide +kernel
theorem dX9_mean_1 : decode cX9_mean 1 = .ok (.getfield 19, 3) := by decide +kernel
theorem dX9_mean_4 : decode cX9_mean 4 = .ok (.invokevirtual 141, 3) := by decide +kernel
theorem dX9_mean_7 : decode cX9_mean 7 = .ok (.ifCond .ne 10, 3) := by decide +kernel
theorem dX9_mean_10 : decode cX9_mean 10 = .ok (.iload_n 1, 1) := by decide +kernel
theorem dX9_mean_11 : decode cX9_mean 11 = .ok (.invokestatic 293, 3) := by decide +kernel
theorem dX9_mean_14 : decode cX9_mean 14 = .ok (.ifCond .ne 6, 3) := by decide +kernel
theorem dX9_mean_17 : decode cX9_mean 17 = .ok (.bipush (-2), 2) := by decide +kernel
theorem dX9_mean_19 : decode cX9_mean 19 = .ok (.ireturn, 1) := by decide +kernel
theorem dX9_mean_20 : decode cX9_mean 20 = .ok (.aload_n 0, 1) := by decide +kernel
theorem dX9_mean_21 : decode cX9_mean 21 = .ok (.getfield 77, 3) := by decide +kernel
theorem dX9_mean_24 : decode cX9_mean 24 = .ok (.invokevirtual 353, 3) := by decide +kernel
theorem dX9_mean_27 : decode cX9_mean 27 = .ok (.aload_n 0, 1) := by decide +kernel
theorem dX9_mean_28 : decode cX9_mean 28 = .ok (.getfield 77, 3) := by decide +kernel
theorem dX9_mean_31 : decode cX9_mean 31 = .ok (.invokevirtual 350, 3) := by decide +kernel
theorem dX9_mean_34 : decode cX9_mean 34 = .ok (.iload_n 1, 1) := by decide +kernel
theorem dX9_mean_35 : decode cX9_mean 35 = .ok (.invokestatic 299, 3) := by decide +kernel
theorem dX9_mean_38 : decode cX9_mean 38 = .ok (.ireturn, 1) := by decide +kernel
theorem dX9_meets_0 : decode cX9_meets 0 = .ok (.aload_n 0, 1) := by decide +kernel
theorem dX9_meets_1 : decode cX9_meets 1 = .ok (.getfield 19, 3) := by decide +kernel
theorem dX9_meets_4 : decode cX9_meets 4 = .ok (.iload_n 1, 1) := by decide +kernel
theorem dX9_meets_5 : decode cX9_meets 5 = .ok (.invokevirtual 116, 3) := by decide +kernel
theorem dX9_meets_8 : decode cX9_meets 8 = .ok (.ifCond .eq 14, 3) := by decide +kernel
theorem dX9_meets_11 : decode cX9_meets 11 = .ok (.aload_n 0, 1) := by decide +kernel
theorem dX9_meets_12 : decode cX9_meets 12 = .ok (.getfield 19, 3) := by decide +kernel
theorem dX9_meets_15 : decode cX9_meets 15 = .ok (.iload_n 2, 1) := by decide +kernel
theorem dX9_meets_16 : decode cX9_meets 16 = .ok (.invokevirtual 116, 3) := by decide +kernel
theorem dX9_meets_19 : decode cX9_meets 19 = .ok (.ifCond .ne 6, 3) := by decide +kernel
theorem dX9_meets_22 : decode cX9_meets 22 = .ok (.bipush (-2), 2) := by decide +kernel
theorem dX9_meets_24 : decode cX9_meets 24 = .ok (.ireturn, 1) := by decide +kernel
theorem dX9_meets_25 : decode cX9_meets 25 = .ok (.aload_n 0, 1) := by decide +kernel
theorem dX9_meets_26 : decode cX9_meets 26 = .ok (.iload_n 1, 1) := by decide +kernel
theorem dX9_meets_27 : decode cX9_meets 27 = .ok (.invokevirtual 150, 3) := by decide +kernel
theorem dX9_meets_30 : decode cX9_meets 30 = .ok (.aload_n 0, 1) := by decide +kernel
theorem dX9_meets_31 : decode cX9_meets 31 = .ok (.getfield 47, 3) := by decide +kernel
theorem dX9_meets_34 : decode cX9_meets 34 = .ok (.invokevirtual 222, 3) := by decide +kernel
theorem dX9_meets_37 : decode cX9_meets 37 = .ok (.aload_n 0, 1) := by decide +kernel
theorem dX9_meets_38 : decode cX9_meets 38 = .ok (.iload_n 2, 1) := by decide +kernel
theorem dX9_meets_39 : decode cX9_meets 39 = .ok (.invokevirtual 150, 3) := by decide +kernel
theorem dX9_meets_42 : decode cX9_meets 42 = .ok (.aload_n 0, 1) := by decide +kernel
theorem dX9_meets_43 : decode cX9_meets 43 = .ok (.getfield 47, 3) := by decide +kernel
theorem dX9_meets_46 : decode cX9_meets 46 = .ok (.invokevirtual 225, 3) := by decide +kernel
theorem dX9_meets_49 : decode cX9_meets 49 = .ok (.ireturn, 1) := by decide +kernel
theorem dX9_member_0 : decode cX9_member 0 = .ok (.aload_n 0, 1) := by decide +kernel
theorem dX9_member_1 : decode cX9_member 1 = .ok (.getfield 19, 3) := by decide +kernel
theorem dX9_member_4 : decode cX9_member 4 = .ok (.iload_n 1, 1) := by decide +kernel
theorem dX9_member_5 : decode cX9_member 5 = .ok (.invokevirtual 130, 3) := by decide +kernel
theorem dX9_member_8 : decode cX9_member 8 = .ok (.ifCond .ne 6, 3) := by decide +kernel
theorem dX9_member_11 : decode cX9_member 11 = .ok (.bipush (-2), 2) := by decide +kernel
theorem dX9_member_13 : decode cX9_member 13 = .ok (.ireturn, 1) := by decide +kernel
theorem dX9_member_14 : decode cX9_member 14 = .ok (.iload_n 2, 1) := by decide +kernel
theorem dX9_member_15 : decode cX9_member 15 = .ok (.tableswitch 55 0 2 #[25, 35, 45], 25) := by decide +kernel
theorem dX9_member_40 : decode cX9_member 40 = .ok (.aload_n 0, 1) := by decide +kernel
theorem dX9_member_41 : decode cX9_member 41 = .ok (.getfield 19, 3) := by decide +kernel
theorem dX9_member_44 : decode cX9_member 44 = .ok (.getfield 133, 3) := by decide +kernel
theorem dX9_member_47 : decode cX9_member 47 = .ok (.iload_n 1, 1) := by decide +kernel
theorem dX9_member_48 : decode cX9_member 48 = .ok (.iaload, 1) := by decide +kernel
theorem dX9_member_49 : decode cX9_member 49 = .ok (.ireturn, 1) := by decide +kernel
theorem dX9_member_50 : decode cX9_member 50 = .ok (.aload_n 0, 1) := by decide +kernel
theorem dX9_member_51 : decode cX9_member 51 = .ok (.getfield 19, 3) := by decide +kernel
theorem dX9_member_54 : decode cX9_member 54 = .ok (.getfield 135, 3) := by decide +kernel
theorem dX9_member_57 : decode cX9_member 57 = .ok (.iload_n 1, 1) := by decide +kernel
theorem dX9_member_58 : decode cX9_member 58 = .ok (.iaload, 1) := by decide +kernel
theorem dX9_member_59 : decode cX9_member 59 = .ok (.ireturn, 1) := by decide +kernel
theorem dX9_member_60 : decode cX9_member 60 = .ok (.aload_n 0, 1) := by decide +kernel
theorem dX9_member_61 : decode cX9_member 61 = .ok (.getfield 19, 3) := by decide +kernel
theorem dX9_member_64 : decode cX9_member 64 = .ok (.getfield 138, 3) := by decide +kernel
theorem dX9_member_67 : decode cX9_member 67 = .ok (.iload_n 1, 1) := by decide +kernel
theorem dX9_member_68 : decode cX9_member 68 = .ok (.iaload, 1) := by decide +kernel
theorem dX9_member_69 : decode cX9_member 69 = .ok (.ireturn, 1) := by decide +kernel
theorem dX9_member_70 : decode cX9_member 70 = .ok (.bipush (-2), 2) := by decide +kernel
theorem dX9_member_72 : decode cX9_member 72 = .ok (.ireturn, 1) := by decide +kernel
theorem dX9_more_0 : decode cX9_more 0 = .ok (.aload_n 0, 1) := by decide +kernel
theorem dX9_more_1 : decode cX9_more 1 = .ok (.getfield 19, 3) := by decide +kernel
theorem dX9_more_4 : decode cX9_more 4 = .ok (.invokevirtual 141, 3) := by decide +kernel
theorem dX9_more_7 : decode cX9_more 7 = .ok (.ifCond .eq 8, 3) := by decide +kernel
theorem dX9_more_10 : decode cX9_more 10 = .ok (.bipush (-2), 2) := by decide +kernel
theorem dX9_more_12 : decode cX9_more 12 = .ok (.goto 24, 3) := by decide +kernel
theorem dX9_more_15 : decode cX9_more 15 = .ok (.aload_n 0, 1) := by decide +kernel
theorem dX9_more_16 : decode cX9_more 16 = .ok (.aload_n 0, 1) := by decide +kernel
theorem dX9_more_17 : decode cX9_more 17 = .ok (.getfield 19, 3) := by decide +kernel
theorem dX9_more_20 : decode cX9_more 20 = .ok (.invokevirtual 232, 3) := by decide +kernel
theorem dX9_more_23 : decode cX9_more 23 = .ok (.aload_n 0, 1) := by decide +kernel
theorem dX9_more_24 : decode cX9_more 24 = .ok (.getfield 19, 3) := by decide +kernel
theorem dX9_more_27 : decode cX9_more 27 = .ok (.getfield 144, 3) := by decide +kernel
theorem dX9_more_30 : decode cX9_more 30 = .ok (.iconst (-1), 1) := by decide +kernel
theorem dX9_more_31 : decode cX9_more 31 = .ok (.ixor, 1) := by decide +kernel
theorem dX9_more_32 : decode cX9_more 32 = .ok (.iand, 1) := by decide +kernel
theorem dX9_more_33 : decode cX9_more 33 = .ok (.invokevirtual 265, 3) := by decide +kernel
theorem dX9_more_36 : decode cX9_more 36 = .ok (.ireturn, 1) := by decide +kernel
theorem dX9_most_0 : decode cX9_most 0 = .ok (.aload_n 0, 1) := by decide +kernel
theorem dX9_most_1 : decode cX9_most 1 = .ok (.getfield 19, 3) := by decide +kernel
theorem dX9_most_4 : decode cX9_most 4 = .ok (.invokevirtual 141, 3) := by decide +kernel
theorem dX9_most_7 : decode cX9_most 7 = .ok (.ifCond .ne 10, 3) := by decide +kernel
theorem dX9_most_10 : decode cX9_most 10 = .ok (.iload_n 1, 1) := by decide +kernel
theorem dX9_most_11 : decode cX9_most 11 = .ok (.invokestatic 253, 3) := by decide +kernel
theorem dX9_most_14 : decode cX9_most 14 = .ok (.ifCond .ne 6, 3) := by decide +kernel
theorem dX9_most_17 : decode cX9_most 17 = .ok (.bipush (-2), 2) := by decide +kernel
theorem dX9_most_19 : decode cX9_most 19 = .ok (.ireturn, 1) := by decide +kernel
theorem dX9_most_20 : decode cX9_most 20 = .ok (.aload_n 0, 1) := by decide +kernel
theorem dX9_most_21 : decode cX9_most 21 = .ok (.getfield 56, 3) := by decide +kernel
theorem dX9_most_24 : decode cX9_most 24 = .ok (.invokevirtual 241, 3) := by decide +kernel
theorem dX9_most_27 : decode cX9_most 27 = .ok (.aload_n 0, 1) := by decide +kernel
theorem dX9_most_28 : decode cX9_most 28 = .ok (.getfield 56, 3) := by decide +kernel
theorem dX9_most_31 : decode cX9_most 31 = .ok (.iload_n 1, 1) := by decide +kernel
theorem dX9_most_32 : decode cX9_most 32 = .ok (.invokevirtual 262, 3) := by decide +kernel
theorem dX9_most_35 : decode cX9_most 35 = .ok (.ireturn, 1) := by decide +kernel
theorem dX9_near_0 : decode cX9_near 0 = .ok (.aload_n 0, 1) := by decide +kernel
theorem dX9_near_1 : decode cX9_near 1 = .ok (.getfield 19, 3) := by decide +kernel
theorem dX9_near_4 : decode cX9_near 4 = .ok (.iload_n 1, 1) := by decide +kernel
theorem dX9_near_5 : decode cX9_near 5 = .ok (.invokevirtual 130, 3) := by decide +kernel
theorem dX9_near_8 : decode cX9_near 8 = .ok (.ifCond .ne 6, 3) := by decide +kernel
theorem dX9_near_11 : decode cX9_near 11 = .ok (.bipush (-2), 2) := by decide +kernel
theorem dX9_near_13 : decode cX9_near 13 = .ok (.ireturn, 1) := by decide +kernel
theorem dX9_near_14 : decode cX9_near 14 = .ok (.aload_n 0, 1) := by decide +kernel
theorem dX9_near_15 : decode cX9_near 15 = .ok (.aload_n 0, 1) := by decide +kernel
theorem dX9_near_16 : decode cX9_near 16 = .ok (.getfield 19, 3) := by decide +kernel
theorem dX9_near_19 : decode cX9_near 19 = .ok (.iload_n 1, 1) := by decide +kernel
theorem dX9_near_20 : decode cX9_near 20 = .ok (.invokevirtual 180, 3) := by decide +kernel
theorem dX9_near_23 : decode cX9_near 23 = .ok (.invokevirtual 173, 3) := by decide +kernel
theorem dX9_near_26 : decode cX9_near 26 = .ok (.ireturn, 1) := by decide +kernel
theorem dX9_odds_0 : decode cX9_odds 0 = .ok (.aload_n 0, 1) := by decide +kernel
theorem dX9_odds_1 : decode cX9_odds 1 = .ok (.getfield 19, 3) := by decide +kernel
theorem dX9_odds_4 : decode cX9_odds 4 = .ok (.iload_n 2, 1) := by decide +kernel
theorem dX9_odds_5 : decode cX9_odds 5 = .ok (.invokevirtual 130, 3) := by decide +kernel
theorem dX9_odds_8 : decode cX9_odds 8 = .ok (.ifCond .eq 10, 3) := by decide +kernel
theorem dX9_odds_11 : decode cX9_odds 11 = .ok (.iload_n 3, 1) := by decide +kernel
theorem dX9_odds_12 : decode cX9_odds 12 = .ok (.invokestatic 293, 3) := by decide +kernel
theorem dX9_odds_15 : decode cX9_odds 15 = .ok (.ifCond .ne 6, 3) := by decide +kernel
theorem dX9_odds_18 : decode cX9_odds 18 = .ok (.bipush (-2), 2) := by decide +kernel
theorem dX9_odds_20 : decode cX9_odds 20 = .ok (.ireturn, 1) := by decide +kernel
theorem dX9_odds_21 : decode cX9_odds 21 = .ok (.aload_n 0, 1) := by decide +kernel
theorem dX9_odds_22 : decode cX9_odds 22 = .ok (.iload_n 1, 1) := by decide +kernel
theorem dX9_odds_23 : decode cX9_odds 23 = .ok (.invokevirtual 278, 3) := by decide +kernel
theorem dX9_odds_26 : decode cX9_odds 26 = .ok (.istore 4, 2) := by decide +kernel
theorem dX9_odds_28 : decode cX9_odds 28 = .ok (.iload 4, 2) := by decide +kernel
theorem dX9_odds_30 : decode cX9_odds 30 = .ok (.ifCond .eq 6, 3) := by decide +kernel
theorem dX9_odds_33 : decode cX9_odds 33 = .ok (.iload 4, 2) := by decide +kernel
theorem dX9_odds_35 : decode cX9_odds 35 = .ok (.ireturn, 1) := by decide +kernel
theorem dX9_odds_36 : decode cX9_odds 36 = .ok (.aload_n 0, 1) := by decide +kernel
theorem dX9_odds_37 : decode cX9_odds 37 = .ok (.getfield 63, 3) := by decide +kernel
theorem dX9_odds_40 : decode cX9_odds 40 = .ok (.aload_n 0, 1) := by decide +kernel
theorem dX9_odds_41 : decode cX9_odds 41 = .ok (.getfield 38, 3) := by decide +kernel
theorem dX9_odds_44 : decode cX9_odds 44 = .ok (.iload_n 1, 1) := by decide +kernel
theorem dX9_odds_45 : decode cX9_odds 45 = .ok (.aaload, 1) := by decide +kernel
theorem dX9_odds_46 : decode cX9_odds 46 = .ok (.invokevirtual 281, 3) := by decide +kernel
theorem dX9_odds_49 : decode cX9_odds 49 = .ok (.istore 5, 2) := by decide +kernel
theorem dX9_odds_51 : decode cX9_odds 51 = .ok (.iload 5, 2) := by decide +kernel
theorem dX9_odds_53 : decode cX9_odds 53 = .ok (.ifCond .ne 7, 3) := by decide +kernel
theorem dX9_odds_56 : decode cX9_odds 56 = .ok (.iconst (-1), 1) := by decide +kernel
theorem dX9_odds_57 : decode cX9_odds 57 = .ok (.goto 17, 3) := by decide +kernel
theorem dX9_odds_60 : decode cX9_odds 60 = .ok (.aload_n 0, 1) := by decide +kernel
theorem dX9_odds_61 : decode cX9_odds 61 = .ok (.getfield 63, 3) := by decide +kernel
theorem dX9_odds_64 : decode cX9_odds 64 = .ok (.iload_n 2, 1) := by decide +kernel
theorem dX9_odds_65 : decode cX9_odds 65 = .ok (.invokevirtual 296, 3) := by decide +kernel
theorem dX9_odds_68 : decode cX9_odds 68 = .ok (.iload 5, 2) := by decide +kernel
theorem dX9_odds_70 : decode cX9_odds 70 = .ok (.iload_n 3, 1) := by decide +kernel
theorem dX9_odds_71 : decode cX9_odds 71 = .ok (.invokestatic 299, 3) := by decide +kernel
theorem dX9_odds_74 : decode cX9_odds 74 = .ok (.ireturn, 1) := by decide +kernel
theorem dX9_out_0 : decode cX9_out 0 = .ok (.aload_n 0, 1) := by decide +kernel
theorem dX9_out_1 : decode cX9_out 1 = .ok (.getfield 19, 3) := by decide +kernel
theorem dX9_out_4 : decode cX9_out 4 = .ok (.iload_n 1, 1) := by decide +kernel
theorem dX9_out_5 : decode cX9_out 5 = .ok (.invokevirtual 116, 3) := by decide +kernel
theorem dX9_out_8 : decode cX9_out 8 = .ok (.ifCond .ne 6, 3) := by decide +kernel
theorem dX9_out_11 : decode cX9_out 11 = .ok (.bipush (-2), 2) := by decide +kernel
theorem dX9_out_13 : decode cX9_out 13 = .ok (.ireturn, 1) := by decide +kernel
theorem dX9_out_14 : decode cX9_out 14 = .ok (.aload_n 0, 1) := by decide +kernel
theorem dX9_out_15 : decode cX9_out 15 = .ok (.iload_n 1, 1) := by decide +kernel
theorem dX9_out_16 : decode cX9_out 16 = .ok (.invokevirtual 150, 3) := by decide +kernel
theorem dX9_out_19 : decode cX9_out 19 = .ok (.aload_n 0, 1) := by decide +kernel
theorem dX9_out_20 : decode cX9_out 20 = .ok (.getfield 47, 3) := by decide +kernel
theorem dX9_out_23 : decode cX9_out 23 = .ok (.invokevirtual 160, 3) := by decide +kernel
theorem dX9_out_26 : decode cX9_out 26 = .ok (.ireturn, 1) := by decide +kernel
theorem dX9_over_0 : decode cX9_over 0 = .ok (.aload_n 0, 1) := by decide +kernel
theorem dX9_over_1 : decode cX9_over 1 = .ok (.getfield 19, 3) := by decide +kernel
theorem dX9_over_4 : decode cX9_over 4 = .ok (.iload_n 1, 1) := by decide +kernel
theorem dX9_over_5 : decode cX9_over 5 = .ok (.invokevirtual 170, 3) := by decide +kernel
theorem dX9_over_8 : decode cX9_over 8 = .ok (.ifCond .ne 6, 3) := by decide +kernel
theorem dX9_over_11 : decode cX9_over 11 = .ok (.bipush (-2), 2) := by decide +kernel
theorem dX9_over_13 : decode cX9_over 13 = .ok (.ireturn, 1) := by decide +kernel
theorem dX9_over_14 : decode cX9_over 14 = .ok (.aload_n 0, 1) := by decide +kernel
theorem dX9_over_15 : decode cX9_over 15 = .ok (.iconst 1, 1) := by decide +kernel
theorem dX9_over_16 : decode cX9_over 16 = .ok (.iload_n 1, 1) := by decide +kernel
theorem dX9_over_17 : decode cX9_over 17 = .ok (.ishl, 1) := by decide +kernel
theorem dX9_over_18 : decode cX9_over 18 = .ok (.invokevirtual 173, 3) := by decide +kernel
theorem dX9_over_21 : decode cX9_over 21 = .ok (.ireturn, 1) := by decide +kernel
theorem dX9_passNow_0 : decode cX9_passNow 0 = .ok (.aload_n 0, 1) := by decide +kernel
theorem dX9_passNow_1 : decode cX9_passNow 1 = .ok (.getfield 47, 3) := by decide +kernel
theorem dX9_passNow_4 : decode cX9_passNow 4 = .ok (.aload_n 0, 1) := by decide +kernel
theorem dX9_passNow_5 : decode cX9_passNow 5 = .ok (.getfield 19, 3) := by decide +kernel
theorem dX9_passNow_8 : decode cX9_passNow 8 = .ok (.getfield 144, 3) := by decide +kernel
theorem dX9_passNow_11 : decode cX9_passNow 11 = .ok (.aload_n 0, 1) := by decide +kernel
theorem dX9_passNow_12 : decode cX9_passNow 12 = .ok (.getfield 19, 3) := by decide +kernel
theorem dX9_passNow_15 : decode cX9_passNow 15 = .ok (.getfield 195, 3) := by decide +kernel
theorem dX9_passNow_18 : decode cX9_passNow 18 = .ok (.invokevirtual 430, 3) := by decide +kernel
theorem dX9_passNow_21 : decode cX9_passNow 21 = .ok (.aload_n 0, 1) := by decide +kernel
theorem dX9_passNow_22 : decode cX9_passNow 22 = .ok (.getfield 47, 3) := by decide +kernel
theorem dX9_passNow_25 : decode cX9_passNow 25 = .ok (.bipush 15, 2) := by decide +kernel
theorem dX9_passNow_27 : decode cX9_passNow 27 = .ok (.invokevirtual 436, 3) := by decide +kernel
theorem dX9_passNow_30 : decode cX9_passNow 30 = .ok (.return_, 1) := by decide +kernel
theorem dX9_paste_0 : decode cX9_paste 0 = .ok (.iload_n 1, 1) := by decide +kernel
theorem dX9_paste_1 : decode cX9_paste 1 = .ok (.invokestatic 395, 3) := by decide +kernel
theorem dX9_paste_4 : decode cX9_paste 4 = .ok (.ifCond .eq 10, 3) := by decide +kernel
theorem dX9_paste_7 : decode cX9_paste 7 = .ok (.iload_n 3, 1) := by decide +kernel
theorem dX9_paste_8 : decode cX9_paste 8 = .ok (.invokestatic 395, 3) := by decide +kernel
theorem dX9_paste_11 : decode cX9_paste 11 = .ok (.ifCond .ne 6, 3) := by decide +kernel
theorem dX9_paste_14 : decode cX9_paste 14 = .ok (.bipush (-2), 2) := by decide +kernel
theorem dX9_paste_16 : decode cX9_paste 16 = .ok (.ireturn, 1) := by decide +kernel
theorem dX9_paste_17 : decode cX9_paste 17 = .ok (.aload_n 0, 1) := by decide +kernel
theorem dX9_paste_18 : decode cX9_paste 18 = .ok (.getfield 38, 3) := by decide +kernel
theorem dX9_paste_21 : decode cX9_paste 21 = .ok (.iload_n 1, 1) := by decide +kernel
theorem dX9_paste_22 : decode cX9_paste 22 = .ok (.aaload, 1) := by decide +kernel
theorem dX9_paste_23 : decode cX9_paste 23 = .ok (.astore 6, 2) := by decide +kernel
theorem dX9_paste_25 : decode cX9_paste 25 = .ok (.aload_n 0, 1) := by decide +kernel
theorem dX9_paste_26 : decode cX9_paste 26 = .ok (.getfield 38, 3) := by decide +kernel
theorem dX9_paste_29 : decode cX9_paste 29 = .ok (.iload_n 3, 1) := by decide +kernel
theorem dX9_paste_30 : decode cX9_paste 30 = .ok (.aaload, 1) := by decide +kernel
theorem dX9_paste_31 : decode cX9_paste 31 = .ok (.astore 7, 2) := by decide +kernel
theorem dX9_paste_33 : decode cX9_paste 33 = .ok (.aload 6, 2) := by decide +kernel
theorem dX9_paste_35 : decode cX9_paste 35 = .ok (.invokevirtual 402, 3) := by decide +kernel
theorem dX9_paste_38 : decode cX9_paste 38 = .ok (.ifCond .ne 11, 3) := by decide +kernel
theorem dX9_paste_41 : decode cX9_paste 41 = .ok (.aload 7, 2) := by decide +kernel
theorem dX9_paste_43 : decode cX9_paste 43 = .ok (.invokevirtual 402, 3) := by decide +kernel
theorem dX9_paste_46 : decode cX9_paste 46 = .ok (.ifCond .eq 6, 3) := by decide +kernel
theorem dX9_paste_49 : decode cX9_paste 49 = .ok (.bipush (-6), 2) := by decide +kernel
theorem dX9_paste_51 : decode cX9_paste 51 = .ok (.ireturn, 1) := by decide +kernel
theorem dX9_paste_52 : decode cX9_paste 52 = .ok (.aload 6, 2) := by decide +kernel
theorem dX9_paste_54 : decode cX9_paste 54 = .ok (.getfield 410, 3) := by decide +kernel
theorem dX9_paste_57 : decode cX9_paste 57 = .ok (.aload 7, 2) := by decide +kernel
theorem dX9_paste_59 : decode cX9_paste 59 = .ok (.getfield 410, 3) := by decide +kernel
theorem dX9_paste_62 : decode cX9_paste 62 = .ok (.if_icmp .eq 6, 3) := by decide +kernel
theorem dX9_paste_65 : decode cX9_paste 65 = .ok (.bipush (-8), 2) := by decide +kernel
theorem dX9_paste_67 : decode cX9_paste 67 = .ok (.ireturn, 1) := by decide +kernel
theorem dX9_paste_68 : decode cX9_paste 68 = .ok (.aload 6, 2) := by decide +kernel
theorem dX9_paste_70 : decode cX9_paste 70 = .ok (.iload_n 2, 1) := by decide +kernel
theorem dX9_paste_71 : decode cX9_paste 71 = .ok (.iload 5, 2) := by decide +kernel
theorem dX9_paste_73 : decode cX9_paste 73 = .ok (.invokevirtual 413, 3) := by decide +kernel
theorem dX9_paste_76 : decode cX9_paste 76 = .ok (.ifCond .eq 15, 3) := by decide +kernel
theorem dX9_paste_79 : decode cX9_paste 79 = .ok (.aload 7, 2) := by decide +kernel
theorem dX9_paste_81 : decode cX9_paste 81 = .ok (.iload 4, 2) := by decide +kernel
theorem dX9_paste_83 : decode cX9_paste 83 = .ok (.iload 5, 2) := by decide +kernel
theorem dX9_paste_85 : decode cX9_paste 85 = .ok (.invokevirtual 413, 3) := by decide +kernel
theorem dX9_paste_88 : decode cX9_paste 88 = .ok (.ifCond .ne 6, 3) := by decide +kernel
theorem dX9_paste_91 : decode cX9_paste 91 = .ok (.bipush (-7), 2) := by decide +kernel
theorem dX9_paste_93 : decode cX9_paste 93 = .ok (.ireturn, 1) := by decide +kernel
theorem dX9_paste_94 : decode cX9_paste 94 = .ok (.aload 6, 2) := by decide +kernel
theorem dX9_paste_96 : decode cX9_paste 96 = .ok (.getfield 416, 3) := by decide +kernel
theorem dX9_paste_99 : decode cX9_paste 99 = .ok (.iload_n 2, 1) := by decide +kernel
theorem dX9_paste_100 : decode cX9_paste 100 = .ok (.aload 7, 2) := by decide +kernel
theorem dX9_paste_102 : decode cX9_paste 102 = .ok (.getfield 416, 3) := by decide +kernel
theorem dX9_paste_105 : decode cX9_paste 105 = .ok (.iload 4, 2) := by decide +kernel
theorem dX9_paste_107 : decode cX9_paste 107 = .ok (.iload 5, 2) := by decide +kernel
theorem dX9_paste_109 : decode cX9_paste 109 = .ok (.invokestatic 420, 3) := by decide +kernel
theorem dX9_paste_112 : decode cX9_paste 112 = .ok (.iconst 0, 1) := by decide +kernel
theorem dX9_paste_113 : decode cX9_paste 113 = .ok (.ireturn, 1) := by decide +kernel
theorem dX9_price_0 : decode cX9_price 0 = .ok (.aload_n 0, 1) := by decide +kernel
theorem dX9_price_1 : decode cX9_price 1 = .ok (.getfield 19, 3) := by decide +kernel
theorem dX9_price_4 : decode cX9_price 4 = .ok (.invokevirtual 141, 3) := by decide +kernel
theorem dX9_price_7 : decode cX9_price 7 = .ok (.ifCond .ne 14, 3) := by decide +kernel
theorem dX9_price_10 : decode cX9_price 10 = .ok (.iload_n 1, 1) := by decide +kernel
theorem dX9_price_11 : decode cX9_price 11 = .ok (.ifCond .lt 10, 3) := by decide +kernel
theorem dX9_price_14 : decode cX9_price 14 = .ok (.iload_n 1, 1) := by decide +kernel
theorem dX9_price_15 : decode cX9_price 15 = .ok (.sipush 999, 3) := by decide +kernel
theorem dX9_price_18 : decode cX9_price 18 = .ok (.if_icmp .le 6, 3) := by decide +kernel
theorem dX9_price_21 : decode cX9_price 21 = .ok (.bipush (-2), 2) := by decide +kernel
theorem dX9_price_23 : decode cX9_price 23 = .ok (.ireturn, 1) := by decide +kernel
theorem dX9_price_24 : decode cX9_price 24 = .ok (.iconst 0, 1) := by decide +kernel
theorem dX9_price_25 : decode cX9_price 25 = .ok (.istore_n 2, 1) := by decide +kernel
theorem dX9_price_26 : decode cX9_price 26 = .ok (.iload_n 2, 1) := by decide +kernel
theorem dX9_price_27 : decode cX9_price 27 = .ok (.sipush 999, 3) := by decide +kernel
theorem dX9_price_30 : decode cX9_price 30 = .ok (.if_icmp .ge 23, 3) := by decide +kernel
theorem dX9_price_33 : decode cX9_price 33 = .ok (.aload_n 0, 1) := by decide +kernel
theorem dX9_price_34 : decode cX9_price 34 = .ok (.getfield 19, 3) := by decide +kernel
theorem dX9_price_37 : decode cX9_price 37 = .ok (.iload_n 2, 1) := by decide +kernel
theorem dX9_price_38 : decode cX9_price 38 = .ok (.invokevirtual 318, 3) := by decide +kernel
theorem dX9_price_41 : decode cX9_price 41 = .ok (.iload_n 1, 1) := by decide +kernel
theorem dX9_price_42 : decode cX9_price 42 = .ok (.if_icmp .gt 5, 3) := by decide +kernel
theorem dX9_price_45 : decode cX9_price 45 = .ok (.iload_n 2, 1) := by decide +kernel
theorem dX9_price_46 : decode cX9_price 46 = .ok (.ireturn, 1) := by decide +kernel
theorem dX9_price_47 : decode cX9_price 47 = .ok (.iinc 2 1, 3) := by decide +kernel
theorem dX9_price_50 : decode cX9_price 50 = .ok (.goto (-24), 3) := by decide +kernel
theorem dX9_price_53 : decode cX9_price 53 = .ok (.sipush 999, 3) := by decide +kernel
theorem dX9_price_56 : decode cX9_price 56 = .ok (.ireturn, 1) := by decide +kernel
theorem dX9_quiet_0 : decode cX9_quiet 0 = .ok (.aload_n 0, 1) := by decide +kernel
theorem dX9_quiet_1 : decode cX9_quiet 1 = .ok (.getfield 19, 3) := by decide +kernel
theorem dX9_quiet_4 : decode cX9_quiet 4 = .ok (.invokevirtual 141, 3) := by decide +kernel
theorem dX9_quiet_7 : decode cX9_quiet 7 = .ok (.ifCond .eq 6, 3) := by decide +kernel
theorem dX9_quiet_10 : decode cX9_quiet 10 = .ok (.bipush (-2), 2) := by decide +kernel
theorem dX9_quiet_12 : decode cX9_quiet 12 = .ok (.ireturn, 1) := by decide +kernel
theorem dX9_quiet_13 : decode cX9_quiet 13 = .ok (.aload_n 0, 1) := by decide +kernel
theorem dX9_quiet_14 : decode cX9_quiet 14 = .ok (.invokevirtual 186, 3) := by decide +kernel
theorem dX9_quiet_17 : decode cX9_quiet 17 = .ok (.iconst 0, 1) := by decide +kernel
theorem dX9_quiet_18 : decode cX9_quiet 18 = .ok (.istore_n 1, 1) := by decide +kernel
theorem dX9_quiet_19 : decode cX9_quiet 19 = .ok (.iconst 0, 1) := by decide +kernel
theorem dX9_quiet_20 : decode cX9_quiet 20 = .ok (.istore_n 2, 1) := by decide +kernel
theorem dX9_quiet_21 : decode cX9_quiet 21 = .ok (.iload_n 2, 1) := by decide +kernel
theorem dX9_quiet_22 : decode cX9_quiet 22 = .ok (.aload_n 0, 1) := by decide +kernel
theorem dX9_quiet_23 : decode cX9_quiet 23 = .ok (.getfield 19, 3) := by decide +kernel
theorem dX9_quiet_26 : decode cX9_quiet 26 = .ok (.invokevirtual 192, 3) := by decide +kernel
theorem dX9_quiet_29 : decode cX9_quiet 29 = .ok (.if_icmp .ge 26, 3) := by decide +kernel
theorem dX9_quiet_32 : decode cX9_quiet 32 = .ok (.aload_n 0, 1) := by decide +kernel
theorem dX9_quiet_33 : decode cX9_quiet 33 = .ok (.getfield 47, 3) := by decide +kernel
theorem dX9_quiet_36 : decode cX9_quiet 36 = .ok (.iload_n 2, 1) := by decide +kernel
theorem dX9_quiet_37 : decode cX9_quiet 37 = .ok (.invokevirtual 189, 3) := by decide +kernel
theorem dX9_quiet_40 : decode cX9_quiet 40 = .ok (.ifCond .ne 9, 3) := by decide +kernel
theorem dX9_quiet_43 : decode cX9_quiet 43 = .ok (.iload_n 1, 1) := by decide +kernel
theorem dX9_quiet_44 : decode cX9_quiet 44 = .ok (.iconst 1, 1) := by decide +kernel
theorem dX9_quiet_45 : decode cX9_quiet 45 = .ok (.iload_n 2, 1) := by decide +kernel
theorem dX9_quiet_46 : decode cX9_quiet 46 = .ok (.ishl, 1) := by decide +kernel
theorem dX9_quiet_47 : decode cX9_quiet 47 = .ok (.ior, 1) := by decide +kernel
theorem dX9_quiet_48 : decode cX9_quiet 48 = .ok (.istore_n 1, 1) := by decide +kernel
theorem dX9_quiet_49 : decode cX9_quiet 49 = .ok (.iinc 2 1, 3) := by decide +kernel
theorem dX9_quiet_52 : decode cX9_quiet 52 = .ok (.goto (-31), 3) := by decide +kernel
theorem dX9_quiet_55 : decode cX9_quiet 55 = .ok (.iload_n 1, 1) := by decide +kernel
theorem dX9_quiet_56 : decode cX9_quiet 56 = .ok (.ireturn, 1) := by decide +kernel
theorem dX9_rate_0 : decode cX9_rate 0 = .ok (.aload_n 0, 1) := by decide +kernel
theorem dX9_rate_1 : decode cX9_rate 1 = .ok (.getfield 19, 3) := by decide +kernel
theorem dX9_rate_4 : decode cX9_rate 4 = .ok (.iload_n 1, 1) := by decide +kernel
theorem dX9_rate_5 : decode cX9_rate 5 = .ok (.invokevirtual 130, 3) := by decide +kernel
theorem dX9_rate_8 : decode cX9_rate 8 = .ok (.ifCond .eq 13, 3) := by decide +kernel
theorem dX9_rate_11 : decode cX9_rate 11 = .ok (.iload_n 2, 1) := by decide +kernel
theorem dX9_rate_12 : decode cX9_rate 12 = .ok (.ifCond .lt 9, 3) := by decide +kernel
theorem dX9_rate_15 : decode cX9_rate 15 = .ok (.iload_n 2, 1) := by decide +kernel
theorem dX9_rate_16 : decode cX9_rate 16 = .ok (.bipush 99, 2) := by decide +kernel
theorem dX9_rate_18 : decode cX9_rate 18 = .ok (.if_icmp .le 6, 3) := by decide +kernel
theorem dX9_rate_21 : decode cX9_rate 21 = .ok (.bipush (-2), 2) := by decide +kernel
theorem dX9_rate_23 : decode cX9_rate 23 = .ok (.ireturn, 1) := by decide +kernel
theorem dX9_rate_24 : decode cX9_rate 24 = .ok (.aload_n 0, 1) := by decide +kernel
theorem dX9_rate_25 : decode cX9_rate 25 = .ok (.getfield 19, 3) := by decide +kernel
theorem dX9_rate_28 : decode cX9_rate 28 = .ok (.getfield 359, 3) := by decide +kernel
theorem dX9_rate_31 : decode cX9_rate 31 = .ok (.ifCond .le 6, 3) := by decide +kernel
theorem dX9_rate_34 : decode cX9_rate 34 = .ok (.bipush (-5), 2) := by decide +kernel
theorem dX9_rate_36 : decode cX9_rate 36 = .ok (.ireturn, 1) := by decide +kernel
theorem dX9_rate_37 : decode cX9_rate 37 = .ok (.aload_n 0, 1) := by decide +kernel
theorem dX9_rate_38 : decode cX9_rate 38 = .ok (.getfield 19, 3) := by decide +kernel
theorem dX9_rate_41 : decode cX9_rate 41 = .ok (.getfield 138, 3) := by decide +kernel
theorem dX9_rate_44 : decode cX9_rate 44 = .ok (.iload_n 1, 1) := by decide +kernel
theorem dX9_rate_45 : decode cX9_rate 45 = .ok (.iaload, 1) := by decide +kernel
theorem dX9_rate_46 : decode cX9_rate 46 = .ok (.istore_n 3, 1) := by decide +kernel
theorem dX9_rate_47 : decode cX9_rate 47 = .ok (.aload_n 0, 1) := by decide +kernel
theorem dX9_rate_48 : decode cX9_rate 48 = .ok (.getfield 19, 3) := by decide +kernel
theorem dX9_rate_51 : decode cX9_rate 51 = .ok (.getfield 138, 3) := by decide +kernel
theorem dX9_rate_54 : decode cX9_rate 54 = .ok (.iload_n 1, 1) := by decide +kernel
theorem dX9_rate_55 : decode cX9_rate 55 = .ok (.iload_n 2, 1) := by decide +kernel
theorem dX9_rate_56 : decode cX9_rate 56 = .ok (.iastore, 1) := by decide +kernel
theorem dX9_rate_57 : decode cX9_rate 57 = .ok (.iload_n 3, 1) := by decide +kernel
theorem dX9_rate_58 : decode cX9_rate 58 = .ok (.ireturn, 1) := by decide +kernel
theorem dX9_reportRefusal_0 : decode cX9_reportRefusal 0 = .ok (.aload_n 0, 1) := by decide +kernel
theorem dX9_reportRefusal_1 : decode cX9_reportRefusal 1 = .ok (.iload_n 1, 1) := by decide +kernel
theorem dX9_reportRefusal_2 : decode cX9_reportRefusal 2 = .ok (.invokevirtual 445, 3) := by decide +kernel
theorem dX9_reportRefusal_5 : decode cX9_reportRefusal 5 = .ok (.istore_n 2, 1) := by decide +kernel
theorem dX9_reportRefusal_6 : decode cX9_reportRefusal 6 = .ok (.iload_n 2, 1) := by decide +kernel
theorem dX9_reportRefusal_7 : decode cX9_reportRefusal 7 = .ok (.ifCond .eq 5, 3) := by decide +kernel
theorem dX9_reportRefusal_10 : decode cX9_reportRefusal 10 = .ok (.iload_n 2, 1) := by decide +kernel
theorem dX9_reportRefusal_11 : decode cX9_reportRefusal 11 = .ok (.ireturn, 1) := by decide +kernel
theorem dX9_reportRefusal_12 : decode cX9_reportRefusal 12 = .ok (.aload_n 0, 1) := by decide +kernel
theorem dX9_reportRefusal_13 : decode cX9_reportRefusal 13 = .ok (.getfield 63, 3) := by decide +kernel
theorem dX9_reportRefusal_16 : decode cX9_reportRefusal 16 = .ok (.aload_n 0, 1) := by decide +kernel
theorem dX9_reportRefusal_17 : decode cX9_reportRefusal 17 = .ok (.getfield 38, 3) := by decide +kernel
theorem dX9_reportRefusal_20 : decode cX9_reportRefusal 20 = .ok (.iload_n 1, 1) := by decide +kernel
theorem dX9_reportRefusal_21 : decode cX9_reportRefusal 21 = .ok (.aaload, 1) := by decide +kernel
theorem dX9_reportRefusal_22 : decode cX9_reportRefusal 22 = .ok (.invokevirtual 452, 3) := by decide +kernel
theorem dX9_reportRefusal_25 : decode cX9_reportRefusal 25 = .ok (.ifCond .eq 7, 3) := by decide +kernel
theorem dX9_reportRefusal_28 : decode cX9_reportRefusal 28 = .ok (.iconst 0, 1) := by decide +kernel
theorem dX9_reportRefusal_29 : decode cX9_reportRefusal 29 = .ok (.goto 5, 3) := by decide +kernel
theorem dX9_reportRefusal_32 : decode cX9_reportRefusal 32 = .ok (.bipush (-2), 2) := by decide +kernel
theorem dX9_reportRefusal_34 : decode cX9_reportRefusal 34 = .ok (.ireturn, 1) := by decide +kernel
theorem dX9_rests_0 : decode cX9_rests 0 = .ok (.aload_n 0, 1) := by decide +kernel
theorem dX9_rests_1 : decode cX9_rests 1 = .ok (.iload_n 1, 1) := by decide +kernel
theorem dX9_rests_2 : decode cX9_rests 2 = .ok (.iload_n 2, 1) := by decide +kernel
theorem dX9_rests_3 : decode cX9_rests 3 = .ok (.invokevirtual 333, 3) := by decide +kernel
theorem dX9_rests_6 : decode cX9_rests 6 = .ok (.ifCond .ne 6, 3) := by decide +kernel
theorem dX9_rests_9 : decode cX9_rests 9 = .ok (.bipush (-2), 2) := by decide +kernel
theorem dX9_rests_11 : decode cX9_rests 11 = .ok (.ireturn, 1) := by decide +kernel
theorem dX9_rests_12 : decode cX9_rests 12 = .ok (.iconst 0, 1) := by decide +kernel
theorem dX9_rests_13 : decode cX9_rests 13 = .ok (.istore_n 3, 1) := by decide +kernel
theorem dX9_rests_14 : decode cX9_rests 14 = .ok (.iconst 0, 1) := by decide +kernel
theorem dX9_rests_15 : decode cX9_rests 15 = .ok (.istore 4, 2) := by decide +kernel
theorem dX9_rests_17 : decode cX9_rests 17 = .ok (.iload 4, 2) := by decide +kernel
theorem dX9_rests_19 : decode cX9_rests 19 = .ok (.iconst 2, 1) := by decide +kernel
theorem dX9_rests_20 : decode cX9_rests 20 = .ok (.if_icmp .ge 49, 3) := by decide +kernel
theorem dX9_rests_23 : decode cX9_rests 23 = .ok (.iconst 0, 1) := by decide +kernel
theorem dX9_rests_24 : decode cX9_rests 24 = .ok (.istore 5, 2) := by decide +kernel
theorem dX9_rests_26 : decode cX9_rests 26 = .ok (.iload 5, 2) := by decide +kernel
theorem dX9_rests_28 : decode cX9_rests 28 = .ok (.iconst 2, 1) := by decide +kernel
theorem dX9_rests_29 : decode cX9_rests 29 = .ok (.if_icmp .ge 34, 3) := by decide +kernel
theorem dX9_rests_32 : decode cX9_rests 32 = .ok (.aload_n 0, 1) := by decide +kernel
theorem dX9_rests_33 : decode cX9_rests 33 = .ok (.iload_n 1, 1) := by decide +kernel
theorem dX9_rests_34 : decode cX9_rests 34 = .ok (.iload_n 2, 1) := by decide +kernel
theorem dX9_rests_35 : decode cX9_rests 35 = .ok (.iload 4, 2) := by decide +kernel
theorem dX9_rests_37 : decode cX9_rests 37 = .ok (.iload 5, 2) := by decide +kernel
theorem dX9_rests_39 : decode cX9_rests 39 = .ok (.invokevirtual 336, 3) := by decide +kernel
theorem dX9_rests_42 : decode cX9_rests 42 = .ok (.ifCond .eq 15, 3) := by decide +kernel
theorem dX9_rests_45 : decode cX9_rests 45 = .ok (.iload_n 3, 1) := by decide +kernel
theorem dX9_rests_46 : decode cX9_rests 46 = .ok (.iconst 1, 1) := by decide +kernel
theorem dX9_rests_47 : decode cX9_rests 47 = .ok (.iload 4, 2) := by decide +kernel
theorem dX9_rests_49 : decode cX9_rests 49 = .ok (.iconst 2, 1) := by decide +kernel
theorem dX9_rests_50 : decode cX9_rests 50 = .ok (.iload 5, 2) := by decide +kernel
theorem dX9_rests_52 : decode cX9_rests 52 = .ok (.imul, 1) := by decide +kernel
theorem dX9_rests_53 : decode cX9_rests 53 = .ok (.iadd, 1) := by decide +kernel
theorem dX9_rests_54 : decode cX9_rests 54 = .ok (.ishl, 1) := by decide +kernel
theorem dX9_rests_55 : decode cX9_rests 55 = .ok (.ior, 1) := by decide +kernel
theorem dX9_rests_56 : decode cX9_rests 56 = .ok (.istore_n 3, 1) := by decide +kernel
theorem dX9_rests_57 : decode cX9_rests 57 = .ok (.iinc 5 1, 3) := by decide +kernel
theorem dX9_rests_60 : decode cX9_rests 60 = .ok (.goto (-34), 3) := by decide +kernel
theorem dX9_rests_63 : decode cX9_rests 63 = .ok (.iinc 4 1, 3) := by decide +kernel
theorem dX9_rests_66 : decode cX9_rests 66 = .ok (.goto (-49), 3) := by decide +kernel
theorem dX9_rests_69 : decode cX9_rests 69 = .ok (.iload_n 3, 1) := by decide +kernel
theorem dX9_rests_70 : decode cX9_rests 70 = .ok (.ireturn, 1) := by decide +kernel
theorem dX9_row_0 : decode cX9_row 0 = .ok (.iload_n 1, 1) := by decide +kernel
theorem dX9_row_1 : decode cX9_row 1 = .ok (.invokestatic 395, 3) := by decide +kernel
theorem dX9_row_4 : decode cX9_row 4 = .ok (.ifCond .eq 18, 3) := by decide +kernel
theorem dX9_row_7 : decode cX9_row 7 = .ok (.iload_n 2, 1) := by decide +kernel
theorem dX9_row_8 : decode cX9_row 8 = .ok (.ifCond .lt 14, 3) := by decide +kernel
theorem dX9_row_11 : decode cX9_row 11 = .ok (.iload_n 2, 1) := by decide +kernel
theorem dX9_row_12 : decode cX9_row 12 = .ok (.iconst 4, 1) := by decide +kernel
theorem dX9_row_13 : decode cX9_row 13 = .ok (.if_icmp .ge 9, 3) := by decide +kernel
theorem dX9_row_16 : decode cX9_row 16 = .ok (.iload_n 3, 1) := by decide +kernel
theorem dX9_row_17 : decode cX9_row 17 = .ok (.bipush 60, 2) := by decide +kernel
theorem dX9_row_19 : decode cX9_row 19 = .ok (.if_icmp .le 6, 3) := by decide +kernel
theorem dX9_row_22 : decode cX9_row 22 = .ok (.bipush (-2), 2) := by decide +kernel
theorem dX9_row_24 : decode cX9_row 24 = .ok (.ireturn, 1) := by decide +kernel
theorem dX9_row_25 : decode cX9_row 25 = .ok (.iload_n 3, 1) := by decide +kernel
theorem dX9_row_26 : decode cX9_row 26 = .ok (.ifCond .ge 6, 3) := by decide +kernel
theorem dX9_row_29 : decode cX9_row 29 = .ok (.bipush (-3), 2) := by decide +kernel
theorem dX9_row_31 : decode cX9_row 31 = .ok (.ireturn, 1) := by decide +kernel
theorem dX9_row_32 : decode cX9_row 32 = .ok (.aload_n 0, 1) := by decide +kernel
theorem dX9_row_33 : decode cX9_row 33 = .ok (.getfield 38, 3) := by decide +kernel
theorem dX9_row_36 : decode cX9_row 36 = .ok (.iload_n 1, 1) := by decide +kernel
theorem dX9_row_37 : decode cX9_row 37 = .ok (.aaload, 1) := by decide +kernel
theorem dX9_row_38 : decode cX9_row 38 = .ok (.iload_n 2, 1) := by decide +kernel
theorem dX9_row_39 : decode cX9_row 39 = .ok (.iload_n 3, 1) := by decide +kernel
theorem dX9_row_40 : decode cX9_row 40 = .ok (.invokevirtual 398, 3) := by decide +kernel
theorem dX9_row_43 : decode cX9_row 43 = .ok (.iconst 0, 1) := by decide +kernel
theorem dX9_row_44 : decode cX9_row 44 = .ok (.ireturn, 1) := by decide +kernel
theorem dX9_rowRefusal_0 : decode cX9_rowRefusal 0 = .ok (.iload_n 1, 1) := by decide +kernel
theorem dX9_rowRefusal_1 : decode cX9_rowRefusal 1 = .ok (.invokestatic 395, 3) := by decide +kernel
theorem dX9_rowRefusal_4 : decode cX9_rowRefusal 4 = .ok (.ifCond .eq 13, 3) := by decide +kernel
theorem dX9_rowRefusal_7 : decode cX9_rowRefusal 7 = .ok (.aload_n 0, 1) := by decide +kernel
theorem dX9_rowRefusal_8 : decode cX9_rowRefusal 8 = .ok (.getfield 19, 3) := by decide +kernel
theorem dX9_rowRefusal_11 : decode cX9_rowRefusal 11 = .ok (.invokevirtual 141, 3) := by decide +kernel
theorem dX9_rowRefusal_14 : decode cX9_rowRefusal 14 = .ok (.ifCond .eq 6, 3) := by decide +kernel
theorem dX9_rowRefusal_17 : decode cX9_rowRefusal 17 = .ok (.bipush (-2), 2) := by decide +kernel
theorem dX9_rowRefusal_19 : decode cX9_rowRefusal 19 = .ok (.ireturn, 1) := by decide +kernel
theorem dX9_rowRefusal_20 : decode cX9_rowRefusal 20 = .ok (.aload_n 0, 1) := by decide +kernel
theorem dX9_rowRefusal_21 : decode cX9_rowRefusal 21 = .ok (.getfield 38, 3) := by decide +kernel
theorem dX9_rowRefusal_24 : decode cX9_rowRefusal 24 = .ok (.iload_n 1, 1) := by decide +kernel
theorem dX9_rowRefusal_25 : decode cX9_rowRefusal 25 = .ok (.aaload, 1) := by decide +kernel
theorem dX9_rowRefusal_26 : decode cX9_rowRefusal 26 = .ok (.invokevirtual 402, 3) := by decide +kernel
theorem dX9_rowRefusal_29 : decode cX9_rowRefusal 29 = .ok (.ifCond .eq 8, 3) := by decide +kernel
theorem dX9_rowRefusal_32 : decode cX9_rowRefusal 32 = .ok (.bipush (-6), 2) := by decide +kernel
theorem dX9_rowRefusal_34 : decode cX9_rowRefusal 34 = .ok (.goto 4, 3) := by decide +kernel
theorem dX9_rowRefusal_37 : decode cX9_rowRefusal 37 = .ok (.iconst 0, 1) := by decide +kernel
theorem dX9_rowRefusal_38 : decode cX9_rowRefusal 38 = .ok (.ireturn, 1) := by decide +kernel
theorem dX9_rowsHad_0 : decode cX9_rowsHad 0 = .ok (.iconst 0, 1) := by decide +kernel
theorem dX9_rowsHad_1 : decode cX9_rowsHad 1 = .ok (.istore_n 1, 1) := by decide +kernel
theorem dX9_rowsHad_2 : decode cX9_rowsHad 2 = .ok (.iconst 0, 1) := by decide +kernel
theorem dX9_rowsHad_3 : decode cX9_rowsHad 3 = .ok (.istore_n 2, 1) := by decide +kernel
theorem dX9_rowsHad_4 : decode cX9_rowsHad 4 = .ok (.iload_n 2, 1) := by decide +kernel
theorem dX9_rowsHad_5 : decode cX9_rowsHad 5 = .ok (.iconst 4, 1) := by decide +kernel
theorem dX9_rowsHad_6 : decode cX9_rowsHad 6 = .ok (.if_icmp .ge 24, 3) := by decide +kernel
theorem dX9_rowsHad_9 : decode cX9_rowsHad 9 = .ok (.aload_n 0, 1) := by decide +kernel
theorem dX9_rowsHad_10 : decode cX9_rowsHad 10 = .ok (.getfield 38, 3) := by decide +kernel
theorem dX9_rowsHad_13 : decode cX9_rowsHad 13 = .ok (.iload_n 2, 1) := by decide +kernel
theorem dX9_rowsHad_14 : decode cX9_rowsHad 14 = .ok (.aaload, 1) := by decide +kernel
theorem dX9_rowsHad_15 : decode cX9_rowsHad 15 = .ok (.invokevirtual 402, 3) := by decide +kernel
theorem dX9_rowsHad_18 : decode cX9_rowsHad 18 = .ok (.ifCond .ne 6, 3) := by decide +kernel
theorem dX9_rowsHad_21 : decode cX9_rowsHad 21 = .ok (.iinc 1 1, 3) := by decide +kernel
theorem dX9_rowsHad_24 : decode cX9_rowsHad 24 = .ok (.iinc 2 1, 3) := by decide +kernel
theorem dX9_rowsHad_27 : decode cX9_rowsHad 27 = .ok (.goto (-23), 3) := by decide +kernel
theorem dX9_rowsHad_30 : decode cX9_rowsHad 30 = .ok (.iload_n 1, 1) := by decide +kernel
theorem dX9_rowsHad_31 : decode cX9_rowsHad 31 = .ok (.ireturn, 1) := by decide +kernel
theorem dX9_served_0 : decode cX9_served 0 = .ok (.aload_n 0, 1) := by decide +kernel
theorem dX9_served_1 : decode cX9_served 1 = .ok (.getfield 19, 3) := by decide +kernel
theorem dX9_served_4 : decode cX9_served 4 = .ok (.invokevirtual 141, 3) := by decide +kernel
theorem dX9_served_7 : decode cX9_served 7 = .ok (.ifCond .eq 8, 3) := by decide +kernel
theorem dX9_served_10 : decode cX9_served 10 = .ok (.bipush (-2), 2) := by decide +kernel
theorem dX9_served_12 : decode cX9_served 12 = .ok (.goto 21, 3) := by decide +kernel
theorem dX9_served_15 : decode cX9_served 15 = .ok (.aload_n 0, 1) := by decide +kernel
theorem dX9_served_16 : decode cX9_served 16 = .ok (.aload_n 0, 1) := by decide +kernel
theorem dX9_served_17 : decode cX9_served 17 = .ok (.getfield 19, 3) := by decide +kernel
theorem dX9_served_20 : decode cX9_served 20 = .ok (.getfield 144, 3) := by decide +kernel
theorem dX9_served_23 : decode cX9_served 23 = .ok (.aload_n 0, 1) := by decide +kernel
theorem dX9_served_24 : decode cX9_served 24 = .ok (.getfield 19, 3) := by decide +kernel
theorem dX9_served_27 : decode cX9_served 27 = .ok (.getfield 195, 3) := by decide +kernel
theorem dX9_served_30 : decode cX9_served 30 = .ok (.invokevirtual 198, 3) := by decide +kernel
theorem dX9_served_33 : decode cX9_served 33 = .ok (.ireturn, 1) := by decide +kernel
theorem dX9_servedUnder_0 : decode cX9_servedUnder 0 = .ok (.aload_n 0, 1) := by decide +kernel
theorem dX9_servedUnder_1 : decode cX9_servedUnder 1 = .ok (.getfield 47, 3) := by decide +kernel
theorem dX9_servedUnder_4 : decode cX9_servedUnder 4 = .ok (.iload_n 1, 1) := by decide +kernel
theorem dX9_servedUnder_5 : decode cX9_servedUnder 5 = .ok (.iload_n 2, 1) := by decide +kernel
theorem dX9_servedUnder_6 : decode cX9_servedUnder 6 = .ok (.invokevirtual 430, 3) := by decide +kernel
theorem dX9_servedUnder_9 : decode cX9_servedUnder 9 = .ok (.aload_n 0, 1) := by decide +kernel
theorem dX9_servedUnder_10 : decode cX9_servedUnder 10 = .ok (.getfield 47, 3) := by decide +kernel
theorem dX9_servedUnder_13 : decode cX9_servedUnder 13 = .ok (.bipush 15, 2) := by decide +kernel
theorem dX9_servedUnder_15 : decode cX9_servedUnder 15 = .ok (.invokevirtual 436, 3) := by decide +kernel
theorem dX9_servedUnder_18 : decode cX9_servedUnder 18 = .ok (.aload_n 0, 1) := by decide +kernel
theorem dX9_servedUnder_19 : decode cX9_servedUnder 19 = .ok (.getfield 47, 3) := by decide +kernel
theorem dX9_servedUnder_22 : decode cX9_servedUnder 22 = .ok (.invokevirtual 439, 3) := by decide +kernel
theorem dX9_servedUnder_25 : decode cX9_servedUnder 25 = .ok (.ireturn, 1) := by decide +kernel
theorem dX9_sightRefusal_0 : decode cX9_sightRefusal 0 = .ok (.aload_n 0, 1) := by decide +kernel
theorem dX9_sightRefusal_1 : decode cX9_sightRefusal 1 = .ok (.iload_n 1, 1) := by decide +kernel
theorem dX9_sightRefusal_2 : decode cX9_sightRefusal 2 = .ok (.invokevirtual 445, 3) := by decide +kernel
theorem dX9_sightRefusal_5 : decode cX9_sightRefusal 5 = .ok (.istore_n 2, 1) := by decide +kernel
theorem dX9_sightRefusal_6 : decode cX9_sightRefusal 6 = .ok (.iload_n 2, 1) := by decide +kernel
theorem dX9_sightRefusal_7 : decode cX9_sightRefusal 7 = .ok (.ifCond .eq 5, 3) := by decide +kernel
theorem dX9_sightRefusal_10 : decode cX9_sightRefusal 10 = .ok (.iload_n 2, 1) := by decide +kernel
theorem dX9_sightRefusal_11 : decode cX9_sightRefusal 11 = .ok (.ireturn, 1) := by decide +kernel
theorem dX9_sightRefusal_12 : decode cX9_sightRefusal 12 = .ok (.aload_n 0, 1) := by decide +kernel
theorem dX9_sightRefusal_13 : decode cX9_sightRefusal 13 = .ok (.getfield 63, 3) := by decide +kernel
theorem dX9_sightRefusal_16 : decode cX9_sightRefusal 16 = .ok (.aload_n 0, 1) := by decide +kernel
theorem dX9_sightRefusal_17 : decode cX9_sightRefusal 17 = .ok (.getfield 38, 3) := by decide +kernel
theorem dX9_sightRefusal_20 : decode cX9_sightRefusal 20 = .ok (.iload_n 1, 1) := by decide +kernel
theorem dX9_sightRefusal_21 : decode cX9_sightRefusal 21 = .ok (.aaload, 1) := by decide +kernel
theorem dX9_sightRefusal_22 : decode cX9_sightRefusal 22 = .ok (.invokevirtual 448, 3) := by decide +kernel
theorem dX9_sightRefusal_25 : decode cX9_sightRefusal 25 = .ok (.ifCond .eq 7, 3) := by decide +kernel
theorem dX9_sightRefusal_28 : decode cX9_sightRefusal 28 = .ok (.iconst 0, 1) := by decide +kernel
theorem dX9_sightRefusal_29 : decode cX9_sightRefusal 29 = .ok (.goto 5, 3) := by decide +kernel
theorem dX9_sightRefusal_32 : decode cX9_sightRefusal 32 = .ok (.bipush (-2), 2) := by decide +kernel
theorem dX9_sightRefusal_34 : decode cX9_sightRefusal 34 = .ok (.ireturn, 1) := by decide +kernel
theorem dX9_spare_0 : decode cX9_spare 0 = .ok (.aload_n 0, 1) := by decide +kernel
theorem dX9_spare_1 : decode cX9_spare 1 = .ok (.getfield 19, 3) := by decide +kernel
theorem dX9_spare_4 : decode cX9_spare 4 = .ok (.invokevirtual 141, 3) := by decide +kernel
theorem dX9_spare_7 : decode cX9_spare 7 = .ok (.ifCond .eq 6, 3) := by decide +kernel
theorem dX9_spare_10 : decode cX9_spare 10 = .ok (.bipush (-2), 2) := by decide +kernel
theorem dX9_spare_12 : decode cX9_spare 12 = .ok (.ireturn, 1) := by decide +kernel
theorem dX9_spare_13 : decode cX9_spare 13 = .ok (.aload_n 0, 1) := by decide +kernel
theorem dX9_spare_14 : decode cX9_spare 14 = .ok (.aload_n 0, 1) := by decide +kernel
theorem dX9_spare_15 : decode cX9_spare 15 = .ok (.getfield 19, 3) := by decide +kernel
theorem dX9_spare_18 : decode cX9_spare 18 = .ok (.getfield 144, 3) := by decide +kernel
theorem dX9_spare_21 : decode cX9_spare 21 = .ok (.aload_n 0, 1) := by decide +kernel
theorem dX9_spare_22 : decode cX9_spare 22 = .ok (.getfield 19, 3) := by decide +kernel
theorem dX9_spare_25 : decode cX9_spare 25 = .ok (.getfield 195, 3) := by decide +kernel
theorem dX9_spare_28 : decode cX9_spare 28 = .ok (.invokevirtual 198, 3) := by decide +kernel
theorem dX9_spare_31 : decode cX9_spare 31 = .ok (.istore_n 1, 1) := by decide +kernel
theorem dX9_spare_32 : decode cX9_spare 32 = .ok (.iconst 0, 1) := by decide +kernel
theorem dX9_spare_33 : decode cX9_spare 33 = .ok (.istore_n 2, 1) := by decide +kernel
theorem dX9_spare_34 : decode cX9_spare 34 = .ok (.iconst 0, 1) := by decide +kernel
theorem dX9_spare_35 : decode cX9_spare 35 = .ok (.istore_n 3, 1) := by decide +kernel
theorem dX9_spare_36 : decode cX9_spare 36 = .ok (.iload_n 3, 1) := by decide +kernel
theorem dX9_spare_37 : decode cX9_spare 37 = .ok (.aload_n 0, 1) := by decide +kernel
theorem dX9_spare_38 : decode cX9_spare 38 = .ok (.getfield 19, 3) := by decide +kernel
theorem dX9_spare_41 : decode cX9_spare 41 = .ok (.getfield 216, 3) := by decide +kernel
theorem dX9_spare_44 : decode cX9_spare 44 = .ok (.if_icmp .ge 46, 3) := by decide +kernel
theorem dX9_spare_47 : decode cX9_spare 47 = .ok (.iload_n 1, 1) := by decide +kernel
theorem dX9_spare_48 : decode cX9_spare 48 = .ok (.iload_n 3, 1) := by decide +kernel
theorem dX9_spare_49 : decode cX9_spare 49 = .ok (.invokestatic 228, 3) := by decide +kernel
theorem dX9_spare_52 : decode cX9_spare 52 = .ok (.ifCond .eq 32, 3) := by decide +kernel
theorem dX9_spare_55 : decode cX9_spare 55 = .ok (.iload_n 2, 1) := by decide +kernel
theorem dX9_spare_56 : decode cX9_spare 56 = .ok (.aload_n 0, 1) := by decide +kernel
theorem dX9_spare_57 : decode cX9_spare 57 = .ok (.getfield 47, 3) := by decide +kernel
theorem dX9_spare_60 : decode cX9_spare 60 = .ok (.aload_n 0, 1) := by decide +kernel
theorem dX9_spare_61 : decode cX9_spare 61 = .ok (.getfield 19, 3) := by decide +kernel
theorem dX9_spare_64 : decode cX9_spare 64 = .ok (.getfield 133, 3) := by decide +kernel
theorem dX9_spare_67 : decode cX9_spare 67 = .ok (.iload_n 3, 1) := by decide +kernel
theorem dX9_spare_68 : decode cX9_spare 68 = .ok (.iaload, 1) := by decide +kernel
theorem dX9_spare_69 : decode cX9_spare 69 = .ok (.invokevirtual 189, 3) := by decide +kernel
theorem dX9_spare_72 : decode cX9_spare 72 = .ok (.aload_n 0, 1) := by decide +kernel
theorem dX9_spare_73 : decode cX9_spare 73 = .ok (.getfield 19, 3) := by decide +kernel
theorem dX9_spare_76 : decode cX9_spare 76 = .ok (.getfield 135, 3) := by decide +kernel
theorem dX9_spare_79 : decode cX9_spare 79 = .ok (.iload_n 3, 1) := by decide +kernel
theorem dX9_spare_80 : decode cX9_spare 80 = .ok (.iaload, 1) := by decide +kernel
theorem dX9_spare_81 : decode cX9_spare 81 = .ok (.isub, 1) := by decide +kernel
theorem dX9_spare_82 : decode cX9_spare 82 = .ok (.iadd, 1) := by decide +kernel
theorem dX9_spare_83 : decode cX9_spare 83 = .ok (.istore_n 2, 1) := by decide +kernel
theorem dX9_spare_84 : decode cX9_spare 84 = .ok (.iinc 3 1, 3) := by decide +kernel
theorem dX9_spare_87 : decode cX9_spare 87 = .ok (.goto (-51), 3) := by decide +kernel
theorem dX9_spare_90 : decode cX9_spare 90 = .ok (.iload_n 2, 1) := by decide +kernel
theorem dX9_spare_91 : decode cX9_spare 91 = .ok (.ireturn, 1) := by decide +kernel
theorem dX9_spots_0 : decode cX9_spots 0 = .ok (.aload_n 0, 1) := by decide +kernel
theorem dX9_spots_1 : decode cX9_spots 1 = .ok (.iload_n 1, 1) := by decide +kernel
theorem dX9_spots_2 : decode cX9_spots 2 = .ok (.invokevirtual 278, 3) := by decide +kernel
theorem dX9_spots_5 : decode cX9_spots 5 = .ok (.istore_n 2, 1) := by decide +kernel
theorem dX9_spots_6 : decode cX9_spots 6 = .ok (.iload_n 2, 1) := by decide +kernel
theorem dX9_spots_7 : decode cX9_spots 7 = .ok (.ifCond .eq 5, 3) := by decide +kernel
theorem dX9_spots_10 : decode cX9_spots 10 = .ok (.iload_n 2, 1) := by decide +kernel
theorem dX9_spots_11 : decode cX9_spots 11 = .ok (.ireturn, 1) := by decide +kernel
theorem dX9_spots_12 : decode cX9_spots 12 = .ok (.aload_n 0, 1) := by decide +kernel
theorem dX9_spots_13 : decode cX9_spots 13 = .ok (.getfield 63, 3) := by decide +kernel
theorem dX9_spots_16 : decode cX9_spots 16 = .ok (.aload_n 0, 1) := by decide +kernel
theorem dX9_spots_17 : decode cX9_spots 17 = .ok (.getfield 38, 3) := by decide +kernel
theorem dX9_spots_20 : decode cX9_spots 20 = .ok (.iload_n 1, 1) := by decide +kernel
theorem dX9_spots_21 : decode cX9_spots 21 = .ok (.aaload, 1) := by decide +kernel
theorem dX9_spots_22 : decode cX9_spots 22 = .ok (.invokevirtual 281, 3) := by decide +kernel
theorem dX9_spots_25 : decode cX9_spots 25 = .ok (.pop, 1) := by decide +kernel
theorem dX9_spots_26 : decode cX9_spots 26 = .ok (.aload_n 0, 1) := by decide +kernel
theorem dX9_spots_27 : decode cX9_spots 27 = .ok (.getfield 63, 3) := by decide +kernel
theorem dX9_spots_30 : decode cX9_spots 30 = .ok (.invokevirtual 284, 3) := by decide +kernel
theorem dX9_spots_33 : decode cX9_spots 33 = .ok (.ireturn, 1) := by decide +kernel
theorem dX9_swap_0 : decode cX9_swap 0 = .ok (.aload_n 0, 1) := by decide +kernel
theorem dX9_swap_1 : decode cX9_swap 1 = .ok (.getfield 19, 3) := by decide +kernel
theorem dX9_swap_4 : decode cX9_swap 4 = .ok (.invokevirtual 141, 3) := by decide +kernel
theorem dX9_swap_7 : decode cX9_swap 7 = .ok (.ifCond .eq 8, 3) := by decide +kernel
theorem dX9_swap_10 : decode cX9_swap 10 = .ok (.bipush (-2), 2) := by decide +kernel
theorem dX9_swap_12 : decode cX9_swap 12 = .ok (.goto 10, 3) := by decide +kernel
theorem dX9_swap_15 : decode cX9_swap 15 = .ok (.aload_n 0, 1) := by decide +kernel
theorem dX9_swap_16 : decode cX9_swap 16 = .ok (.getfield 70, 3) := by decide +kernel
theorem dX9_swap_19 : decode cX9_swap 19 = .ok (.invokevirtual 315, 3) := by decide +kernel
theorem dX9_swap_22 : decode cX9_swap 22 = .ok (.ireturn, 1) := by decide +kernel
theorem dX9_swaps_0 : decode cX9_swaps 0 = .ok (.aload_n 0, 1) := by decide +kernel
theorem dX9_swaps_1 : decode cX9_swaps 1 = .ok (.getfield 19, 3) := by decide +kernel
theorem dX9_swaps_4 : decode cX9_swaps 4 = .ok (.invokevirtual 141, 3) := by decide +kernel
theorem dX9_swaps_7 : decode cX9_swaps 7 = .ok (.ifCond .eq 8, 3) := by decide +kernel
theorem dX9_swaps_10 : decode cX9_swaps 10 = .ok (.bipush (-2), 2) := by decide +kernel
theorem dX9_swaps_12 : decode cX9_swaps 12 = .ok (.goto 10, 3) := by decide +kernel
theorem dX9_swaps_15 : decode cX9_swaps 15 = .ok (.aload_n 0, 1) := by decide +kernel
theorem dX9_swaps_16 : decode cX9_swaps 16 = .ok (.getfield 70, 3) := by decide +kernel
theorem dX9_swaps_19 : decode cX9_swaps 19 = .ok (.invokevirtual 312, 3) := by decide +kernel
theorem dX9_swaps_22 : decode cX9_swaps 22 = .ok (.ireturn, 1) := by decide +kernel
theorem dX9_turn_0 : decode cX9_turn 0 = .ok (.aload_n 0, 1) := by decide +kernel
theorem dX9_turn_1 : decode cX9_turn 1 = .ok (.getfield 19, 3) := by decide +kernel
theorem dX9_turn_4 : decode cX9_turn 4 = .ok (.iload_n 1, 1) := by decide +kernel
theorem dX9_turn_5 : decode cX9_turn 5 = .ok (.invokevirtual 116, 3) := by decide +kernel
theorem dX9_turn_8 : decode cX9_turn 8 = .ok (.ifCond .eq 12, 3) := by decide +kernel
theorem dX9_turn_11 : decode cX9_turn 11 = .ok (.iload_n 2, 1) := by decide +kernel
theorem dX9_turn_12 : decode cX9_turn 12 = .ok (.ifCond .lt 8, 3) := by decide +kernel
theorem dX9_turn_15 : decode cX9_turn 15 = .ok (.iload_n 2, 1) := by decide +kernel
theorem dX9_turn_16 : decode cX9_turn 16 = .ok (.iconst 4, 1) := by decide +kernel
theorem dX9_turn_17 : decode cX9_turn 17 = .ok (.if_icmp .lt 6, 3) := by decide +kernel
theorem dX9_turn_20 : decode cX9_turn 20 = .ok (.bipush (-2), 2) := by decide +kernel
theorem dX9_turn_22 : decode cX9_turn 22 = .ok (.ireturn, 1) := by decide +kernel
theorem dX9_turn_23 : decode cX9_turn 23 = .ok (.aload_n 0, 1) := by decide +kernel
theorem dX9_turn_24 : decode cX9_turn 24 = .ok (.getfield 19, 3) := by decide +kernel
theorem dX9_turn_27 : decode cX9_turn 27 = .ok (.getfield 359, 3) := by decide +kernel
theorem dX9_turn_30 : decode cX9_turn 30 = .ok (.bipush 40, 2) := by decide +kernel
theorem dX9_turn_32 : decode cX9_turn 32 = .ok (.if_icmp .lt 6, 3) := by decide +kernel
theorem dX9_turn_35 : decode cX9_turn 35 = .ok (.bipush (-5), 2) := by decide +kernel
theorem dX9_turn_37 : decode cX9_turn 37 = .ok (.ireturn, 1) := by decide +kernel
theorem dX9_turn_38 : decode cX9_turn 38 = .ok (.aload_n 0, 1) := by decide +kernel
theorem dX9_turn_39 : decode cX9_turn 39 = .ok (.getfield 56, 3) := by decide +kernel
theorem dX9_turn_42 : decode cX9_turn 42 = .ok (.invokevirtual 104, 3) := by decide +kernel
theorem dX9_turn_45 : decode cX9_turn 45 = .ok (.aload_n 0, 1) := by decide +kernel
theorem dX9_turn_46 : decode cX9_turn 46 = .ok (.getfield 19, 3) := by decide +kernel
theorem dX9_turn_49 : decode cX9_turn 49 = .ok (.iload_n 1, 1) := by decide +kernel
theorem dX9_turn_50 : decode cX9_turn 50 = .ok (.iload_n 2, 1) := by decide +kernel
theorem dX9_turn_51 : decode cX9_turn 51 = .ok (.invokevirtual 365, 3) := by decide +kernel
theorem dX9_turn_54 : decode cX9_turn 54 = .ok (.ireturn, 1) := by decide +kernel
theorem dX9_undo_0 : decode cX9_undo 0 = .ok (.aload_n 0, 1) := by decide +kernel
theorem dX9_undo_1 : decode cX9_undo 1 = .ok (.getfield 19, 3) := by decide +kernel
theorem dX9_undo_4 : decode cX9_undo 4 = .ok (.invokevirtual 141, 3) := by decide +kernel
theorem dX9_undo_7 : decode cX9_undo 7 = .ok (.ifCond .eq 6, 3) := by decide +kernel
theorem dX9_undo_10 : decode cX9_undo 10 = .ok (.bipush (-2), 2) := by decide +kernel
theorem dX9_undo_12 : decode cX9_undo 12 = .ok (.ireturn, 1) := by decide +kernel
theorem dX9_undo_13 : decode cX9_undo 13 = .ok (.aload_n 0, 1) := by decide +kernel
theorem dX9_undo_14 : decode cX9_undo 14 = .ok (.getfield 19, 3) := by decide +kernel
theorem dX9_undo_17 : decode cX9_undo 17 = .ok (.getfield 359, 3) := by decide +kernel
theorem dX9_undo_20 : decode cX9_undo 20 = .ok (.ifCond .ne 6, 3) := by decide +kernel
theorem dX9_undo_23 : decode cX9_undo 23 = .ok (.bipush (-5), 2) := by decide +kernel
theorem dX9_undo_25 : decode cX9_undo 25 = .ok (.ireturn, 1) := by decide +kernel
theorem dX9_undo_26 : decode cX9_undo 26 = .ok (.aload_n 0, 1) := by decide +kernel
theorem dX9_undo_27 : decode cX9_undo 27 = .ok (.getfield 56, 3) := by decide +kernel
theorem dX9_undo_30 : decode cX9_undo 30 = .ok (.invokevirtual 104, 3) := by decide +kernel
theorem dX9_undo_33 : decode cX9_undo 33 = .ok (.aload_n 0, 1) := by decide +kernel
theorem dX9_undo_34 : decode cX9_undo 34 = .ok (.getfield 19, 3) := by decide +kernel
theorem dX9_undo_37 : decode cX9_undo 37 = .ok (.invokevirtual 368, 3) := by decide +kernel
theorem dX9_undo_40 : decode cX9_undo 40 = .ok (.aload_n 0, 1) := by decide +kernel
theorem dX9_undo_41 : decode cX9_undo 41 = .ok (.getfield 19, 3) := by decide +kernel
theorem dX9_undo_44 : decode cX9_undo 44 = .ok (.getfield 359, 3) := by decide +kernel
theorem dX9_undo_47 : decode cX9_undo 47 = .ok (.ireturn, 1) := by decide +kernel
theorem dX9_unpaid_0 : decode cX9_unpaid 0 = .ok (.aload_n 0, 1) := by decide +kernel
theorem dX9_unpaid_1 : decode cX9_unpaid 1 = .ok (.getfield 19, 3) := by decide +kernel
theorem dX9_unpaid_4 : decode cX9_unpaid 4 = .ok (.invokevirtual 141, 3) := by decide +kernel
theorem dX9_unpaid_7 : decode cX9_unpaid 7 = .ok (.ifCond .eq 8, 3) := by decide +kernel
theorem dX9_unpaid_10 : decode cX9_unpaid 10 = .ok (.bipush (-2), 2) := by decide +kernel
theorem dX9_unpaid_12 : decode cX9_unpaid 12 = .ok (.goto 7, 3) := by decide +kernel
theorem dX9_unpaid_15 : decode cX9_unpaid 15 = .ok (.aload_n 0, 1) := by decide +kernel
theorem dX9_unpaid_16 : decode cX9_unpaid 16 = .ok (.invokevirtual 204, 3) := by decide +kernel
theorem dX9_unpaid_19 : decode cX9_unpaid 19 = .ok (.ireturn, 1) := by decide +kernel
theorem dX9_unpaidBits_0 : decode cX9_unpaidBits 0 = .ok (.aload_n 0, 1) := by decide +kernel
theorem dX9_unpaidBits_1 : decode cX9_unpaidBits 1 = .ok (.invokevirtual 186, 3) := by decide +kernel
theorem dX9_unpaidBits_4 : decode cX9_unpaidBits 4 = .ok (.aload_n 0, 1) := by decide +kernel
theorem dX9_unpaidBits_5 : decode cX9_unpaidBits 5 = .ok (.getfield 19, 3) := by decide +kernel
theorem dX9_unpaidBits_8 : decode cX9_unpaidBits 8 = .ok (.invokevirtual 321, 3) := by decide +kernel
theorem dX9_unpaidBits_11 : decode cX9_unpaidBits 11 = .ok (.aload_n 0, 1) := by decide +kernel
theorem dX9_unpaidBits_12 : decode cX9_unpaidBits 12 = .ok (.getfield 47, 3) := by decide +kernel
theorem dX9_unpaidBits_15 : decode cX9_unpaidBits 15 = .ok (.invokevirtual 219, 3) := by decide +kernel
theorem dX9_unpaidBits_18 : decode cX9_unpaidBits 18 = .ok (.iconst (-1), 1) := by decide +kernel
theorem dX9_unpaidBits_19 : decode cX9_unpaidBits 19 = .ok (.ixor, 1) := by decide +kernel
theorem dX9_unpaidBits_20 : decode cX9_unpaidBits 20 = .ok (.iand, 1) := by decide +kernel
theorem dX9_unpaidBits_21 : decode cX9_unpaidBits 21 = .ok (.istore_n 1, 1) := by decide +kernel
theorem dX9_unpaidBits_22 : decode cX9_unpaidBits 22 = .ok (.iload_n 1, 1) := by decide +kernel
theorem dX9_unpaidBits_23 : decode cX9_unpaidBits 23 = .ok (.aload_n 0, 1) := by decide +kernel
theorem dX9_unpaidBits_24 : decode cX9_unpaidBits 24 = .ok (.getfield 19, 3) := by decide +kernel
theorem dX9_unpaidBits_27 : decode cX9_unpaidBits 27 = .ok (.invokevirtual 442, 3) := by decide +kernel
theorem dX9_unpaidBits_30 : decode cX9_unpaidBits 30 = .ok (.iconst (-1), 1) := by decide +kernel
theorem dX9_unpaidBits_31 : decode cX9_unpaidBits 31 = .ok (.ixor, 1) := by decide +kernel
theorem dX9_unpaidBits_32 : decode cX9_unpaidBits 32 = .ok (.iand, 1) := by decide +kernel
theorem dX9_unpaidBits_33 : decode cX9_unpaidBits 33 = .ok (.ireturn, 1) := by decide +kernel
theorem dX9_way_0 : decode cX9_way 0 = .ok (.aload_n 0, 1) := by decide +kernel
theorem dX9_way_1 : decode cX9_way 1 = .ok (.getfield 19, 3) := by decide +kernel
theorem dX9_way_4 : decode cX9_way 4 = .ok (.iload_n 1, 1) := by decide +kernel
theorem dX9_way_5 : decode cX9_way 5 = .ok (.invokevirtual 116, 3) := by decide +kernel
theorem dX9_way_8 : decode cX9_way 8 = .ok (.ifCond .ne 6, 3) := by decide +kernel
theorem dX9_way_11 : decode cX9_way 11 = .ok (.bipush (-2), 2) := by decide +kernel
theorem dX9_way_13 : decode cX9_way 13 = .ok (.ireturn, 1) := by decide +kernel
theorem dX9_way_14 : decode cX9_way 14 = .ok (.aload_n 0, 1) := by decide +kernel
theorem dX9_way_15 : decode cX9_way 15 = .ok (.iload_n 1, 1) := by decide +kernel
theorem dX9_way_16 : decode cX9_way 16 = .ok (.invokevirtual 150, 3) := by decide +kernel
theorem dX9_way_19 : decode cX9_way 19 = .ok (.aload_n 0, 1) := by decide +kernel
theorem dX9_way_20 : decode cX9_way 20 = .ok (.getfield 47, 3) := by decide +kernel
theorem dX9_way_23 : decode cX9_way 23 = .ok (.invokevirtual 167, 3) := by decide +kernel
theorem dX9_way_26 : decode cX9_way 26 = .ok (.ireturn, 1) := by decide +kernel
theorem dX9_who_0 : decode cX9_who 0 = .ok (.aload_n 0, 1) := by decide +kernel
theorem dX9_who_1 : decode cX9_who 1 = .ok (.iload_n 1, 1) := by decide +kernel
theorem dX9_who_2 : decode cX9_who 2 = .ok (.invokevirtual 278, 3) := by decide +kernel
theorem dX9_who_5 : decode cX9_who 5 = .ok (.istore_n 2, 1) := by decide +kernel
theorem dX9_who_6 : decode cX9_who 6 = .ok (.iload_n 2, 1) := by decide +kernel
theorem dX9_who_7 : decode cX9_who 7 = .ok (.ifCond .eq 7, 3) := by decide +kernel
theorem dX9_who_10 : decode cX9_who 10 = .ok (.iload_n 2, 1) := by decide +kernel
theorem dX9_who_11 : decode cX9_who 11 = .ok (.goto 23, 3) := by decide +kernel
theorem dX9_who_14 : decode cX9_who 14 = .ok (.aload_n 0, 1) := by decide +kernel
theorem dX9_who_15 : decode cX9_who 15 = .ok (.getfield 63, 3) := by decide +kernel
theorem dX9_who_18 : decode cX9_who 18 = .ok (.aload_n 0, 1) := by decide +kernel
theorem dX9_who_19 : decode cX9_who 19 = .ok (.getfield 63, 3) := by decide +kernel
theorem dX9_who_22 : decode cX9_who 22 = .ok (.aload_n 0, 1) := by decide +kernel
theorem dX9_who_23 : decode cX9_who 23 = .ok (.getfield 38, 3) := by decide +kernel
theorem dX9_who_26 : decode cX9_who 26 = .ok (.iload_n 1, 1) := by decide +kernel
theorem dX9_who_27 : decode cX9_who 27 = .ok (.aaload, 1) := by decide +kernel
theorem dX9_who_28 : decode cX9_who 28 = .ok (.invokevirtual 281, 3) := by decide +kernel
theorem dX9_who_31 : decode cX9_who 31 = .ok (.invokevirtual 287, 3) := by decide +kernel
theorem dX9_who_34 : decode cX9_who 34 = .ok (.ireturn, 1) := by decide +kernel
theorem dX9_write_0 : decode cX9_write 0 = .ok (.iload_n 1, 1) := by decide +kernel
theorem dX9_write_1 : decode cX9_write 1 = .ok (.invokestatic 395, 3) := by decide +kernel
theorem dX9_write_4 : decode cX9_write 4 = .ok (.ifCond .ne 6, 3) := by decide +kernel
theorem dX9_write_7 : decode cX9_write 7 = .ok (.bipush (-2), 2) := by decide +kernel
theorem dX9_write_9 : decode cX9_write 9 = .ok (.ireturn, 1) := by decide +kernel
theorem dX9_write_10 : decode cX9_write 10 = .ok (.aload_n 0, 1) := by decide +kernel
theorem dX9_write_11 : decode cX9_write 11 = .ok (.getfield 38, 3) := by decide +kernel
theorem dX9_write_14 : decode cX9_write 14 = .ok (.iload_n 1, 1) := by decide +kernel
theorem dX9_write_15 : decode cX9_write 15 = .ok (.aaload, 1) := by decide +kernel
theorem dX9_write_16 : decode cX9_write 16 = .ok (.astore 5, 2) := by decide +kernel
theorem dX9_write_18 : decode cX9_write 18 = .ok (.aload 5, 2) := by decide +kernel
theorem dX9_write_20 : decode cX9_write 20 = .ok (.invokevirtual 402, 3) := by decide +kernel
theorem dX9_write_23 : decode cX9_write 23 = .ok (.ifCond .eq 6, 3) := by decide +kernel
theorem dX9_write_26 : decode cX9_write 26 = .ok (.bipush (-6), 2) := by decide +kernel
theorem dX9_write_28 : decode cX9_write 28 = .ok (.ireturn, 1) := by decide +kernel
theorem dX9_write_29 : decode cX9_write 29 = .ok (.iload_n 2, 1) := by decide +kernel
theorem dX9_write_30 : decode cX9_write 30 = .ok (.ifCond .lt 12, 3) := by decide +kernel
theorem dX9_write_33 : decode cX9_write 33 = .ok (.iload_n 2, 1) := by decide +kernel
theorem dX9_write_34 : decode cX9_write 34 = .ok (.aload 5, 2) := by decide +kernel
theorem dX9_write_36 : decode cX9_write 36 = .ok (.getfield 405, 3) := by decide +kernel
theorem dX9_write_39 : decode cX9_write 39 = .ok (.if_icmp .lt 6, 3) := by decide +kernel
theorem dX9_write_42 : decode cX9_write 42 = .ok (.bipush (-7), 2) := by decide +kernel
theorem dX9_write_44 : decode cX9_write 44 = .ok (.ireturn, 1) := by decide +kernel
theorem dX9_write_45 : decode cX9_write 45 = .ok (.aload 5, 2) := by decide +kernel
theorem dX9_write_47 : decode cX9_write 47 = .ok (.iload_n 2, 1) := by decide +kernel
theorem dX9_write_48 : decode cX9_write 48 = .ok (.lload_n 3, 1) := by decide +kernel
theorem dX9_write_49 : decode cX9_write 49 = .ok (.invokevirtual 406, 3) := by decide +kernel
theorem dX9_write_52 : decode cX9_write 52 = .ok (.iconst 0, 1) := by decide +kernel
theorem dX9_write_53 : decode cX9_write 53 = .ok (.ireturn, 1) := by decide +kernel
theorem wd414 : Cond.fieldLink RX9 19 "GooseShares" "now" "LGooseShares$Land;" ∈ gW := gm (tm_2 99 (by decide +kernel)) rfl
theorem wd415 : Cond.instanceMethod yX3_hasMember ∈ gW := gm (tm_3 72 (by decide +kernel)) rfl
theorem wd416 : Cond.selects RX3 yX3_hasMember yX3_hasMember ∈ gW := gm (tm_3 73 (by decide +kernel)) rfl
theorem wd417 : Cond.code yX3_hasMember cX3_hasMember 2 (some .boolean) ∈ gW := gm (tm_3 74 (by decide +kernel)) rfl
theorem wd418 : Cond.methodLink RX9 130 yX3_hasMember ∈ gW := gm (tm_3 71 (by decide +kernel)) rfl
theorem wd419 : Cond.fieldLink RX9 38 "GooseShares" "rows" "[LGooseShares$Row;" ∈ gW := gm (tm_2 102 (by decide +kernel)) rfl
theorem wd420 : Cond.instanceMethod yX6_isNothing ∈ gW := gm (tm_4 183 (by decide +kernel)) rfl
theorem wd421 : Cond.selects RX6 yX6_isNothing yX6_isNothing ∈ gW := gm (tm_4 184 (by decide +kernel)) rfl
theorem wd422 : Cond.initialized RX6 ∈ gW := gm (tm_1 10 (by decide +kernel)) rfl
theorem wd423 : Cond.code yX6_isNothing cX6_isNothing 1 (some .boolean) ∈ gW := gm (tm_4 185 (by decide +kernel)) rfl
theorem wd424 : Cond.methodLink RX9 402 yX6_isNothing ∈ gW := gm (tm_4 182 (by decide +kernel)) rfl
theorem wd425 : Cond.fieldLink RX9 47 "GooseShares" "sky" "LGooseShares$Sky;" ∈ gW := gm (tm_2 103 (by decide +kernel)) rfl
theorem wd426 : Cond.fieldLink RX9 144 "GooseShares$Land" "lit" "I" ∈ gW := gm (tm_1 92 (by decide +kernel)) rfl
theorem wd427 : Cond.fieldLink RX9 195 "GooseShares$Land" "law" "I" ∈ gW := gm (tm_1 66 (by decide +kernel)) rfl
theorem wd428 : Cond.methodLink RX9 430 yX7_under ∈ gW := gm (tm_3 94 (by decide +kernel)) rfl
theorem wd429 : Cond.methodLink RX9 433 yX7_follow ∈ gW := gm (tm_3 98 (by decide +kernel)) rfl
theorem wd430 : Cond.methodLink RX9 436 yX7_pass ∈ gW := gm (tm_3 186 (by decide +kernel)) rfl
theorem wd431 : Cond.methodLink RX9 439 yX7_servedBits ∈ gW := gm (tm_3 219 (by decide +kernel)) rfl
theorem wd432 : Cond.instanceMethod yX9_servedUnder ∈ gW := gm (tm_3 217 (by decide +kernel)) rfl
theorem wd433 : Cond.selects RX9 yX9_servedUnder yX9_servedUnder ∈ gW := gm (gmP 4 (by decide +kernel)) rfl
theorem wd434 : Cond.code yX9_servedUnder cX9_servedUnder 3 (some .int) ∈ gW := gm (tm_3 218 (by decide +kernel)) rfl
theorem wd435 : Cond.methodLink RX9 198 yX9_servedUnder ∈ gW := gm (tm_3 215 (by decide +kernel)) rfl
theorem wd436 : Cond.methodLink RX9 259 yX3_paidBy ∈ gW := gm (tm_3 236 (by decide +kernel)) rfl
theorem wd437 : Cond.fieldLink RX9 216 "GooseShares$Land" "members" "I" ∈ gW := gm (tm_1 86 (by decide +kernel)) rfl
theorem wd438 : Cond.fieldLink RX9 135 "GooseShares$Land" "wants" "[I" ∈ gW := gm (tm_1 114 (by decide +kernel)) rfl
theorem wd439 : Cond.methodLink RX9 180 yX3_earshot ∈ gW := gm (tm_3 170 (by decide +kernel)) rfl
theorem wd440 : Cond.instanceMethod yX9_passNow ∈ gW := gm (tm_3 184 (by decide +kernel)) rfl
theorem wd441 : Cond.selects RX9 yX9_passNow yX9_passNow ∈ gW := gm (gmP 3 (by decide +kernel)) rfl
theorem wd442 : Cond.code yX9_passNow cX9_passNow 1 none ∈ gW := gm (tm_3 185 (by decide +kernel)) rfl
theorem wd443 : Cond.methodLink RX9 186 yX9_passNow ∈ gW := gm (tm_3 182 (by decide +kernel)) rfl
theorem wd444 : Cond.methodLink RX9 321 yX3_allMembers ∈ gW := gm (tm_4 9 (by decide +kernel)) rfl
theorem wd445 : Cond.instanceMethod yX7_deafBits ∈ gW := gm (tm_4 14 (by decide +kernel)) rfl
theorem wd446 : Cond.selects RX7 yX7_deafBits yX7_deafBits ∈ gW := gm (tm_4 15 (by decide +kernel)) rfl
theorem wd447 : Cond.code yX7_deafBits cX7_deafBits 3 (some .int) ∈ gW := gm (tm_4 16 (by decide +kernel)) rfl
theorem wd448 : Cond.methodLink RX9 219 yX7_deafBits ∈ gW := gm (tm_4 13 (by decide +kernel)) rfl
theorem wd449 : Cond.methodLink RX9 442 yX3_wanters ∈ gW := gm (tm_4 17 (by decide +kernel)) rfl
theorem wd450 : Cond.fieldLink RX9 210 "GooseShares$Land" "flights" "I" ∈ gW := gm (tm_1 79 (by decide +kernel)) rfl
theorem wd451 : Cond.instanceMethod yX9_followNow ∈ gW := gm (tm_3 92 (by decide +kernel)) rfl
theorem wd452 : Cond.selects RX9 yX9_followNow yX9_followNow ∈ gW := gm (gmP 0 (by decide +kernel)) rfl
theorem wd453 : Cond.code yX9_followNow cX9_followNow 2 none ∈ gW := gm (tm_3 93 (by decide +kernel)) rfl
theorem wd454 : Cond.methodLink RX9 150 yX9_followNow ∈ gW := gm (tm_3 90 (by decide +kernel)) rfl
theorem wd455 : Cond.methodLink RX9 167 yX7_wayBits ∈ gW := gm (tm_3 141 (by decide +kernel)) rfl
theorem wd456 : Cond.methodLink RX9 153 yX7_cellAt ∈ gW := gm (tm_3 113 (by decide +kernel)) rfl
theorem wd457 : Cond.methodLink RX9 228 yX9_hasBit ∈ gW := gm (tm_3 165 (by decide +kernel)) rfl
theorem wd458 : Cond.fieldLink RX9 127 "GooseShares$Land" "flocks" "[I" ∈ gW := gm (tm_1 105 (by decide +kernel)) rfl
theorem wd459 : Cond.methodLink RX9 192 yX3_cells ∈ gW := gm (tm_3 206 (by decide +kernel)) rfl
theorem wd460 : Cond.instanceMethod yX9_incomeUnder ∈ gW := gm (tm_3 234 (by decide +kernel)) rfl
theorem wd461 : Cond.selects RX9 yX9_incomeUnder yX9_incomeUnder ∈ gW := gm (gmP 5 (by decide +kernel)) rfl
theorem wd462 : Cond.code yX9_incomeUnder cX9_incomeUnder 3 (some .int) ∈ gW := gm (tm_3 235 (by decide +kernel)) rfl
theorem wd463 : Cond.methodLink RX9 201 yX9_incomeUnder ∈ gW := gm (tm_3 232 (by decide +kernel)) rfl
theorem wd464 : Cond.fieldLink RX9 133 "GooseShares$Land" "houses" "[I" ∈ gW := gm (tm_1 110 (by decide +kernel)) rfl
theorem wd465 : Cond.fieldLink RX9 138 "GooseShares$Land" "pays" "[I" ∈ gW := gm (tm_1 119 (by decide +kernel)) rfl
theorem wd466 : Cond.instanceMethod yX9_gain ∈ gW := gm (tm_5 160 (by decide +kernel)) rfl
theorem wd467 : Cond.selects RX9 yX9_gain yX9_gain ∈ gW := gm (gmP 14 (by decide +kernel)) rfl
theorem wd468 : Cond.code yX9_gain cX9_gain 9 (some .int) ∈ gW := gm (tm_5 161 (by decide +kernel)) rfl
theorem wd469 : Cond.methodLink RX9 343 yX9_gain ∈ gW := gm (tm_5 158 (by decide +kernel)) rfl
theorem wd470 : Cond.static yX9_isSlot ∈ gW := gm (tm_4 180 (by decide +kernel)) rfl
theorem wd471 : Cond.code yX9_isSlot cX9_isSlot 1 (some .boolean) ∈ gW := gm (tm_4 181 (by decide +kernel)) rfl
theorem wd472 : Cond.methodLink RX9 395 yX9_isSlot ∈ gW := gm (tm_4 179 (by decide +kernel)) rfl
theorem wd473 : Cond.methodLink RX9 141 yX3_isNone ∈ gW := gm (tm_3 79 (by decide +kernel)) rfl
theorem wd474 : Cond.instanceMethod yX9_rowRefusal ∈ gW := gm (tm_4 177 (by decide +kernel)) rfl
theorem wd475 : Cond.selects RX9 yX9_rowRefusal yX9_rowRefusal ∈ gW := gm (gmP 10 (by decide +kernel)) rfl
theorem wd476 : Cond.code yX9_rowRefusal cX9_rowRefusal 2 (some .int) ∈ gW := gm (tm_4 178 (by decide +kernel)) rfl
theorem wd477 : Cond.methodLink RX9 445 yX9_rowRefusal ∈ gW := gm (tm_4 175 (by decide +kernel)) rfl
theorem wd478 : Cond.fieldLink RX9 63 "GooseShares" "clues" "LGooseShares$Clues;" ∈ gW := gm (tm_2 105 (by decide +kernel)) rfl
theorem wd479 : Cond.instanceMethod yX0_areSights ∈ gW := gm (tm_4 187 (by decide +kernel)) rfl
theorem wd480 : Cond.selects RX0 yX0_areSights yX0_areSights ∈ gW := gm (tm_4 188 (by decide +kernel)) rfl
theorem wd481 : Cond.code yX0_areSights cX0_areSights 6 (some .boolean) ∈ gW := gm (tm_4 189 (by decide +kernel)) rfl
theorem wd482 : Cond.methodLink RX9 448 yX0_areSights ∈ gW := gm (tm_4 186 (by decide +kernel)) rfl
theorem wd483 : Cond.instanceMethod yX0_areReports ∈ gW := gm (tm_4 230 (by decide +kernel)) rfl
theorem wd484 : Cond.selects RX0 yX0_areReports yX0_areReports ∈ gW := gm (tm_4 231 (by decide +kernel)) rfl
theorem wd485 : Cond.code yX0_areReports cX0_areReports 4 (some .boolean) ∈ gW := gm (tm_4 232 (by decide +kernel)) rfl
theorem wd486 : Cond.methodLink RX9 452 yX0_areReports ∈ gW := gm (tm_4 229 (by decide +kernel)) rfl
theorem wd487 : Cond.instanceMethod yX9_sightRefusal ∈ gW := gm (tm_4 173 (by decide +kernel)) rfl
theorem wd488 : Cond.selects RX9 yX9_sightRefusal yX9_sightRefusal ∈ gW := gm (gmP 9 (by decide +kernel)) rfl
theorem wd489 : Cond.code yX9_sightRefusal cX9_sightRefusal 3 (some .int) ∈ gW := gm (tm_4 174 (by decide +kernel)) rfl
theorem wd490 : Cond.methodLink RX9 268 yX9_sightRefusal ∈ gW := gm (tm_4 171 (by decide +kernel)) rfl
theorem wd491 : Cond.instanceMethod yX0_lawsFitting ∈ gW := gm (tm_4 195 (by decide +kernel)) rfl
theorem wd492 : Cond.selects RX0 yX0_lawsFitting yX0_lawsFitting ∈ gW := gm (tm_4 196 (by decide +kernel)) rfl
theorem wd493 : Cond.code yX0_lawsFitting cX0_lawsFitting 4 (some .int) ∈ gW := gm (tm_4 197 (by decide +kernel)) rfl
theorem wd494 : Cond.methodLink RX9 271 yX0_lawsFitting ∈ gW := gm (tm_4 194 (by decide +kernel)) rfl
theorem wd495 : Cond.instanceMethod yX0_flightToAsk ∈ gW := gm (tm_4 210 (by decide +kernel)) rfl
theorem wd496 : Cond.selects RX0 yX0_flightToAsk yX0_flightToAsk ∈ gW := gm (tm_4 211 (by decide +kernel)) rfl
theorem wd497 : Cond.code yX0_flightToAsk cX0_flightToAsk 6 (some .int) ∈ gW := gm (tm_4 212 (by decide +kernel)) rfl
theorem wd498 : Cond.methodLink RX9 275 yX0_flightToAsk ∈ gW := gm (tm_4 209 (by decide +kernel)) rfl
theorem wd499 : Cond.instanceMethod yX3_hasFlight ∈ gW := gm (tm_3 64 (by decide +kernel)) rfl
theorem wd500 : Cond.selects RX3 yX3_hasFlight yX3_hasFlight ∈ gW := gm (tm_3 65 (by decide +kernel)) rfl
theorem wd501 : Cond.code yX3_hasFlight cX3_hasFlight 2 (some .boolean) ∈ gW := gm (tm_3 66 (by decide +kernel)) rfl
theorem wd502 : Cond.methodLink RX9 116 yX3_hasFlight ∈ gW := gm (tm_3 63 (by decide +kernel)) rfl
theorem wd503 : Cond.fieldLink RX9 120 "GooseShares$Land" "starts" "[I" ∈ gW := gm (tm_1 98 (by decide +kernel)) rfl
theorem wd504 : Cond.fieldLink RX9 124 "GooseShares$Land" "headings" "[I" ∈ gW := gm (tm_1 102 (by decide +kernel)) rfl
theorem wd505 : Cond.static yX9_isStep ∈ gW := gm (tm_3 88 (by decide +kernel)) rfl
theorem wd506 : Cond.code yX9_isStep cX9_isStep 1 (some .boolean) ∈ gW := gm (tm_3 89 (by decide +kernel)) rfl
theorem wd507 : Cond.methodLink RX9 147 yX9_isStep ∈ gW := gm (tm_3 87 (by decide +kernel)) rfl
theorem wd508 : Cond.instanceMethod yX7_headingAt ∈ gW := gm (tm_3 122 (by decide +kernel)) rfl
theorem wd509 : Cond.selects RX7 yX7_headingAt yX7_headingAt ∈ gW := gm (tm_3 123 (by decide +kernel)) rfl
theorem wd510 : Cond.code yX7_headingAt cX7_headingAt 2 (some .int) ∈ gW := gm (tm_3 124 (by decide +kernel)) rfl
theorem wd511 : Cond.methodLink RX9 157 yX7_headingAt ∈ gW := gm (tm_3 121 (by decide +kernel)) rfl
theorem wd512 : Cond.methodLink RX9 160 yX7_outStep ∈ gW := gm (tm_3 129 (by decide +kernel)) rfl
theorem wd513 : Cond.fieldLink RX9 164 "GooseShares$Sky" "turns" "I" ∈ gW := gm (tm_1 218 (by decide +kernel)) rfl
theorem wd514 : Cond.instanceMethod yX3_hasCell ∈ gW := gm (tm_3 150 (by decide +kernel)) rfl
theorem wd515 : Cond.selects RX3 yX3_hasCell yX3_hasCell ∈ gW := gm (tm_3 151 (by decide +kernel)) rfl
theorem wd516 : Cond.code yX3_hasCell cX3_hasCell 2 (some .boolean) ∈ gW := gm (tm_3 152 (by decide +kernel)) rfl
theorem wd517 : Cond.methodLink RX9 170 yX3_hasCell ∈ gW := gm (tm_3 149 (by decide +kernel)) rfl
theorem wd518 : Cond.instanceMethod yX9_flightsOver ∈ gW := gm (tm_3 155 (by decide +kernel)) rfl
theorem wd519 : Cond.selects RX9 yX9_flightsOver yX9_flightsOver ∈ gW := gm (gmP 1 (by decide +kernel)) rfl
theorem wd520 : Cond.code yX9_flightsOver cX9_flightsOver 4 (some .int) ∈ gW := gm (tm_3 156 (by decide +kernel)) rfl
theorem wd521 : Cond.methodLink RX9 173 yX9_flightsOver ∈ gW := gm (tm_3 153 (by decide +kernel)) rfl
theorem wd522 : Cond.instanceMethod yX9_geeseWithin ∈ gW := gm (tm_3 163 (by decide +kernel)) rfl
theorem wd523 : Cond.selects RX9 yX9_geeseWithin yX9_geeseWithin ∈ gW := gm (gmP 2 (by decide +kernel)) rfl
theorem wd524 : Cond.code yX9_geeseWithin cX9_geeseWithin 6 (some .int) ∈ gW := gm (tm_3 164 (by decide +kernel)) rfl
theorem wd525 : Cond.methodLink RX9 176 yX9_geeseWithin ∈ gW := gm (tm_3 161 (by decide +kernel)) rfl
theorem wd526 : Cond.instanceMethod yX7_stepsWithin ∈ gW := gm (tm_3 175 (by decide +kernel)) rfl
theorem wd527 : Cond.selects RX7 yX7_stepsWithin yX7_stepsWithin ∈ gW := gm (tm_3 176 (by decide +kernel)) rfl
theorem wd528 : Cond.code yX7_stepsWithin cX7_stepsWithin 4 (some .int) ∈ gW := gm (tm_3 177 (by decide +kernel)) rfl
theorem wd529 : Cond.methodLink RX9 183 yX7_stepsWithin ∈ gW := gm (tm_3 174 (by decide +kernel)) rfl
theorem wd530 : Cond.methodLink RX9 189 yX7_heardIn ∈ gW := gm (tm_3 193 (by decide +kernel)) rfl
theorem wd531 : Cond.instanceMethod yX9_unpaidBits ∈ gW := gm (tm_4 7 (by decide +kernel)) rfl
theorem wd532 : Cond.selects RX9 yX9_unpaidBits yX9_unpaidBits ∈ gW := gm (gmP 6 (by decide +kernel)) rfl
theorem wd533 : Cond.code yX9_unpaidBits cX9_unpaidBits 2 (some .int) ∈ gW := gm (tm_4 8 (by decide +kernel)) rfl
theorem wd534 : Cond.methodLink RX9 204 yX9_unpaidBits ∈ gW := gm (tm_4 5 (by decide +kernel)) rfl
theorem wd535 : Cond.instanceMethod yX7_firstWithin ∈ gW := gm (tm_4 30 (by decide +kernel)) rfl
theorem wd536 : Cond.selects RX7 yX7_firstWithin yX7_firstWithin ∈ gW := gm (tm_4 31 (by decide +kernel)) rfl
theorem wd537 : Cond.code yX7_firstWithin cX7_firstWithin 3 (some .int) ∈ gW := gm (tm_4 32 (by decide +kernel)) rfl
theorem wd538 : Cond.methodLink RX9 213 yX7_firstWithin ∈ gW := gm (tm_4 29 (by decide +kernel)) rfl
theorem wd539 : Cond.instanceMethod yX9_earshotOfUnpaid ∈ gW := gm (tm_4 27 (by decide +kernel)) rfl
theorem wd540 : Cond.selects RX9 yX9_earshotOfUnpaid yX9_earshotOfUnpaid ∈ gW := gm (gmP 7 (by decide +kernel)) rfl
theorem wd541 : Cond.code yX9_earshotOfUnpaid cX9_earshotOfUnpaid 3 (some .int) ∈ gW := gm (tm_4 28 (by decide +kernel)) rfl
theorem wd542 : Cond.methodLink RX9 207 yX9_earshotOfUnpaid ∈ gW := gm (tm_4 25 (by decide +kernel)) rfl
theorem wd543 : Cond.instanceMethod yX7_keepTrack ∈ gW := gm (tm_4 50 (by decide +kernel)) rfl
theorem wd544 : Cond.selects RX7 yX7_keepTrack yX7_keepTrack ∈ gW := gm (tm_4 51 (by decide +kernel)) rfl
theorem wd545 : Cond.code yX7_keepTrack cX7_keepTrack 1 none ∈ gW := gm (tm_4 52 (by decide +kernel)) rfl
theorem wd546 : Cond.methodLink RX9 222 yX7_keepTrack ∈ gW := gm (tm_4 49 (by decide +kernel)) rfl
theorem wd547 : Cond.instanceMethod yX7_firstMeeting ∈ gW := gm (tm_4 55 (by decide +kernel)) rfl
theorem wd548 : Cond.selects RX7 yX7_firstMeeting yX7_firstMeeting ∈ gW := gm (tm_4 56 (by decide +kernel)) rfl
theorem wd549 : Cond.code yX7_firstMeeting cX7_firstMeeting 2 (some .int) ∈ gW := gm (tm_4 57 (by decide +kernel)) rfl
theorem wd550 : Cond.methodLink RX9 225 yX7_firstMeeting ∈ gW := gm (tm_4 54 (by decide +kernel)) rfl
theorem wd551 : Cond.instanceMethod yX3_allCells ∈ gW := gm (tm_4 67 (by decide +kernel)) rfl
theorem wd552 : Cond.selects RX3 yX3_allCells yX3_allCells ∈ gW := gm (tm_4 68 (by decide +kernel)) rfl
theorem wd553 : Cond.code yX3_allCells cX3_allCells 1 (some .int) ∈ gW := gm (tm_4 69 (by decide +kernel)) rfl
theorem wd554 : Cond.methodLink RX9 232 yX3_allCells ∈ gW := gm (tm_4 66 (by decide +kernel)) rfl
theorem wd555 : Cond.methodLink RX9 235 yX3_distance ∈ gW := gm (tm_4 74 (by decide +kernel)) rfl
theorem wd556 : Cond.instanceMethod yX3_hasSet ∈ gW := gm (tm_4 80 (by decide +kernel)) rfl
theorem wd557 : Cond.selects RX3 yX3_hasSet yX3_hasSet ∈ gW := gm (tm_4 81 (by decide +kernel)) rfl
theorem wd558 : Cond.code yX3_hasSet cX3_hasSet 2 (some .boolean) ∈ gW := gm (tm_4 82 (by decide +kernel)) rfl
theorem wd559 : Cond.methodLink RX9 238 yX3_hasSet ∈ gW := gm (tm_4 79 (by decide +kernel)) rfl
theorem wd560 : Cond.fieldLink RX9 56 "GooseShares" "lanterns" "LGooseShares$Lanterns;" ∈ gW := gm (tm_2 104 (by decide +kernel)) rfl
theorem wd561 : Cond.instanceMethod yX4_learn ∈ gW := gm (tm_4 86 (by decide +kernel)) rfl
theorem wd562 : Cond.selects RX4 yX4_learn yX4_learn ∈ gW := gm (tm_4 87 (by decide +kernel)) rfl
theorem wd563 : Cond.code yX4_learn cX4_learn 4 none ∈ gW := gm (tm_4 88 (by decide +kernel)) rfl
theorem wd564 : Cond.methodLink RX9 241 yX4_learn ∈ gW := gm (tm_4 85 (by decide +kernel)) rfl
theorem wd565 : Cond.methodLink RX9 244 yX4_cheapest ∈ gW := gm (tm_4 98 (by decide +kernel)) rfl
theorem wd566 : Cond.fieldLink RX9 247 "GooseShares$Lanterns" "fewestFor" "[I" ∈ gW := gm (tm_2 9 (by decide +kernel)) rfl
theorem wd567 : Cond.fieldLink RX9 250 "GooseShares$Lanterns" "leastFor" "[I" ∈ gW := gm (tm_2 11 (by decide +kernel)) rfl
theorem wd568 : Cond.static yX9_isLampCount ∈ gW := gm (tm_4 115 (by decide +kernel)) rfl
theorem wd569 : Cond.code yX9_isLampCount cX9_isLampCount 1 (some .boolean) ∈ gW := gm (tm_4 116 (by decide +kernel)) rfl
theorem wd570 : Cond.methodLink RX9 253 yX9_isLampCount ∈ gW := gm (tm_4 114 (by decide +kernel)) rfl
theorem wd571 : Cond.instanceMethod yX4_richest ∈ gW := gm (tm_4 118 (by decide +kernel)) rfl
theorem wd572 : Cond.selects RX4 yX4_richest yX4_richest ∈ gW := gm (tm_4 119 (by decide +kernel)) rfl
theorem wd573 : Cond.code yX4_richest cX4_richest 4 (some .int) ∈ gW := gm (tm_4 120 (by decide +kernel)) rfl
theorem wd574 : Cond.methodLink RX9 256 yX4_richest ∈ gW := gm (tm_4 117 (by decide +kernel)) rfl
theorem wd575 : Cond.instanceMethod yX4_mostServed ∈ gW := gm (tm_4 138 (by decide +kernel)) rfl
theorem wd576 : Cond.selects RX4 yX4_mostServed yX4_mostServed ∈ gW := gm (tm_4 139 (by decide +kernel)) rfl
theorem wd577 : Cond.code yX4_mostServed cX4_mostServed 4 (some .int) ∈ gW := gm (tm_4 140 (by decide +kernel)) rfl
theorem wd578 : Cond.methodLink RX9 262 yX4_mostServed ∈ gW := gm (tm_4 137 (by decide +kernel)) rfl
theorem wd579 : Cond.instanceMethod yX9_bestChange ∈ gW := gm (tm_4 153 (by decide +kernel)) rfl
theorem wd580 : Cond.selects RX9 yX9_bestChange yX9_bestChange ∈ gW := gm (gmP 8 (by decide +kernel)) rfl
theorem wd581 : Cond.code yX9_bestChange cX9_bestChange 6 (some .int) ∈ gW := gm (tm_4 154 (by decide +kernel)) rfl
theorem wd582 : Cond.methodLink RX9 265 yX9_bestChange ∈ gW := gm (tm_4 151 (by decide +kernel)) rfl
theorem wd583 : Cond.instanceMethod yX9_reportRefusal ∈ gW := gm (tm_4 227 (by decide +kernel)) rfl
theorem wd584 : Cond.selects RX9 yX9_reportRefusal yX9_reportRefusal ∈ gW := gm (gmP 11 (by decide +kernel)) rfl
theorem wd585 : Cond.code yX9_reportRefusal cX9_reportRefusal 3 (some .int) ∈ gW := gm (tm_4 228 (by decide +kernel)) rfl
theorem wd586 : Cond.methodLink RX9 278 yX9_reportRefusal ∈ gW := gm (tm_4 225 (by decide +kernel)) rfl
theorem wd587 : Cond.instanceMethod yX0_sift ∈ gW := gm (tm_4 234 (by decide +kernel)) rfl
theorem wd588 : Cond.selects RX0 yX0_sift yX0_sift ∈ gW := gm (tm_4 235 (by decide +kernel)) rfl
theorem wd589 : Cond.code yX0_sift cX0_sift 5 (some .int) ∈ gW := gm (tm_4 236 (by decide +kernel)) rfl
theorem wd590 : Cond.methodLink RX9 281 yX0_sift ∈ gW := gm (tm_4 233 (by decide +kernel)) rfl
theorem wd591 : Cond.instanceMethod yX0_cellBits ∈ gW := gm (tm_5 17 (by decide +kernel)) rfl
theorem wd592 : Cond.selects RX0 yX0_cellBits yX0_cellBits ∈ gW := gm (tm_5 18 (by decide +kernel)) rfl
theorem wd593 : Cond.code yX0_cellBits cX0_cellBits 3 (some .int) ∈ gW := gm (tm_5 19 (by decide +kernel)) rfl
theorem wd594 : Cond.methodLink RX9 284 yX0_cellBits ∈ gW := gm (tm_5 16 (by decide +kernel)) rfl
theorem wd595 : Cond.instanceMethod yX0_memberToAsk ∈ gW := gm (tm_5 25 (by decide +kernel)) rfl
theorem wd596 : Cond.selects RX0 yX0_memberToAsk yX0_memberToAsk ∈ gW := gm (tm_5 26 (by decide +kernel)) rfl
theorem wd597 : Cond.code yX0_memberToAsk cX0_memberToAsk 6 (some .int) ∈ gW := gm (tm_5 27 (by decide +kernel)) rfl
theorem wd598 : Cond.methodLink RX9 287 yX0_memberToAsk ∈ gW := gm (tm_5 24 (by decide +kernel)) rfl
theorem wd599 : Cond.methodLink RX9 290 yX0_worstLeft ∈ gW := gm (tm_5 40 (by decide +kernel)) rfl
theorem wd600 : Cond.static yX9_isFractionPart ∈ gW := gm (tm_5 46 (by decide +kernel)) rfl
theorem wd601 : Cond.code yX9_isFractionPart cX9_isFractionPart 1 (some .boolean) ∈ gW := gm (tm_5 47 (by decide +kernel)) rfl
theorem wd602 : Cond.methodLink RX9 293 yX9_isFractionPart ∈ gW := gm (tm_5 45 (by decide +kernel)) rfl
theorem wd603 : Cond.methodLink RX9 296 yX0_heardOf ∈ gW := gm (tm_5 48 (by decide +kernel)) rfl
theorem wd604 : Cond.static yX9_partOf ∈ gW := gm (tm_5 50 (by decide +kernel)) rfl
theorem wd605 : Cond.code yX9_partOf cX9_partOf 4 (some .int) ∈ gW := gm (tm_5 51 (by decide +kernel)) rfl
theorem wd606 : Cond.methodLink RX9 299 yX9_partOf ∈ gW := gm (tm_5 49 (by decide +kernel)) rfl
theorem wd607 : Cond.fieldLink RX9 70 "GooseShares" "houses" "LGooseShares$Houses;" ∈ gW := gm (tm_2 106 (by decide +kernel)) rfl
theorem wd608 : Cond.instanceMethod yX2_weigh ∈ gW := gm (tm_5 60 (by decide +kernel)) rfl
theorem wd609 : Cond.selects RX2 yX2_weigh yX2_weigh ∈ gW := gm (tm_5 61 (by decide +kernel)) rfl
theorem wd610 : Cond.code yX2_weigh cX2_weigh 4 none ∈ gW := gm (tm_5 62 (by decide +kernel)) rfl
theorem wd611 : Cond.methodLink RX9 303 yX2_weigh ∈ gW := gm (tm_5 59 (by decide +kernel)) rfl
theorem wd612 : Cond.fieldLink RX9 306 "GooseShares$Houses" "greatest" "[I" ∈ gW := gm (tm_2 53 (by decide +kernel)) rfl
theorem wd613 : Cond.instanceMethod yX2_cellOf ∈ gW := gm (tm_5 88 (by decide +kernel)) rfl
theorem wd614 : Cond.selects RX2 yX2_cellOf yX2_cellOf ∈ gW := gm (tm_5 89 (by decide +kernel)) rfl
theorem wd615 : Cond.code yX2_cellOf cX2_cellOf 6 (some .int) ∈ gW := gm (tm_5 90 (by decide +kernel)) rfl
theorem wd616 : Cond.methodLink RX9 309 yX2_cellOf ∈ gW := gm (tm_5 87 (by decide +kernel)) rfl
theorem wd617 : Cond.instanceMethod yX2_goodSwaps ∈ gW := gm (tm_5 100 (by decide +kernel)) rfl
theorem wd618 : Cond.selects RX2 yX2_goodSwaps yX2_goodSwaps ∈ gW := gm (tm_5 101 (by decide +kernel)) rfl
theorem wd619 : Cond.code yX2_goodSwaps cX2_goodSwaps 4 (some .int) ∈ gW := gm (tm_5 102 (by decide +kernel)) rfl
theorem wd620 : Cond.methodLink RX9 312 yX2_goodSwaps ∈ gW := gm (tm_5 99 (by decide +kernel)) rfl
theorem wd621 : Cond.instanceMethod yX2_firstSwap ∈ gW := gm (tm_5 112 (by decide +kernel)) rfl
theorem wd622 : Cond.selects RX2 yX2_firstSwap yX2_firstSwap ∈ gW := gm (tm_5 113 (by decide +kernel)) rfl
theorem wd623 : Cond.code yX2_firstSwap cX2_firstSwap 3 (some .int) ∈ gW := gm (tm_5 114 (by decide +kernel)) rfl
theorem wd624 : Cond.methodLink RX9 315 yX2_firstSwap ∈ gW := gm (tm_5 111 (by decide +kernel)) rfl
theorem wd625 : Cond.instanceMethod yX3_wantedAt ∈ gW := gm (tm_5 120 (by decide +kernel)) rfl
theorem wd626 : Cond.selects RX3 yX3_wantedAt yX3_wantedAt ∈ gW := gm (tm_5 121 (by decide +kernel)) rfl
theorem wd627 : Cond.code yX3_wantedAt cX3_wantedAt 4 (some .int) ∈ gW := gm (tm_5 122 (by decide +kernel)) rfl
theorem wd628 : Cond.methodLink RX9 318 yX3_wantedAt ∈ gW := gm (tm_5 119 (by decide +kernel)) rfl
theorem wd629 : Cond.instanceMethod yX9_atRest ∈ gW := gm (tm_5 156 (by decide +kernel)) rfl
theorem wd630 : Cond.selects RX9 yX9_atRest yX9_atRest ∈ gW := gm (gmP 13 (by decide +kernel)) rfl
theorem wd631 : Cond.code yX9_atRest cX9_atRest 5 (some .boolean) ∈ gW := gm (tm_5 157 (by decide +kernel)) rfl
theorem wd632 : Cond.methodLink RX9 336 yX9_atRest ∈ gW := gm (tm_5 154 (by decide +kernel)) rfl
theorem wd633 : Cond.instanceMethod yX9_areTwo ∈ gW := gm (tm_5 152 (by decide +kernel)) rfl
theorem wd634 : Cond.selects RX9 yX9_areTwo yX9_areTwo ∈ gW := gm (gmP 12 (by decide +kernel)) rfl
theorem wd635 : Cond.code yX9_areTwo cX9_areTwo 3 (some .boolean) ∈ gW := gm (tm_5 153 (by decide +kernel)) rfl
theorem wd636 : Cond.methodLink RX9 333 yX9_areTwo ∈ gW := gm (tm_5 150 (by decide +kernel)) rfl
theorem wd637 : Cond.static yX9_isChoice ∈ gW := gm (tm_5 167 (by decide +kernel)) rfl
theorem wd638 : Cond.code yX9_isChoice cX9_isChoice 1 (some .boolean) ∈ gW := gm (tm_5 168 (by decide +kernel)) rfl
theorem wd639 : Cond.methodLink RX9 340 yX9_isChoice ∈ gW := gm (tm_5 166 (by decide +kernel)) rfl
theorem wd640 : Cond.fieldLink RX9 77 "GooseShares" "fog" "LGooseShares$Fog;" ∈ gW := gm (tm_2 107 (by decide +kernel)) rfl
theorem wd641 : Cond.instanceMethod yX1_servedWeight ∈ gW := gm (tm_5 174 (by decide +kernel)) rfl
theorem wd642 : Cond.selects RX1 yX1_servedWeight yX1_servedWeight ∈ gW := gm (tm_5 175 (by decide +kernel)) rfl
theorem wd643 : Cond.code yX1_servedWeight cX1_servedWeight 4 (some .int) ∈ gW := gm (tm_5 176 (by decide +kernel)) rfl
theorem wd644 : Cond.methodLink RX9 347 yX1_servedWeight ∈ gW := gm (tm_5 173 (by decide +kernel)) rfl
theorem wd645 : Cond.instanceMethod yX1_allWeight ∈ gW := gm (tm_5 190 (by decide +kernel)) rfl
theorem wd646 : Cond.selects RX1 yX1_allWeight yX1_allWeight ∈ gW := gm (tm_5 191 (by decide +kernel)) rfl
theorem wd647 : Cond.code yX1_allWeight cX1_allWeight 3 (some .int) ∈ gW := gm (tm_5 192 (by decide +kernel)) rfl
theorem wd648 : Cond.methodLink RX9 350 yX1_allWeight ∈ gW := gm (tm_5 189 (by decide +kernel)) rfl
theorem wd649 : Cond.instanceMethod yX1_paidWeight ∈ gW := gm (tm_5 198 (by decide +kernel)) rfl
theorem wd650 : Cond.selects RX1 yX1_paidWeight yX1_paidWeight ∈ gW := gm (tm_5 199 (by decide +kernel)) rfl
theorem wd651 : Cond.code yX1_paidWeight cX1_paidWeight 3 (some .int) ∈ gW := gm (tm_5 200 (by decide +kernel)) rfl
theorem wd652 : Cond.methodLink RX9 353 yX1_paidWeight ∈ gW := gm (tm_5 197 (by decide +kernel)) rfl
theorem wd653 : Cond.instanceMethod yX1_clearWeight ∈ gW := gm (tm_5 207 (by decide +kernel)) rfl
theorem wd654 : Cond.selects RX1 yX1_clearWeight yX1_clearWeight ∈ gW := gm (tm_5 208 (by decide +kernel)) rfl
theorem wd655 : Cond.code yX1_clearWeight cX1_clearWeight 4 (some .int) ∈ gW := gm (tm_5 209 (by decide +kernel)) rfl
theorem wd656 : Cond.methodLink RX9 356 yX1_clearWeight ∈ gW := gm (tm_5 206 (by decide +kernel)) rfl
theorem wd657 : Cond.static yX9_isSeed ∈ gW := gm (tm_6 12 (by decide +kernel)) rfl
theorem wd658 : Cond.code yX9_isSeed cX9_isSeed 1 (some .boolean) ∈ gW := gm (tm_6 13 (by decide +kernel)) rfl
theorem wd659 : Cond.methodLink RX9 371 yX9_isSeed ∈ gW := gm (tm_6 11 (by decide +kernel)) rfl
theorem wd660 : Cond.instanceMethod yX1_drawFrom ∈ gW := gm (tm_6 16 (by decide +kernel)) rfl
theorem wd661 : Cond.selects RX1 yX1_drawFrom yX1_drawFrom ∈ gW := gm (tm_6 17 (by decide +kernel)) rfl
theorem wd662 : Cond.code yX1_drawFrom cX1_drawFrom 6 (some .int) ∈ gW := gm (tm_6 18 (by decide +kernel)) rfl
theorem wd663 : Cond.methodLink RX9 374 yX1_drawFrom ∈ gW := gm (tm_6 15 (by decide +kernel)) rfl
theorem wd664 : Cond.methodLink RX9 377 yX1_servedIn ∈ gW := gm (tm_6 24 (by decide +kernel)) rfl
theorem wd665 : Cond.fieldLink RX9 359 "GooseShares$Land" "acts" "I" ∈ gW := gm (tm_1 94 (by decide +kernel)) rfl
theorem wd666 : Cond.fieldLink RX9 10 "GooseShares" "tape" "LGooseShares$Tape;" ∈ gW := gm (tm_2 98 (by decide +kernel)) rfl
theorem wd667 : Cond.fieldLink RX9 86 "GooseShares$Tape" "length" "I" ∈ gW := gm (tm_1 36 (by decide +kernel)) rfl
theorem wd668 : Cond.instanceMethod yX8_append ∈ gW := gm (tm_2 137 (by decide +kernel)) rfl
theorem wd669 : Cond.selects RX8 yX8_append yX8_append ∈ gW := gm (tm_2 138 (by decide +kernel)) rfl
theorem wd670 : Cond.initialized RX8 ∈ gW := gm (tm_1 2 (by decide +kernel)) rfl
theorem wd671 : Cond.code yX8_append cX8_append 3 none ∈ gW := gm (tm_2 139 (by decide +kernel)) rfl
theorem wd672 : Cond.methodLink RX9 90 yX8_append ∈ gW := gm (tm_2 136 (by decide +kernel)) rfl
theorem wd673 : Cond.fieldLink RX9 28 "GooseShares" "reader" "LGooseShares$Reader;" ∈ gW := gm (tm_2 100 (by decide +kernel)) rfl
theorem wd674 : Cond.fieldLink RX9 113 "GooseShares$Reader" "where" "I" ∈ gW := gm (tm_1 183 (by decide +kernel)) rfl
theorem wd675 : Cond.fieldLink RX9 110 "GooseShares$Reader" "trouble" "I" ∈ gW := gm (tm_1 181 (by decide +kernel)) rfl
theorem wd676 : Cond.fieldLink RX9 380 "GooseShares$Land" "wide" "I" ∈ gW := gm (tm_1 56 (by decide +kernel)) rfl
theorem wd677 : Cond.fieldLink RX9 383 "GooseShares$Land" "high" "I" ∈ gW := gm (tm_1 59 (by decide +kernel)) rfl
theorem wd678 : Cond.fieldLink RX9 386 "GooseShares$Land" "ear" "I" ∈ gW := gm (tm_1 69 (by decide +kernel)) rfl
theorem wd679 : Cond.fieldLink RX9 389 "GooseShares$Land" "odds" "I" ∈ gW := gm (tm_1 73 (by decide +kernel)) rfl
theorem wd680 : Cond.fieldLink RX9 107 "GooseShares$Land" "lines" "I" ∈ gW := gm (tm_1 53 (by decide +kernel)) rfl
theorem wd681 : Cond.instanceMethod yX9_rowsHad ∈ gW := gm (tm_6 39 (by decide +kernel)) rfl
theorem wd682 : Cond.selects RX9 yX9_rowsHad yX9_rowsHad ∈ gW := gm (gmP 15 (by decide +kernel)) rfl
theorem wd683 : Cond.code yX9_rowsHad cX9_rowsHad 3 (some .int) ∈ gW := gm (tm_6 40 (by decide +kernel)) rfl
theorem wd684 : Cond.methodLink RX9 392 yX9_rowsHad ∈ gW := gm (tm_6 37 (by decide +kernel)) rfl
theorem wd685 : Cond.instanceMethod yX4_forget ∈ gW := gm (tm_3 52 (by decide +kernel)) rfl
theorem wd686 : Cond.selects RX4 yX4_forget yX4_forget ∈ gW := gm (tm_3 53 (by decide +kernel)) rfl
theorem wd687 : Cond.code yX4_forget cX4_forget 1 none ∈ gW := gm (tm_3 54 (by decide +kernel)) rfl
theorem wd688 : Cond.methodLink RX9 104 yX4_forget ∈ gW := gm (tm_3 51 (by decide +kernel)) rfl
theorem wd689 : Cond.instanceMethod yX3_takeBack ∈ gW := gm (tm_6 0 (by decide +kernel)) rfl
theorem wd690 : Cond.selects RX3 yX3_takeBack yX3_takeBack ∈ gW := gm (tm_6 1 (by decide +kernel)) rfl
theorem wd691 : Cond.code yX3_takeBack cX3_takeBack 2 none ∈ gW := gm (tm_6 2 (by decide +kernel)) rfl
theorem wd692 : Cond.methodLink RX9 368 yX3_takeBack ∈ gW := gm (tm_5 239 (by decide +kernel)) rfl
theorem wd693 : Cond.instanceMethod yX5_readTape ∈ gW := gm (tm_2 149 (by decide +kernel)) rfl
theorem wd694 : Cond.selects RX5 yX5_readTape yX5_readTape ∈ gW := gm (tm_2 150 (by decide +kernel)) rfl
theorem wd695 : Cond.code yX5_readTape cX5_readTape 2 (some .boolean) ∈ gW := gm (tm_2 151 (by decide +kernel)) rfl
theorem wd696 : Cond.methodLink RX9 94 yX5_readTape ∈ gW := gm (tm_2 148 (by decide +kernel)) rfl
theorem wd697 : Cond.fieldLink RX9 98 "GooseShares$Reader" "draft" "LGooseShares$Land;" ∈ gW := gm (tm_1 176 (by decide +kernel)) rfl
theorem wd698 : Cond.instanceMethod yX3_become ∈ gW := gm (tm_3 45 (by decide +kernel)) rfl
theorem wd699 : Cond.selects RX3 yX3_become yX3_become ∈ gW := gm (tm_3 46 (by decide +kernel)) rfl
theorem wd700 : Cond.code yX3_become cX3_become 2 none ∈ gW := gm (tm_3 47 (by decide +kernel)) rfl
theorem wd701 : Cond.methodLink RX9 101 yX3_become ∈ gW := gm (tm_3 44 (by decide +kernel)) rfl
theorem wd702 : Cond.instanceMethod yX3_putLamp ∈ gW := gm (tm_5 216 (by decide +kernel)) rfl
theorem wd703 : Cond.selects RX3 yX3_putLamp yX3_putLamp ∈ gW := gm (tm_5 217 (by decide +kernel)) rfl
theorem wd704 : Cond.code yX3_putLamp cX3_putLamp 4 (some .int) ∈ gW := gm (tm_5 218 (by decide +kernel)) rfl
theorem wd705 : Cond.methodLink RX9 362 yX3_putLamp ∈ gW := gm (tm_5 215 (by decide +kernel)) rfl
theorem wd706 : Cond.instanceMethod yX3_putHeading ∈ gW := gm (tm_5 232 (by decide +kernel)) rfl
theorem wd707 : Cond.selects RX3 yX3_putHeading yX3_putHeading ∈ gW := gm (tm_5 233 (by decide +kernel)) rfl
theorem wd708 : Cond.code yX3_putHeading cX3_putHeading 4 (some .int) ∈ gW := gm (tm_5 234 (by decide +kernel)) rfl
theorem wd709 : Cond.methodLink RX9 365 yX3_putHeading ∈ gW := gm (tm_5 231 (by decide +kernel)) rfl
theorem wd710 : Cond.methodLink RX9 324 yX4_costOf ∈ gW := gm (tm_5 127 (by decide +kernel)) rfl
theorem wd711 : Cond.instanceMethod yX4_borneBy ∈ gW := gm (tm_5 134 (by decide +kernel)) rfl
theorem wd712 : Cond.selects RX4 yX4_borneBy yX4_borneBy ∈ gW := gm (tm_5 135 (by decide +kernel)) rfl
theorem wd713 : Cond.code yX4_borneBy cX4_borneBy 6 (some .int) ∈ gW := gm (tm_5 136 (by decide +kernel)) rfl
theorem wd714 : Cond.methodLink RX9 327 yX4_borneBy ∈ gW := gm (tm_5 133 (by decide +kernel)) rfl
theorem wd715 : Cond.instanceMethod yX4_orders ∈ gW := gm (tm_5 143 (by decide +kernel)) rfl
theorem wd716 : Cond.selects RX4 yX4_orders yX4_orders ∈ gW := gm (tm_5 144 (by decide +kernel)) rfl
theorem wd717 : Cond.code yX4_orders cX4_orders 1 (some .int) ∈ gW := gm (tm_5 145 (by decide +kernel)) rfl
theorem wd718 : Cond.methodLink RX9 330 yX4_orders ∈ gW := gm (tm_5 142 (by decide +kernel)) rfl
theorem wd719 : Cond.fieldLink RX9 32 "GooseShares" "images" "[LGooseShares$Land;" ∈ gW := gm (tm_2 101 (by decide +kernel)) rfl
theorem wd720 : Cond.fieldLink RX9 81 "GooseShares" "imaged" "[Z" ∈ gW := gm (tm_2 108 (by decide +kernel)) rfl
theorem wd721 : Cond.static yJ7_fill_d0a16 ∈ gW := gm (tm_6 58 (by decide +kernel)) rfl
theorem wd722 : Cond.code yJ7_fill_d0a16 cJ7_fill_d0a16 5 none ∈ gW := gm (tm_6 59 (by decide +kernel)) rfl
theorem wd723 : Cond.methodLink RX6 22 yJ7_fill_d0a16 ∈ gW := gm (tm_6 57 (by decide +kernel)) rfl
theorem wd724 : Cond.instanceMethod yX6_begin ∈ gW := gm (tm_6 54 (by decide +kernel)) rfl
theorem wd725 : Cond.selects RX6 yX6_begin yX6_begin ∈ gW := gm (tm_6 55 (by decide +kernel)) rfl
theorem wd726 : Cond.code yX6_begin cX6_begin 3 none ∈ gW := gm (tm_6 56 (by decide +kernel)) rfl
theorem wd727 : Cond.methodLink RX9 398 yX6_begin ∈ gW := gm (tm_6 53 (by decide +kernel)) rfl
theorem wd728 : Cond.fieldLink RX9 405 "GooseShares$Row" "length" "I" ∈ gW := gm (tm_2 88 (by decide +kernel)) rfl
theorem wd729 : Cond.instanceMethod yX6_put ∈ gW := gm (tm_6 65 (by decide +kernel)) rfl
theorem wd730 : Cond.selects RX6 yX6_put yX6_put ∈ gW := gm (tm_6 66 (by decide +kernel)) rfl
theorem wd731 : Cond.code yX6_put cX6_put 4 none ∈ gW := gm (tm_6 67 (by decide +kernel)) rfl
theorem wd732 : Cond.methodLink RX9 406 yX6_put ∈ gW := gm (tm_6 64 (by decide +kernel)) rfl
theorem wd733 : Cond.fieldLink RX9 410 "GooseShares$Row" "width" "I" ∈ gW := gm (tm_2 85 (by decide +kernel)) rfl
theorem wd734 : Cond.instanceMethod yX6_reaches ∈ gW := gm (tm_6 73 (by decide +kernel)) rfl
theorem wd735 : Cond.selects RX6 yX6_reaches yX6_reaches ∈ gW := gm (tm_6 74 (by decide +kernel)) rfl
theorem wd736 : Cond.code yX6_reaches cX6_reaches 3 (some .boolean) ∈ gW := gm (tm_6 75 (by decide +kernel)) rfl
theorem wd737 : Cond.methodLink RX9 413 yX6_reaches ∈ gW := gm (tm_6 72 (by decide +kernel)) rfl
theorem wd738 : Cond.fieldLink RX9 416 "GooseShares$Row" "numbers" "[J" ∈ gW := gm (tm_2 83 (by decide +kernel)) rfl
theorem wd739 : Cond.methodLink RX9 420 arraycopyName ∈ gW := gm (tm_6 76 (by decide +kernel)) rfl
theorem my_X3_hasMember : gWV RX3 yX3_hasMember cX3_hasMember 2 (some .boolean) 1 := ⟨⟨wd415, wd416, wd19, wd417⟩, ⟨rfl, by decide +kernel, by decide +kernel, by decide +kernel⟩⟩
theorem my_X6_isNothing : gWV RX6 yX6_isNothing cX6_isNothing 1 (some .boolean) 0 := ⟨⟨wd420, wd421, wd422, wd423⟩, ⟨rfl, by decide +kernel, by decide +kernel, by decide +kernel⟩⟩
theorem my_X9_servedUnder : gWV RX9 yX9_servedUnder cX9_servedUnder 3 (some .int) 2 := ⟨⟨wd432, wd433, wd2, wd434⟩, ⟨rfl, by decide +kernel, by decide +kernel, by decide +kernel⟩⟩
theorem my_X9_passNow : gWV RX9 yX9_passNow cX9_passNow 1 none 0 := ⟨⟨wd440, wd441, wd2, wd442⟩, ⟨rfl, by decide +kernel, by decide +kernel, by decide +kernel⟩⟩
theorem my_X7_deafBits : gWV RX7 yX7_deafBits cX7_deafBits 3 (some .int) 0 := ⟨⟨wd445, wd446, wd75, wd447⟩, ⟨rfl, by decide +kernel, by decide +kernel, by decide +kernel⟩⟩
theorem my_X9_followNow : gWV RX9 yX9_followNow cX9_followNow 2 none 1 := ⟨⟨wd451, wd452, wd2, wd453⟩, ⟨rfl, by decide +kernel, by decide +kernel, by decide +kernel⟩⟩
theorem my_X9_incomeUnder : gWV RX9 yX9_incomeUnder cX9_incomeUnder 3 (some .int) 2 := ⟨⟨wd460, wd461, wd2, wd462⟩, ⟨rfl, by decide +kernel, by decide +kernel, by decide +kernel⟩⟩
theorem my_X9_gain : gWV RX9 yX9_gain cX9_gain 9 (some .int) 4 := ⟨⟨wd466, wd467, wd2, wd468⟩, ⟨rfl, by decide +kernel, by decide +kernel, by decide +kernel⟩⟩
theorem my_X9_isSlot : gWS RX9 yX9_isSlot cX9_isSlot 1 (some .boolean) 1 := ⟨⟨wd470, wd2, wd471⟩, ⟨rfl, by decide +kernel, by decide +kernel, by decide +kernel⟩⟩
theorem my_X9_rowRefusal : gWV RX9 yX9_rowRefusal cX9_rowRefusal 2 (some .int) 1 := ⟨⟨wd474, wd475, wd2, wd476⟩, ⟨rfl, by decide +kernel, by decide +kernel, by decide +kernel⟩⟩
theorem my_X0_areSights : gWV RX0 yX0_areSights cX0_areSights 6 (some .boolean) 1 := ⟨⟨wd479, wd480, wd206, wd481⟩, ⟨rfl, by decide +kernel, by decide +kernel, by decide +kernel⟩⟩
theorem my_X0_areReports : gWV RX0 yX0_areReports cX0_areReports 4 (some .boolean) 1 := ⟨⟨wd483, wd484, wd206, wd485⟩, ⟨rfl, by decide +kernel, by decide +kernel, by decide +kernel⟩⟩
theorem my_X9_sightRefusal : gWV RX9 yX9_sightRefusal cX9_sightRefusal 3 (some .int) 1 := ⟨⟨wd487, wd488, wd2, wd489⟩, ⟨rfl, by decide +kernel, by decide +kernel, by decide +kernel⟩⟩
theorem my_X0_lawsFitting : gWV RX0 yX0_lawsFitting cX0_lawsFitting 4 (some .int) 1 := ⟨⟨wd491, wd492, wd206, wd493⟩, ⟨rfl, by decide +kernel, by decide +kernel, by decide +kernel⟩⟩
theorem my_X0_flightToAsk : gWV RX0 yX0_flightToAsk cX0_flightToAsk 6 (some .int) 1 := ⟨⟨wd495, wd496, wd206, wd497⟩, ⟨rfl, by decide +kernel, by decide +kernel, by decide +kernel⟩⟩
theorem my_X3_hasFlight : gWV RX3 yX3_hasFlight cX3_hasFlight 2 (some .boolean) 1 := ⟨⟨wd499, wd500, wd19, wd501⟩, ⟨rfl, by decide +kernel, by decide +kernel, by decide +kernel⟩⟩
theorem my_X9_isStep : gWS RX9 yX9_isStep cX9_isStep 1 (some .boolean) 1 := ⟨⟨wd505, wd2, wd506⟩, ⟨rfl, by decide +kernel, by decide +kernel, by decide +kernel⟩⟩
theorem my_X7_headingAt : gWV RX7 yX7_headingAt cX7_headingAt 2 (some .int) 1 := ⟨⟨wd508, wd509, wd75, wd510⟩, ⟨rfl, by decide +kernel, by decide +kernel, by decide +kernel⟩⟩
theorem my_X3_hasCell : gWV RX3 yX3_hasCell cX3_hasCell 2 (some .boolean) 1 := ⟨⟨wd514, wd515, wd19, wd516⟩, ⟨rfl, by decide +kernel, by decide +kernel, by decide +kernel⟩⟩
theorem my_X9_flightsOver : gWV RX9 yX9_flightsOver cX9_flightsOver 4 (some .int) 1 := ⟨⟨wd518, wd519, wd2, wd520⟩, ⟨rfl, by decide +kernel, by decide +kernel, by decide +kernel⟩⟩
theorem my_X9_geeseWithin : gWV RX9 yX9_geeseWithin cX9_geeseWithin 6 (some .int) 2 := ⟨⟨wd522, wd523, wd2, wd524⟩, ⟨rfl, by decide +kernel, by decide +kernel, by decide +kernel⟩⟩
theorem my_X7_stepsWithin : gWV RX7 yX7_stepsWithin cX7_stepsWithin 4 (some .int) 1 := ⟨⟨wd526, wd527, wd75, wd528⟩, ⟨rfl, by decide +kernel, by decide +kernel, by decide +kernel⟩⟩
theorem my_X9_unpaidBits : gWV RX9 yX9_unpaidBits cX9_unpaidBits 2 (some .int) 0 := ⟨⟨wd531, wd532, wd2, wd533⟩, ⟨rfl, by decide +kernel, by decide +kernel, by decide +kernel⟩⟩
theorem my_X7_firstWithin : gWV RX7 yX7_firstWithin cX7_firstWithin 3 (some .int) 1 := ⟨⟨wd535, wd536, wd75, wd537⟩, ⟨rfl, by decide +kernel, by decide +kernel, by decide +kernel⟩⟩
theorem my_X9_earshotOfUnpaid : gWV RX9 yX9_earshotOfUnpaid cX9_earshotOfUnpaid 3 (some .int) 0 := ⟨⟨wd539, wd540, wd2, wd541⟩, ⟨rfl, by decide +kernel, by decide +kernel, by decide +kernel⟩⟩
theorem my_X7_keepTrack : gWV RX7 yX7_keepTrack cX7_keepTrack 1 none 0 := ⟨⟨wd543, wd544, wd75, wd545⟩, ⟨rfl, by decide +kernel, by decide +kernel, by decide +kernel⟩⟩
theorem my_X7_firstMeeting : gWV RX7 yX7_firstMeeting cX7_firstMeeting 2 (some .int) 0 := ⟨⟨wd547, wd548, wd75, wd549⟩, ⟨rfl, by decide +kernel, by decide +kernel, by decide +kernel⟩⟩
theorem my_X3_allCells : gWV RX3 yX3_allCells cX3_allCells 1 (some .int) 0 := ⟨⟨wd551, wd552, wd19, wd553⟩, ⟨rfl, by decide +kernel, by decide +kernel, by decide +kernel⟩⟩
theorem my_X3_hasSet : gWV RX3 yX3_hasSet cX3_hasSet 2 (some .boolean) 1 := ⟨⟨wd556, wd557, wd19, wd558⟩, ⟨rfl, by decide +kernel, by decide +kernel, by decide +kernel⟩⟩
theorem my_X4_learn : gWV RX4 yX4_learn cX4_learn 4 none 0 := ⟨⟨wd561, wd562, wd275, wd563⟩, ⟨rfl, by decide +kernel, by decide +kernel, by decide +kernel⟩⟩
theorem my_X9_isLampCount : gWS RX9 yX9_isLampCount cX9_isLampCount 1 (some .boolean) 1 := ⟨⟨wd568, wd2, wd569⟩, ⟨rfl, by decide +kernel, by decide +kernel, by decide +kernel⟩⟩
theorem my_X4_richest : gWV RX4 yX4_richest cX4_richest 4 (some .int) 1 := ⟨⟨wd571, wd572, wd275, wd573⟩, ⟨rfl, by decide +kernel, by decide +kernel, by decide +kernel⟩⟩
theorem my_X4_mostServed : gWV RX4 yX4_mostServed cX4_mostServed 4 (some .int) 1 := ⟨⟨wd575, wd576, wd275, wd577⟩, ⟨rfl, by decide +kernel, by decide +kernel, by decide +kernel⟩⟩
theorem my_X9_bestChange : gWV RX9 yX9_bestChange cX9_bestChange 6 (some .int) 1 := ⟨⟨wd579, wd580, wd2, wd581⟩, ⟨rfl, by decide +kernel, by decide +kernel, by decide +kernel⟩⟩
theorem my_X9_reportRefusal : gWV RX9 yX9_reportRefusal cX9_reportRefusal 3 (some .int) 1 := ⟨⟨wd583, wd584, wd2, wd585⟩, ⟨rfl, by decide +kernel, by decide +kernel, by decide +kernel⟩⟩
theorem my_X0_sift : gWV RX0 yX0_sift cX0_sift 5 (some .int) 1 := ⟨⟨wd587, wd588, wd206, wd589⟩, ⟨rfl, by decide +kernel, by decide +kernel, by decide +kernel⟩⟩
theorem my_X0_cellBits : gWV RX0 yX0_cellBits cX0_cellBits 3 (some .int) 0 := ⟨⟨wd591, wd592, wd206, wd593⟩, ⟨rfl, by decide +kernel, by decide +kernel, by decide +kernel⟩⟩
theorem my_X0_memberToAsk : gWV RX0 yX0_memberToAsk cX0_memberToAsk 6 (some .int) 1 := ⟨⟨wd595, wd596, wd206, wd597⟩, ⟨rfl, by decide +kernel, by decide +kernel, by decide +kernel⟩⟩
theorem my_X9_isFractionPart : gWS RX9 yX9_isFractionPart cX9_isFractionPart 1 (some .boolean) 1 := ⟨⟨wd600, wd2, wd601⟩, ⟨rfl, by decide +kernel, by decide +kernel, by decide +kernel⟩⟩
theorem my_X9_partOf : gWS RX9 yX9_partOf cX9_partOf 4 (some .int) 3 := ⟨⟨wd604, wd2, wd605⟩, ⟨rfl, by decide +kernel, by decide +kernel, by decide +kernel⟩⟩
theorem my_X2_weigh : gWV RX2 yX2_weigh cX2_weigh 4 none 0 := ⟨⟨wd608, wd609, wd172, wd610⟩, ⟨rfl, by decide +kernel, by decide +kernel, by decide +kernel⟩⟩
theorem my_X2_cellOf : gWV RX2 yX2_cellOf cX2_cellOf 6 (some .int) 1 := ⟨⟨wd613, wd614, wd172, wd615⟩, ⟨rfl, by decide +kernel, by decide +kernel, by decide +kernel⟩⟩
theorem my_X2_goodSwaps : gWV RX2 yX2_goodSwaps cX2_goodSwaps 4 (some .int) 0 := ⟨⟨wd617, wd618, wd172, wd619⟩, ⟨rfl, by decide +kernel, by decide +kernel, by decide +kernel⟩⟩
theorem my_X2_firstSwap : gWV RX2 yX2_firstSwap cX2_firstSwap 3 (some .int) 0 := ⟨⟨wd621, wd622, wd172, wd623⟩, ⟨rfl, by decide +kernel, by decide +kernel, by decide +kernel⟩⟩
theorem my_X3_wantedAt : gWV RX3 yX3_wantedAt cX3_wantedAt 4 (some .int) 1 := ⟨⟨wd625, wd626, wd19, wd627⟩, ⟨rfl, by decide +kernel, by decide +kernel, by decide +kernel⟩⟩
theorem my_X9_atRest : gWV RX9 yX9_atRest cX9_atRest 5 (some .boolean) 4 := ⟨⟨wd629, wd630, wd2, wd631⟩, ⟨rfl, by decide +kernel, by decide +kernel, by decide +kernel⟩⟩
theorem my_X9_areTwo : gWV RX9 yX9_areTwo cX9_areTwo 3 (some .boolean) 2 := ⟨⟨wd633, wd634, wd2, wd635⟩, ⟨rfl, by decide +kernel, by decide +kernel, by decide +kernel⟩⟩
theorem my_X9_isChoice : gWS RX9 yX9_isChoice cX9_isChoice 1 (some .boolean) 1 := ⟨⟨wd637, wd2, wd638⟩, ⟨rfl, by decide +kernel, by decide +kernel, by decide +kernel⟩⟩
theorem my_X1_servedWeight : gWV RX1 yX1_servedWeight cX1_servedWeight 4 (some .int) 1 := ⟨⟨wd641, wd642, wd138, wd643⟩, ⟨rfl, by decide +kernel, by decide +kernel, by decide +kernel⟩⟩
theorem my_X1_allWeight : gWV RX1 yX1_allWeight cX1_allWeight 3 (some .int) 0 := ⟨⟨wd645, wd646, wd138, wd647⟩, ⟨rfl, by decide +kernel, by decide +kernel, by decide +kernel⟩⟩
theorem my_X1_paidWeight : gWV RX1 yX1_paidWeight cX1_paidWeight 3 (some .int) 0 := ⟨⟨wd649, wd650, wd138, wd651⟩, ⟨rfl, by decide +kernel, by decide +kernel, by decide +kernel⟩⟩
theorem my_X1_clearWeight : gWV RX1 yX1_clearWeight cX1_clearWeight 4 (some .int) 1 := ⟨⟨wd653, wd654, wd138, wd655⟩, ⟨rfl, by decide +kernel, by decide +kernel, by decide +kernel⟩⟩
theorem my_X9_isSeed : gWS RX9 yX9_isSeed cX9_isSeed 1 (some .boolean) 1 := ⟨⟨wd657, wd2, wd658⟩, ⟨rfl, by decide +kernel, by decide +kernel, by decide +kernel⟩⟩
theorem my_X1_drawFrom : gWV RX1 yX1_drawFrom cX1_drawFrom 6 (some .int) 1 := ⟨⟨wd660, wd661, wd138, wd662⟩, ⟨rfl, by decide +kernel, by decide +kernel, by decide +kernel⟩⟩
theorem my_X8_append : gWV RX8 yX8_append cX8_append 3 none 1 := ⟨⟨wd668, wd669, wd670, wd671⟩, ⟨rfl, by decide +kernel, by decide +kernel, by decide +kernel⟩⟩
theorem my_X9_rowsHad : gWV RX9 yX9_rowsHad cX9_rowsHad 3 (some .int) 0 := ⟨⟨wd681, wd682, wd2, wd683⟩, ⟨rfl, by decide +kernel, by decide +kernel, by decide +kernel⟩⟩
theorem my_X4_forget : gWV RX4 yX4_forget cX4_forget 1 none 0 := ⟨⟨wd685, wd686, wd275, wd687⟩, ⟨rfl, by decide +kernel, by decide +kernel, by decide +kernel⟩⟩
theorem my_X3_takeBack : gWV RX3 yX3_takeBack cX3_takeBack 2 none 0 := ⟨⟨wd689, wd690, wd19, wd691⟩, ⟨rfl, by decide +kernel, by decide +kernel, by decide +kernel⟩⟩
theorem my_X5_readTape : gWV RX5 yX5_readTape cX5_readTape 2 (some .boolean) 0 := ⟨⟨wd693, wd694, wd350, wd695⟩, ⟨rfl, by decide +kernel, by decide +kernel, by decide +kernel⟩⟩
theorem my_X3_become : gWV RX3 yX3_become cX3_become 2 none 1 := ⟨⟨wd698, wd699, wd19, wd700⟩, ⟨rfl, by decide +kernel, by decide +kernel, by decide +kernel⟩⟩
theorem my_X3_putLamp : gWV RX3 yX3_putLamp cX3_putLamp 4 (some .int) 2 := ⟨⟨wd702, wd703, wd19, wd704⟩, ⟨rfl, by decide +kernel, by decide +kernel, by decide +kernel⟩⟩
theorem my_X3_putHeading : gWV RX3 yX3_putHeading cX3_putHeading 4 (some .int) 2 := ⟨⟨wd706, wd707, wd19, wd708⟩, ⟨rfl, by decide +kernel, by decide +kernel, by decide +kernel⟩⟩
theorem my_X4_borneBy : gWV RX4 yX4_borneBy cX4_borneBy 6 (some .int) 1 := ⟨⟨wd711, wd712, wd275, wd713⟩, ⟨rfl, by decide +kernel, by decide +kernel, by decide +kernel⟩⟩
theorem my_X4_orders : gWV RX4 yX4_orders cX4_orders 1 (some .int) 0 := ⟨⟨wd715, wd716, wd275, wd717⟩, ⟨rfl, by decide +kernel, by decide +kernel, by decide +kernel⟩⟩
theorem my_J7_fill_d0a16 : gWS "java/util/Arrays" yJ7_fill_d0a16 cJ7_fill_d0a16 5 none 2 := ⟨⟨wd721, wd100, wd722⟩, ⟨rfl, by decide +kernel, by decide +kernel, by decide +kernel⟩⟩
theorem my_X6_begin : gWV RX6 yX6_begin cX6_begin 3 none 2 := ⟨⟨wd724, wd725, wd422, wd726⟩, ⟨rfl, by decide +kernel, by decide +kernel, by decide +kernel⟩⟩
theorem my_X6_put : gWV RX6 yX6_put cX6_put 4 none 2 := ⟨⟨wd729, wd730, wd422, wd731⟩, ⟨rfl, by decide +kernel, by decide +kernel, by decide +kernel⟩⟩
theorem my_X6_reaches : gWV RX6 yX6_reaches cX6_reaches 3 (some .boolean) 2 := ⟨⟨wd734, wd735, wd422, wd736⟩, ⟨rfl, by decide +kernel, by decide +kernel, by decide +kernel⟩⟩
theorem tl_m1000 : ((-1000) : Int32).toInt = (-1000) := by decide
theorem rl_m1000 : rg ((-1000) : Int32) (-1000) (-1000) := ⟨by rw [tl_m1000]; exact Int.le_refl _, by rw [tl_m1000]; exact Int.le_refl _⟩
theorem tl_m7 : ((-7) : Int32).toInt = (-7) := by decide
theorem rl_m7 : rg ((-7) : Int32) (-7) (-7) := ⟨by rw [tl_m7]; exact Int.le_refl _, by rw [tl_m7]; exact Int.le_refl _⟩
theorem tl_m6 : ((-6) : Int32).toInt = (-6) := by decide
theorem rl_m6 : rg ((-6) : Int32) (-6) (-6) := ⟨by rw [tl_m6]; exact Int.le_refl _, by rw [tl_m6]; exact Int.le_refl _⟩
theorem tl_m5 : ((-5) : Int32).toInt = (-5) := by decide
theorem rl_m5 : rg ((-5) : Int32) (-5) (-5) := ⟨by rw [tl_m5]; exact Int.le_refl _, by rw [tl_m5]; exact Int.le_refl _⟩
theorem tl_m4 : ((-4) : Int32).toInt = (-4) := by decide
theorem rl_m4 : rg ((-4) : Int32) (-4) (-4) := ⟨by rw [tl_m4]; exact Int.le_refl _, by rw [tl_m4]; exact Int.le_refl _⟩
theorem tl_m3 : ((-3) : Int32).toInt = (-3) := by decide
theorem rl_m3 : rg ((-3) : Int32) (-3) (-3) := ⟨by rw [tl_m3]; exact Int.le_refl _, by rw [tl_m3]; exact Int.le_refl _⟩
theorem tl_m2 : ((-2) : Int32).toInt = (-2) := by decide
theorem rl_m2 : rg ((-2) : Int32) (-2) (-2) := ⟨by rw [tl_m2]; exact Int.le_refl _, by rw [tl_m2]; exact Int.le_refl _⟩
theorem tl_7 : (7 : Int32).toInt = 7 := by decide
theorem rl_7 : rg (7 : Int32) 7 7 := ⟨by rw [tl_7]; exact Int.le_refl _, by rw [tl_7]; exact Int.le_refl _⟩
theorem tl_9 : (9 : Int32).toInt = 9 := by decide
theorem rl_9 : rg (9 : Int32) 9 9 := ⟨by rw [tl_9]; exact Int.le_refl _, by rw [tl_9]; exact Int.le_refl _⟩
theorem tl_11 : (11 : Int32).toInt = 11 := by decide
theorem rl_11 : rg (11 : Int32) 11 11 := ⟨by rw [tl_11]; exact Int.le_refl _, by rw [tl_11]; exact Int.le_refl _⟩
theorem tl_60 : (60 : Int32).toInt = 60 := by decide
theorem rl_60 : rg (60 : Int32) 60 60 := ⟨by rw [tl_60]; exact Int.le_refl _, by rw [tl_60]; exact Int.le_refl _⟩
theorem tl_999 : (999 : Int32).toInt = 999 := by decide
theorem rl_999 : rg (999 : Int32) 999 999 := ⟨by rw [tl_999]; exact Int.le_refl _, by rw [tl_999]; exact Int.le_refl _⟩
