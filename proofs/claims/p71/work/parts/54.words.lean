theorem dX10_asks_0 : decode cX10_asks 0 = .ok (.aload_n 0, 1) := by decide +kernel
theorem dX10_asks_1 : decode cX10_asks 1 = .ok (.lload_n 1, 1) := by decide +kernel
theorem dX10_asks_2 : decode cX10_asks 2 = .ok (.invokevirtual 157, 3) := by decide +kernel
theorem dX10_asks_5 : decode cX10_asks 5 = .ok (.ifCond .ne 8, 3) := by decide +kernel
theorem dX10_asks_8 : decode cX10_asks 8 = .ok (.aload_n 0, 1) := by decide +kernel
theorem dX10_asks_9 : decode cX10_asks 9 = .ok (.iconst 1, 1) := by decide +kernel
theorem dX10_asks_10 : decode cX10_asks 10 = .ok (.invokevirtual 160, 3) := by decide +kernel
theorem dX10_asks_13 : decode cX10_asks 13 = .ok (.return_, 1) := by decide +kernel
theorem dX10_begins_0 : decode cX10_begins 0 = .ok (.aload_n 0, 1) := by decide +kernel
theorem dX10_begins_1 : decode cX10_begins 1 = .ok (.iconst 0, 1) := by decide +kernel
theorem dX10_begins_2 : decode cX10_begins 2 = .ok (.putfield 144, 3) := by decide +kernel
theorem dX10_begins_5 : decode cX10_begins 5 = .ok (.aload_n 0, 1) := by decide +kernel
theorem dX10_begins_6 : decode cX10_begins 6 = .ok (.iconst (-1), 1) := by decide +kernel
theorem dX10_begins_7 : decode cX10_begins 7 = .ok (.putfield 147, 3) := by decide +kernel
theorem dX10_begins_10 : decode cX10_begins 10 = .ok (.aload_n 0, 1) := by decide +kernel
theorem dX10_begins_11 : decode cX10_begins 11 = .ok (.iconst 0, 1) := by decide +kernel
theorem dX10_begins_12 : decode cX10_begins 12 = .ok (.putfield 116, 3) := by decide +kernel
theorem dX10_begins_15 : decode cX10_begins 15 = .ok (.aload_n 0, 1) := by decide +kernel
theorem dX10_begins_16 : decode cX10_begins 16 = .ok (.invokevirtual 154, 3) := by decide +kernel
theorem dX10_begins_19 : decode cX10_begins 19 = .ok (.return_, 1) := by decide +kernel
theorem dX10_cellHere_0 : decode cX10_cellHere 0 = .ok (.aload_n 0, 1) := by decide +kernel
theorem dX10_cellHere_1 : decode cX10_cellHere 1 = .ok (.ldc2_w 174, 3) := by decide +kernel
theorem dX10_cellHere_4 : decode cX10_cellHere 4 = .ok (.iconst 0, 1) := by decide +kernel
theorem dX10_cellHere_5 : decode cX10_cellHere 5 = .ok (.aload_n 0, 1) := by decide +kernel
theorem dX10_cellHere_6 : decode cX10_cellHere 6 = .ok (.iconst 0, 1) := by decide +kernel
theorem dX10_cellHere_7 : decode cX10_cellHere 7 = .ok (.invokevirtual 176, 3) := by decide +kernel
theorem dX10_cellHere_10 : decode cX10_cellHere 10 = .ok (.aload_n 0, 1) := by decide +kernel
theorem dX10_cellHere_11 : decode cX10_cellHere 11 = .ok (.iconst 1, 1) := by decide +kernel
theorem dX10_cellHere_12 : decode cX10_cellHere 12 = .ok (.invokevirtual 176, 3) := by decide +kernel
theorem dX10_cellHere_15 : decode cX10_cellHere 15 = .ok (.imul, 1) := by decide +kernel
theorem dX10_cellHere_16 : decode cX10_cellHere 16 = .ok (.iconst 1, 1) := by decide +kernel
theorem dX10_cellHere_17 : decode cX10_cellHere 17 = .ok (.isub, 1) := by decide +kernel
theorem dX10_cellHere_18 : decode cX10_cellHere 18 = .ok (.invokevirtual 180, 3) := by decide +kernel
theorem dX10_cellHere_21 : decode cX10_cellHere 21 = .ok (.ireturn, 1) := by decide +kernel
theorem dX10_clears_0 : decode cX10_clears 0 = .ok (.aload_n 0, 1) := by decide +kernel
theorem dX10_clears_1 : decode cX10_clears 1 = .ok (.getfield 31, 3) := by decide +kernel
theorem dX10_clears_4 : decode cX10_clears 4 = .ok (.iconst 4, 1) := by decide +kernel
theorem dX10_clears_5 : decode cX10_clears 5 = .ok (.iconst 0, 1) := by decide +kernel
theorem dX10_clears_6 : decode cX10_clears 6 = .ok (.iastore, 1) := by decide +kernel
theorem dX10_clears_7 : decode cX10_clears 7 = .ok (.iconst 0, 1) := by decide +kernel
theorem dX10_clears_8 : decode cX10_clears 8 = .ok (.istore_n 1, 1) := by decide +kernel
theorem dX10_clears_9 : decode cX10_clears 9 = .ok (.iload_n 1, 1) := by decide +kernel
theorem dX10_clears_10 : decode cX10_clears 10 = .ok (.bipush 9, 2) := by decide +kernel
theorem dX10_clears_12 : decode cX10_clears 12 = .ok (.if_icmp .ge 15, 3) := by decide +kernel
theorem dX10_clears_15 : decode cX10_clears 15 = .ok (.aload_n 0, 1) := by decide +kernel
theorem dX10_clears_16 : decode cX10_clears 16 = .ok (.iload_n 1, 1) := by decide +kernel
theorem dX10_clears_17 : decode cX10_clears 17 = .ok (.iconst 0, 1) := by decide +kernel
theorem dX10_clears_18 : decode cX10_clears 18 = .ok (.invokevirtual 191, 3) := by decide +kernel
theorem dX10_clears_21 : decode cX10_clears 21 = .ok (.iinc 1 1, 3) := by decide +kernel
theorem dX10_clears_24 : decode cX10_clears 24 = .ok (.goto (-15), 3) := by decide +kernel
theorem dX10_clears_27 : decode cX10_clears 27 = .ok (.return_, 1) := by decide +kernel
theorem dX10_ends_0 : decode cX10_ends 0 = .ok (.aload_n 0, 1) := by decide +kernel
theorem dX10_ends_1 : decode cX10_ends 1 = .ok (.getfield 133, 3) := by decide +kernel
theorem dX10_ends_4 : decode cX10_ends 4 = .ok (.iconst 3, 1) := by decide +kernel
theorem dX10_ends_5 : decode cX10_ends 5 = .ok (.if_icmp .eq 8, 3) := by decide +kernel
theorem dX10_ends_8 : decode cX10_ends 8 = .ok (.aload_n 0, 1) := by decide +kernel
theorem dX10_ends_9 : decode cX10_ends 9 = .ok (.iconst 1, 1) := by decide +kernel
theorem dX10_ends_10 : decode cX10_ends 10 = .ok (.invokevirtual 160, 3) := by decide +kernel
theorem dX10_ends_13 : decode cX10_ends 13 = .ok (.aload_n 0, 1) := by decide +kernel
theorem dX10_ends_14 : decode cX10_ends 14 = .ok (.getfield 144, 3) := by decide +kernel
theorem dX10_ends_17 : decode cX10_ends 17 = .ok (.ifCond .ne 7, 3) := by decide +kernel
theorem dX10_ends_20 : decode cX10_ends 20 = .ok (.aload_n 0, 1) := by decide +kernel
theorem dX10_ends_21 : decode cX10_ends 21 = .ok (.invokevirtual 154, 3) := by decide +kernel
theorem dX10_ends_24 : decode cX10_ends 24 = .ok (.return_, 1) := by decide +kernel
theorem dX10_fails_0 : decode cX10_fails 0 = .ok (.aload_n 0, 1) := by decide +kernel
theorem dX10_fails_1 : decode cX10_fails 1 = .ok (.getfield 144, 3) := by decide +kernel
theorem dX10_fails_4 : decode cX10_fails 4 = .ok (.ifCond .eq 4, 3) := by decide +kernel
theorem dX10_fails_7 : decode cX10_fails 7 = .ok (.return_, 1) := by decide +kernel
theorem dX10_fails_8 : decode cX10_fails 8 = .ok (.aload_n 0, 1) := by decide +kernel
theorem dX10_fails_9 : decode cX10_fails 9 = .ok (.iload_n 1, 1) := by decide +kernel
theorem dX10_fails_10 : decode cX10_fails 10 = .ok (.putfield 144, 3) := by decide +kernel
theorem dX10_fails_13 : decode cX10_fails 13 = .ok (.aload_n 0, 1) := by decide +kernel
theorem dX10_fails_14 : decode cX10_fails 14 = .ok (.aload_n 0, 1) := by decide +kernel
theorem dX10_fails_15 : decode cX10_fails 15 = .ok (.getfield 123, 3) := by decide +kernel
theorem dX10_fails_18 : decode cX10_fails 18 = .ok (.putfield 147, 3) := by decide +kernel
theorem dX10_fails_21 : decode cX10_fails 21 = .ok (.return_, 1) := by decide +kernel
theorem dX10_flightLine_0 : decode cX10_flightLine 0 = .ok (.iconst 3, 1) := by decide +kernel
theorem dX10_flightLine_1 : decode cX10_flightLine 1 = .ok (.bipush 16, 2) := by decide +kernel
theorem dX10_flightLine_3 : decode cX10_flightLine 3 = .ok (.aload_n 0, 1) := by decide +kernel
theorem dX10_flightLine_4 : decode cX10_flightLine 4 = .ok (.iconst 5, 1) := by decide +kernel
theorem dX10_flightLine_5 : decode cX10_flightLine 5 = .ok (.invokevirtual 176, 3) := by decide +kernel
theorem dX10_flightLine_8 : decode cX10_flightLine 8 = .ok (.iadd, 1) := by decide +kernel
theorem dX10_flightLine_9 : decode cX10_flightLine 9 = .ok (.imul, 1) := by decide +kernel
theorem dX10_flightLine_10 : decode cX10_flightLine 10 = .ok (.istore_n 1, 1) := by decide +kernel
theorem dX10_flightLine_11 : decode cX10_flightLine 11 = .ok (.aload_n 0, 1) := by decide +kernel
theorem dX10_flightLine_12 : decode cX10_flightLine 12 = .ok (.getfield 37, 3) := by decide +kernel
theorem dX10_flightLine_15 : decode cX10_flightLine 15 = .ok (.iload_n 1, 1) := by decide +kernel
theorem dX10_flightLine_16 : decode cX10_flightLine 16 = .ok (.aload_n 0, 1) := by decide +kernel
theorem dX10_flightLine_17 : decode cX10_flightLine 17 = .ok (.invokevirtual 183, 3) := by decide +kernel
theorem dX10_flightLine_20 : decode cX10_flightLine 20 = .ok (.iastore, 1) := by decide +kernel
theorem dX10_flightLine_21 : decode cX10_flightLine 21 = .ok (.aload_n 0, 1) := by decide +kernel
theorem dX10_flightLine_22 : decode cX10_flightLine 22 = .ok (.getfield 37, 3) := by decide +kernel
theorem dX10_flightLine_25 : decode cX10_flightLine 25 = .ok (.iload_n 1, 1) := by decide +kernel
theorem dX10_flightLine_26 : decode cX10_flightLine 26 = .ok (.iconst 1, 1) := by decide +kernel
theorem dX10_flightLine_27 : decode cX10_flightLine 27 = .ok (.iadd, 1) := by decide +kernel
theorem dX10_flightLine_28 : decode cX10_flightLine 28 = .ok (.aload_n 0, 1) := by decide +kernel
theorem dX10_flightLine_29 : decode cX10_flightLine 29 = .ok (.ldc2_w 187, 3) := by decide +kernel
theorem dX10_flightLine_32 : decode cX10_flightLine 32 = .ok (.iconst 0, 1) := by decide +kernel
theorem dX10_flightLine_33 : decode cX10_flightLine 33 = .ok (.iconst 3, 1) := by decide +kernel
theorem dX10_flightLine_34 : decode cX10_flightLine 34 = .ok (.invokevirtual 180, 3) := by decide +kernel
theorem dX10_flightLine_37 : decode cX10_flightLine 37 = .ok (.iastore, 1) := by decide +kernel
theorem dX10_flightLine_38 : decode cX10_flightLine 38 = .ok (.aload_n 0, 1) := by decide +kernel
theorem dX10_flightLine_39 : decode cX10_flightLine 39 = .ok (.getfield 37, 3) := by decide +kernel
theorem dX10_flightLine_42 : decode cX10_flightLine 42 = .ok (.iload_n 1, 1) := by decide +kernel
theorem dX10_flightLine_43 : decode cX10_flightLine 43 = .ok (.iconst 2, 1) := by decide +kernel
theorem dX10_flightLine_44 : decode cX10_flightLine 44 = .ok (.iadd, 1) := by decide +kernel
theorem dX10_flightLine_45 : decode cX10_flightLine 45 = .ok (.aload_n 0, 1) := by decide +kernel
theorem dX10_flightLine_46 : decode cX10_flightLine 46 = .ok (.ldc2_w 189, 3) := by decide +kernel
theorem dX10_flightLine_49 : decode cX10_flightLine 49 = .ok (.iconst 1, 1) := by decide +kernel
theorem dX10_flightLine_50 : decode cX10_flightLine 50 = .ok (.bipush 20, 2) := by decide +kernel
theorem dX10_flightLine_52 : decode cX10_flightLine 52 = .ok (.invokevirtual 180, 3) := by decide +kernel
theorem dX10_flightLine_55 : decode cX10_flightLine 55 = .ok (.iastore, 1) := by decide +kernel
theorem dX10_flightLine_56 : decode cX10_flightLine 56 = .ok (.aload_n 0, 1) := by decide +kernel
theorem dX10_flightLine_57 : decode cX10_flightLine 57 = .ok (.iconst 5, 1) := by decide +kernel
theorem dX10_flightLine_58 : decode cX10_flightLine 58 = .ok (.aload_n 0, 1) := by decide +kernel
theorem dX10_flightLine_59 : decode cX10_flightLine 59 = .ok (.iconst 5, 1) := by decide +kernel
theorem dX10_flightLine_60 : decode cX10_flightLine 60 = .ok (.invokevirtual 176, 3) := by decide +kernel
theorem dX10_flightLine_63 : decode cX10_flightLine 63 = .ok (.iconst 1, 1) := by decide +kernel
theorem dX10_flightLine_64 : decode cX10_flightLine 64 = .ok (.iadd, 1) := by decide +kernel
theorem dX10_flightLine_65 : decode cX10_flightLine 65 = .ok (.invokevirtual 191, 3) := by decide +kernel
theorem dX10_flightLine_68 : decode cX10_flightLine 68 = .ok (.return_, 1) := by decide +kernel
theorem dX10_hasRead_0 : decode cX10_hasRead 0 = .ok (.aload_n 0, 1) := by decide +kernel
theorem dX10_hasRead_1 : decode cX10_hasRead 1 = .ok (.getfield 34, 3) := by decide +kernel
theorem dX10_hasRead_4 : decode cX10_hasRead 4 = .ok (.bipush 36, 2) := by decide +kernel
theorem dX10_hasRead_6 : decode cX10_hasRead 6 = .ok (.iload_n 1, 1) := by decide +kernel
theorem dX10_hasRead_7 : decode cX10_hasRead 7 = .ok (.iadd, 1) := by decide +kernel
theorem dX10_hasRead_8 : decode cX10_hasRead 8 = .ok (.iaload, 1) := by decide +kernel
theorem dX10_hasRead_9 : decode cX10_hasRead 9 = .ok (.ireturn, 1) := by decide +kernel
theorem dX10_is_0 : decode cX10_is 0 = .ok (.aload_n 0, 1) := by decide +kernel
theorem dX10_is_1 : decode cX10_is 1 = .ok (.getfield 144, 3) := by decide +kernel
theorem dX10_is_4 : decode cX10_is 4 = .ok (.ifCond .ne 24, 3) := by decide +kernel
theorem dX10_is_7 : decode cX10_is 7 = .ok (.aload_n 0, 1) := by decide +kernel
theorem dX10_is_8 : decode cX10_is 8 = .ok (.getfield 133, 3) := by decide +kernel
theorem dX10_is_11 : decode cX10_is 11 = .ok (.iconst 1, 1) := by decide +kernel
theorem dX10_is_12 : decode cX10_is 12 = .ok (.if_icmp .ne 16, 3) := by decide +kernel
theorem dX10_is_15 : decode cX10_is 15 = .ok (.aload_n 0, 1) := by decide +kernel
theorem dX10_is_16 : decode cX10_is 16 = .ok (.getfield 129, 3) := by decide +kernel
theorem dX10_is_19 : decode cX10_is 19 = .ok (.lload_n 1, 1) := by decide +kernel
theorem dX10_is_20 : decode cX10_is 20 = .ok (.lcmp, 1) := by decide +kernel
theorem dX10_is_21 : decode cX10_is 21 = .ok (.ifCond .ne 7, 3) := by decide +kernel
theorem dX10_is_24 : decode cX10_is 24 = .ok (.iconst 1, 1) := by decide +kernel
theorem dX10_is_25 : decode cX10_is 25 = .ok (.goto 4, 3) := by decide +kernel
theorem dX10_is_28 : decode cX10_is 28 = .ok (.iconst 0, 1) := by decide +kernel
theorem dX10_is_29 : decode cX10_is 29 = .ok (.ireturn, 1) := by decide +kernel
theorem dX10_isByte_0 : decode cX10_isByte 0 = .ok (.iload_n 1, 1) := by decide +kernel
theorem dX10_isByte_1 : decode cX10_isByte 1 = .ok (.aload_n 0, 1) := by decide +kernel
theorem dX10_isByte_2 : decode cX10_isByte 2 = .ok (.getfield 109, 3) := by decide +kernel
theorem dX10_isByte_5 : decode cX10_isByte 5 = .ok (.if_icmp .ge 27, 3) := by decide +kernel
theorem dX10_isByte_8 : decode cX10_isByte 8 = .ok (.aload_n 0, 1) := by decide +kernel
theorem dX10_isByte_9 : decode cX10_isByte 9 = .ok (.getfield 23, 3) := by decide +kernel
theorem dX10_isByte_12 : decode cX10_isByte 12 = .ok (.iload_n 1, 1) := by decide +kernel
theorem dX10_isByte_13 : decode cX10_isByte 13 = .ok (.baload, 1) := by decide +kernel
theorem dX10_isByte_14 : decode cX10_isByte 14 = .ok (.iload_n 2, 1) := by decide +kernel
theorem dX10_isByte_15 : decode cX10_isByte 15 = .ok (.if_icmp .lt 17, 3) := by decide +kernel
theorem dX10_isByte_18 : decode cX10_isByte 18 = .ok (.aload_n 0, 1) := by decide +kernel
theorem dX10_isByte_19 : decode cX10_isByte 19 = .ok (.getfield 23, 3) := by decide +kernel
theorem dX10_isByte_22 : decode cX10_isByte 22 = .ok (.iload_n 1, 1) := by decide +kernel
theorem dX10_isByte_23 : decode cX10_isByte 23 = .ok (.baload, 1) := by decide +kernel
theorem dX10_isByte_24 : decode cX10_isByte 24 = .ok (.iload_n 3, 1) := by decide +kernel
theorem dX10_isByte_25 : decode cX10_isByte 25 = .ok (.if_icmp .gt 7, 3) := by decide +kernel
theorem dX10_isByte_28 : decode cX10_isByte 28 = .ok (.iconst 1, 1) := by decide +kernel
theorem dX10_isByte_29 : decode cX10_isByte 29 = .ok (.goto 4, 3) := by decide +kernel
theorem dX10_isByte_32 : decode cX10_isByte 32 = .ok (.iconst 0, 1) := by decide +kernel
theorem dX10_isByte_33 : decode cX10_isByte 33 = .ok (.ireturn, 1) := by decide +kernel
theorem dX10_isGood_0 : decode cX10_isGood 0 = .ok (.aload_n 0, 1) := by decide +kernel
theorem dX10_isGood_1 : decode cX10_isGood 1 = .ok (.getfield 144, 3) := by decide +kernel
theorem dX10_isGood_4 : decode cX10_isGood 4 = .ok (.ifCond .ne 7, 3) := by decide +kernel
theorem dX10_isGood_7 : decode cX10_isGood 7 = .ok (.iconst 1, 1) := by decide +kernel
theorem dX10_isGood_8 : decode cX10_isGood 8 = .ok (.goto 4, 3) := by decide +kernel
theorem dX10_isGood_11 : decode cX10_isGood 11 = .ok (.iconst 0, 1) := by decide +kernel
theorem dX10_isGood_12 : decode cX10_isGood 12 = .ok (.ireturn, 1) := by decide +kernel
theorem dX10_isOver_0 : decode cX10_isOver 0 = .ok (.aload_n 0, 1) := by decide +kernel
theorem dX10_isOver_1 : decode cX10_isOver 1 = .ok (.iconst 0, 1) := by decide +kernel
theorem dX10_isOver_2 : decode cX10_isOver 2 = .ok (.putfield 109, 3) := by decide +kernel
theorem dX10_isOver_5 : decode cX10_isOver 5 = .ok (.aload_n 0, 1) := by decide +kernel
theorem dX10_isOver_6 : decode cX10_isOver 6 = .ok (.aload_n 0, 1) := by decide +kernel
theorem dX10_isOver_7 : decode cX10_isOver 7 = .ok (.getfield 144, 3) := by decide +kernel
theorem dX10_isOver_10 : decode cX10_isOver 10 = .ok (.putfield 171, 3) := by decide +kernel
theorem dX10_isOver_13 : decode cX10_isOver 13 = .ok (.aload_n 0, 1) := by decide +kernel
theorem dX10_isOver_14 : decode cX10_isOver 14 = .ok (.aload_n 0, 1) := by decide +kernel
theorem dX10_isOver_15 : decode cX10_isOver 15 = .ok (.getfield 144, 3) := by decide +kernel
theorem dX10_isOver_18 : decode cX10_isOver 18 = .ok (.ifCond .ne 7, 3) := by decide +kernel
theorem dX10_isOver_21 : decode cX10_isOver 21 = .ok (.iconst (-1), 1) := by decide +kernel
theorem dX10_isOver_22 : decode cX10_isOver 22 = .ok (.goto 7, 3) := by decide +kernel
theorem dX10_isOver_25 : decode cX10_isOver 25 = .ok (.aload_n 0, 1) := by decide +kernel
theorem dX10_isOver_26 : decode cX10_isOver 26 = .ok (.getfield 147, 3) := by decide +kernel
theorem dX10_isOver_29 : decode cX10_isOver 29 = .ok (.putfield 27, 3) := by decide +kernel
theorem dX10_isOver_32 : decode cX10_isOver 32 = .ok (.return_, 1) := by decide +kernel
theorem dX10_isRoom_0 : decode cX10_isRoom 0 = .ok (.iload_n 1, 1) := by decide +kernel
theorem dX10_isRoom_1 : decode cX10_isRoom 1 = .ok (.ifCond .eq 17, 3) := by decide +kernel
theorem dX10_isRoom_4 : decode cX10_isRoom 4 = .ok (.aload_n 0, 1) := by decide +kernel
theorem dX10_isRoom_5 : decode cX10_isRoom 5 = .ok (.iload_n 2, 1) := by decide +kernel
theorem dX10_isRoom_6 : decode cX10_isRoom 6 = .ok (.invokevirtual 176, 3) := by decide +kernel
theorem dX10_isRoom_9 : decode cX10_isRoom 9 = .ok (.iload_n 3, 1) := by decide +kernel
theorem dX10_isRoom_10 : decode cX10_isRoom 10 = .ok (.if_icmp .ne 8, 3) := by decide +kernel
theorem dX10_isRoom_13 : decode cX10_isRoom 13 = .ok (.aload_n 0, 1) := by decide +kernel
theorem dX10_isRoom_14 : decode cX10_isRoom 14 = .ok (.iconst 3, 1) := by decide +kernel
theorem dX10_isRoom_15 : decode cX10_isRoom 15 = .ok (.invokevirtual 160, 3) := by decide +kernel
theorem dX10_isRoom_18 : decode cX10_isRoom 18 = .ok (.iload_n 1, 1) := by decide +kernel
theorem dX10_isRoom_19 : decode cX10_isRoom 19 = .ok (.ifCond .eq 14, 3) := by decide +kernel
theorem dX10_isRoom_22 : decode cX10_isRoom 22 = .ok (.aload_n 0, 1) := by decide +kernel
theorem dX10_isRoom_23 : decode cX10_isRoom 23 = .ok (.getfield 144, 3) := by decide +kernel
theorem dX10_isRoom_26 : decode cX10_isRoom 26 = .ok (.ifCond .ne 7, 3) := by decide +kernel
theorem dX10_isRoom_29 : decode cX10_isRoom 29 = .ok (.aload_n 0, 1) := by decide +kernel
theorem dX10_isRoom_30 : decode cX10_isRoom 30 = .ok (.invokevirtual 154, 3) := by decide +kernel
theorem dX10_isRoom_33 : decode cX10_isRoom 33 = .ok (.iload_n 1, 1) := by decide +kernel
theorem dX10_isRoom_34 : decode cX10_isRoom 34 = .ok (.ifCond .eq 14, 3) := by decide +kernel
theorem dX10_isRoom_37 : decode cX10_isRoom 37 = .ok (.aload_n 0, 1) := by decide +kernel
theorem dX10_isRoom_38 : decode cX10_isRoom 38 = .ok (.getfield 144, 3) := by decide +kernel
theorem dX10_isRoom_41 : decode cX10_isRoom 41 = .ok (.ifCond .ne 7, 3) := by decide +kernel
theorem dX10_isRoom_44 : decode cX10_isRoom 44 = .ok (.iconst 1, 1) := by decide +kernel
theorem dX10_isRoom_45 : decode cX10_isRoom 45 = .ok (.goto 4, 3) := by decide +kernel
theorem dX10_isRoom_48 : decode cX10_isRoom 48 = .ok (.iconst 0, 1) := by decide +kernel
theorem dX10_isRoom_49 : decode cX10_isRoom 49 = .ok (.ireturn, 1) := by decide +kernel
theorem dX10_land_0 : decode cX10_land 0 = .ok (.aload_n 0, 1) := by decide +kernel
theorem dX10_land_1 : decode cX10_land 1 = .ok (.iconst 0, 1) := by decide +kernel
theorem dX10_land_2 : decode cX10_land 2 = .ok (.putfield 92, 3) := by decide +kernel
theorem dX10_land_5 : decode cX10_land 5 = .ok (.aload_n 0, 1) := by decide +kernel
theorem dX10_land_6 : decode cX10_land 6 = .ok (.invokevirtual 231, 3) := by decide +kernel
theorem dX10_land_9 : decode cX10_land 9 = .ok (.aload_n 0, 1) := by decide +kernel
theorem dX10_land_10 : decode cX10_land 10 = .ok (.invokevirtual 234, 3) := by decide +kernel
theorem dX10_land_13 : decode cX10_land 13 = .ok (.aload_n 0, 1) := by decide +kernel
theorem dX10_land_14 : decode cX10_land 14 = .ok (.invokevirtual 215, 3) := by decide +kernel
theorem dX10_land_17 : decode cX10_land 17 = .ok (.ifCond .eq 54, 3) := by decide +kernel
theorem dX10_land_20 : decode cX10_land 20 = .ok (.aload_n 0, 1) := by decide +kernel
theorem dX10_land_21 : decode cX10_land 21 = .ok (.getfield 133, 3) := by decide +kernel
theorem dX10_land_24 : decode cX10_land 24 = .ok (.ifCond .eq 47, 3) := by decide +kernel
theorem dX10_land_27 : decode cX10_land 27 = .ok (.aload_n 0, 1) := by decide +kernel
theorem dX10_land_28 : decode cX10_land 28 = .ok (.getfield 31, 3) := by decide +kernel
theorem dX10_land_31 : decode cX10_land 31 = .ok (.iconst 4, 1) := by decide +kernel
theorem dX10_land_32 : decode cX10_land 32 = .ok (.iaload, 1) := by decide +kernel
theorem dX10_land_33 : decode cX10_land 33 = .ok (.ifCond .ne 10, 3) := by decide +kernel
theorem dX10_land_36 : decode cX10_land 36 = .ok (.aload_n 0, 1) := by decide +kernel
theorem dX10_land_37 : decode cX10_land 37 = .ok (.invokevirtual 237, 3) := by decide +kernel
theorem dX10_land_40 : decode cX10_land 40 = .ok (.goto 7, 3) := by decide +kernel
theorem dX10_land_43 : decode cX10_land 43 = .ok (.aload_n 0, 1) := by decide +kernel
theorem dX10_land_44 : decode cX10_land 44 = .ok (.invokevirtual 240, 3) := by decide +kernel
theorem dX10_land_47 : decode cX10_land 47 = .ok (.aload_n 0, 1) := by decide +kernel
theorem dX10_land_48 : decode cX10_land 48 = .ok (.invokevirtual 215, 3) := by decide +kernel
theorem dX10_land_51 : decode cX10_land 51 = .ok (.ifCond .eq 7, 3) := by decide +kernel
theorem dX10_land_54 : decode cX10_land 54 = .ok (.aload_n 0, 1) := by decide +kernel
theorem dX10_land_55 : decode cX10_land 55 = .ok (.invokevirtual 243, 3) := by decide +kernel
theorem dX10_land_58 : decode cX10_land 58 = .ok (.aload_n 0, 1) := by decide +kernel
theorem dX10_land_59 : decode cX10_land 59 = .ok (.getfield 31, 3) := by decide +kernel
theorem dX10_land_62 : decode cX10_land 62 = .ok (.iconst 4, 1) := by decide +kernel
theorem dX10_land_63 : decode cX10_land 63 = .ok (.dup2, 1) := by decide +kernel
theorem dX10_land_64 : decode cX10_land 64 = .ok (.iaload, 1) := by decide +kernel
theorem dX10_land_65 : decode cX10_land 65 = .ok (.iconst 1, 1) := by decide +kernel
theorem dX10_land_66 : decode cX10_land 66 = .ok (.iadd, 1) := by decide +kernel
theorem dX10_land_67 : decode cX10_land 67 = .ok (.iastore, 1) := by decide +kernel
theorem dX10_land_68 : decode cX10_land 68 = .ok (.goto (-55), 3) := by decide +kernel
theorem dX10_land_71 : decode cX10_land 71 = .ok (.aload_n 0, 1) := by decide +kernel
theorem dX10_land_72 : decode cX10_land 72 = .ok (.invokevirtual 246, 3) := by decide +kernel
theorem dX10_land_75 : decode cX10_land 75 = .ok (.aload_n 0, 1) := by decide +kernel
theorem dX10_land_76 : decode cX10_land 76 = .ok (.getfield 144, 3) := by decide +kernel
theorem dX10_land_79 : decode cX10_land 79 = .ok (.ifCond .eq 6, 3) := by decide +kernel
theorem dX10_land_82 : decode cX10_land 82 = .ok (.bipush (-4), 2) := by decide +kernel
theorem dX10_land_84 : decode cX10_land 84 = .ok (.ireturn, 1) := by decide +kernel
theorem dX10_land_85 : decode cX10_land 85 = .ok (.aload_n 0, 1) := by decide +kernel
theorem dX10_land_86 : decode cX10_land 86 = .ok (.iconst 4, 1) := by decide +kernel
theorem dX10_land_87 : decode cX10_land 87 = .ok (.iconst 0, 1) := by decide +kernel
theorem dX10_land_88 : decode cX10_land 88 = .ok (.invokevirtual 249, 3) := by decide +kernel
theorem dX10_land_91 : decode cX10_land 91 = .ok (.aload_n 0, 1) := by decide +kernel
theorem dX10_land_92 : decode cX10_land 92 = .ok (.getfield 31, 3) := by decide +kernel
theorem dX10_land_95 : decode cX10_land 95 = .ok (.iconst 0, 1) := by decide +kernel
theorem dX10_land_96 : decode cX10_land 96 = .ok (.iaload, 1) := by decide +kernel
theorem dX10_land_97 : decode cX10_land 97 = .ok (.ireturn, 1) := by decide +kernel
theorem dX10_landLine_0 : decode cX10_landLine 0 = .ok (.aload_n 0, 1) := by decide +kernel
theorem dX10_landLine_1 : decode cX10_landLine 1 = .ok (.ldc2_w 219, 3) := by decide +kernel
theorem dX10_landLine_4 : decode cX10_landLine 4 = .ok (.invokevirtual 163, 3) := by decide +kernel
theorem dX10_landLine_7 : decode cX10_landLine 7 = .ok (.aload_n 0, 1) := by decide +kernel
theorem dX10_landLine_8 : decode cX10_landLine 8 = .ok (.iconst 0, 1) := by decide +kernel
theorem dX10_landLine_9 : decode cX10_landLine 9 = .ok (.aload_n 0, 1) := by decide +kernel
theorem dX10_landLine_10 : decode cX10_landLine 10 = .ok (.ldc2_w 221, 3) := by decide +kernel
theorem dX10_landLine_13 : decode cX10_landLine 13 = .ok (.iconst 1, 1) := by decide +kernel
theorem dX10_landLine_14 : decode cX10_landLine 14 = .ok (.iconst 5, 1) := by decide +kernel
theorem dX10_landLine_15 : decode cX10_landLine 15 = .ok (.invokevirtual 180, 3) := by decide +kernel
theorem dX10_landLine_18 : decode cX10_landLine 18 = .ok (.invokevirtual 191, 3) := by decide +kernel
theorem dX10_landLine_21 : decode cX10_landLine 21 = .ok (.aload_n 0, 1) := by decide +kernel
theorem dX10_landLine_22 : decode cX10_landLine 22 = .ok (.iconst 1, 1) := by decide +kernel
theorem dX10_landLine_23 : decode cX10_landLine 23 = .ok (.aload_n 0, 1) := by decide +kernel
theorem dX10_landLine_24 : decode cX10_landLine 24 = .ok (.ldc2_w 223, 3) := by decide +kernel
theorem dX10_landLine_27 : decode cX10_landLine 27 = .ok (.iconst 1, 1) := by decide +kernel
theorem dX10_landLine_28 : decode cX10_landLine 28 = .ok (.iconst 4, 1) := by decide +kernel
theorem dX10_landLine_29 : decode cX10_landLine 29 = .ok (.invokevirtual 180, 3) := by decide +kernel
theorem dX10_landLine_32 : decode cX10_landLine 32 = .ok (.invokevirtual 191, 3) := by decide +kernel
theorem dX10_landLine_35 : decode cX10_landLine 35 = .ok (.aload_n 0, 1) := by decide +kernel
theorem dX10_landLine_36 : decode cX10_landLine 36 = .ok (.iconst 2, 1) := by decide +kernel
theorem dX10_landLine_37 : decode cX10_landLine 37 = .ok (.aload_n 0, 1) := by decide +kernel
theorem dX10_landLine_38 : decode cX10_landLine 38 = .ok (.ldc2_w 225, 3) := by decide +kernel
theorem dX10_landLine_41 : decode cX10_landLine 41 = .ok (.iconst 0, 1) := by decide +kernel
theorem dX10_landLine_42 : decode cX10_landLine 42 = .ok (.iconst 3, 1) := by decide +kernel
theorem dX10_landLine_43 : decode cX10_landLine 43 = .ok (.invokevirtual 180, 3) := by decide +kernel
theorem dX10_landLine_46 : decode cX10_landLine 46 = .ok (.invokevirtual 191, 3) := by decide +kernel
theorem dX10_landLine_49 : decode cX10_landLine 49 = .ok (.aload_n 0, 1) := by decide +kernel
theorem dX10_landLine_50 : decode cX10_landLine 50 = .ok (.iconst 3, 1) := by decide +kernel
theorem dX10_landLine_51 : decode cX10_landLine 51 = .ok (.aload_n 0, 1) := by decide +kernel
theorem dX10_landLine_52 : decode cX10_landLine 52 = .ok (.ldc2_w 227, 3) := by decide +kernel
theorem dX10_landLine_55 : decode cX10_landLine 55 = .ok (.iconst 0, 1) := by decide +kernel
theorem dX10_landLine_56 : decode cX10_landLine 56 = .ok (.bipush 8, 2) := by decide +kernel
theorem dX10_landLine_58 : decode cX10_landLine 58 = .ok (.invokevirtual 180, 3) := by decide +kernel
theorem dX10_landLine_61 : decode cX10_landLine 61 = .ok (.invokevirtual 191, 3) := by decide +kernel
theorem dX10_landLine_64 : decode cX10_landLine 64 = .ok (.aload_n 0, 1) := by decide +kernel
theorem dX10_landLine_65 : decode cX10_landLine 65 = .ok (.iconst 4, 1) := by decide +kernel
theorem dX10_landLine_66 : decode cX10_landLine 66 = .ok (.aload_n 0, 1) := by decide +kernel
theorem dX10_landLine_67 : decode cX10_landLine 67 = .ok (.ldc2_w 229, 3) := by decide +kernel
theorem dX10_landLine_70 : decode cX10_landLine 70 = .ok (.iconst 0, 1) := by decide +kernel
theorem dX10_landLine_71 : decode cX10_landLine 71 = .ok (.bipush 10, 2) := by decide +kernel
theorem dX10_landLine_73 : decode cX10_landLine 73 = .ok (.invokevirtual 180, 3) := by decide +kernel
theorem dX10_landLine_76 : decode cX10_landLine 76 = .ok (.invokevirtual 191, 3) := by decide +kernel
theorem dX10_landLine_79 : decode cX10_landLine 79 = .ok (.return_, 1) := by decide +kernel
theorem dX10_line_0 : decode cX10_line 0 = .ok (.aload_n 0, 1) := by decide +kernel
theorem dX10_line_1 : decode cX10_line 1 = .ok (.aload_n 0, 1) := by decide +kernel
theorem dX10_line_2 : decode cX10_line 2 = .ok (.ldc2_w 199, 3) := by decide +kernel
theorem dX10_line_5 : decode cX10_line 5 = .ok (.invokevirtual 150, 3) := by decide +kernel
theorem dX10_line_8 : decode cX10_line 8 = .ok (.iconst 5, 1) := by decide +kernel
theorem dX10_line_9 : decode cX10_line 9 = .ok (.iconst 4, 1) := by decide +kernel
theorem dX10_line_10 : decode cX10_line 10 = .ok (.invokevirtual 201, 3) := by decide +kernel
theorem dX10_line_13 : decode cX10_line 13 = .ok (.ifCond .eq 10, 3) := by decide +kernel
theorem dX10_line_16 : decode cX10_line 16 = .ok (.aload_n 0, 1) := by decide +kernel
theorem dX10_line_17 : decode cX10_line 17 = .ok (.invokevirtual 205, 3) := by decide +kernel
theorem dX10_line_20 : decode cX10_line 20 = .ok (.goto 77, 3) := by decide +kernel
theorem dX10_line_23 : decode cX10_line 23 = .ok (.aload_n 0, 1) := by decide +kernel
theorem dX10_line_24 : decode cX10_line 24 = .ok (.getfield 144, 3) := by decide +kernel
theorem dX10_line_27 : decode cX10_line 27 = .ok (.ifCond .ne 28, 3) := by decide +kernel
theorem dX10_line_30 : decode cX10_line 30 = .ok (.aload_n 0, 1) := by decide +kernel
theorem dX10_line_31 : decode cX10_line 31 = .ok (.aload_n 0, 1) := by decide +kernel
theorem dX10_line_32 : decode cX10_line 32 = .ok (.ldc2_w 208, 3) := by decide +kernel
theorem dX10_line_35 : decode cX10_line 35 = .ok (.invokevirtual 150, 3) := by decide +kernel
theorem dX10_line_38 : decode cX10_line 38 = .ok (.bipush 6, 2) := by decide +kernel
theorem dX10_line_40 : decode cX10_line 40 = .ok (.bipush 6, 2) := by decide +kernel
theorem dX10_line_42 : decode cX10_line 42 = .ok (.invokevirtual 201, 3) := by decide +kernel
theorem dX10_line_45 : decode cX10_line 45 = .ok (.ifCond .eq 10, 3) := by decide +kernel
theorem dX10_line_48 : decode cX10_line 48 = .ok (.aload_n 0, 1) := by decide +kernel
theorem dX10_line_49 : decode cX10_line 49 = .ok (.invokevirtual 210, 3) := by decide +kernel
theorem dX10_line_52 : decode cX10_line 52 = .ok (.goto 45, 3) := by decide +kernel
theorem dX10_line_55 : decode cX10_line 55 = .ok (.aload_n 0, 1) := by decide +kernel
theorem dX10_line_56 : decode cX10_line 56 = .ok (.getfield 144, 3) := by decide +kernel
theorem dX10_line_59 : decode cX10_line 59 = .ok (.ifCond .ne 38, 3) := by decide +kernel
theorem dX10_line_62 : decode cX10_line 62 = .ok (.aload_n 0, 1) := by decide +kernel
theorem dX10_line_63 : decode cX10_line 63 = .ok (.ldc2_w 213, 3) := by decide +kernel
theorem dX10_line_66 : decode cX10_line 66 = .ok (.invokevirtual 163, 3) := by decide +kernel
theorem dX10_line_69 : decode cX10_line 69 = .ok (.aload_n 0, 1) := by decide +kernel
theorem dX10_line_70 : decode cX10_line 70 = .ok (.invokevirtual 183, 3) := by decide +kernel
theorem dX10_line_73 : decode cX10_line 73 = .ok (.istore_n 1, 1) := by decide +kernel
theorem dX10_line_74 : decode cX10_line 74 = .ok (.aload_n 0, 1) := by decide +kernel
theorem dX10_line_75 : decode cX10_line 75 = .ok (.invokevirtual 215, 3) := by decide +kernel
theorem dX10_line_78 : decode cX10_line 78 = .ok (.ifCond .eq 19, 3) := by decide +kernel
theorem dX10_line_81 : decode cX10_line 81 = .ok (.aload_n 0, 1) := by decide +kernel
theorem dX10_line_82 : decode cX10_line 82 = .ok (.bipush 8, 2) := by decide +kernel
theorem dX10_line_84 : decode cX10_line 84 = .ok (.aload_n 0, 1) := by decide +kernel
theorem dX10_line_85 : decode cX10_line 85 = .ok (.bipush 8, 2) := by decide +kernel
theorem dX10_line_87 : decode cX10_line 87 = .ok (.invokevirtual 176, 3) := by decide +kernel
theorem dX10_line_90 : decode cX10_line 90 = .ok (.iconst 1, 1) := by decide +kernel
theorem dX10_line_91 : decode cX10_line 91 = .ok (.iload_n 1, 1) := by decide +kernel
theorem dX10_line_92 : decode cX10_line 92 = .ok (.ishl, 1) := by decide +kernel
theorem dX10_line_93 : decode cX10_line 93 = .ok (.ior, 1) := by decide +kernel
theorem dX10_line_94 : decode cX10_line 94 = .ok (.invokevirtual 191, 3) := by decide +kernel
theorem dX10_line_97 : decode cX10_line 97 = .ok (.return_, 1) := by decide +kernel
theorem dX10_memberLine_0 : decode cX10_memberLine 0 = .ok (.iconst 3, 1) := by decide +kernel
theorem dX10_memberLine_1 : decode cX10_memberLine 1 = .ok (.bipush 24, 2) := by decide +kernel
theorem dX10_memberLine_3 : decode cX10_memberLine 3 = .ok (.aload_n 0, 1) := by decide +kernel
theorem dX10_memberLine_4 : decode cX10_memberLine 4 = .ok (.bipush 6, 2) := by decide +kernel
theorem dX10_memberLine_6 : decode cX10_memberLine 6 = .ok (.invokevirtual 176, 3) := by decide +kernel
theorem dX10_memberLine_9 : decode cX10_memberLine 9 = .ok (.iadd, 1) := by decide +kernel
theorem dX10_memberLine_10 : decode cX10_memberLine 10 = .ok (.imul, 1) := by decide +kernel
theorem dX10_memberLine_11 : decode cX10_memberLine 11 = .ok (.istore_n 1, 1) := by decide +kernel
theorem dX10_memberLine_12 : decode cX10_memberLine 12 = .ok (.aload_n 0, 1) := by decide +kernel
theorem dX10_memberLine_13 : decode cX10_memberLine 13 = .ok (.getfield 40, 3) := by decide +kernel
theorem dX10_memberLine_16 : decode cX10_memberLine 16 = .ok (.iload_n 1, 1) := by decide +kernel
theorem dX10_memberLine_17 : decode cX10_memberLine 17 = .ok (.aload_n 0, 1) := by decide +kernel
theorem dX10_memberLine_18 : decode cX10_memberLine 18 = .ok (.invokevirtual 183, 3) := by decide +kernel
theorem dX10_memberLine_21 : decode cX10_memberLine 21 = .ok (.iastore, 1) := by decide +kernel
theorem dX10_memberLine_22 : decode cX10_memberLine 22 = .ok (.aload_n 0, 1) := by decide +kernel
theorem dX10_memberLine_23 : decode cX10_memberLine 23 = .ok (.getfield 40, 3) := by decide +kernel
theorem dX10_memberLine_26 : decode cX10_memberLine 26 = .ok (.iload_n 1, 1) := by decide +kernel
theorem dX10_memberLine_27 : decode cX10_memberLine 27 = .ok (.iconst 1, 1) := by decide +kernel
theorem dX10_memberLine_28 : decode cX10_memberLine 28 = .ok (.iadd, 1) := by decide +kernel
theorem dX10_memberLine_29 : decode cX10_memberLine 29 = .ok (.aload_n 0, 1) := by decide +kernel
theorem dX10_memberLine_30 : decode cX10_memberLine 30 = .ok (.ldc2_w 195, 3) := by decide +kernel
theorem dX10_memberLine_33 : decode cX10_memberLine 33 = .ok (.iconst 0, 1) := by decide +kernel
theorem dX10_memberLine_34 : decode cX10_memberLine 34 = .ok (.bipush 99, 2) := by decide +kernel
theorem dX10_memberLine_36 : decode cX10_memberLine 36 = .ok (.invokevirtual 180, 3) := by decide +kernel
theorem dX10_memberLine_39 : decode cX10_memberLine 39 = .ok (.iastore, 1) := by decide +kernel
theorem dX10_memberLine_40 : decode cX10_memberLine 40 = .ok (.aload_n 0, 1) := by decide +kernel
theorem dX10_memberLine_41 : decode cX10_memberLine 41 = .ok (.getfield 40, 3) := by decide +kernel
theorem dX10_memberLine_44 : decode cX10_memberLine 44 = .ok (.iload_n 1, 1) := by decide +kernel
theorem dX10_memberLine_45 : decode cX10_memberLine 45 = .ok (.iconst 2, 1) := by decide +kernel
theorem dX10_memberLine_46 : decode cX10_memberLine 46 = .ok (.iadd, 1) := by decide +kernel
theorem dX10_memberLine_47 : decode cX10_memberLine 47 = .ok (.aload_n 0, 1) := by decide +kernel
theorem dX10_memberLine_48 : decode cX10_memberLine 48 = .ok (.ldc2_w 197, 3) := by decide +kernel
theorem dX10_memberLine_51 : decode cX10_memberLine 51 = .ok (.iconst 0, 1) := by decide +kernel
theorem dX10_memberLine_52 : decode cX10_memberLine 52 = .ok (.bipush 99, 2) := by decide +kernel
theorem dX10_memberLine_54 : decode cX10_memberLine 54 = .ok (.invokevirtual 180, 3) := by decide +kernel
theorem dX10_memberLine_57 : decode cX10_memberLine 57 = .ok (.iastore, 1) := by decide +kernel
theorem dX10_memberLine_58 : decode cX10_memberLine 58 = .ok (.aload_n 0, 1) := by decide +kernel
theorem dX10_memberLine_59 : decode cX10_memberLine 59 = .ok (.bipush 6, 2) := by decide +kernel
theorem dX10_memberLine_61 : decode cX10_memberLine 61 = .ok (.aload_n 0, 1) := by decide +kernel
theorem dX10_memberLine_62 : decode cX10_memberLine 62 = .ok (.bipush 6, 2) := by decide +kernel
theorem dX10_memberLine_64 : decode cX10_memberLine 64 = .ok (.invokevirtual 176, 3) := by decide +kernel
theorem dX10_memberLine_67 : decode cX10_memberLine 67 = .ok (.iconst 1, 1) := by decide +kernel
theorem dX10_memberLine_68 : decode cX10_memberLine 68 = .ok (.iadd, 1) := by decide +kernel
theorem dX10_memberLine_69 : decode cX10_memberLine 69 = .ok (.invokevirtual 191, 3) := by decide +kernel
theorem dX10_memberLine_72 : decode cX10_memberLine 72 = .ok (.return_, 1) := by decide +kernel
theorem dX10_next_0 : decode cX10_next 0 = .ok (.aload_n 0, 1) := by decide +kernel
theorem dX10_next_1 : decode cX10_next 1 = .ok (.aload_n 0, 1) := by decide +kernel
theorem dX10_next_2 : decode cX10_next 2 = .ok (.getfield 116, 3) := by decide +kernel
theorem dX10_next_5 : decode cX10_next 5 = .ok (.bipush 32, 2) := by decide +kernel
theorem dX10_next_7 : decode cX10_next 7 = .ok (.bipush 32, 2) := by decide +kernel
theorem dX10_next_9 : decode cX10_next 9 = .ok (.invokevirtual 119, 3) := by decide +kernel
theorem dX10_next_12 : decode cX10_next 12 = .ok (.ifCond .ne 18, 3) := by decide +kernel
theorem dX10_next_15 : decode cX10_next 15 = .ok (.aload_n 0, 1) := by decide +kernel
theorem dX10_next_16 : decode cX10_next 16 = .ok (.aload_n 0, 1) := by decide +kernel
theorem dX10_next_17 : decode cX10_next 17 = .ok (.getfield 116, 3) := by decide +kernel
theorem dX10_next_20 : decode cX10_next 20 = .ok (.bipush 10, 2) := by decide +kernel
theorem dX10_next_22 : decode cX10_next 22 = .ok (.bipush 10, 2) := by decide +kernel
theorem dX10_next_24 : decode cX10_next 24 = .ok (.invokevirtual 119, 3) := by decide +kernel
theorem dX10_next_27 : decode cX10_next 27 = .ok (.ifCond .eq 16, 3) := by decide +kernel
theorem dX10_next_30 : decode cX10_next 30 = .ok (.aload_n 0, 1) := by decide +kernel
theorem dX10_next_31 : decode cX10_next 31 = .ok (.dup, 1) := by decide +kernel
theorem dX10_next_32 : decode cX10_next 32 = .ok (.getfield 116, 3) := by decide +kernel
theorem dX10_next_35 : decode cX10_next 35 = .ok (.iconst 1, 1) := by decide +kernel
theorem dX10_next_36 : decode cX10_next 36 = .ok (.iadd, 1) := by decide +kernel
theorem dX10_next_37 : decode cX10_next 37 = .ok (.putfield 116, 3) := by decide +kernel
theorem dX10_next_40 : decode cX10_next 40 = .ok (.goto (-40), 3) := by decide +kernel
theorem dX10_next_43 : decode cX10_next 43 = .ok (.aload_n 0, 1) := by decide +kernel
theorem dX10_next_44 : decode cX10_next 44 = .ok (.aload_n 0, 1) := by decide +kernel
theorem dX10_next_45 : decode cX10_next 45 = .ok (.getfield 116, 3) := by decide +kernel
theorem dX10_next_48 : decode cX10_next 48 = .ok (.putfield 123, 3) := by decide +kernel
theorem dX10_next_51 : decode cX10_next 51 = .ok (.aload_n 0, 1) := by decide +kernel
theorem dX10_next_52 : decode cX10_next 52 = .ok (.iconst 0, 1) := by decide +kernel
theorem dX10_next_53 : decode cX10_next 53 = .ok (.putfield 126, 3) := by decide +kernel
theorem dX10_next_56 : decode cX10_next 56 = .ok (.aload_n 0, 1) := by decide +kernel
theorem dX10_next_57 : decode cX10_next 57 = .ok (.lconst 0, 1) := by decide +kernel
theorem dX10_next_58 : decode cX10_next 58 = .ok (.putfield 129, 3) := by decide +kernel
theorem dX10_next_61 : decode cX10_next 61 = .ok (.aload_n 0, 1) := by decide +kernel
theorem dX10_next_62 : decode cX10_next 62 = .ok (.getfield 116, 3) := by decide +kernel
theorem dX10_next_65 : decode cX10_next 65 = .ok (.aload_n 0, 1) := by decide +kernel
theorem dX10_next_66 : decode cX10_next 66 = .ok (.getfield 109, 3) := by decide +kernel
theorem dX10_next_69 : decode cX10_next 69 = .ok (.if_icmp .ne 11, 3) := by decide +kernel
theorem dX10_next_72 : decode cX10_next 72 = .ok (.aload_n 0, 1) := by decide +kernel
theorem dX10_next_73 : decode cX10_next 73 = .ok (.iconst 0, 1) := by decide +kernel
theorem dX10_next_74 : decode cX10_next 74 = .ok (.putfield 133, 3) := by decide +kernel
theorem dX10_next_77 : decode cX10_next 77 = .ok (.goto 230, 3) := by decide +kernel
theorem dX10_next_80 : decode cX10_next 80 = .ok (.aload_n 0, 1) := by decide +kernel
theorem dX10_next_81 : decode cX10_next 81 = .ok (.aload_n 0, 1) := by decide +kernel
theorem dX10_next_82 : decode cX10_next 82 = .ok (.getfield 116, 3) := by decide +kernel
theorem dX10_next_85 : decode cX10_next 85 = .ok (.bipush 97, 2) := by decide +kernel
theorem dX10_next_87 : decode cX10_next 87 = .ok (.bipush 122, 2) := by decide +kernel
theorem dX10_next_89 : decode cX10_next 89 = .ok (.invokevirtual 119, 3) := by decide +kernel
theorem dX10_next_92 : decode cX10_next 92 = .ok (.ifCond .eq 96, 3) := by decide +kernel
theorem dX10_next_95 : decode cX10_next 95 = .ok (.aload_n 0, 1) := by decide +kernel
theorem dX10_next_96 : decode cX10_next 96 = .ok (.iconst 1, 1) := by decide +kernel
theorem dX10_next_97 : decode cX10_next 97 = .ok (.putfield 133, 3) := by decide +kernel
theorem dX10_next_100 : decode cX10_next 100 = .ok (.iconst 0, 1) := by decide +kernel
theorem dX10_next_101 : decode cX10_next 101 = .ok (.istore_n 1, 1) := by decide +kernel
theorem dX10_next_102 : decode cX10_next 102 = .ok (.aload_n 0, 1) := by decide +kernel
theorem dX10_next_103 : decode cX10_next 103 = .ok (.aload_n 0, 1) := by decide +kernel
theorem dX10_next_104 : decode cX10_next 104 = .ok (.getfield 116, 3) := by decide +kernel
theorem dX10_next_107 : decode cX10_next 107 = .ok (.bipush 97, 2) := by decide +kernel
theorem dX10_next_109 : decode cX10_next 109 = .ok (.bipush 122, 2) := by decide +kernel
theorem dX10_next_111 : decode cX10_next 111 = .ok (.invokevirtual 119, 3) := by decide +kernel
theorem dX10_next_114 : decode cX10_next 114 = .ok (.ifCond .eq 71, 3) := by decide +kernel
theorem dX10_next_117 : decode cX10_next 117 = .ok (.aload_n 0, 1) := by decide +kernel
theorem dX10_next_118 : decode cX10_next 118 = .ok (.iload_n 1, 1) := by decide +kernel
theorem dX10_next_119 : decode cX10_next 119 = .ok (.bipush 11, 2) := by decide +kernel
theorem dX10_next_121 : decode cX10_next 121 = .ok (.if_icmp .le 9, 3) := by decide +kernel
theorem dX10_next_124 : decode cX10_next 124 = .ok (.ldc2_w 136, 3) := by decide +kernel
theorem dX10_next_127 : decode cX10_next 127 = .ok (.goto 26, 3) := by decide +kernel
theorem dX10_next_130 : decode cX10_next 130 = .ok (.ldc2_w 138, 3) := by decide +kernel
theorem dX10_next_133 : decode cX10_next 133 = .ok (.aload_n 0, 1) := by decide +kernel
theorem dX10_next_134 : decode cX10_next 134 = .ok (.getfield 129, 3) := by decide +kernel
theorem dX10_next_137 : decode cX10_next 137 = .ok (.lmul, 1) := by decide +kernel
theorem dX10_next_138 : decode cX10_next 138 = .ok (.aload_n 0, 1) := by decide +kernel
theorem dX10_next_139 : decode cX10_next 139 = .ok (.getfield 23, 3) := by decide +kernel
theorem dX10_next_142 : decode cX10_next 142 = .ok (.aload_n 0, 1) := by decide +kernel
theorem dX10_next_143 : decode cX10_next 143 = .ok (.getfield 116, 3) := by decide +kernel
theorem dX10_next_146 : decode cX10_next 146 = .ok (.baload, 1) := by decide +kernel
theorem dX10_next_147 : decode cX10_next 147 = .ok (.i2l, 1) := by decide +kernel
theorem dX10_next_148 : decode cX10_next 148 = .ok (.ladd, 1) := by decide +kernel
theorem dX10_next_149 : decode cX10_next 149 = .ok (.ldc2_w 140, 3) := by decide +kernel
theorem dX10_next_152 : decode cX10_next 152 = .ok (.lsub, 1) := by decide +kernel
theorem dX10_next_153 : decode cX10_next 153 = .ok (.putfield 129, 3) := by decide +kernel
theorem dX10_next_156 : decode cX10_next 156 = .ok (.iload_n 1, 1) := by decide +kernel
theorem dX10_next_157 : decode cX10_next 157 = .ok (.bipush 11, 2) := by decide +kernel
theorem dX10_next_159 : decode cX10_next 159 = .ok (.if_icmp .le 10, 3) := by decide +kernel
theorem dX10_next_162 : decode cX10_next 162 = .ok (.aload_n 0, 1) := by decide +kernel
theorem dX10_next_163 : decode cX10_next 163 = .ok (.ldc2_w 136, 3) := by decide +kernel
theorem dX10_next_166 : decode cX10_next 166 = .ok (.putfield 129, 3) := by decide +kernel
theorem dX10_next_169 : decode cX10_next 169 = .ok (.aload_n 0, 1) := by decide +kernel
theorem dX10_next_170 : decode cX10_next 170 = .ok (.dup, 1) := by decide +kernel
theorem dX10_next_171 : decode cX10_next 171 = .ok (.getfield 116, 3) := by decide +kernel
theorem dX10_next_174 : decode cX10_next 174 = .ok (.iconst 1, 1) := by decide +kernel
theorem dX10_next_175 : decode cX10_next 175 = .ok (.iadd, 1) := by decide +kernel
theorem dX10_next_176 : decode cX10_next 176 = .ok (.putfield 116, 3) := by decide +kernel
theorem dX10_next_179 : decode cX10_next 179 = .ok (.iinc 1 1, 3) := by decide +kernel
theorem dX10_next_182 : decode cX10_next 182 = .ok (.goto (-80), 3) := by decide +kernel
theorem dX10_next_185 : decode cX10_next 185 = .ok (.goto 122, 3) := by decide +kernel
theorem dX10_next_188 : decode cX10_next 188 = .ok (.aload_n 0, 1) := by decide +kernel
theorem dX10_next_189 : decode cX10_next 189 = .ok (.aload_n 0, 1) := by decide +kernel
theorem dX10_next_190 : decode cX10_next 190 = .ok (.getfield 116, 3) := by decide +kernel
theorem dX10_next_193 : decode cX10_next 193 = .ok (.bipush 48, 2) := by decide +kernel
theorem dX10_next_195 : decode cX10_next 195 = .ok (.bipush 57, 2) := by decide +kernel
theorem dX10_next_197 : decode cX10_next 197 = .ok (.invokevirtual 119, 3) := by decide +kernel
theorem dX10_next_200 : decode cX10_next 200 = .ok (.ifCond .eq 74, 3) := by decide +kernel
theorem dX10_next_203 : decode cX10_next 203 = .ok (.aload_n 0, 1) := by decide +kernel
theorem dX10_next_204 : decode cX10_next 204 = .ok (.iconst 2, 1) := by decide +kernel
theorem dX10_next_205 : decode cX10_next 205 = .ok (.putfield 133, 3) := by decide +kernel
theorem dX10_next_208 : decode cX10_next 208 = .ok (.aload_n 0, 1) := by decide +kernel
theorem dX10_next_209 : decode cX10_next 209 = .ok (.aload_n 0, 1) := by decide +kernel
theorem dX10_next_210 : decode cX10_next 210 = .ok (.getfield 116, 3) := by decide +kernel
theorem dX10_next_213 : decode cX10_next 213 = .ok (.bipush 48, 2) := by decide +kernel
theorem dX10_next_215 : decode cX10_next 215 = .ok (.bipush 57, 2) := by decide +kernel
theorem dX10_next_217 : decode cX10_next 217 = .ok (.invokevirtual 119, 3) := by decide +kernel
theorem dX10_next_220 : decode cX10_next 220 = .ok (.ifCond .eq 87, 3) := by decide +kernel
theorem dX10_next_223 : decode cX10_next 223 = .ok (.aload_n 0, 1) := by decide +kernel
theorem dX10_next_224 : decode cX10_next 224 = .ok (.aload_n 0, 1) := by decide +kernel
theorem dX10_next_225 : decode cX10_next 225 = .ok (.getfield 126, 3) := by decide +kernel
theorem dX10_next_228 : decode cX10_next 228 = .ok (.ldc 142, 2) := by decide +kernel
theorem dX10_next_230 : decode cX10_next 230 = .ok (.if_icmp .le 8, 3) := by decide +kernel
theorem dX10_next_233 : decode cX10_next 233 = .ok (.ldc 143, 2) := by decide +kernel
theorem dX10_next_235 : decode cX10_next 235 = .ok (.goto 23, 3) := by decide +kernel
theorem dX10_next_238 : decode cX10_next 238 = .ok (.bipush 10, 2) := by decide +kernel
theorem dX10_next_240 : decode cX10_next 240 = .ok (.aload_n 0, 1) := by decide +kernel
theorem dX10_next_241 : decode cX10_next 241 = .ok (.getfield 126, 3) := by decide +kernel
theorem dX10_next_244 : decode cX10_next 244 = .ok (.imul, 1) := by decide +kernel
theorem dX10_next_245 : decode cX10_next 245 = .ok (.aload_n 0, 1) := by decide +kernel
theorem dX10_next_246 : decode cX10_next 246 = .ok (.getfield 23, 3) := by decide +kernel
theorem dX10_next_249 : decode cX10_next 249 = .ok (.aload_n 0, 1) := by decide +kernel
theorem dX10_next_250 : decode cX10_next 250 = .ok (.getfield 116, 3) := by decide +kernel
theorem dX10_next_253 : decode cX10_next 253 = .ok (.baload, 1) := by decide +kernel
theorem dX10_next_254 : decode cX10_next 254 = .ok (.iadd, 1) := by decide +kernel
theorem dX10_next_255 : decode cX10_next 255 = .ok (.bipush 48, 2) := by decide +kernel
theorem dX10_next_257 : decode cX10_next 257 = .ok (.isub, 1) := by decide +kernel
theorem dX10_next_258 : decode cX10_next 258 = .ok (.putfield 126, 3) := by decide +kernel
theorem dX10_next_261 : decode cX10_next 261 = .ok (.aload_n 0, 1) := by decide +kernel
theorem dX10_next_262 : decode cX10_next 262 = .ok (.dup, 1) := by decide +kernel
theorem dX10_next_263 : decode cX10_next 263 = .ok (.getfield 116, 3) := by decide +kernel
theorem dX10_next_266 : decode cX10_next 266 = .ok (.iconst 1, 1) := by decide +kernel
theorem dX10_next_267 : decode cX10_next 267 = .ok (.iadd, 1) := by decide +kernel
theorem dX10_next_268 : decode cX10_next 268 = .ok (.putfield 116, 3) := by decide +kernel
theorem dX10_next_271 : decode cX10_next 271 = .ok (.goto (-63), 3) := by decide +kernel
theorem dX10_next_274 : decode cX10_next 274 = .ok (.aload_n 0, 1) := by decide +kernel
theorem dX10_next_275 : decode cX10_next 275 = .ok (.aload_n 0, 1) := by decide +kernel
theorem dX10_next_276 : decode cX10_next 276 = .ok (.getfield 23, 3) := by decide +kernel
theorem dX10_next_279 : decode cX10_next 279 = .ok (.aload_n 0, 1) := by decide +kernel
theorem dX10_next_280 : decode cX10_next 280 = .ok (.getfield 116, 3) := by decide +kernel
theorem dX10_next_283 : decode cX10_next 283 = .ok (.baload, 1) := by decide +kernel
theorem dX10_next_284 : decode cX10_next 284 = .ok (.bipush 59, 2) := by decide +kernel
theorem dX10_next_286 : decode cX10_next 286 = .ok (.if_icmp .ne 7, 3) := by decide +kernel
theorem dX10_next_289 : decode cX10_next 289 = .ok (.iconst 3, 1) := by decide +kernel
theorem dX10_next_290 : decode cX10_next 290 = .ok (.goto 4, 3) := by decide +kernel
theorem dX10_next_293 : decode cX10_next 293 = .ok (.iconst 4, 1) := by decide +kernel
theorem dX10_next_294 : decode cX10_next 294 = .ok (.putfield 133, 3) := by decide +kernel
theorem dX10_next_297 : decode cX10_next 297 = .ok (.aload_n 0, 1) := by decide +kernel
theorem dX10_next_298 : decode cX10_next 298 = .ok (.dup, 1) := by decide +kernel
theorem dX10_next_299 : decode cX10_next 299 = .ok (.getfield 116, 3) := by decide +kernel
theorem dX10_next_302 : decode cX10_next 302 = .ok (.iconst 1, 1) := by decide +kernel
theorem dX10_next_303 : decode cX10_next 303 = .ok (.iadd, 1) := by decide +kernel
theorem dX10_next_304 : decode cX10_next 304 = .ok (.putfield 116, 3) := by decide +kernel
theorem dX10_next_307 : decode cX10_next 307 = .ok (.return_, 1) := by decide +kernel
theorem dX10_number_0 : decode cX10_number 0 = .ok (.aload_n 0, 1) := by decide +kernel
theorem dX10_number_1 : decode cX10_number 1 = .ok (.getfield 144, 3) := by decide +kernel
theorem dX10_number_4 : decode cX10_number 4 = .ok (.ifCond .eq 5, 3) := by decide +kernel
theorem dX10_number_7 : decode cX10_number 7 = .ok (.iload_n 1, 1) := by decide +kernel
theorem dX10_number_8 : decode cX10_number 8 = .ok (.ireturn, 1) := by decide +kernel
theorem dX10_number_9 : decode cX10_number 9 = .ok (.aload_n 0, 1) := by decide +kernel
theorem dX10_number_10 : decode cX10_number 10 = .ok (.getfield 133, 3) := by decide +kernel
theorem dX10_number_13 : decode cX10_number 13 = .ok (.iconst 2, 1) := by decide +kernel
theorem dX10_number_14 : decode cX10_number 14 = .ok (.if_icmp .eq 10, 3) := by decide +kernel
theorem dX10_number_17 : decode cX10_number 17 = .ok (.aload_n 0, 1) := by decide +kernel
theorem dX10_number_18 : decode cX10_number 18 = .ok (.iconst 1, 1) := by decide +kernel
theorem dX10_number_19 : decode cX10_number 19 = .ok (.invokevirtual 160, 3) := by decide +kernel
theorem dX10_number_22 : decode cX10_number 22 = .ok (.iload_n 1, 1) := by decide +kernel
theorem dX10_number_23 : decode cX10_number 23 = .ok (.ireturn, 1) := by decide +kernel
theorem dX10_number_24 : decode cX10_number 24 = .ok (.aload_n 0, 1) := by decide +kernel
theorem dX10_number_25 : decode cX10_number 25 = .ok (.getfield 126, 3) := by decide +kernel
theorem dX10_number_28 : decode cX10_number 28 = .ok (.i2l, 1) := by decide +kernel
theorem dX10_number_29 : decode cX10_number 29 = .ok (.iload_n 1, 1) := by decide +kernel
theorem dX10_number_30 : decode cX10_number 30 = .ok (.i2l, 1) := by decide +kernel
theorem dX10_number_31 : decode cX10_number 31 = .ok (.iload_n 2, 1) := by decide +kernel
theorem dX10_number_32 : decode cX10_number 32 = .ok (.i2l, 1) := by decide +kernel
theorem dX10_number_33 : decode cX10_number 33 = .ok (.invokestatic 97, 3) := by decide +kernel
theorem dX10_number_36 : decode cX10_number 36 = .ok (.ifCond .ne 10, 3) := by decide +kernel
theorem dX10_number_39 : decode cX10_number 39 = .ok (.aload_n 0, 1) := by decide +kernel
theorem dX10_number_40 : decode cX10_number 40 = .ok (.iconst 2, 1) := by decide +kernel
theorem dX10_number_41 : decode cX10_number 41 = .ok (.invokevirtual 160, 3) := by decide +kernel
theorem dX10_number_44 : decode cX10_number 44 = .ok (.iload_n 1, 1) := by decide +kernel
theorem dX10_number_45 : decode cX10_number 45 = .ok (.ireturn, 1) := by decide +kernel
theorem dX10_number_46 : decode cX10_number 46 = .ok (.aload_n 0, 1) := by decide +kernel
theorem dX10_number_47 : decode cX10_number 47 = .ok (.getfield 126, 3) := by decide +kernel
theorem dX10_number_50 : decode cX10_number 50 = .ok (.istore_n 3, 1) := by decide +kernel
theorem dX10_number_51 : decode cX10_number 51 = .ok (.aload_n 0, 1) := by decide +kernel
theorem dX10_number_52 : decode cX10_number 52 = .ok (.invokevirtual 154, 3) := by decide +kernel
theorem dX10_number_55 : decode cX10_number 55 = .ok (.iload_n 3, 1) := by decide +kernel
theorem dX10_number_56 : decode cX10_number 56 = .ok (.ireturn, 1) := by decide +kernel
theorem dX10_number__0 : decode cX10_number_ 0 = .ok (.aload_n 0, 1) := by decide +kernel
theorem dX10_number__1 : decode cX10_number_ 1 = .ok (.lload_n 1, 1) := by decide +kernel
theorem dX10_number__2 : decode cX10_number_ 2 = .ok (.invokevirtual 163, 3) := by decide +kernel
theorem dX10_number__5 : decode cX10_number_ 5 = .ok (.aload_n 0, 1) := by decide +kernel
theorem dX10_number__6 : decode cX10_number_ 6 = .ok (.iload_n 3, 1) := by decide +kernel
theorem dX10_number__7 : decode cX10_number_ 7 = .ok (.iload 4, 2) := by decide +kernel
theorem dX10_number__9 : decode cX10_number_ 9 = .ok (.invokevirtual 167, 3) := by decide +kernel
theorem dX10_number__12 : decode cX10_number_ 12 = .ok (.ireturn, 1) := by decide +kernel
theorem dX10_takes_0 : decode cX10_takes 0 = .ok (.aload_n 0, 1) := by decide +kernel
theorem dX10_takes_1 : decode cX10_takes 1 = .ok (.lload_n 1, 1) := by decide +kernel
theorem dX10_takes_2 : decode cX10_takes 2 = .ok (.invokevirtual 150, 3) := by decide +kernel
theorem dX10_takes_5 : decode cX10_takes 5 = .ok (.ifCond .ne 5, 3) := by decide +kernel
theorem dX10_takes_8 : decode cX10_takes 8 = .ok (.iconst 0, 1) := by decide +kernel
theorem dX10_takes_9 : decode cX10_takes 9 = .ok (.ireturn, 1) := by decide +kernel
theorem dX10_takes_10 : decode cX10_takes 10 = .ok (.aload_n 0, 1) := by decide +kernel
theorem dX10_takes_11 : decode cX10_takes 11 = .ok (.invokevirtual 154, 3) := by decide +kernel
theorem dX10_takes_14 : decode cX10_takes 14 = .ok (.iconst 1, 1) := by decide +kernel
theorem dX10_takes_15 : decode cX10_takes 15 = .ok (.ireturn, 1) := by decide +kernel
theorem dX10_tells_0 : decode cX10_tells 0 = .ok (.aload_n 0, 1) := by decide +kernel
theorem dX10_tells_1 : decode cX10_tells 1 = .ok (.getfield 34, 3) := by decide +kernel
theorem dX10_tells_4 : decode cX10_tells 4 = .ok (.bipush 36, 2) := by decide +kernel
theorem dX10_tells_6 : decode cX10_tells 6 = .ok (.iload_n 1, 1) := by decide +kernel
theorem dX10_tells_7 : decode cX10_tells 7 = .ok (.iadd, 1) := by decide +kernel
theorem dX10_tells_8 : decode cX10_tells 8 = .ok (.iload_n 2, 1) := by decide +kernel
theorem dX10_tells_9 : decode cX10_tells 9 = .ok (.iastore, 1) := by decide +kernel
theorem dX10_tells_10 : decode cX10_tells 10 = .ok (.return_, 1) := by decide +kernel
theorem wd1051 : Cond.fieldLink RX10 116 "GooseSharesModel" "spot" "I" ∈ gW := gm (tm_6 90 (by decide +kernel)) rfl
theorem wd1052 : Cond.instanceMethod yX10_isByte ∈ gW := gm (tm_7 48 (by decide +kernel)) rfl
theorem wd1053 : Cond.selects RX10 yX10_isByte yX10_isByte ∈ gW := gm (gmP 21 (by decide +kernel)) rfl
theorem wd1054 : Cond.code yX10_isByte cX10_isByte 4 (some .boolean) ∈ gW := gm (tm_7 49 (by decide +kernel)) rfl
theorem wd1055 : Cond.methodLink RX10 119 yX10_isByte ∈ gW := gm (tm_7 46 (by decide +kernel)) rfl
theorem wd1056 : Cond.constantLong RX10 138 (27 : Int64) ∈ gW := gm (tm_7 51 (by decide +kernel)) rfl
theorem wd1057 : Cond.fieldLink RX10 129 "GooseSharesModel" "word" "J" ∈ gW := gm (tm_6 94 (by decide +kernel)) rfl
theorem wd1058 : Cond.constantLong RX10 140 (96 : Int64) ∈ gW := gm (tm_7 52 (by decide +kernel)) rfl
theorem wd1059 : Cond.fieldLink RX10 126 "GooseSharesModel" "value" "I" ∈ gW := gm (tm_6 93 (by decide +kernel)) rfl
theorem wd1060 : Cond.constant RX10 143 (1000000 : Int32) ∈ gW := gm (tm_7 54 (by decide +kernel)) rfl
theorem wd1061 : Cond.fieldLink RX10 123 "GooseSharesModel" "place" "I" ∈ gW := gm (tm_6 92 (by decide +kernel)) rfl
theorem wd1062 : Cond.fieldLink RX10 133 "GooseSharesModel" "token" "I" ∈ gW := gm (tm_6 91 (by decide +kernel)) rfl
theorem wd1063 : Cond.fieldLink RX10 144 "GooseSharesModel" "bad" "I" ∈ gW := gm (tm_6 95 (by decide +kernel)) rfl
theorem wd1064 : Cond.fieldLink RX10 147 "GooseSharesModel" "badPlace" "I" ∈ gW := gm (tm_6 96 (by decide +kernel)) rfl
theorem wd1065 : Cond.instanceMethod yX10_is ∈ gW := gm (tm_7 74 (by decide +kernel)) rfl
theorem wd1066 : Cond.selects RX10 yX10_is yX10_is ∈ gW := gm (gmP 26 (by decide +kernel)) rfl
theorem wd1067 : Cond.code yX10_is cX10_is 3 (some .boolean) ∈ gW := gm (tm_7 75 (by decide +kernel)) rfl
theorem wd1068 : Cond.methodLink RX10 150 yX10_is ∈ gW := gm (tm_7 72 (by decide +kernel)) rfl
theorem wd1069 : Cond.instanceMethod yX10_next ∈ gW := gm (tm_7 44 (by decide +kernel)) rfl
theorem wd1070 : Cond.selects RX10 yX10_next yX10_next ∈ gW := gm (gmP 20 (by decide +kernel)) rfl
theorem wd1071 : Cond.code yX10_next cX10_next 2 none ∈ gW := gm (tm_7 45 (by decide +kernel)) rfl
theorem wd1072 : Cond.methodLink RX10 154 yX10_next ∈ gW := gm (tm_7 42 (by decide +kernel)) rfl
theorem wd1073 : Cond.instanceMethod yX10_takes ∈ gW := gm (tm_7 70 (by decide +kernel)) rfl
theorem wd1074 : Cond.selects RX10 yX10_takes yX10_takes ∈ gW := gm (gmP 25 (by decide +kernel)) rfl
theorem wd1075 : Cond.code yX10_takes cX10_takes 3 (some .boolean) ∈ gW := gm (tm_7 71 (by decide +kernel)) rfl
theorem wd1076 : Cond.methodLink RX10 157 yX10_takes ∈ gW := gm (tm_7 68 (by decide +kernel)) rfl
theorem wd1077 : Cond.instanceMethod yX10_fails ∈ gW := gm (tm_7 78 (by decide +kernel)) rfl
theorem wd1078 : Cond.selects RX10 yX10_fails yX10_fails ∈ gW := gm (gmP 27 (by decide +kernel)) rfl
theorem wd1079 : Cond.code yX10_fails cX10_fails 2 none ∈ gW := gm (tm_7 79 (by decide +kernel)) rfl
theorem wd1080 : Cond.methodLink RX10 160 yX10_fails ∈ gW := gm (tm_7 76 (by decide +kernel)) rfl
theorem wd1081 : Cond.instanceMethod yX10_asks ∈ gW := gm (tm_7 66 (by decide +kernel)) rfl
theorem wd1082 : Cond.selects RX10 yX10_asks yX10_asks ∈ gW := gm (gmP 24 (by decide +kernel)) rfl
theorem wd1083 : Cond.code yX10_asks cX10_asks 3 none ∈ gW := gm (tm_7 67 (by decide +kernel)) rfl
theorem wd1084 : Cond.methodLink RX10 163 yX10_asks ∈ gW := gm (tm_7 64 (by decide +kernel)) rfl
theorem wd1085 : Cond.instanceMethod yX10_number ∈ gW := gm (tm_7 87 (by decide +kernel)) rfl
theorem wd1086 : Cond.selects RX10 yX10_number yX10_number ∈ gW := gm (gmP 29 (by decide +kernel)) rfl
theorem wd1087 : Cond.code yX10_number cX10_number 4 (some .int) ∈ gW := gm (tm_7 88 (by decide +kernel)) rfl
theorem wd1088 : Cond.methodLink RX10 167 yX10_number ∈ gW := gm (tm_7 85 (by decide +kernel)) rfl
theorem wd1089 : Cond.constantLong RX10 174 (47 : Int64) ∈ gW := gm (tm_7 114 (by decide +kernel)) rfl
theorem wd1090 : Cond.instanceMethod yX10_hasRead ∈ gW := gm (tm_7 104 (by decide +kernel)) rfl
theorem wd1091 : Cond.selects RX10 yX10_hasRead yX10_hasRead ∈ gW := gm (gmP 32 (by decide +kernel)) rfl
theorem wd1092 : Cond.code yX10_hasRead cX10_hasRead 2 (some .int) ∈ gW := gm (tm_7 105 (by decide +kernel)) rfl
theorem wd1093 : Cond.methodLink RX10 176 yX10_hasRead ∈ gW := gm (tm_7 102 (by decide +kernel)) rfl
theorem wd1094 : Cond.instanceMethod yX10_number_ ∈ gW := gm (tm_7 83 (by decide +kernel)) rfl
theorem wd1095 : Cond.selects RX10 yX10_number_ yX10_number_ ∈ gW := gm (gmP 28 (by decide +kernel)) rfl
theorem wd1096 : Cond.code yX10_number_ cX10_number_ 5 (some .int) ∈ gW := gm (tm_7 84 (by decide +kernel)) rfl
theorem wd1097 : Cond.methodLink RX10 180 yX10_number_ ∈ gW := gm (tm_7 81 (by decide +kernel)) rfl
theorem wd1098 : Cond.instanceMethod yX10_cellHere ∈ gW := gm (tm_7 112 (by decide +kernel)) rfl
theorem wd1099 : Cond.selects RX10 yX10_cellHere yX10_cellHere ∈ gW := gm (gmP 34 (by decide +kernel)) rfl
theorem wd1100 : Cond.code yX10_cellHere cX10_cellHere 1 (some .int) ∈ gW := gm (tm_7 113 (by decide +kernel)) rfl
theorem wd1101 : Cond.methodLink RX10 183 yX10_cellHere ∈ gW := gm (tm_7 110 (by decide +kernel)) rfl
theorem wd1102 : Cond.constantLong RX10 187 (4350799 : Int64) ∈ gW := gm (tm_7 115 (by decide +kernel)) rfl
theorem wd1103 : Cond.constantLong RX10 189 (3822665 : Int64) ∈ gW := gm (tm_7 116 (by decide +kernel)) rfl
theorem wd1104 : Cond.instanceMethod yX10_tells ∈ gW := gm (tm_7 36 (by decide +kernel)) rfl
theorem wd1105 : Cond.selects RX10 yX10_tells yX10_tells ∈ gW := gm (gmP 18 (by decide +kernel)) rfl
theorem wd1106 : Cond.code yX10_tells cX10_tells 3 none ∈ gW := gm (tm_7 37 (by decide +kernel)) rfl
theorem wd1107 : Cond.methodLink RX10 191 yX10_tells ∈ gW := gm (tm_7 34 (by decide +kernel)) rfl
theorem wd1108 : Cond.constantLong RX10 195 (12253591 : Int64) ∈ gW := gm (tm_7 122 (by decide +kernel)) rfl
theorem wd1109 : Cond.constantLong RX10 197 (316351 : Int64) ∈ gW := gm (tm_7 123 (by decide +kernel)) rfl
theorem wd1110 : Cond.constantLong RX10 199 (92653220 : Int64) ∈ gW := gm (tm_7 97 (by decide +kernel)) rfl
theorem wd1111 : Cond.instanceMethod yX10_isRoom ∈ gW := gm (tm_7 100 (by decide +kernel)) rfl
theorem wd1112 : Cond.selects RX10 yX10_isRoom yX10_isRoom ∈ gW := gm (gmP 31 (by decide +kernel)) rfl
theorem wd1113 : Cond.code yX10_isRoom cX10_isRoom 4 (some .boolean) ∈ gW := gm (tm_7 101 (by decide +kernel)) rfl
theorem wd1114 : Cond.methodLink RX10 201 yX10_isRoom ∈ gW := gm (tm_7 98 (by decide +kernel)) rfl
theorem wd1115 : Cond.constantLong RX10 208 (189450486 : Int64) ∈ gW := gm (tm_7 117 (by decide +kernel)) rfl
theorem wd1116 : Cond.constantLong RX10 213 (237292 : Int64) ∈ gW := gm (tm_7 124 (by decide +kernel)) rfl
theorem wd1117 : Cond.instanceMethod yX10_isGood ∈ gW := gm (tm_7 57 (by decide +kernel)) rfl
theorem wd1118 : Cond.selects RX10 yX10_isGood yX10_isGood ∈ gW := gm (gmP 22 (by decide +kernel)) rfl
theorem wd1119 : Cond.code yX10_isGood cX10_isGood 1 (some .boolean) ∈ gW := gm (tm_7 58 (by decide +kernel)) rfl
theorem wd1120 : Cond.methodLink RX10 215 yX10_isGood ∈ gW := gm (tm_7 55 (by decide +kernel)) rfl
theorem wd1121 : Cond.instanceMethod yX10_memberLine ∈ gW := gm (tm_7 120 (by decide +kernel)) rfl
theorem wd1122 : Cond.selects RX10 yX10_memberLine yX10_memberLine ∈ gW := gm (gmP 35 (by decide +kernel)) rfl
theorem wd1123 : Cond.code yX10_memberLine cX10_memberLine 2 none ∈ gW := gm (tm_7 121 (by decide +kernel)) rfl
theorem wd1124 : Cond.methodLink RX10 210 yX10_memberLine ∈ gW := gm (tm_7 118 (by decide +kernel)) rfl
theorem wd1125 : Cond.instanceMethod yX10_flightLine ∈ gW := gm (tm_7 108 (by decide +kernel)) rfl
theorem wd1126 : Cond.selects RX10 yX10_flightLine yX10_flightLine ∈ gW := gm (gmP 33 (by decide +kernel)) rfl
theorem wd1127 : Cond.code yX10_flightLine cX10_flightLine 2 none ∈ gW := gm (tm_7 109 (by decide +kernel)) rfl
theorem wd1128 : Cond.methodLink RX10 205 yX10_flightLine ∈ gW := gm (tm_7 106 (by decide +kernel)) rfl
theorem wd1129 : Cond.constantLong RX10 219 (237307 : Int64) ∈ gW := gm (tm_7 63 (by decide +kernel)) rfl
theorem wd1130 : Cond.constantLong RX10 221 (459383 : Int64) ∈ gW := gm (tm_7 80 (by decide +kernel)) rfl
theorem wd1131 : Cond.constantLong RX10 223 (164222 : Int64) ∈ gW := gm (tm_7 89 (by decide +kernel)) rfl
theorem wd1132 : Cond.constantLong RX10 225 (8798 : Int64) ∈ gW := gm (tm_7 90 (by decide +kernel)) rfl
theorem wd1133 : Cond.constantLong RX10 227 (3690 : Int64) ∈ gW := gm (tm_7 91 (by decide +kernel)) rfl
theorem wd1134 : Cond.constantLong RX10 229 (298288 : Int64) ∈ gW := gm (tm_7 92 (by decide +kernel)) rfl
theorem wd1135 : Cond.instanceMethod yX10_isOver ∈ gW := gm (tm_7 131 (by decide +kernel)) rfl
theorem wd1136 : Cond.selects RX10 yX10_isOver yX10_isOver ∈ gW := gm (gmP 37 (by decide +kernel)) rfl
theorem wd1137 : Cond.code yX10_isOver cX10_isOver 1 none ∈ gW := gm (tm_7 132 (by decide +kernel)) rfl
theorem wd1138 : Cond.methodLink RX10 246 yX10_isOver ∈ gW := gm (tm_7 129 (by decide +kernel)) rfl
theorem wd1139 : Cond.instanceMethod yX10_line ∈ gW := gm (tm_7 95 (by decide +kernel)) rfl
theorem wd1140 : Cond.selects RX10 yX10_line yX10_line ∈ gW := gm (gmP 30 (by decide +kernel)) rfl
theorem wd1141 : Cond.code yX10_line cX10_line 2 none ∈ gW := gm (tm_7 96 (by decide +kernel)) rfl
theorem wd1142 : Cond.methodLink RX10 240 yX10_line ∈ gW := gm (tm_7 93 (by decide +kernel)) rfl
theorem wd1143 : Cond.instanceMethod yX10_ends ∈ gW := gm (tm_7 127 (by decide +kernel)) rfl
theorem wd1144 : Cond.selects RX10 yX10_ends yX10_ends ∈ gW := gm (gmP 36 (by decide +kernel)) rfl
theorem wd1145 : Cond.code yX10_ends cX10_ends 1 none ∈ gW := gm (tm_7 128 (by decide +kernel)) rfl
theorem wd1146 : Cond.methodLink RX10 243 yX10_ends ∈ gW := gm (tm_7 125 (by decide +kernel)) rfl
theorem wd1147 : Cond.instanceMethod yX10_landLine ∈ gW := gm (tm_7 61 (by decide +kernel)) rfl
theorem wd1148 : Cond.selects RX10 yX10_landLine yX10_landLine ∈ gW := gm (gmP 23 (by decide +kernel)) rfl
theorem wd1149 : Cond.code yX10_landLine cX10_landLine 1 none ∈ gW := gm (tm_7 62 (by decide +kernel)) rfl
theorem wd1150 : Cond.methodLink RX10 237 yX10_landLine ∈ gW := gm (tm_7 59 (by decide +kernel)) rfl
theorem wd1151 : Cond.instanceMethod yX10_clears ∈ gW := gm (tm_7 32 (by decide +kernel)) rfl
theorem wd1152 : Cond.selects RX10 yX10_clears yX10_clears ∈ gW := gm (gmP 17 (by decide +kernel)) rfl
theorem wd1153 : Cond.code yX10_clears cX10_clears 2 none ∈ gW := gm (tm_7 33 (by decide +kernel)) rfl
theorem wd1154 : Cond.methodLink RX10 231 yX10_clears ∈ gW := gm (tm_7 30 (by decide +kernel)) rfl
theorem wd1155 : Cond.instanceMethod yX10_begins ∈ gW := gm (tm_7 40 (by decide +kernel)) rfl
theorem wd1156 : Cond.selects RX10 yX10_begins yX10_begins ∈ gW := gm (gmP 19 (by decide +kernel)) rfl
theorem wd1157 : Cond.code yX10_begins cX10_begins 1 none ∈ gW := gm (tm_7 41 (by decide +kernel)) rfl
theorem wd1158 : Cond.methodLink RX10 234 yX10_begins ∈ gW := gm (tm_7 38 (by decide +kernel)) rfl
theorem my_X10_isByte : gWV RX10 yX10_isByte cX10_isByte 4 (some .boolean) 3 := ⟨⟨wd1052, wd1053, wd742, wd1054⟩, ⟨rfl, by decide +kernel, by decide +kernel, by decide +kernel⟩⟩
theorem my_X10_is : gWV RX10 yX10_is cX10_is 3 (some .boolean) 1 := ⟨⟨wd1065, wd1066, wd742, wd1067⟩, ⟨rfl, by decide +kernel, by decide +kernel, by decide +kernel⟩⟩
theorem my_X10_next : gWV RX10 yX10_next cX10_next 2 none 0 := ⟨⟨wd1069, wd1070, wd742, wd1071⟩, ⟨rfl, by decide +kernel, by decide +kernel, by decide +kernel⟩⟩
theorem my_X10_takes : gWV RX10 yX10_takes cX10_takes 3 (some .boolean) 1 := ⟨⟨wd1073, wd1074, wd742, wd1075⟩, ⟨rfl, by decide +kernel, by decide +kernel, by decide +kernel⟩⟩
theorem my_X10_fails : gWV RX10 yX10_fails cX10_fails 2 none 1 := ⟨⟨wd1077, wd1078, wd742, wd1079⟩, ⟨rfl, by decide +kernel, by decide +kernel, by decide +kernel⟩⟩
theorem my_X10_asks : gWV RX10 yX10_asks cX10_asks 3 none 1 := ⟨⟨wd1081, wd1082, wd742, wd1083⟩, ⟨rfl, by decide +kernel, by decide +kernel, by decide +kernel⟩⟩
theorem my_X10_number : gWV RX10 yX10_number cX10_number 4 (some .int) 2 := ⟨⟨wd1085, wd1086, wd742, wd1087⟩, ⟨rfl, by decide +kernel, by decide +kernel, by decide +kernel⟩⟩
theorem my_X10_hasRead : gWV RX10 yX10_hasRead cX10_hasRead 2 (some .int) 1 := ⟨⟨wd1090, wd1091, wd742, wd1092⟩, ⟨rfl, by decide +kernel, by decide +kernel, by decide +kernel⟩⟩
theorem my_X10_number_ : gWV RX10 yX10_number_ cX10_number_ 5 (some .int) 3 := ⟨⟨wd1094, wd1095, wd742, wd1096⟩, ⟨rfl, by decide +kernel, by decide +kernel, by decide +kernel⟩⟩
theorem my_X10_cellHere : gWV RX10 yX10_cellHere cX10_cellHere 1 (some .int) 0 := ⟨⟨wd1098, wd1099, wd742, wd1100⟩, ⟨rfl, by decide +kernel, by decide +kernel, by decide +kernel⟩⟩
theorem my_X10_tells : gWV RX10 yX10_tells cX10_tells 3 none 2 := ⟨⟨wd1104, wd1105, wd742, wd1106⟩, ⟨rfl, by decide +kernel, by decide +kernel, by decide +kernel⟩⟩
theorem my_X10_isRoom : gWV RX10 yX10_isRoom cX10_isRoom 4 (some .boolean) 3 := ⟨⟨wd1111, wd1112, wd742, wd1113⟩, ⟨rfl, by decide +kernel, by decide +kernel, by decide +kernel⟩⟩
theorem my_X10_isGood : gWV RX10 yX10_isGood cX10_isGood 1 (some .boolean) 0 := ⟨⟨wd1117, wd1118, wd742, wd1119⟩, ⟨rfl, by decide +kernel, by decide +kernel, by decide +kernel⟩⟩
theorem my_X10_memberLine : gWV RX10 yX10_memberLine cX10_memberLine 2 none 0 := ⟨⟨wd1121, wd1122, wd742, wd1123⟩, ⟨rfl, by decide +kernel, by decide +kernel, by decide +kernel⟩⟩
theorem my_X10_flightLine : gWV RX10 yX10_flightLine cX10_flightLine 2 none 0 := ⟨⟨wd1125, wd1126, wd742, wd1127⟩, ⟨rfl, by decide +kernel, by decide +kernel, by decide +kernel⟩⟩
theorem my_X10_isOver : gWV RX10 yX10_isOver cX10_isOver 1 none 0 := ⟨⟨wd1135, wd1136, wd742, wd1137⟩, ⟨rfl, by decide +kernel, by decide +kernel, by decide +kernel⟩⟩
theorem my_X10_line : gWV RX10 yX10_line cX10_line 2 none 0 := ⟨⟨wd1139, wd1140, wd742, wd1141⟩, ⟨rfl, by decide +kernel, by decide +kernel, by decide +kernel⟩⟩
theorem my_X10_ends : gWV RX10 yX10_ends cX10_ends 1 none 0 := ⟨⟨wd1143, wd1144, wd742, wd1145⟩, ⟨rfl, by decide +kernel, by decide +kernel, by decide +kernel⟩⟩
theorem my_X10_landLine : gWV RX10 yX10_landLine cX10_landLine 1 none 0 := ⟨⟨wd1147, wd1148, wd742, wd1149⟩, ⟨rfl, by decide +kernel, by decide +kernel, by decide +kernel⟩⟩
theorem my_X10_clears : gWV RX10 yX10_clears cX10_clears 2 none 0 := ⟨⟨wd1151, wd1152, wd742, wd1153⟩, ⟨rfl, by decide +kernel, by decide +kernel, by decide +kernel⟩⟩
theorem my_X10_begins : gWV RX10 yX10_begins cX10_begins 1 none 0 := ⟨⟨wd1155, wd1156, wd742, wd1157⟩, ⟨rfl, by decide +kernel, by decide +kernel, by decide +kernel⟩⟩
theorem tl_36 : (36 : Int32).toInt = 36 := by decide
theorem rl_36 : rg (36 : Int32) 36 36 := ⟨by rw [tl_36]; exact Int.le_refl _, by rw [tl_36]; exact Int.le_refl _⟩
theorem tl_37 : (37 : Int32).toInt = 37 := by decide
theorem rl_37 : rg (37 : Int32) 37 37 := ⟨by rw [tl_37]; exact Int.le_refl _, by rw [tl_37]; exact Int.le_refl _⟩
theorem tl_38 : (38 : Int32).toInt = 38 := by decide
theorem rl_38 : rg (38 : Int32) 38 38 := ⟨by rw [tl_38]; exact Int.le_refl _, by rw [tl_38]; exact Int.le_refl _⟩
theorem tl_39 : (39 : Int32).toInt = 39 := by decide
theorem rl_39 : rg (39 : Int32) 39 39 := ⟨by rw [tl_39]; exact Int.le_refl _, by rw [tl_39]; exact Int.le_refl _⟩
theorem tl_43 : (43 : Int32).toInt = 43 := by decide
theorem rl_43 : rg (43 : Int32) 43 43 := ⟨by rw [tl_43]; exact Int.le_refl _, by rw [tl_43]; exact Int.le_refl _⟩
theorem tl_44 : (44 : Int32).toInt = 44 := by decide
theorem rl_44 : rg (44 : Int32) 44 44 := ⟨by rw [tl_44]; exact Int.le_refl _, by rw [tl_44]; exact Int.le_refl _⟩
theorem tl_1000000 : (1000000 : Int32).toInt = 1000000 := by decide
theorem rl_1000000 : rg (1000000 : Int32) 1000000 1000000 := ⟨by rw [tl_1000000]; exact Int.le_refl _, by rw [tl_1000000]; exact Int.le_refl _⟩
