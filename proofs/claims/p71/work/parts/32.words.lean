theorem dJ6_bitCount_0f7a4_0 : decode cJ6_bitCount_0f7a4 0 = .ok (.iload_n 0, 1) := by decide +kernel
theorem dJ6_bitCount_0f7a4_1 : decode cJ6_bitCount_0f7a4 1 = .ok (.iload_n 0, 1) := by decide +kernel
theorem dJ6_bitCount_0f7a4_2 : decode cJ6_bitCount_0f7a4 2 = .ok (.iconst 1, 1) := by decide +kernel
theorem dJ6_bitCount_0f7a4_3 : decode cJ6_bitCount_0f7a4 3 = .ok (.iushr, 1) := by decide +kernel
theorem dJ6_bitCount_0f7a4_4 : decode cJ6_bitCount_0f7a4 4 = .ok (.ldc_w 265, 3) := by decide +kernel
theorem dJ6_bitCount_0f7a4_7 : decode cJ6_bitCount_0f7a4 7 = .ok (.iand, 1) := by decide +kernel
theorem dJ6_bitCount_0f7a4_8 : decode cJ6_bitCount_0f7a4 8 = .ok (.isub, 1) := by decide +kernel
theorem dJ6_bitCount_0f7a4_9 : decode cJ6_bitCount_0f7a4 9 = .ok (.istore_n 0, 1) := by decide +kernel
theorem dJ6_bitCount_0f7a4_10 : decode cJ6_bitCount_0f7a4 10 = .ok (.iload_n 0, 1) := by decide +kernel
theorem dJ6_bitCount_0f7a4_11 : decode cJ6_bitCount_0f7a4 11 = .ok (.ldc_w 266, 3) := by decide +kernel
theorem dJ6_bitCount_0f7a4_14 : decode cJ6_bitCount_0f7a4 14 = .ok (.iand, 1) := by decide +kernel
theorem dJ6_bitCount_0f7a4_15 : decode cJ6_bitCount_0f7a4 15 = .ok (.iload_n 0, 1) := by decide +kernel
theorem dJ6_bitCount_0f7a4_16 : decode cJ6_bitCount_0f7a4 16 = .ok (.iconst 2, 1) := by decide +kernel
theorem dJ6_bitCount_0f7a4_17 : decode cJ6_bitCount_0f7a4 17 = .ok (.iushr, 1) := by decide +kernel
theorem dJ6_bitCount_0f7a4_18 : decode cJ6_bitCount_0f7a4 18 = .ok (.ldc_w 266, 3) := by decide +kernel
theorem dJ6_bitCount_0f7a4_21 : decode cJ6_bitCount_0f7a4 21 = .ok (.iand, 1) := by decide +kernel
theorem dJ6_bitCount_0f7a4_22 : decode cJ6_bitCount_0f7a4 22 = .ok (.iadd, 1) := by decide +kernel
theorem dJ6_bitCount_0f7a4_23 : decode cJ6_bitCount_0f7a4 23 = .ok (.istore_n 0, 1) := by decide +kernel
theorem dJ6_bitCount_0f7a4_24 : decode cJ6_bitCount_0f7a4 24 = .ok (.iload_n 0, 1) := by decide +kernel
theorem dJ6_bitCount_0f7a4_25 : decode cJ6_bitCount_0f7a4 25 = .ok (.iload_n 0, 1) := by decide +kernel
theorem dJ6_bitCount_0f7a4_26 : decode cJ6_bitCount_0f7a4 26 = .ok (.iconst 4, 1) := by decide +kernel
theorem dJ6_bitCount_0f7a4_27 : decode cJ6_bitCount_0f7a4 27 = .ok (.iushr, 1) := by decide +kernel
theorem dJ6_bitCount_0f7a4_28 : decode cJ6_bitCount_0f7a4 28 = .ok (.iadd, 1) := by decide +kernel
theorem dJ6_bitCount_0f7a4_29 : decode cJ6_bitCount_0f7a4 29 = .ok (.ldc_w 267, 3) := by decide +kernel
theorem dJ6_bitCount_0f7a4_32 : decode cJ6_bitCount_0f7a4 32 = .ok (.iand, 1) := by decide +kernel
theorem dJ6_bitCount_0f7a4_33 : decode cJ6_bitCount_0f7a4 33 = .ok (.istore_n 0, 1) := by decide +kernel
theorem dJ6_bitCount_0f7a4_34 : decode cJ6_bitCount_0f7a4 34 = .ok (.iload_n 0, 1) := by decide +kernel
theorem dJ6_bitCount_0f7a4_35 : decode cJ6_bitCount_0f7a4 35 = .ok (.iload_n 0, 1) := by decide +kernel
theorem dJ6_bitCount_0f7a4_36 : decode cJ6_bitCount_0f7a4 36 = .ok (.bipush 8, 2) := by decide +kernel
theorem dJ6_bitCount_0f7a4_38 : decode cJ6_bitCount_0f7a4 38 = .ok (.iushr, 1) := by decide +kernel
theorem dJ6_bitCount_0f7a4_39 : decode cJ6_bitCount_0f7a4 39 = .ok (.iadd, 1) := by decide +kernel
theorem dJ6_bitCount_0f7a4_40 : decode cJ6_bitCount_0f7a4 40 = .ok (.istore_n 0, 1) := by decide +kernel
theorem dJ6_bitCount_0f7a4_41 : decode cJ6_bitCount_0f7a4 41 = .ok (.iload_n 0, 1) := by decide +kernel
theorem dJ6_bitCount_0f7a4_42 : decode cJ6_bitCount_0f7a4 42 = .ok (.iload_n 0, 1) := by decide +kernel
theorem dJ6_bitCount_0f7a4_43 : decode cJ6_bitCount_0f7a4 43 = .ok (.bipush 16, 2) := by decide +kernel
theorem dJ6_bitCount_0f7a4_45 : decode cJ6_bitCount_0f7a4 45 = .ok (.iushr, 1) := by decide +kernel
theorem dJ6_bitCount_0f7a4_46 : decode cJ6_bitCount_0f7a4 46 = .ok (.iadd, 1) := by decide +kernel
theorem dJ6_bitCount_0f7a4_47 : decode cJ6_bitCount_0f7a4 47 = .ok (.istore_n 0, 1) := by decide +kernel
theorem dJ6_bitCount_0f7a4_48 : decode cJ6_bitCount_0f7a4 48 = .ok (.iload_n 0, 1) := by decide +kernel
theorem dJ6_bitCount_0f7a4_49 : decode cJ6_bitCount_0f7a4 49 = .ok (.bipush 63, 2) := by decide +kernel
theorem dJ6_bitCount_0f7a4_51 : decode cJ6_bitCount_0f7a4 51 = .ok (.iand, 1) := by decide +kernel
theorem dJ6_bitCount_0f7a4_52 : decode cJ6_bitCount_0f7a4 52 = .ok (.ireturn, 1) := by decide +kernel
theorem dJ7_fill_53178_0 : decode cJ7_fill_53178 0 = .ok (.iconst 0, 1) := by decide +kernel
theorem dJ7_fill_53178_1 : decode cJ7_fill_53178 1 = .ok (.istore_n 2, 1) := by decide +kernel
theorem dJ7_fill_53178_2 : decode cJ7_fill_53178 2 = .ok (.aload_n 0, 1) := by decide +kernel
theorem dJ7_fill_53178_3 : decode cJ7_fill_53178 3 = .ok (.arraylength, 1) := by decide +kernel
theorem dJ7_fill_53178_4 : decode cJ7_fill_53178 4 = .ok (.istore_n 3, 1) := by decide +kernel
theorem dJ7_fill_53178_5 : decode cJ7_fill_53178 5 = .ok (.iload_n 2, 1) := by decide +kernel
theorem dJ7_fill_53178_6 : decode cJ7_fill_53178 6 = .ok (.iload_n 3, 1) := by decide +kernel
theorem dJ7_fill_53178_7 : decode cJ7_fill_53178 7 = .ok (.if_icmp .ge 13, 3) := by decide +kernel
theorem dJ7_fill_53178_10 : decode cJ7_fill_53178 10 = .ok (.aload_n 0, 1) := by decide +kernel
theorem dJ7_fill_53178_11 : decode cJ7_fill_53178 11 = .ok (.iload_n 2, 1) := by decide +kernel
theorem dJ7_fill_53178_12 : decode cJ7_fill_53178 12 = .ok (.iload_n 1, 1) := by decide +kernel
theorem dJ7_fill_53178_13 : decode cJ7_fill_53178 13 = .ok (.iastore, 1) := by decide +kernel
theorem dJ7_fill_53178_14 : decode cJ7_fill_53178 14 = .ok (.iinc 2 1, 3) := by decide +kernel
theorem dJ7_fill_53178_17 : decode cJ7_fill_53178 17 = .ok (.goto (-12), 3) := by decide +kernel
theorem dJ7_fill_53178_20 : decode cJ7_fill_53178 20 = .ok (.return_, 1) := by decide +kernel
theorem dX1_allWeight_0 : decode cX1_allWeight 0 = .ok (.iconst 1, 1) := by decide +kernel
theorem dX1_allWeight_1 : decode cX1_allWeight 1 = .ok (.istore_n 1, 1) := by decide +kernel
theorem dX1_allWeight_2 : decode cX1_allWeight 2 = .ok (.iconst 0, 1) := by decide +kernel
theorem dX1_allWeight_3 : decode cX1_allWeight 3 = .ok (.istore_n 2, 1) := by decide +kernel
theorem dX1_allWeight_4 : decode cX1_allWeight 4 = .ok (.iload_n 2, 1) := by decide +kernel
theorem dX1_allWeight_5 : decode cX1_allWeight 5 = .ok (.aload_n 0, 1) := by decide +kernel
theorem dX1_allWeight_6 : decode cX1_allWeight 6 = .ok (.getfield 9, 3) := by decide +kernel
theorem dX1_allWeight_9 : decode cX1_allWeight 9 = .ok (.getfield 19, 3) := by decide +kernel
theorem dX1_allWeight_12 : decode cX1_allWeight 12 = .ok (.if_icmp .ge 14, 3) := by decide +kernel
theorem dX1_allWeight_15 : decode cX1_allWeight 15 = .ok (.iload_n 1, 1) := by decide +kernel
theorem dX1_allWeight_16 : decode cX1_allWeight 16 = .ok (.bipush 10, 2) := by decide +kernel
theorem dX1_allWeight_18 : decode cX1_allWeight 18 = .ok (.imul, 1) := by decide +kernel
theorem dX1_allWeight_19 : decode cX1_allWeight 19 = .ok (.istore_n 1, 1) := by decide +kernel
theorem dX1_allWeight_20 : decode cX1_allWeight 20 = .ok (.iinc 2 1, 3) := by decide +kernel
theorem dX1_allWeight_23 : decode cX1_allWeight 23 = .ok (.goto (-19), 3) := by decide +kernel
theorem dX1_allWeight_26 : decode cX1_allWeight 26 = .ok (.iload_n 1, 1) := by decide +kernel
theorem dX1_allWeight_27 : decode cX1_allWeight 27 = .ok (.ireturn, 1) := by decide +kernel
theorem dX1_clearWeight_0 : decode cX1_clearWeight 0 = .ok (.iconst 0, 1) := by decide +kernel
theorem dX1_clearWeight_1 : decode cX1_clearWeight 1 = .ok (.istore_n 2, 1) := by decide +kernel
theorem dX1_clearWeight_2 : decode cX1_clearWeight 2 = .ok (.iconst 0, 1) := by decide +kernel
theorem dX1_clearWeight_3 : decode cX1_clearWeight 3 = .ok (.istore_n 3, 1) := by decide +kernel
theorem dX1_clearWeight_4 : decode cX1_clearWeight 4 = .ok (.iload_n 3, 1) := by decide +kernel
theorem dX1_clearWeight_5 : decode cX1_clearWeight 5 = .ok (.iconst 1, 1) := by decide +kernel
theorem dX1_clearWeight_6 : decode cX1_clearWeight 6 = .ok (.aload_n 0, 1) := by decide +kernel
theorem dX1_clearWeight_7 : decode cX1_clearWeight 7 = .ok (.getfield 9, 3) := by decide +kernel
theorem dX1_clearWeight_10 : decode cX1_clearWeight 10 = .ok (.getfield 19, 3) := by decide +kernel
theorem dX1_clearWeight_13 : decode cX1_clearWeight 13 = .ok (.ishl, 1) := by decide +kernel
theorem dX1_clearWeight_14 : decode cX1_clearWeight 14 = .ok (.if_icmp .ge 33, 3) := by decide +kernel
theorem dX1_clearWeight_17 : decode cX1_clearWeight 17 = .ok (.aload_n 0, 1) := by decide +kernel
theorem dX1_clearWeight_18 : decode cX1_clearWeight 18 = .ok (.getfield 9, 3) := by decide +kernel
theorem dX1_clearWeight_21 : decode cX1_clearWeight 21 = .ok (.getfield 19, 3) := by decide +kernel
theorem dX1_clearWeight_24 : decode cX1_clearWeight 24 = .ok (.iload_n 3, 1) := by decide +kernel
theorem dX1_clearWeight_25 : decode cX1_clearWeight 25 = .ok (.invokestatic 62, 3) := by decide +kernel
theorem dX1_clearWeight_28 : decode cX1_clearWeight 28 = .ok (.isub, 1) := by decide +kernel
theorem dX1_clearWeight_29 : decode cX1_clearWeight 29 = .ok (.iload_n 1, 1) := by decide +kernel
theorem dX1_clearWeight_30 : decode cX1_clearWeight 30 = .ok (.if_icmp .lt 11, 3) := by decide +kernel
theorem dX1_clearWeight_33 : decode cX1_clearWeight 33 = .ok (.iload_n 2, 1) := by decide +kernel
theorem dX1_clearWeight_34 : decode cX1_clearWeight 34 = .ok (.aload_n 0, 1) := by decide +kernel
theorem dX1_clearWeight_35 : decode cX1_clearWeight 35 = .ok (.iload_n 3, 1) := by decide +kernel
theorem dX1_clearWeight_36 : decode cX1_clearWeight 36 = .ok (.invokevirtual 56, 3) := by decide +kernel
theorem dX1_clearWeight_39 : decode cX1_clearWeight 39 = .ok (.iadd, 1) := by decide +kernel
theorem dX1_clearWeight_40 : decode cX1_clearWeight 40 = .ok (.istore_n 2, 1) := by decide +kernel
theorem dX1_clearWeight_41 : decode cX1_clearWeight 41 = .ok (.iinc 3 1, 3) := by decide +kernel
theorem dX1_clearWeight_44 : decode cX1_clearWeight 44 = .ok (.goto (-40), 3) := by decide +kernel
theorem dX1_clearWeight_47 : decode cX1_clearWeight 47 = .ok (.iload_n 2, 1) := by decide +kernel
theorem dX1_clearWeight_48 : decode cX1_clearWeight 48 = .ok (.ireturn, 1) := by decide +kernel
theorem dX1_drawFrom_0 : decode cX1_drawFrom 0 = .ok (.iload_n 1, 1) := by decide +kernel
theorem dX1_drawFrom_1 : decode cX1_drawFrom 1 = .ok (.i2l, 1) := by decide +kernel
theorem dX1_drawFrom_2 : decode cX1_drawFrom 2 = .ok (.lstore_n 2, 1) := by decide +kernel
theorem dX1_drawFrom_3 : decode cX1_drawFrom 3 = .ok (.iconst 0, 1) := by decide +kernel
theorem dX1_drawFrom_4 : decode cX1_drawFrom 4 = .ok (.istore 4, 2) := by decide +kernel
theorem dX1_drawFrom_6 : decode cX1_drawFrom 6 = .ok (.iconst 0, 1) := by decide +kernel
theorem dX1_drawFrom_7 : decode cX1_drawFrom 7 = .ok (.istore 5, 2) := by decide +kernel
theorem dX1_drawFrom_9 : decode cX1_drawFrom 9 = .ok (.iload 5, 2) := by decide +kernel
theorem dX1_drawFrom_11 : decode cX1_drawFrom 11 = .ok (.aload_n 0, 1) := by decide +kernel
theorem dX1_drawFrom_12 : decode cX1_drawFrom 12 = .ok (.getfield 9, 3) := by decide +kernel
theorem dX1_drawFrom_15 : decode cX1_drawFrom 15 = .ok (.getfield 19, 3) := by decide +kernel
theorem dX1_drawFrom_18 : decode cX1_drawFrom 18 = .ok (.if_icmp .ge 53, 3) := by decide +kernel
theorem dX1_drawFrom_21 : decode cX1_drawFrom 21 = .ok (.ldc2_w 67, 3) := by decide +kernel
theorem dX1_drawFrom_24 : decode cX1_drawFrom 24 = .ok (.lload_n 2, 1) := by decide +kernel
theorem dX1_drawFrom_25 : decode cX1_drawFrom 25 = .ok (.lmul, 1) := by decide +kernel
theorem dX1_drawFrom_26 : decode cX1_drawFrom 26 = .ok (.ldc2_w 69, 3) := by decide +kernel
theorem dX1_drawFrom_29 : decode cX1_drawFrom 29 = .ok (.ladd, 1) := by decide +kernel
theorem dX1_drawFrom_30 : decode cX1_drawFrom 30 = .ok (.ldc2_w 71, 3) := by decide +kernel
theorem dX1_drawFrom_33 : decode cX1_drawFrom 33 = .ok (.land, 1) := by decide +kernel
theorem dX1_drawFrom_34 : decode cX1_drawFrom 34 = .ok (.lstore_n 2, 1) := by decide +kernel
theorem dX1_drawFrom_35 : decode cX1_drawFrom 35 = .ok (.lload_n 2, 1) := by decide +kernel
theorem dX1_drawFrom_36 : decode cX1_drawFrom 36 = .ok (.ldc2_w 73, 3) := by decide +kernel
theorem dX1_drawFrom_39 : decode cX1_drawFrom 39 = .ok (.ldiv, 1) := by decide +kernel
theorem dX1_drawFrom_40 : decode cX1_drawFrom 40 = .ok (.ldc2_w 75, 3) := by decide +kernel
theorem dX1_drawFrom_43 : decode cX1_drawFrom 43 = .ok (.lrem, 1) := by decide +kernel
theorem dX1_drawFrom_44 : decode cX1_drawFrom 44 = .ok (.aload_n 0, 1) := by decide +kernel
theorem dX1_drawFrom_45 : decode cX1_drawFrom 45 = .ok (.getfield 9, 3) := by decide +kernel
theorem dX1_drawFrom_48 : decode cX1_drawFrom 48 = .ok (.getfield 29, 3) := by decide +kernel
theorem dX1_drawFrom_51 : decode cX1_drawFrom 51 = .ok (.i2l, 1) := by decide +kernel
theorem dX1_drawFrom_52 : decode cX1_drawFrom 52 = .ok (.lcmp, 1) := by decide +kernel
theorem dX1_drawFrom_53 : decode cX1_drawFrom 53 = .ok (.ifCond .ge 12, 3) := by decide +kernel
theorem dX1_drawFrom_56 : decode cX1_drawFrom 56 = .ok (.iload 4, 2) := by decide +kernel
theorem dX1_drawFrom_58 : decode cX1_drawFrom 58 = .ok (.iconst 1, 1) := by decide +kernel
theorem dX1_drawFrom_59 : decode cX1_drawFrom 59 = .ok (.iload 5, 2) := by decide +kernel
theorem dX1_drawFrom_61 : decode cX1_drawFrom 61 = .ok (.ishl, 1) := by decide +kernel
theorem dX1_drawFrom_62 : decode cX1_drawFrom 62 = .ok (.ior, 1) := by decide +kernel
theorem dX1_drawFrom_63 : decode cX1_drawFrom 63 = .ok (.istore 4, 2) := by decide +kernel
theorem dX1_drawFrom_65 : decode cX1_drawFrom 65 = .ok (.iinc 5 1, 3) := by decide +kernel
theorem dX1_drawFrom_68 : decode cX1_drawFrom 68 = .ok (.goto (-59), 3) := by decide +kernel
theorem dX1_drawFrom_71 : decode cX1_drawFrom 71 = .ok (.iload 4, 2) := by decide +kernel
theorem dX1_drawFrom_73 : decode cX1_drawFrom 73 = .ok (.ireturn, 1) := by decide +kernel
theorem dX1_paidWeight_0 : decode cX1_paidWeight 0 = .ok (.iconst 0, 1) := by decide +kernel
theorem dX1_paidWeight_1 : decode cX1_paidWeight 1 = .ok (.istore_n 1, 1) := by decide +kernel
theorem dX1_paidWeight_2 : decode cX1_paidWeight 2 = .ok (.iconst 0, 1) := by decide +kernel
theorem dX1_paidWeight_3 : decode cX1_paidWeight 3 = .ok (.istore_n 2, 1) := by decide +kernel
theorem dX1_paidWeight_4 : decode cX1_paidWeight 4 = .ok (.iload_n 2, 1) := by decide +kernel
theorem dX1_paidWeight_5 : decode cX1_paidWeight 5 = .ok (.iconst 1, 1) := by decide +kernel
theorem dX1_paidWeight_6 : decode cX1_paidWeight 6 = .ok (.aload_n 0, 1) := by decide +kernel
theorem dX1_paidWeight_7 : decode cX1_paidWeight 7 = .ok (.getfield 9, 3) := by decide +kernel
theorem dX1_paidWeight_10 : decode cX1_paidWeight 10 = .ok (.getfield 19, 3) := by decide +kernel
theorem dX1_paidWeight_13 : decode cX1_paidWeight 13 = .ok (.ishl, 1) := by decide +kernel
theorem dX1_paidWeight_14 : decode cX1_paidWeight 14 = .ok (.if_icmp .ge 30, 3) := by decide +kernel
theorem dX1_paidWeight_17 : decode cX1_paidWeight 17 = .ok (.iload_n 1, 1) := by decide +kernel
theorem dX1_paidWeight_18 : decode cX1_paidWeight 18 = .ok (.aload_n 0, 1) := by decide +kernel
theorem dX1_paidWeight_19 : decode cX1_paidWeight 19 = .ok (.iload_n 2, 1) := by decide +kernel
theorem dX1_paidWeight_20 : decode cX1_paidWeight 20 = .ok (.invokevirtual 56, 3) := by decide +kernel
theorem dX1_paidWeight_23 : decode cX1_paidWeight 23 = .ok (.aload_n 0, 1) := by decide +kernel
theorem dX1_paidWeight_24 : decode cX1_paidWeight 24 = .ok (.getfield 9, 3) := by decide +kernel
theorem dX1_paidWeight_27 : decode cX1_paidWeight 27 = .ok (.aload_n 0, 1) := by decide +kernel
theorem dX1_paidWeight_28 : decode cX1_paidWeight 28 = .ok (.iload_n 2, 1) := by decide +kernel
theorem dX1_paidWeight_29 : decode cX1_paidWeight 29 = .ok (.invokevirtual 52, 3) := by decide +kernel
theorem dX1_paidWeight_32 : decode cX1_paidWeight 32 = .ok (.invokevirtual 59, 3) := by decide +kernel
theorem dX1_paidWeight_35 : decode cX1_paidWeight 35 = .ok (.imul, 1) := by decide +kernel
theorem dX1_paidWeight_36 : decode cX1_paidWeight 36 = .ok (.iadd, 1) := by decide +kernel
theorem dX1_paidWeight_37 : decode cX1_paidWeight 37 = .ok (.istore_n 1, 1) := by decide +kernel
theorem dX1_paidWeight_38 : decode cX1_paidWeight 38 = .ok (.iinc 2 1, 3) := by decide +kernel
theorem dX1_paidWeight_41 : decode cX1_paidWeight 41 = .ok (.goto (-37), 3) := by decide +kernel
theorem dX1_paidWeight_44 : decode cX1_paidWeight 44 = .ok (.iload_n 1, 1) := by decide +kernel
theorem dX1_paidWeight_45 : decode cX1_paidWeight 45 = .ok (.ireturn, 1) := by decide +kernel
theorem dX1_servedIn_0 : decode cX1_servedIn 0 = .ok (.aload_n 0, 1) := by decide +kernel
theorem dX1_servedIn_1 : decode cX1_servedIn 1 = .ok (.getfield 15, 3) := by decide +kernel
theorem dX1_servedIn_4 : decode cX1_servedIn 4 = .ok (.aload_n 0, 1) := by decide +kernel
theorem dX1_servedIn_5 : decode cX1_servedIn 5 = .ok (.getfield 9, 3) := by decide +kernel
theorem dX1_servedIn_8 : decode cX1_servedIn 8 = .ok (.getfield 32, 3) := by decide +kernel
theorem dX1_servedIn_11 : decode cX1_servedIn 11 = .ok (.aload_n 0, 1) := by decide +kernel
theorem dX1_servedIn_12 : decode cX1_servedIn 12 = .ok (.getfield 9, 3) := by decide +kernel
theorem dX1_servedIn_15 : decode cX1_servedIn 15 = .ok (.getfield 35, 3) := by decide +kernel
theorem dX1_servedIn_18 : decode cX1_servedIn 18 = .ok (.invokevirtual 38, 3) := by decide +kernel
theorem dX1_servedIn_21 : decode cX1_servedIn 21 = .ok (.aload_n 0, 1) := by decide +kernel
theorem dX1_servedIn_22 : decode cX1_servedIn 22 = .ok (.getfield 15, 3) := by decide +kernel
theorem dX1_servedIn_25 : decode cX1_servedIn 25 = .ok (.bipush 15, 2) := by decide +kernel
theorem dX1_servedIn_27 : decode cX1_servedIn 27 = .ok (.iload_n 1, 1) := by decide +kernel
theorem dX1_servedIn_28 : decode cX1_servedIn 28 = .ok (.iconst (-1), 1) := by decide +kernel
theorem dX1_servedIn_29 : decode cX1_servedIn 29 = .ok (.ixor, 1) := by decide +kernel
theorem dX1_servedIn_30 : decode cX1_servedIn 30 = .ok (.iand, 1) := by decide +kernel
theorem dX1_servedIn_31 : decode cX1_servedIn 31 = .ok (.invokevirtual 44, 3) := by decide +kernel
theorem dX1_servedIn_34 : decode cX1_servedIn 34 = .ok (.aload_n 0, 1) := by decide +kernel
theorem dX1_servedIn_35 : decode cX1_servedIn 35 = .ok (.getfield 15, 3) := by decide +kernel
theorem dX1_servedIn_38 : decode cX1_servedIn 38 = .ok (.invokevirtual 48, 3) := by decide +kernel
theorem dX1_servedIn_41 : decode cX1_servedIn 41 = .ok (.ireturn, 1) := by decide +kernel
theorem dX1_servedWeight_0 : decode cX1_servedWeight 0 = .ok (.iconst 0, 1) := by decide +kernel
theorem dX1_servedWeight_1 : decode cX1_servedWeight 1 = .ok (.istore_n 2, 1) := by decide +kernel
theorem dX1_servedWeight_2 : decode cX1_servedWeight 2 = .ok (.iconst 0, 1) := by decide +kernel
theorem dX1_servedWeight_3 : decode cX1_servedWeight 3 = .ok (.istore_n 3, 1) := by decide +kernel
theorem dX1_servedWeight_4 : decode cX1_servedWeight 4 = .ok (.iload_n 3, 1) := by decide +kernel
theorem dX1_servedWeight_5 : decode cX1_servedWeight 5 = .ok (.iconst 1, 1) := by decide +kernel
theorem dX1_servedWeight_6 : decode cX1_servedWeight 6 = .ok (.aload_n 0, 1) := by decide +kernel
theorem dX1_servedWeight_7 : decode cX1_servedWeight 7 = .ok (.getfield 9, 3) := by decide +kernel
theorem dX1_servedWeight_10 : decode cX1_servedWeight 10 = .ok (.getfield 19, 3) := by decide +kernel
theorem dX1_servedWeight_13 : decode cX1_servedWeight 13 = .ok (.ishl, 1) := by decide +kernel
theorem dX1_servedWeight_14 : decode cX1_servedWeight 14 = .ok (.if_icmp .ge 29, 3) := by decide +kernel
theorem dX1_servedWeight_17 : decode cX1_servedWeight 17 = .ok (.aload_n 0, 1) := by decide +kernel
theorem dX1_servedWeight_18 : decode cX1_servedWeight 18 = .ok (.iload_n 3, 1) := by decide +kernel
theorem dX1_servedWeight_19 : decode cX1_servedWeight 19 = .ok (.invokevirtual 52, 3) := by decide +kernel
theorem dX1_servedWeight_22 : decode cX1_servedWeight 22 = .ok (.iload_n 1, 1) := by decide +kernel
theorem dX1_servedWeight_23 : decode cX1_servedWeight 23 = .ok (.invokestatic 25, 3) := by decide +kernel
theorem dX1_servedWeight_26 : decode cX1_servedWeight 26 = .ok (.ifCond .eq 11, 3) := by decide +kernel
theorem dX1_servedWeight_29 : decode cX1_servedWeight 29 = .ok (.iload_n 2, 1) := by decide +kernel
theorem dX1_servedWeight_30 : decode cX1_servedWeight 30 = .ok (.aload_n 0, 1) := by decide +kernel
theorem dX1_servedWeight_31 : decode cX1_servedWeight 31 = .ok (.iload_n 3, 1) := by decide +kernel
theorem dX1_servedWeight_32 : decode cX1_servedWeight 32 = .ok (.invokevirtual 56, 3) := by decide +kernel
theorem dX1_servedWeight_35 : decode cX1_servedWeight 35 = .ok (.iadd, 1) := by decide +kernel
theorem dX1_servedWeight_36 : decode cX1_servedWeight 36 = .ok (.istore_n 2, 1) := by decide +kernel
theorem dX1_servedWeight_37 : decode cX1_servedWeight 37 = .ok (.iinc 3 1, 3) := by decide +kernel
theorem dX1_servedWeight_40 : decode cX1_servedWeight 40 = .ok (.goto (-36), 3) := by decide +kernel
theorem dX1_servedWeight_43 : decode cX1_servedWeight 43 = .ok (.iload_n 2, 1) := by decide +kernel
theorem dX1_servedWeight_44 : decode cX1_servedWeight 44 = .ok (.ireturn, 1) := by decide +kernel
theorem dX1_weightOf_0 : decode cX1_weightOf 0 = .ok (.iconst 1, 1) := by decide +kernel
theorem dX1_weightOf_1 : decode cX1_weightOf 1 = .ok (.istore_n 2, 1) := by decide +kernel
theorem dX1_weightOf_2 : decode cX1_weightOf 2 = .ok (.iconst 0, 1) := by decide +kernel
theorem dX1_weightOf_3 : decode cX1_weightOf 3 = .ok (.istore_n 3, 1) := by decide +kernel
theorem dX1_weightOf_4 : decode cX1_weightOf 4 = .ok (.iload_n 3, 1) := by decide +kernel
theorem dX1_weightOf_5 : decode cX1_weightOf 5 = .ok (.aload_n 0, 1) := by decide +kernel
theorem dX1_weightOf_6 : decode cX1_weightOf 6 = .ok (.getfield 9, 3) := by decide +kernel
theorem dX1_weightOf_9 : decode cX1_weightOf 9 = .ok (.getfield 19, 3) := by decide +kernel
theorem dX1_weightOf_12 : decode cX1_weightOf 12 = .ok (.if_icmp .ge 40, 3) := by decide +kernel
theorem dX1_weightOf_15 : decode cX1_weightOf 15 = .ok (.iload_n 2, 1) := by decide +kernel
theorem dX1_weightOf_16 : decode cX1_weightOf 16 = .ok (.iload_n 1, 1) := by decide +kernel
theorem dX1_weightOf_17 : decode cX1_weightOf 17 = .ok (.iload_n 3, 1) := by decide +kernel
theorem dX1_weightOf_18 : decode cX1_weightOf 18 = .ok (.invokestatic 25, 3) := by decide +kernel
theorem dX1_weightOf_21 : decode cX1_weightOf 21 = .ok (.ifCond .eq 13, 3) := by decide +kernel
theorem dX1_weightOf_24 : decode cX1_weightOf 24 = .ok (.aload_n 0, 1) := by decide +kernel
theorem dX1_weightOf_25 : decode cX1_weightOf 25 = .ok (.getfield 9, 3) := by decide +kernel
theorem dX1_weightOf_28 : decode cX1_weightOf 28 = .ok (.getfield 29, 3) := by decide +kernel
theorem dX1_weightOf_31 : decode cX1_weightOf 31 = .ok (.goto 13, 3) := by decide +kernel
theorem dX1_weightOf_34 : decode cX1_weightOf 34 = .ok (.bipush 10, 2) := by decide +kernel
theorem dX1_weightOf_36 : decode cX1_weightOf 36 = .ok (.aload_n 0, 1) := by decide +kernel
theorem dX1_weightOf_37 : decode cX1_weightOf 37 = .ok (.getfield 9, 3) := by decide +kernel
theorem dX1_weightOf_40 : decode cX1_weightOf 40 = .ok (.getfield 29, 3) := by decide +kernel
theorem dX1_weightOf_43 : decode cX1_weightOf 43 = .ok (.isub, 1) := by decide +kernel
theorem dX1_weightOf_44 : decode cX1_weightOf 44 = .ok (.imul, 1) := by decide +kernel
theorem dX1_weightOf_45 : decode cX1_weightOf 45 = .ok (.istore_n 2, 1) := by decide +kernel
theorem dX1_weightOf_46 : decode cX1_weightOf 46 = .ok (.iinc 3 1, 3) := by decide +kernel
theorem dX1_weightOf_49 : decode cX1_weightOf 49 = .ok (.goto (-45), 3) := by decide +kernel
theorem dX1_weightOf_52 : decode cX1_weightOf 52 = .ok (.iload_n 2, 1) := by decide +kernel
theorem dX1_weightOf_53 : decode cX1_weightOf 53 = .ok (.ireturn, 1) := by decide +kernel
theorem dX2_cellOf_0 : decode cX2_cellOf 0 = .ok (.iconst 0, 1) := by decide +kernel
theorem dX2_cellOf_1 : decode cX2_cellOf 1 = .ok (.istore_n 2, 1) := by decide +kernel
theorem dX2_cellOf_2 : decode cX2_cellOf 2 = .ok (.iconst (-1), 1) := by decide +kernel
theorem dX2_cellOf_3 : decode cX2_cellOf 3 = .ok (.istore_n 3, 1) := by decide +kernel
theorem dX2_cellOf_4 : decode cX2_cellOf 4 = .ok (.iconst 0, 1) := by decide +kernel
theorem dX2_cellOf_5 : decode cX2_cellOf 5 = .ok (.istore 4, 2) := by decide +kernel
theorem dX2_cellOf_7 : decode cX2_cellOf 7 = .ok (.iload 4, 2) := by decide +kernel
theorem dX2_cellOf_9 : decode cX2_cellOf 9 = .ok (.iload_n 1, 1) := by decide +kernel
theorem dX2_cellOf_10 : decode cX2_cellOf 10 = .ok (.if_icmp .gt 34, 3) := by decide +kernel
theorem dX2_cellOf_13 : decode cX2_cellOf 13 = .ok (.aload_n 0, 1) := by decide +kernel
theorem dX2_cellOf_14 : decode cX2_cellOf 14 = .ok (.iload_n 2, 1) := by decide +kernel
theorem dX2_cellOf_15 : decode cX2_cellOf 15 = .ok (.invokevirtual 89, 3) := by decide +kernel
theorem dX2_cellOf_18 : decode cX2_cellOf 18 = .ok (.istore 5, 2) := by decide +kernel
theorem dX2_cellOf_20 : decode cX2_cellOf 20 = .ok (.aload_n 0, 1) := by decide +kernel
theorem dX2_cellOf_21 : decode cX2_cellOf 21 = .ok (.getfield 18, 3) := by decide +kernel
theorem dX2_cellOf_24 : decode cX2_cellOf 24 = .ok (.getfield 48, 3) := by decide +kernel
theorem dX2_cellOf_27 : decode cX2_cellOf 27 = .ok (.iload 5, 2) := by decide +kernel
theorem dX2_cellOf_29 : decode cX2_cellOf 29 = .ok (.iaload, 1) := by decide +kernel
theorem dX2_cellOf_30 : decode cX2_cellOf 30 = .ok (.istore_n 3, 1) := by decide +kernel
theorem dX2_cellOf_31 : decode cX2_cellOf 31 = .ok (.iload_n 2, 1) := by decide +kernel
theorem dX2_cellOf_32 : decode cX2_cellOf 32 = .ok (.iconst 1, 1) := by decide +kernel
theorem dX2_cellOf_33 : decode cX2_cellOf 33 = .ok (.iload 5, 2) := by decide +kernel
theorem dX2_cellOf_35 : decode cX2_cellOf 35 = .ok (.ishl, 1) := by decide +kernel
theorem dX2_cellOf_36 : decode cX2_cellOf 36 = .ok (.ior, 1) := by decide +kernel
theorem dX2_cellOf_37 : decode cX2_cellOf 37 = .ok (.istore_n 2, 1) := by decide +kernel
theorem dX2_cellOf_38 : decode cX2_cellOf 38 = .ok (.iinc 4 1, 3) := by decide +kernel
theorem dX2_cellOf_41 : decode cX2_cellOf 41 = .ok (.goto (-34), 3) := by decide +kernel
theorem dX2_cellOf_44 : decode cX2_cellOf 44 = .ok (.iload_n 3, 1) := by decide +kernel
theorem dX2_cellOf_45 : decode cX2_cellOf 45 = .ok (.ireturn, 1) := by decide +kernel
theorem dX2_firstSwap_0 : decode cX2_firstSwap 0 = .ok (.aload_n 0, 1) := by decide +kernel
theorem dX2_firstSwap_1 : decode cX2_firstSwap 1 = .ok (.invokevirtual 59, 3) := by decide +kernel
theorem dX2_firstSwap_4 : decode cX2_firstSwap 4 = .ok (.iconst 0, 1) := by decide +kernel
theorem dX2_firstSwap_5 : decode cX2_firstSwap 5 = .ok (.istore_n 1, 1) := by decide +kernel
theorem dX2_firstSwap_6 : decode cX2_firstSwap 6 = .ok (.iload_n 1, 1) := by decide +kernel
theorem dX2_firstSwap_7 : decode cX2_firstSwap 7 = .ok (.aload_n 0, 1) := by decide +kernel
theorem dX2_firstSwap_8 : decode cX2_firstSwap 8 = .ok (.getfield 18, 3) := by decide +kernel
theorem dX2_firstSwap_11 : decode cX2_firstSwap 11 = .ok (.getfield 45, 3) := by decide +kernel
theorem dX2_firstSwap_14 : decode cX2_firstSwap 14 = .ok (.if_icmp .ge 46, 3) := by decide +kernel
theorem dX2_firstSwap_17 : decode cX2_firstSwap 17 = .ok (.iload_n 1, 1) := by decide +kernel
theorem dX2_firstSwap_18 : decode cX2_firstSwap 18 = .ok (.iconst 1, 1) := by decide +kernel
theorem dX2_firstSwap_19 : decode cX2_firstSwap 19 = .ok (.iadd, 1) := by decide +kernel
theorem dX2_firstSwap_20 : decode cX2_firstSwap 20 = .ok (.istore_n 2, 1) := by decide +kernel
theorem dX2_firstSwap_21 : decode cX2_firstSwap 21 = .ok (.iload_n 2, 1) := by decide +kernel
theorem dX2_firstSwap_22 : decode cX2_firstSwap 22 = .ok (.aload_n 0, 1) := by decide +kernel
theorem dX2_firstSwap_23 : decode cX2_firstSwap 23 = .ok (.getfield 18, 3) := by decide +kernel
theorem dX2_firstSwap_26 : decode cX2_firstSwap 26 = .ok (.getfield 45, 3) := by decide +kernel
theorem dX2_firstSwap_29 : decode cX2_firstSwap 29 = .ok (.if_icmp .ge 25, 3) := by decide +kernel
theorem dX2_firstSwap_32 : decode cX2_firstSwap 32 = .ok (.aload_n 0, 1) := by decide +kernel
theorem dX2_firstSwap_33 : decode cX2_firstSwap 33 = .ok (.iload_n 1, 1) := by decide +kernel
theorem dX2_firstSwap_34 : decode cX2_firstSwap 34 = .ok (.iload_n 2, 1) := by decide +kernel
theorem dX2_firstSwap_35 : decode cX2_firstSwap 35 = .ok (.invokevirtual 92, 3) := by decide +kernel
theorem dX2_firstSwap_38 : decode cX2_firstSwap 38 = .ok (.ifCond .eq 10, 3) := by decide +kernel
theorem dX2_firstSwap_41 : decode cX2_firstSwap 41 = .ok (.bipush 10, 2) := by decide +kernel
theorem dX2_firstSwap_43 : decode cX2_firstSwap 43 = .ok (.iload_n 1, 1) := by decide +kernel
theorem dX2_firstSwap_44 : decode cX2_firstSwap 44 = .ok (.imul, 1) := by decide +kernel
theorem dX2_firstSwap_45 : decode cX2_firstSwap 45 = .ok (.iload_n 2, 1) := by decide +kernel
theorem dX2_firstSwap_46 : decode cX2_firstSwap 46 = .ok (.iadd, 1) := by decide +kernel
theorem dX2_firstSwap_47 : decode cX2_firstSwap 47 = .ok (.ireturn, 1) := by decide +kernel
theorem dX2_firstSwap_48 : decode cX2_firstSwap 48 = .ok (.iinc 2 1, 3) := by decide +kernel
theorem dX2_firstSwap_51 : decode cX2_firstSwap 51 = .ok (.goto (-30), 3) := by decide +kernel
theorem dX2_firstSwap_54 : decode cX2_firstSwap 54 = .ok (.iinc 1 1, 3) := by decide +kernel
theorem dX2_firstSwap_57 : decode cX2_firstSwap 57 = .ok (.goto (-51), 3) := by decide +kernel
theorem dX2_firstSwap_60 : decode cX2_firstSwap 60 = .ok (.iconst (-1), 1) := by decide +kernel
theorem dX2_firstSwap_61 : decode cX2_firstSwap 61 = .ok (.ireturn, 1) := by decide +kernel
theorem dX2_goodSwaps_0 : decode cX2_goodSwaps 0 = .ok (.aload_n 0, 1) := by decide +kernel
theorem dX2_goodSwaps_1 : decode cX2_goodSwaps 1 = .ok (.invokevirtual 59, 3) := by decide +kernel
theorem dX2_goodSwaps_4 : decode cX2_goodSwaps 4 = .ok (.iconst 0, 1) := by decide +kernel
theorem dX2_goodSwaps_5 : decode cX2_goodSwaps 5 = .ok (.istore_n 1, 1) := by decide +kernel
theorem dX2_goodSwaps_6 : decode cX2_goodSwaps 6 = .ok (.iconst 0, 1) := by decide +kernel
theorem dX2_goodSwaps_7 : decode cX2_goodSwaps 7 = .ok (.istore_n 2, 1) := by decide +kernel
theorem dX2_goodSwaps_8 : decode cX2_goodSwaps 8 = .ok (.iload_n 2, 1) := by decide +kernel
theorem dX2_goodSwaps_9 : decode cX2_goodSwaps 9 = .ok (.aload_n 0, 1) := by decide +kernel
theorem dX2_goodSwaps_10 : decode cX2_goodSwaps 10 = .ok (.getfield 18, 3) := by decide +kernel
theorem dX2_goodSwaps_13 : decode cX2_goodSwaps 13 = .ok (.getfield 45, 3) := by decide +kernel
theorem dX2_goodSwaps_16 : decode cX2_goodSwaps 16 = .ok (.if_icmp .ge 42, 3) := by decide +kernel
theorem dX2_goodSwaps_19 : decode cX2_goodSwaps 19 = .ok (.iload_n 2, 1) := by decide +kernel
theorem dX2_goodSwaps_20 : decode cX2_goodSwaps 20 = .ok (.iconst 1, 1) := by decide +kernel
theorem dX2_goodSwaps_21 : decode cX2_goodSwaps 21 = .ok (.iadd, 1) := by decide +kernel
theorem dX2_goodSwaps_22 : decode cX2_goodSwaps 22 = .ok (.istore_n 3, 1) := by decide +kernel
theorem dX2_goodSwaps_23 : decode cX2_goodSwaps 23 = .ok (.iload_n 3, 1) := by decide +kernel
theorem dX2_goodSwaps_24 : decode cX2_goodSwaps 24 = .ok (.aload_n 0, 1) := by decide +kernel
theorem dX2_goodSwaps_25 : decode cX2_goodSwaps 25 = .ok (.getfield 18, 3) := by decide +kernel
theorem dX2_goodSwaps_28 : decode cX2_goodSwaps 28 = .ok (.getfield 45, 3) := by decide +kernel
theorem dX2_goodSwaps_31 : decode cX2_goodSwaps 31 = .ok (.if_icmp .ge 21, 3) := by decide +kernel
theorem dX2_goodSwaps_34 : decode cX2_goodSwaps 34 = .ok (.aload_n 0, 1) := by decide +kernel
theorem dX2_goodSwaps_35 : decode cX2_goodSwaps 35 = .ok (.iload_n 2, 1) := by decide +kernel
theorem dX2_goodSwaps_36 : decode cX2_goodSwaps 36 = .ok (.iload_n 3, 1) := by decide +kernel
theorem dX2_goodSwaps_37 : decode cX2_goodSwaps 37 = .ok (.invokevirtual 92, 3) := by decide +kernel
theorem dX2_goodSwaps_40 : decode cX2_goodSwaps 40 = .ok (.ifCond .eq 6, 3) := by decide +kernel
theorem dX2_goodSwaps_43 : decode cX2_goodSwaps 43 = .ok (.iinc 1 1, 3) := by decide +kernel
theorem dX2_goodSwaps_46 : decode cX2_goodSwaps 46 = .ok (.iinc 3 1, 3) := by decide +kernel
theorem dX2_goodSwaps_49 : decode cX2_goodSwaps 49 = .ok (.goto (-26), 3) := by decide +kernel
theorem dX2_goodSwaps_52 : decode cX2_goodSwaps 52 = .ok (.iinc 2 1, 3) := by decide +kernel
theorem dX2_goodSwaps_55 : decode cX2_goodSwaps 55 = .ok (.goto (-47), 3) := by decide +kernel
theorem dX2_goodSwaps_58 : decode cX2_goodSwaps 58 = .ok (.iload_n 1, 1) := by decide +kernel
theorem dX2_goodSwaps_59 : decode cX2_goodSwaps 59 = .ok (.ireturn, 1) := by decide +kernel
theorem dX2_isGoodSwap_0 : decode cX2_isGoodSwap 0 = .ok (.aload_n 0, 1) := by decide +kernel
theorem dX2_isGoodSwap_1 : decode cX2_isGoodSwap 1 = .ok (.iload_n 1, 1) := by decide +kernel
theorem dX2_isGoodSwap_2 : decode cX2_isGoodSwap 2 = .ok (.iload_n 1, 1) := by decide +kernel
theorem dX2_isGoodSwap_3 : decode cX2_isGoodSwap 3 = .ok (.invokevirtual 83, 3) := by decide +kernel
theorem dX2_isGoodSwap_6 : decode cX2_isGoodSwap 6 = .ok (.ifCond .eq 16, 3) := by decide +kernel
theorem dX2_isGoodSwap_9 : decode cX2_isGoodSwap 9 = .ok (.aload_n 0, 1) := by decide +kernel
theorem dX2_isGoodSwap_10 : decode cX2_isGoodSwap 10 = .ok (.iload_n 2, 1) := by decide +kernel
theorem dX2_isGoodSwap_11 : decode cX2_isGoodSwap 11 = .ok (.iload_n 2, 1) := by decide +kernel
theorem dX2_isGoodSwap_12 : decode cX2_isGoodSwap 12 = .ok (.invokevirtual 83, 3) := by decide +kernel
theorem dX2_isGoodSwap_15 : decode cX2_isGoodSwap 15 = .ok (.ifCond .eq 7, 3) := by decide +kernel
theorem dX2_isGoodSwap_18 : decode cX2_isGoodSwap 18 = .ok (.iconst 1, 1) := by decide +kernel
theorem dX2_isGoodSwap_19 : decode cX2_isGoodSwap 19 = .ok (.goto 4, 3) := by decide +kernel
theorem dX2_isGoodSwap_22 : decode cX2_isGoodSwap 22 = .ok (.iconst 0, 1) := by decide +kernel
theorem dX2_isGoodSwap_23 : decode cX2_isGoodSwap 23 = .ok (.istore_n 3, 1) := by decide +kernel
theorem dX2_isGoodSwap_24 : decode cX2_isGoodSwap 24 = .ok (.iload_n 3, 1) := by decide +kernel
theorem dX2_isGoodSwap_25 : decode cX2_isGoodSwap 25 = .ok (.ifCond .ne 25, 3) := by decide +kernel
theorem dX2_isGoodSwap_28 : decode cX2_isGoodSwap 28 = .ok (.aload_n 0, 1) := by decide +kernel
theorem dX2_isGoodSwap_29 : decode cX2_isGoodSwap 29 = .ok (.iload_n 1, 1) := by decide +kernel
theorem dX2_isGoodSwap_30 : decode cX2_isGoodSwap 30 = .ok (.iload_n 2, 1) := by decide +kernel
theorem dX2_isGoodSwap_31 : decode cX2_isGoodSwap 31 = .ok (.invokevirtual 83, 3) := by decide +kernel
theorem dX2_isGoodSwap_34 : decode cX2_isGoodSwap 34 = .ok (.ifCond .eq 16, 3) := by decide +kernel
theorem dX2_isGoodSwap_37 : decode cX2_isGoodSwap 37 = .ok (.aload_n 0, 1) := by decide +kernel
theorem dX2_isGoodSwap_38 : decode cX2_isGoodSwap 38 = .ok (.iload_n 2, 1) := by decide +kernel
theorem dX2_isGoodSwap_39 : decode cX2_isGoodSwap 39 = .ok (.iload_n 1, 1) := by decide +kernel
theorem dX2_isGoodSwap_40 : decode cX2_isGoodSwap 40 = .ok (.invokevirtual 83, 3) := by decide +kernel
theorem dX2_isGoodSwap_43 : decode cX2_isGoodSwap 43 = .ok (.ifCond .eq 7, 3) := by decide +kernel
theorem dX2_isGoodSwap_46 : decode cX2_isGoodSwap 46 = .ok (.iconst 1, 1) := by decide +kernel
theorem dX2_isGoodSwap_47 : decode cX2_isGoodSwap 47 = .ok (.goto 4, 3) := by decide +kernel
theorem dX2_isGoodSwap_50 : decode cX2_isGoodSwap 50 = .ok (.iconst 0, 1) := by decide +kernel
theorem dX2_isGoodSwap_51 : decode cX2_isGoodSwap 51 = .ok (.ireturn, 1) := by decide +kernel
theorem dX2_isServed_0 : decode cX2_isServed 0 = .ok (.aload_n 0, 1) := by decide +kernel
theorem dX2_isServed_1 : decode cX2_isServed 1 = .ok (.getfield 22, 3) := by decide +kernel
theorem dX2_isServed_4 : decode cX2_isServed 4 = .ok (.iload_n 1, 1) := by decide +kernel
theorem dX2_isServed_5 : decode cX2_isServed 5 = .ok (.aload_n 0, 1) := by decide +kernel
theorem dX2_isServed_6 : decode cX2_isServed 6 = .ok (.getfield 9, 3) := by decide +kernel
theorem dX2_isServed_9 : decode cX2_isServed 9 = .ok (.iload_n 2, 1) := by decide +kernel
theorem dX2_isServed_10 : decode cX2_isServed 10 = .ok (.iaload, 1) := by decide +kernel
theorem dX2_isServed_11 : decode cX2_isServed 11 = .ok (.invokevirtual 55, 3) := by decide +kernel
theorem dX2_isServed_14 : decode cX2_isServed 14 = .ok (.ireturn, 1) := by decide +kernel
theorem dX2_leastHouse_0 : decode cX2_leastHouse 0 = .ok (.iconst (-1), 1) := by decide +kernel
theorem dX2_leastHouse_1 : decode cX2_leastHouse 1 = .ok (.istore_n 2, 1) := by decide +kernel
theorem dX2_leastHouse_2 : decode cX2_leastHouse 2 = .ok (.iconst 0, 1) := by decide +kernel
theorem dX2_leastHouse_3 : decode cX2_leastHouse 3 = .ok (.istore_n 3, 1) := by decide +kernel
theorem dX2_leastHouse_4 : decode cX2_leastHouse 4 = .ok (.iload_n 3, 1) := by decide +kernel
theorem dX2_leastHouse_5 : decode cX2_leastHouse 5 = .ok (.aload_n 0, 1) := by decide +kernel
theorem dX2_leastHouse_6 : decode cX2_leastHouse 6 = .ok (.getfield 18, 3) := by decide +kernel
theorem dX2_leastHouse_9 : decode cX2_leastHouse 9 = .ok (.getfield 45, 3) := by decide +kernel
theorem dX2_leastHouse_12 : decode cX2_leastHouse 12 = .ok (.if_icmp .ge 72, 3) := by decide +kernel
theorem dX2_leastHouse_15 : decode cX2_leastHouse 15 = .ok (.iload_n 1, 1) := by decide +kernel
theorem dX2_leastHouse_16 : decode cX2_leastHouse 16 = .ok (.iload_n 3, 1) := by decide +kernel
theorem dX2_leastHouse_17 : decode cX2_leastHouse 17 = .ok (.invokestatic 66, 3) := by decide +kernel
theorem dX2_leastHouse_20 : decode cX2_leastHouse 20 = .ok (.ifCond .ne 22, 3) := by decide +kernel
theorem dX2_leastHouse_23 : decode cX2_leastHouse 23 = .ok (.aload_n 0, 1) := by decide +kernel
theorem dX2_leastHouse_24 : decode cX2_leastHouse 24 = .ok (.iload_n 1, 1) := by decide +kernel
theorem dX2_leastHouse_25 : decode cX2_leastHouse 25 = .ok (.iload_n 3, 1) := by decide +kernel
theorem dX2_leastHouse_26 : decode cX2_leastHouse 26 = .ok (.invokevirtual 69, 3) := by decide +kernel
theorem dX2_leastHouse_29 : decode cX2_leastHouse 29 = .ok (.aload_n 0, 1) := by decide +kernel
theorem dX2_leastHouse_30 : decode cX2_leastHouse 30 = .ok (.getfield 15, 3) := by decide +kernel
theorem dX2_leastHouse_33 : decode cX2_leastHouse 33 = .ok (.iload_n 1, 1) := by decide +kernel
theorem dX2_leastHouse_34 : decode cX2_leastHouse 34 = .ok (.iaload, 1) := by decide +kernel
theorem dX2_leastHouse_35 : decode cX2_leastHouse 35 = .ok (.if_icmp .ne 7, 3) := by decide +kernel
theorem dX2_leastHouse_38 : decode cX2_leastHouse 38 = .ok (.iconst 1, 1) := by decide +kernel
theorem dX2_leastHouse_39 : decode cX2_leastHouse 39 = .ok (.goto 4, 3) := by decide +kernel
theorem dX2_leastHouse_42 : decode cX2_leastHouse 42 = .ok (.iconst 0, 1) := by decide +kernel
theorem dX2_leastHouse_43 : decode cX2_leastHouse 43 = .ok (.istore 4, 2) := by decide +kernel
theorem dX2_leastHouse_45 : decode cX2_leastHouse 45 = .ok (.iload 4, 2) := by decide +kernel
theorem dX2_leastHouse_47 : decode cX2_leastHouse 47 = .ok (.ifCond .eq 31, 3) := by decide +kernel
theorem dX2_leastHouse_50 : decode cX2_leastHouse 50 = .ok (.iload_n 2, 1) := by decide +kernel
theorem dX2_leastHouse_51 : decode cX2_leastHouse 51 = .ok (.iconst (-1), 1) := by decide +kernel
theorem dX2_leastHouse_52 : decode cX2_leastHouse 52 = .ok (.if_icmp .eq 24, 3) := by decide +kernel
theorem dX2_leastHouse_55 : decode cX2_leastHouse 55 = .ok (.aload_n 0, 1) := by decide +kernel
theorem dX2_leastHouse_56 : decode cX2_leastHouse 56 = .ok (.getfield 18, 3) := by decide +kernel
theorem dX2_leastHouse_59 : decode cX2_leastHouse 59 = .ok (.getfield 48, 3) := by decide +kernel
theorem dX2_leastHouse_62 : decode cX2_leastHouse 62 = .ok (.iload_n 3, 1) := by decide +kernel
theorem dX2_leastHouse_63 : decode cX2_leastHouse 63 = .ok (.iaload, 1) := by decide +kernel
theorem dX2_leastHouse_64 : decode cX2_leastHouse 64 = .ok (.aload_n 0, 1) := by decide +kernel
theorem dX2_leastHouse_65 : decode cX2_leastHouse 65 = .ok (.getfield 18, 3) := by decide +kernel
theorem dX2_leastHouse_68 : decode cX2_leastHouse 68 = .ok (.getfield 48, 3) := by decide +kernel
theorem dX2_leastHouse_71 : decode cX2_leastHouse 71 = .ok (.iload_n 2, 1) := by decide +kernel
theorem dX2_leastHouse_72 : decode cX2_leastHouse 72 = .ok (.iaload, 1) := by decide +kernel
theorem dX2_leastHouse_73 : decode cX2_leastHouse 73 = .ok (.if_icmp .ge 5, 3) := by decide +kernel
theorem dX2_leastHouse_76 : decode cX2_leastHouse 76 = .ok (.iload_n 3, 1) := by decide +kernel
theorem dX2_leastHouse_77 : decode cX2_leastHouse 77 = .ok (.istore_n 2, 1) := by decide +kernel
theorem dX2_leastHouse_78 : decode cX2_leastHouse 78 = .ok (.iinc 3 1, 3) := by decide +kernel
theorem dX2_leastHouse_81 : decode cX2_leastHouse 81 = .ok (.goto (-77), 3) := by decide +kernel
theorem dX2_leastHouse_84 : decode cX2_leastHouse 84 = .ok (.iconst 0, 1) := by decide +kernel
theorem dX2_leastHouse_85 : decode cX2_leastHouse 85 = .ok (.iload_n 2, 1) := by decide +kernel
theorem dX2_leastHouse_86 : decode cX2_leastHouse 86 = .ok (.invokestatic 73, 3) := by decide +kernel
theorem dX2_leastHouse_89 : decode cX2_leastHouse 89 = .ok (.ireturn, 1) := by decide +kernel
theorem dX2_listen_0 : decode cX2_listen 0 = .ok (.aload_n 0, 1) := by decide +kernel
theorem dX2_listen_1 : decode cX2_listen 1 = .ok (.getfield 22, 3) := by decide +kernel
theorem dX2_listen_4 : decode cX2_listen 4 = .ok (.aload_n 0, 1) := by decide +kernel
theorem dX2_listen_5 : decode cX2_listen 5 = .ok (.getfield 18, 3) := by decide +kernel
theorem dX2_listen_8 : decode cX2_listen 8 = .ok (.getfield 26, 3) := by decide +kernel
theorem dX2_listen_11 : decode cX2_listen 11 = .ok (.aload_n 0, 1) := by decide +kernel
theorem dX2_listen_12 : decode cX2_listen 12 = .ok (.getfield 18, 3) := by decide +kernel
theorem dX2_listen_15 : decode cX2_listen 15 = .ok (.getfield 32, 3) := by decide +kernel
theorem dX2_listen_18 : decode cX2_listen 18 = .ok (.invokevirtual 35, 3) := by decide +kernel
theorem dX2_listen_21 : decode cX2_listen 21 = .ok (.aload_n 0, 1) := by decide +kernel
theorem dX2_listen_22 : decode cX2_listen 22 = .ok (.getfield 22, 3) := by decide +kernel
theorem dX2_listen_25 : decode cX2_listen 25 = .ok (.bipush 15, 2) := by decide +kernel
theorem dX2_listen_27 : decode cX2_listen 27 = .ok (.invokevirtual 41, 3) := by decide +kernel
theorem dX2_listen_30 : decode cX2_listen 30 = .ok (.iconst 0, 1) := by decide +kernel
theorem dX2_listen_31 : decode cX2_listen 31 = .ok (.istore_n 1, 1) := by decide +kernel
theorem dX2_listen_32 : decode cX2_listen 32 = .ok (.iload_n 1, 1) := by decide +kernel
theorem dX2_listen_33 : decode cX2_listen 33 = .ok (.aload_n 0, 1) := by decide +kernel
theorem dX2_listen_34 : decode cX2_listen 34 = .ok (.getfield 18, 3) := by decide +kernel
theorem dX2_listen_37 : decode cX2_listen 37 = .ok (.getfield 45, 3) := by decide +kernel
theorem dX2_listen_40 : decode cX2_listen 40 = .ok (.if_icmp .ge 31, 3) := by decide +kernel
theorem dX2_listen_43 : decode cX2_listen 43 = .ok (.aload_n 0, 1) := by decide +kernel
theorem dX2_listen_44 : decode cX2_listen 44 = .ok (.getfield 9, 3) := by decide +kernel
theorem dX2_listen_47 : decode cX2_listen 47 = .ok (.iload_n 1, 1) := by decide +kernel
theorem dX2_listen_48 : decode cX2_listen 48 = .ok (.aload_n 0, 1) := by decide +kernel
theorem dX2_listen_49 : decode cX2_listen 49 = .ok (.getfield 22, 3) := by decide +kernel
theorem dX2_listen_52 : decode cX2_listen 52 = .ok (.aload_n 0, 1) := by decide +kernel
theorem dX2_listen_53 : decode cX2_listen 53 = .ok (.getfield 18, 3) := by decide +kernel
theorem dX2_listen_56 : decode cX2_listen 56 = .ok (.getfield 48, 3) := by decide +kernel
theorem dX2_listen_59 : decode cX2_listen 59 = .ok (.iload_n 1, 1) := by decide +kernel
theorem dX2_listen_60 : decode cX2_listen 60 = .ok (.iaload, 1) := by decide +kernel
theorem dX2_listen_61 : decode cX2_listen 61 = .ok (.invokevirtual 51, 3) := by decide +kernel
theorem dX2_listen_64 : decode cX2_listen 64 = .ok (.iastore, 1) := by decide +kernel
theorem dX2_listen_65 : decode cX2_listen 65 = .ok (.iinc 1 1, 3) := by decide +kernel
theorem dX2_listen_68 : decode cX2_listen 68 = .ok (.goto (-36), 3) := by decide +kernel
theorem dX2_listen_71 : decode cX2_listen 71 = .ok (.return_, 1) := by decide +kernel
theorem dX2_paidWith_0 : decode cX2_paidWith 0 = .ok (.iload_n 1, 1) := by decide +kernel
theorem dX2_paidWith_1 : decode cX2_paidWith 1 = .ok (.invokestatic 78, 3) := by decide +kernel
theorem dX2_paidWith_4 : decode cX2_paidWith 4 = .ok (.istore_n 3, 1) := by decide +kernel
theorem dX2_paidWith_5 : decode cX2_paidWith 5 = .ok (.aload_n 0, 1) := by decide +kernel
theorem dX2_paidWith_6 : decode cX2_paidWith 6 = .ok (.iload_n 3, 1) := by decide +kernel
theorem dX2_paidWith_7 : decode cX2_paidWith 7 = .ok (.iload_n 2, 1) := by decide +kernel
theorem dX2_paidWith_8 : decode cX2_paidWith 8 = .ok (.invokevirtual 83, 3) := by decide +kernel
theorem dX2_paidWith_11 : decode cX2_paidWith 11 = .ok (.ifCond .eq 15, 3) := by decide +kernel
theorem dX2_paidWith_14 : decode cX2_paidWith 14 = .ok (.aload_n 0, 1) := by decide +kernel
theorem dX2_paidWith_15 : decode cX2_paidWith 15 = .ok (.getfield 18, 3) := by decide +kernel
theorem dX2_paidWith_18 : decode cX2_paidWith 18 = .ok (.getfield 86, 3) := by decide +kernel
theorem dX2_paidWith_21 : decode cX2_paidWith 21 = .ok (.iload_n 3, 1) := by decide +kernel
theorem dX2_paidWith_22 : decode cX2_paidWith 22 = .ok (.iaload, 1) := by decide +kernel
theorem dX2_paidWith_23 : decode cX2_paidWith 23 = .ok (.goto 4, 3) := by decide +kernel
theorem dX2_paidWith_26 : decode cX2_paidWith 26 = .ok (.iconst 0, 1) := by decide +kernel
theorem dX2_paidWith_27 : decode cX2_paidWith 27 = .ok (.istore 4, 2) := by decide +kernel
theorem dX2_paidWith_29 : decode cX2_paidWith 29 = .ok (.iload 4, 2) := by decide +kernel
theorem dX2_paidWith_31 : decode cX2_paidWith 31 = .ok (.aload_n 0, 1) := by decide +kernel
theorem dX2_paidWith_32 : decode cX2_paidWith 32 = .ok (.getfield 15, 3) := by decide +kernel
theorem dX2_paidWith_35 : decode cX2_paidWith 35 = .ok (.iload_n 1, 1) := by decide +kernel
theorem dX2_paidWith_36 : decode cX2_paidWith 36 = .ok (.iconst 1, 1) := by decide +kernel
theorem dX2_paidWith_37 : decode cX2_paidWith 37 = .ok (.iload_n 2, 1) := by decide +kernel
theorem dX2_paidWith_38 : decode cX2_paidWith 38 = .ok (.ishl, 1) := by decide +kernel
theorem dX2_paidWith_39 : decode cX2_paidWith 39 = .ok (.ior, 1) := by decide +kernel
theorem dX2_paidWith_40 : decode cX2_paidWith 40 = .ok (.iaload, 1) := by decide +kernel
theorem dX2_paidWith_41 : decode cX2_paidWith 41 = .ok (.iadd, 1) := by decide +kernel
theorem dX2_paidWith_42 : decode cX2_paidWith 42 = .ok (.ireturn, 1) := by decide +kernel
theorem dX2_weigh_0 : decode cX2_weigh 0 = .ok (.aload_n 0, 1) := by decide +kernel
theorem dX2_weigh_1 : decode cX2_weigh 1 = .ok (.invokevirtual 59, 3) := by decide +kernel
theorem dX2_weigh_4 : decode cX2_weigh 4 = .ok (.aload_n 0, 1) := by decide +kernel
theorem dX2_weigh_5 : decode cX2_weigh 5 = .ok (.getfield 18, 3) := by decide +kernel
theorem dX2_weigh_8 : decode cX2_weigh 8 = .ok (.invokevirtual 62, 3) := by decide +kernel
theorem dX2_weigh_11 : decode cX2_weigh 11 = .ok (.istore_n 1, 1) := by decide +kernel
theorem dX2_weigh_12 : decode cX2_weigh 12 = .ok (.aload_n 0, 1) := by decide +kernel
theorem dX2_weigh_13 : decode cX2_weigh 13 = .ok (.getfield 15, 3) := by decide +kernel
theorem dX2_weigh_16 : decode cX2_weigh 16 = .ok (.iload_n 1, 1) := by decide +kernel
theorem dX2_weigh_17 : decode cX2_weigh 17 = .ok (.iconst 0, 1) := by decide +kernel
theorem dX2_weigh_18 : decode cX2_weigh 18 = .ok (.iastore, 1) := by decide +kernel
theorem dX2_weigh_19 : decode cX2_weigh 19 = .ok (.iload_n 1, 1) := by decide +kernel
theorem dX2_weigh_20 : decode cX2_weigh 20 = .ok (.iconst 1, 1) := by decide +kernel
theorem dX2_weigh_21 : decode cX2_weigh 21 = .ok (.isub, 1) := by decide +kernel
theorem dX2_weigh_22 : decode cX2_weigh 22 = .ok (.istore_n 2, 1) := by decide +kernel
theorem dX2_weigh_23 : decode cX2_weigh 23 = .ok (.iload_n 2, 1) := by decide +kernel
theorem dX2_weigh_24 : decode cX2_weigh 24 = .ok (.ifCond .lt 64, 3) := by decide +kernel
theorem dX2_weigh_27 : decode cX2_weigh 27 = .ok (.aload_n 0, 1) := by decide +kernel
theorem dX2_weigh_28 : decode cX2_weigh 28 = .ok (.getfield 15, 3) := by decide +kernel
theorem dX2_weigh_31 : decode cX2_weigh 31 = .ok (.iload_n 2, 1) := by decide +kernel
theorem dX2_weigh_32 : decode cX2_weigh 32 = .ok (.iconst 0, 1) := by decide +kernel
theorem dX2_weigh_33 : decode cX2_weigh 33 = .ok (.iastore, 1) := by decide +kernel
theorem dX2_weigh_34 : decode cX2_weigh 34 = .ok (.iconst 0, 1) := by decide +kernel
theorem dX2_weigh_35 : decode cX2_weigh 35 = .ok (.istore_n 3, 1) := by decide +kernel
theorem dX2_weigh_36 : decode cX2_weigh 36 = .ok (.iload_n 3, 1) := by decide +kernel
theorem dX2_weigh_37 : decode cX2_weigh 37 = .ok (.aload_n 0, 1) := by decide +kernel
theorem dX2_weigh_38 : decode cX2_weigh 38 = .ok (.getfield 18, 3) := by decide +kernel
theorem dX2_weigh_41 : decode cX2_weigh 41 = .ok (.getfield 45, 3) := by decide +kernel
theorem dX2_weigh_44 : decode cX2_weigh 44 = .ok (.if_icmp .ge 38, 3) := by decide +kernel
theorem dX2_weigh_47 : decode cX2_weigh 47 = .ok (.iload_n 2, 1) := by decide +kernel
theorem dX2_weigh_48 : decode cX2_weigh 48 = .ok (.iload_n 3, 1) := by decide +kernel
theorem dX2_weigh_49 : decode cX2_weigh 49 = .ok (.invokestatic 66, 3) := by decide +kernel
theorem dX2_weigh_52 : decode cX2_weigh 52 = .ok (.ifCond .ne 24, 3) := by decide +kernel
theorem dX2_weigh_55 : decode cX2_weigh 55 = .ok (.aload_n 0, 1) := by decide +kernel
theorem dX2_weigh_56 : decode cX2_weigh 56 = .ok (.getfield 15, 3) := by decide +kernel
theorem dX2_weigh_59 : decode cX2_weigh 59 = .ok (.iload_n 2, 1) := by decide +kernel
theorem dX2_weigh_60 : decode cX2_weigh 60 = .ok (.aload_n 0, 1) := by decide +kernel
theorem dX2_weigh_61 : decode cX2_weigh 61 = .ok (.getfield 15, 3) := by decide +kernel
theorem dX2_weigh_64 : decode cX2_weigh 64 = .ok (.iload_n 2, 1) := by decide +kernel
theorem dX2_weigh_65 : decode cX2_weigh 65 = .ok (.iaload, 1) := by decide +kernel
theorem dX2_weigh_66 : decode cX2_weigh 66 = .ok (.aload_n 0, 1) := by decide +kernel
theorem dX2_weigh_67 : decode cX2_weigh 67 = .ok (.iload_n 2, 1) := by decide +kernel
theorem dX2_weigh_68 : decode cX2_weigh 68 = .ok (.iload_n 3, 1) := by decide +kernel
theorem dX2_weigh_69 : decode cX2_weigh 69 = .ok (.invokevirtual 69, 3) := by decide +kernel
theorem dX2_weigh_72 : decode cX2_weigh 72 = .ok (.invokestatic 73, 3) := by decide +kernel
theorem dX2_weigh_75 : decode cX2_weigh 75 = .ok (.iastore, 1) := by decide +kernel
theorem dX2_weigh_76 : decode cX2_weigh 76 = .ok (.iinc 3 1, 3) := by decide +kernel
theorem dX2_weigh_79 : decode cX2_weigh 79 = .ok (.goto (-43), 3) := by decide +kernel
theorem dX2_weigh_82 : decode cX2_weigh 82 = .ok (.iinc 2 (-1), 3) := by decide +kernel
theorem dX2_weigh_85 : decode cX2_weigh 85 = .ok (.goto (-62), 3) := by decide +kernel
theorem dX2_weigh_88 : decode cX2_weigh 88 = .ok (.return_, 1) := by decide +kernel
theorem dX3_keepAct_0 : decode cX3_keepAct 0 = .ok (.aload_n 0, 1) := by decide +kernel
theorem dX3_keepAct_1 : decode cX3_keepAct 1 = .ok (.getfield 30, 3) := by decide +kernel
theorem dX3_keepAct_4 : decode cX3_keepAct 4 = .ok (.aload_n 0, 1) := by decide +kernel
theorem dX3_keepAct_5 : decode cX3_keepAct 5 = .ok (.getfield 70, 3) := by decide +kernel
theorem dX3_keepAct_8 : decode cX3_keepAct 8 = .ok (.iload_n 1, 1) := by decide +kernel
theorem dX3_keepAct_9 : decode cX3_keepAct 9 = .ok (.iastore, 1) := by decide +kernel
theorem dX3_keepAct_10 : decode cX3_keepAct 10 = .ok (.aload_n 0, 1) := by decide +kernel
theorem dX3_keepAct_11 : decode cX3_keepAct 11 = .ok (.getfield 33, 3) := by decide +kernel
theorem dX3_keepAct_14 : decode cX3_keepAct 14 = .ok (.aload_n 0, 1) := by decide +kernel
theorem dX3_keepAct_15 : decode cX3_keepAct 15 = .ok (.getfield 70, 3) := by decide +kernel
theorem dX3_keepAct_18 : decode cX3_keepAct 18 = .ok (.iload_n 2, 1) := by decide +kernel
theorem dX3_keepAct_19 : decode cX3_keepAct 19 = .ok (.iastore, 1) := by decide +kernel
theorem dX3_keepAct_20 : decode cX3_keepAct 20 = .ok (.aload_n 0, 1) := by decide +kernel
theorem dX3_keepAct_21 : decode cX3_keepAct 21 = .ok (.dup, 1) := by decide +kernel
theorem dX3_keepAct_22 : decode cX3_keepAct 22 = .ok (.getfield 70, 3) := by decide +kernel
theorem dX3_keepAct_25 : decode cX3_keepAct 25 = .ok (.iconst 1, 1) := by decide +kernel
theorem dX3_keepAct_26 : decode cX3_keepAct 26 = .ok (.iadd, 1) := by decide +kernel
theorem dX3_keepAct_27 : decode cX3_keepAct 27 = .ok (.putfield 70, 3) := by decide +kernel
theorem dX3_keepAct_30 : decode cX3_keepAct 30 = .ok (.return_, 1) := by decide +kernel
theorem dX3_neighbour_0 : decode cX3_neighbour 0 = .ok (.aload_n 0, 1) := by decide +kernel
theorem dX3_neighbour_1 : decode cX3_neighbour 1 = .ok (.iload_n 1, 1) := by decide +kernel
theorem dX3_neighbour_2 : decode cX3_neighbour 2 = .ok (.invokevirtual 90, 3) := by decide +kernel
theorem dX3_neighbour_5 : decode cX3_neighbour 5 = .ok (.istore_n 3, 1) := by decide +kernel
theorem dX3_neighbour_6 : decode cX3_neighbour 6 = .ok (.iload_n 1, 1) := by decide +kernel
theorem dX3_neighbour_7 : decode cX3_neighbour 7 = .ok (.iload_n 3, 1) := by decide +kernel
theorem dX3_neighbour_8 : decode cX3_neighbour 8 = .ok (.aload_n 0, 1) := by decide +kernel
theorem dX3_neighbour_9 : decode cX3_neighbour 9 = .ok (.getfield 46, 3) := by decide +kernel
theorem dX3_neighbour_12 : decode cX3_neighbour 12 = .ok (.imul, 1) := by decide +kernel
theorem dX3_neighbour_13 : decode cX3_neighbour 13 = .ok (.isub, 1) := by decide +kernel
theorem dX3_neighbour_14 : decode cX3_neighbour 14 = .ok (.istore 4, 2) := by decide +kernel
theorem dX3_neighbour_16 : decode cX3_neighbour 16 = .ok (.iload_n 2, 1) := by decide +kernel
theorem dX3_neighbour_17 : decode cX3_neighbour 17 = .ok (.tableswitch 82 0 2 #[27, 42, 61], 27) := by decide +kernel
theorem dX3_neighbour_44 : decode cX3_neighbour 44 = .ok (.iload_n 3, 1) := by decide +kernel
theorem dX3_neighbour_45 : decode cX3_neighbour 45 = .ok (.ifCond .le 12, 3) := by decide +kernel
theorem dX3_neighbour_48 : decode cX3_neighbour 48 = .ok (.iload_n 1, 1) := by decide +kernel
theorem dX3_neighbour_49 : decode cX3_neighbour 49 = .ok (.aload_n 0, 1) := by decide +kernel
theorem dX3_neighbour_50 : decode cX3_neighbour 50 = .ok (.getfield 46, 3) := by decide +kernel
theorem dX3_neighbour_53 : decode cX3_neighbour 53 = .ok (.isub, 1) := by decide +kernel
theorem dX3_neighbour_54 : decode cX3_neighbour 54 = .ok (.goto 4, 3) := by decide +kernel
theorem dX3_neighbour_57 : decode cX3_neighbour 57 = .ok (.iconst (-1), 1) := by decide +kernel
theorem dX3_neighbour_58 : decode cX3_neighbour 58 = .ok (.ireturn, 1) := by decide +kernel
theorem dX3_neighbour_59 : decode cX3_neighbour 59 = .ok (.iload 4, 2) := by decide +kernel
theorem dX3_neighbour_61 : decode cX3_neighbour 61 = .ok (.aload_n 0, 1) := by decide +kernel
theorem dX3_neighbour_62 : decode cX3_neighbour 62 = .ok (.getfield 46, 3) := by decide +kernel
theorem dX3_neighbour_65 : decode cX3_neighbour 65 = .ok (.iconst 1, 1) := by decide +kernel
theorem dX3_neighbour_66 : decode cX3_neighbour 66 = .ok (.isub, 1) := by decide +kernel
theorem dX3_neighbour_67 : decode cX3_neighbour 67 = .ok (.if_icmp .ge 9, 3) := by decide +kernel
theorem dX3_neighbour_70 : decode cX3_neighbour 70 = .ok (.iload_n 1, 1) := by decide +kernel
theorem dX3_neighbour_71 : decode cX3_neighbour 71 = .ok (.iconst 1, 1) := by decide +kernel
theorem dX3_neighbour_72 : decode cX3_neighbour 72 = .ok (.iadd, 1) := by decide +kernel
theorem dX3_neighbour_73 : decode cX3_neighbour 73 = .ok (.goto 4, 3) := by decide +kernel
theorem dX3_neighbour_76 : decode cX3_neighbour 76 = .ok (.iconst (-1), 1) := by decide +kernel
theorem dX3_neighbour_77 : decode cX3_neighbour 77 = .ok (.ireturn, 1) := by decide +kernel
theorem dX3_neighbour_78 : decode cX3_neighbour 78 = .ok (.iload_n 3, 1) := by decide +kernel
theorem dX3_neighbour_79 : decode cX3_neighbour 79 = .ok (.aload_n 0, 1) := by decide +kernel
theorem dX3_neighbour_80 : decode cX3_neighbour 80 = .ok (.getfield 49, 3) := by decide +kernel
theorem dX3_neighbour_83 : decode cX3_neighbour 83 = .ok (.iconst 1, 1) := by decide +kernel
theorem dX3_neighbour_84 : decode cX3_neighbour 84 = .ok (.isub, 1) := by decide +kernel
theorem dX3_neighbour_85 : decode cX3_neighbour 85 = .ok (.if_icmp .ge 12, 3) := by decide +kernel
theorem dX3_neighbour_88 : decode cX3_neighbour 88 = .ok (.iload_n 1, 1) := by decide +kernel
theorem dX3_neighbour_89 : decode cX3_neighbour 89 = .ok (.aload_n 0, 1) := by decide +kernel
theorem dX3_neighbour_90 : decode cX3_neighbour 90 = .ok (.getfield 46, 3) := by decide +kernel
theorem dX3_neighbour_93 : decode cX3_neighbour 93 = .ok (.iadd, 1) := by decide +kernel
theorem dX3_neighbour_94 : decode cX3_neighbour 94 = .ok (.goto 4, 3) := by decide +kernel
theorem dX3_neighbour_97 : decode cX3_neighbour 97 = .ok (.iconst (-1), 1) := by decide +kernel
theorem dX3_neighbour_98 : decode cX3_neighbour 98 = .ok (.ireturn, 1) := by decide +kernel
theorem dX3_neighbour_99 : decode cX3_neighbour 99 = .ok (.iload 4, 2) := by decide +kernel
theorem dX3_neighbour_101 : decode cX3_neighbour 101 = .ok (.ifCond .le 9, 3) := by decide +kernel
theorem dX3_neighbour_104 : decode cX3_neighbour 104 = .ok (.iload_n 1, 1) := by decide +kernel
theorem dX3_neighbour_105 : decode cX3_neighbour 105 = .ok (.iconst 1, 1) := by decide +kernel
theorem dX3_neighbour_106 : decode cX3_neighbour 106 = .ok (.isub, 1) := by decide +kernel
theorem dX3_neighbour_107 : decode cX3_neighbour 107 = .ok (.goto 4, 3) := by decide +kernel
theorem dX3_neighbour_110 : decode cX3_neighbour 110 = .ok (.iconst (-1), 1) := by decide +kernel
theorem dX3_neighbour_111 : decode cX3_neighbour 111 = .ok (.ireturn, 1) := by decide +kernel
theorem dX3_putHeading_0 : decode cX3_putHeading 0 = .ok (.aload_n 0, 1) := by decide +kernel
theorem dX3_putHeading_1 : decode cX3_putHeading 1 = .ok (.getfield 15, 3) := by decide +kernel
theorem dX3_putHeading_4 : decode cX3_putHeading 4 = .ok (.iload_n 1, 1) := by decide +kernel
theorem dX3_putHeading_5 : decode cX3_putHeading 5 = .ok (.iaload, 1) := by decide +kernel
theorem dX3_putHeading_6 : decode cX3_putHeading 6 = .ok (.istore_n 3, 1) := by decide +kernel
theorem dX3_putHeading_7 : decode cX3_putHeading 7 = .ok (.aload_n 0, 1) := by decide +kernel
theorem dX3_putHeading_8 : decode cX3_putHeading 8 = .ok (.bipush 20, 2) := by decide +kernel
theorem dX3_putHeading_10 : decode cX3_putHeading 10 = .ok (.iload_n 1, 1) := by decide +kernel
theorem dX3_putHeading_11 : decode cX3_putHeading 11 = .ok (.iadd, 1) := by decide +kernel
theorem dX3_putHeading_12 : decode cX3_putHeading 12 = .ok (.iload_n 3, 1) := by decide +kernel
theorem dX3_putHeading_13 : decode cX3_putHeading 13 = .ok (.invokevirtual 110, 3) := by decide +kernel
theorem dX3_putHeading_16 : decode cX3_putHeading 16 = .ok (.aload_n 0, 1) := by decide +kernel
theorem dX3_putHeading_17 : decode cX3_putHeading 17 = .ok (.getfield 15, 3) := by decide +kernel
theorem dX3_putHeading_20 : decode cX3_putHeading 20 = .ok (.iload_n 1, 1) := by decide +kernel
theorem dX3_putHeading_21 : decode cX3_putHeading 21 = .ok (.iload_n 2, 1) := by decide +kernel
theorem dX3_putHeading_22 : decode cX3_putHeading 22 = .ok (.iastore, 1) := by decide +kernel
theorem dX3_putHeading_23 : decode cX3_putHeading 23 = .ok (.iload_n 3, 1) := by decide +kernel
theorem dX3_putHeading_24 : decode cX3_putHeading 24 = .ok (.ireturn, 1) := by decide +kernel
theorem dX3_putLamp_0 : decode cX3_putLamp 0 = .ok (.aload_n 0, 1) := by decide +kernel
theorem dX3_putLamp_1 : decode cX3_putLamp 1 = .ok (.getfield 67, 3) := by decide +kernel
theorem dX3_putLamp_4 : decode cX3_putLamp 4 = .ok (.iload_n 1, 1) := by decide +kernel
theorem dX3_putLamp_5 : decode cX3_putLamp 5 = .ok (.ishr, 1) := by decide +kernel
theorem dX3_putLamp_6 : decode cX3_putLamp 6 = .ok (.iconst 1, 1) := by decide +kernel
theorem dX3_putLamp_7 : decode cX3_putLamp 7 = .ok (.iand, 1) := by decide +kernel
theorem dX3_putLamp_8 : decode cX3_putLamp 8 = .ok (.istore_n 3, 1) := by decide +kernel
theorem dX3_putLamp_9 : decode cX3_putLamp 9 = .ok (.aload_n 0, 1) := by decide +kernel
theorem dX3_putLamp_10 : decode cX3_putLamp 10 = .ok (.iload_n 1, 1) := by decide +kernel
theorem dX3_putLamp_11 : decode cX3_putLamp 11 = .ok (.iload_n 3, 1) := by decide +kernel
theorem dX3_putLamp_12 : decode cX3_putLamp 12 = .ok (.invokevirtual 110, 3) := by decide +kernel
theorem dX3_putLamp_15 : decode cX3_putLamp 15 = .ok (.aload_n 0, 1) := by decide +kernel
theorem dX3_putLamp_16 : decode cX3_putLamp 16 = .ok (.iload_n 1, 1) := by decide +kernel
theorem dX3_putLamp_17 : decode cX3_putLamp 17 = .ok (.iload_n 2, 1) := by decide +kernel
theorem dX3_putLamp_18 : decode cX3_putLamp 18 = .ok (.invokevirtual 114, 3) := by decide +kernel
theorem dX3_putLamp_21 : decode cX3_putLamp 21 = .ok (.iload_n 3, 1) := by decide +kernel
theorem dX3_putLamp_22 : decode cX3_putLamp 22 = .ok (.ireturn, 1) := by decide +kernel
theorem dX3_survey_0 : decode cX3_survey 0 = .ok (.iconst 0, 1) := by decide +kernel
theorem dX3_survey_1 : decode cX3_survey 1 = .ok (.istore_n 1, 1) := by decide +kernel
theorem dX3_survey_2 : decode cX3_survey 2 = .ok (.iload_n 1, 1) := by decide +kernel
theorem dX3_survey_3 : decode cX3_survey 3 = .ok (.aload_n 0, 1) := by decide +kernel
theorem dX3_survey_4 : decode cX3_survey 4 = .ok (.invokevirtual 79, 3) := by decide +kernel
theorem dX3_survey_7 : decode cX3_survey 7 = .ok (.if_icmp .ge 86, 3) := by decide +kernel
theorem dX3_survey_10 : decode cX3_survey 10 = .ok (.aload_n 0, 1) := by decide +kernel
theorem dX3_survey_11 : decode cX3_survey 11 = .ok (.getfield 36, 3) := by decide +kernel
theorem dX3_survey_14 : decode cX3_survey 14 = .ok (.iload_n 1, 1) := by decide +kernel
theorem dX3_survey_15 : decode cX3_survey 15 = .ok (.iconst 0, 1) := by decide +kernel
theorem dX3_survey_16 : decode cX3_survey 16 = .ok (.iastore, 1) := by decide +kernel
theorem dX3_survey_17 : decode cX3_survey 17 = .ok (.iconst 0, 1) := by decide +kernel
theorem dX3_survey_18 : decode cX3_survey 18 = .ok (.istore_n 2, 1) := by decide +kernel
theorem dX3_survey_19 : decode cX3_survey 19 = .ok (.iload_n 2, 1) := by decide +kernel
theorem dX3_survey_20 : decode cX3_survey 20 = .ok (.aload_n 0, 1) := by decide +kernel
theorem dX3_survey_21 : decode cX3_survey 21 = .ok (.invokevirtual 79, 3) := by decide +kernel
theorem dX3_survey_24 : decode cX3_survey 24 = .ok (.if_icmp .ge 34, 3) := by decide +kernel
theorem dX3_survey_27 : decode cX3_survey 27 = .ok (.aload_n 0, 1) := by decide +kernel
theorem dX3_survey_28 : decode cX3_survey 28 = .ok (.iload_n 1, 1) := by decide +kernel
theorem dX3_survey_29 : decode cX3_survey 29 = .ok (.iload_n 2, 1) := by decide +kernel
theorem dX3_survey_30 : decode cX3_survey 30 = .ok (.invokevirtual 83, 3) := by decide +kernel
theorem dX3_survey_33 : decode cX3_survey 33 = .ok (.aload_n 0, 1) := by decide +kernel
theorem dX3_survey_34 : decode cX3_survey 34 = .ok (.getfield 55, 3) := by decide +kernel
theorem dX3_survey_37 : decode cX3_survey 37 = .ok (.if_icmp .gt 15, 3) := by decide +kernel
theorem dX3_survey_40 : decode cX3_survey 40 = .ok (.aload_n 0, 1) := by decide +kernel
theorem dX3_survey_41 : decode cX3_survey 41 = .ok (.getfield 36, 3) := by decide +kernel
theorem dX3_survey_44 : decode cX3_survey 44 = .ok (.iload_n 1, 1) := by decide +kernel
theorem dX3_survey_45 : decode cX3_survey 45 = .ok (.dup2, 1) := by decide +kernel
theorem dX3_survey_46 : decode cX3_survey 46 = .ok (.iaload, 1) := by decide +kernel
theorem dX3_survey_47 : decode cX3_survey 47 = .ok (.iconst 1, 1) := by decide +kernel
theorem dX3_survey_48 : decode cX3_survey 48 = .ok (.iload_n 2, 1) := by decide +kernel
theorem dX3_survey_49 : decode cX3_survey 49 = .ok (.ishl, 1) := by decide +kernel
theorem dX3_survey_50 : decode cX3_survey 50 = .ok (.ior, 1) := by decide +kernel
theorem dX3_survey_51 : decode cX3_survey 51 = .ok (.iastore, 1) := by decide +kernel
theorem dX3_survey_52 : decode cX3_survey 52 = .ok (.iinc 2 1, 3) := by decide +kernel
theorem dX3_survey_55 : decode cX3_survey 55 = .ok (.goto (-36), 3) := by decide +kernel
theorem dX3_survey_58 : decode cX3_survey 58 = .ok (.iconst 0, 1) := by decide +kernel
theorem dX3_survey_59 : decode cX3_survey 59 = .ok (.istore_n 2, 1) := by decide +kernel
theorem dX3_survey_60 : decode cX3_survey 60 = .ok (.iload_n 2, 1) := by decide +kernel
theorem dX3_survey_61 : decode cX3_survey 61 = .ok (.iconst 4, 1) := by decide +kernel
theorem dX3_survey_62 : decode cX3_survey 62 = .ok (.if_icmp .ge 25, 3) := by decide +kernel
theorem dX3_survey_65 : decode cX3_survey 65 = .ok (.aload_n 0, 1) := by decide +kernel
theorem dX3_survey_66 : decode cX3_survey 66 = .ok (.getfield 39, 3) := by decide +kernel
theorem dX3_survey_69 : decode cX3_survey 69 = .ok (.iload_n 1, 1) := by decide +kernel
theorem dX3_survey_70 : decode cX3_survey 70 = .ok (.iconst 4, 1) := by decide +kernel
theorem dX3_survey_71 : decode cX3_survey 71 = .ok (.imul, 1) := by decide +kernel
theorem dX3_survey_72 : decode cX3_survey 72 = .ok (.iload_n 2, 1) := by decide +kernel
theorem dX3_survey_73 : decode cX3_survey 73 = .ok (.iadd, 1) := by decide +kernel
theorem dX3_survey_74 : decode cX3_survey 74 = .ok (.aload_n 0, 1) := by decide +kernel
theorem dX3_survey_75 : decode cX3_survey 75 = .ok (.iload_n 1, 1) := by decide +kernel
theorem dX3_survey_76 : decode cX3_survey 76 = .ok (.iload_n 2, 1) := by decide +kernel
theorem dX3_survey_77 : decode cX3_survey 77 = .ok (.invokevirtual 87, 3) := by decide +kernel
theorem dX3_survey_80 : decode cX3_survey 80 = .ok (.iastore, 1) := by decide +kernel
theorem dX3_survey_81 : decode cX3_survey 81 = .ok (.iinc 2 1, 3) := by decide +kernel
theorem dX3_survey_84 : decode cX3_survey 84 = .ok (.goto (-24), 3) := by decide +kernel
theorem dX3_survey_87 : decode cX3_survey 87 = .ok (.iinc 1 1, 3) := by decide +kernel
theorem dX3_survey_90 : decode cX3_survey 90 = .ok (.goto (-88), 3) := by decide +kernel
theorem dX3_survey_93 : decode cX3_survey 93 = .ok (.return_, 1) := by decide +kernel
theorem dX7_follow_0 : decode cX7_follow 0 = .ok (.aload_n 0, 1) := by decide +kernel
theorem dX7_follow_1 : decode cX7_follow 1 = .ok (.aload_n 0, 1) := by decide +kernel
theorem dX7_follow_2 : decode cX7_follow 2 = .ok (.getfield 24, 3) := by decide +kernel
theorem dX7_follow_5 : decode cX7_follow 5 = .ok (.getfield 35, 3) := by decide +kernel
theorem dX7_follow_8 : decode cX7_follow 8 = .ok (.iload_n 1, 1) := by decide +kernel
theorem dX7_follow_9 : decode cX7_follow 9 = .ok (.iaload, 1) := by decide +kernel
theorem dX7_follow_10 : decode cX7_follow 10 = .ok (.aload_n 0, 1) := by decide +kernel
theorem dX7_follow_11 : decode cX7_follow 11 = .ok (.getfield 24, 3) := by decide +kernel
theorem dX7_follow_14 : decode cX7_follow 14 = .ok (.getfield 40, 3) := by decide +kernel
theorem dX7_follow_17 : decode cX7_follow 17 = .ok (.iload_n 1, 1) := by decide +kernel
theorem dX7_follow_18 : decode cX7_follow 18 = .ok (.iaload, 1) := by decide +kernel
theorem dX7_follow_19 : decode cX7_follow 19 = .ok (.invokevirtual 43, 3) := by decide +kernel
theorem dX7_follow_22 : decode cX7_follow 22 = .ok (.return_, 1) := by decide +kernel
theorem dX7_pass_0 : decode cX7_pass 0 = .ok (.aload_n 0, 1) := by decide +kernel
theorem dX7_pass_1 : decode cX7_pass 1 = .ok (.getfield 21, 3) := by decide +kernel
theorem dX7_pass_4 : decode cX7_pass 4 = .ok (.iconst 0, 1) := by decide +kernel
theorem dX7_pass_5 : decode cX7_pass 5 = .ok (.invokestatic 73, 3) := by decide +kernel
theorem dX7_pass_8 : decode cX7_pass 8 = .ok (.iconst 0, 1) := by decide +kernel
theorem dX7_pass_9 : decode cX7_pass 9 = .ok (.istore_n 2, 1) := by decide +kernel
theorem dX7_pass_10 : decode cX7_pass 10 = .ok (.iload_n 2, 1) := by decide +kernel
theorem dX7_pass_11 : decode cX7_pass 11 = .ok (.aload_n 0, 1) := by decide +kernel
theorem dX7_pass_12 : decode cX7_pass 12 = .ok (.getfield 24, 3) := by decide +kernel
theorem dX7_pass_15 : decode cX7_pass 15 = .ok (.getfield 79, 3) := by decide +kernel
theorem dX7_pass_18 : decode cX7_pass 18 = .ok (.if_icmp .ge 78, 3) := by decide +kernel
theorem dX7_pass_21 : decode cX7_pass 21 = .ok (.iload_n 1, 1) := by decide +kernel
theorem dX7_pass_22 : decode cX7_pass 22 = .ok (.iload_n 2, 1) := by decide +kernel
theorem dX7_pass_23 : decode cX7_pass 23 = .ok (.invokestatic 53, 3) := by decide +kernel
theorem dX7_pass_26 : decode cX7_pass 26 = .ok (.ifCond .eq 64, 3) := by decide +kernel
theorem dX7_pass_29 : decode cX7_pass 29 = .ok (.aload_n 0, 1) := by decide +kernel
theorem dX7_pass_30 : decode cX7_pass 30 = .ok (.aload_n 0, 1) := by decide +kernel
theorem dX7_pass_31 : decode cX7_pass 31 = .ok (.getfield 24, 3) := by decide +kernel
theorem dX7_pass_34 : decode cX7_pass 34 = .ok (.getfield 35, 3) := by decide +kernel
theorem dX7_pass_37 : decode cX7_pass 37 = .ok (.iload_n 2, 1) := by decide +kernel
theorem dX7_pass_38 : decode cX7_pass 38 = .ok (.iaload, 1) := by decide +kernel
theorem dX7_pass_39 : decode cX7_pass 39 = .ok (.aload_n 0, 1) := by decide +kernel
theorem dX7_pass_40 : decode cX7_pass 40 = .ok (.getfield 24, 3) := by decide +kernel
theorem dX7_pass_43 : decode cX7_pass 43 = .ok (.getfield 40, 3) := by decide +kernel
theorem dX7_pass_46 : decode cX7_pass 46 = .ok (.iload_n 2, 1) := by decide +kernel
theorem dX7_pass_47 : decode cX7_pass 47 = .ok (.iaload, 1) := by decide +kernel
theorem dX7_pass_48 : decode cX7_pass 48 = .ok (.invokevirtual 43, 3) := by decide +kernel
theorem dX7_pass_51 : decode cX7_pass 51 = .ok (.iconst 0, 1) := by decide +kernel
theorem dX7_pass_52 : decode cX7_pass 52 = .ok (.istore_n 3, 1) := by decide +kernel
theorem dX7_pass_53 : decode cX7_pass 53 = .ok (.iload_n 3, 1) := by decide +kernel
theorem dX7_pass_54 : decode cX7_pass 54 = .ok (.aload_n 0, 1) := by decide +kernel
theorem dX7_pass_55 : decode cX7_pass 55 = .ok (.getfield 47, 3) := by decide +kernel
theorem dX7_pass_58 : decode cX7_pass 58 = .ok (.if_icmp .ge 32, 3) := by decide +kernel
theorem dX7_pass_61 : decode cX7_pass 61 = .ok (.aload_n 0, 1) := by decide +kernel
theorem dX7_pass_62 : decode cX7_pass 62 = .ok (.getfield 21, 3) := by decide +kernel
theorem dX7_pass_65 : decode cX7_pass 65 = .ok (.aload_n 0, 1) := by decide +kernel
theorem dX7_pass_66 : decode cX7_pass 66 = .ok (.getfield 9, 3) := by decide +kernel
theorem dX7_pass_69 : decode cX7_pass 69 = .ok (.iload_n 3, 1) := by decide +kernel
theorem dX7_pass_70 : decode cX7_pass 70 = .ok (.iaload, 1) := by decide +kernel
theorem dX7_pass_71 : decode cX7_pass 71 = .ok (.dup2, 1) := by decide +kernel
theorem dX7_pass_72 : decode cX7_pass 72 = .ok (.iaload, 1) := by decide +kernel
theorem dX7_pass_73 : decode cX7_pass 73 = .ok (.aload_n 0, 1) := by decide +kernel
theorem dX7_pass_74 : decode cX7_pass 74 = .ok (.getfield 24, 3) := by decide +kernel
theorem dX7_pass_77 : decode cX7_pass 77 = .ok (.getfield 82, 3) := by decide +kernel
theorem dX7_pass_80 : decode cX7_pass 80 = .ok (.iload_n 2, 1) := by decide +kernel
theorem dX7_pass_81 : decode cX7_pass 81 = .ok (.iaload, 1) := by decide +kernel
theorem dX7_pass_82 : decode cX7_pass 82 = .ok (.iadd, 1) := by decide +kernel
theorem dX7_pass_83 : decode cX7_pass 83 = .ok (.iastore, 1) := by decide +kernel
theorem dX7_pass_84 : decode cX7_pass 84 = .ok (.iinc 3 1, 3) := by decide +kernel
theorem dX7_pass_87 : decode cX7_pass 87 = .ok (.goto (-34), 3) := by decide +kernel
theorem dX7_pass_90 : decode cX7_pass 90 = .ok (.iinc 2 1, 3) := by decide +kernel
theorem dX7_pass_93 : decode cX7_pass 93 = .ok (.goto (-83), 3) := by decide +kernel
theorem dX7_pass_96 : decode cX7_pass 96 = .ok (.return_, 1) := by decide +kernel
theorem dX7_trace_0 : decode cX7_trace 0 = .ok (.iload_n 1, 1) := by decide +kernel
theorem dX7_trace_1 : decode cX7_trace 1 = .ok (.istore_n 3, 1) := by decide +kernel
theorem dX7_trace_2 : decode cX7_trace 2 = .ok (.iload_n 2, 1) := by decide +kernel
theorem dX7_trace_3 : decode cX7_trace 3 = .ok (.istore 4, 2) := by decide +kernel
theorem dX7_trace_5 : decode cX7_trace 5 = .ok (.aload_n 0, 1) := by decide +kernel
theorem dX7_trace_6 : decode cX7_trace 6 = .ok (.iconst 0, 1) := by decide +kernel
theorem dX7_trace_7 : decode cX7_trace 7 = .ok (.putfield 47, 3) := by decide +kernel
theorem dX7_trace_10 : decode cX7_trace 10 = .ok (.aload_n 0, 1) := by decide +kernel
theorem dX7_trace_11 : decode cX7_trace 11 = .ok (.iconst 0, 1) := by decide +kernel
theorem dX7_trace_12 : decode cX7_trace 12 = .ok (.putfield 50, 3) := by decide +kernel
theorem dX7_trace_15 : decode cX7_trace 15 = .ok (.iconst 0, 1) := by decide +kernel
theorem dX7_trace_16 : decode cX7_trace 16 = .ok (.istore 5, 2) := by decide +kernel
theorem dX7_trace_18 : decode cX7_trace 18 = .ok (.iload 5, 2) := by decide +kernel
theorem dX7_trace_20 : decode cX7_trace 20 = .ok (.bipush 41, 2) := by decide +kernel
theorem dX7_trace_22 : decode cX7_trace 22 = .ok (.if_icmp .ge 87, 3) := by decide +kernel
theorem dX7_trace_25 : decode cX7_trace 25 = .ok (.iload_n 3, 1) := by decide +kernel
theorem dX7_trace_26 : decode cX7_trace 26 = .ok (.iconst (-1), 1) := by decide +kernel
theorem dX7_trace_27 : decode cX7_trace 27 = .ok (.if_icmp .eq 82, 3) := by decide +kernel
theorem dX7_trace_30 : decode cX7_trace 30 = .ok (.aload_n 0, 1) := by decide +kernel
theorem dX7_trace_31 : decode cX7_trace 31 = .ok (.getfield 28, 3) := by decide +kernel
theorem dX7_trace_34 : decode cX7_trace 34 = .ok (.iload_n 3, 1) := by decide +kernel
theorem dX7_trace_35 : decode cX7_trace 35 = .ok (.invokestatic 53, 3) := by decide +kernel
theorem dX7_trace_38 : decode cX7_trace 38 = .ok (.ifCond .eq 23, 3) := by decide +kernel
theorem dX7_trace_41 : decode cX7_trace 41 = .ok (.aload_n 0, 1) := by decide +kernel
theorem dX7_trace_42 : decode cX7_trace 42 = .ok (.iload 4, 2) := by decide +kernel
theorem dX7_trace_44 : decode cX7_trace 44 = .ok (.iload 5, 2) := by decide +kernel
theorem dX7_trace_46 : decode cX7_trace 46 = .ok (.invokevirtual 57, 3) := by decide +kernel
theorem dX7_trace_49 : decode cX7_trace 49 = .ok (.istore 4, 2) := by decide +kernel
theorem dX7_trace_51 : decode cX7_trace 51 = .ok (.aload_n 0, 1) := by decide +kernel
theorem dX7_trace_52 : decode cX7_trace 52 = .ok (.dup, 1) := by decide +kernel
theorem dX7_trace_53 : decode cX7_trace 53 = .ok (.getfield 50, 3) := by decide +kernel
theorem dX7_trace_56 : decode cX7_trace 56 = .ok (.iconst 1, 1) := by decide +kernel
theorem dX7_trace_57 : decode cX7_trace 57 = .ok (.iadd, 1) := by decide +kernel
theorem dX7_trace_58 : decode cX7_trace 58 = .ok (.putfield 50, 3) := by decide +kernel
theorem dX7_trace_61 : decode cX7_trace 61 = .ok (.aload_n 0, 1) := by decide +kernel
theorem dX7_trace_62 : decode cX7_trace 62 = .ok (.getfield 9, 3) := by decide +kernel
theorem dX7_trace_65 : decode cX7_trace 65 = .ok (.iload 5, 2) := by decide +kernel
theorem dX7_trace_67 : decode cX7_trace 67 = .ok (.iload_n 3, 1) := by decide +kernel
theorem dX7_trace_68 : decode cX7_trace 68 = .ok (.iastore, 1) := by decide +kernel
theorem dX7_trace_69 : decode cX7_trace 69 = .ok (.aload_n 0, 1) := by decide +kernel
theorem dX7_trace_70 : decode cX7_trace 70 = .ok (.getfield 15, 3) := by decide +kernel
theorem dX7_trace_73 : decode cX7_trace 73 = .ok (.iload 5, 2) := by decide +kernel
theorem dX7_trace_75 : decode cX7_trace 75 = .ok (.iload 4, 2) := by decide +kernel
theorem dX7_trace_77 : decode cX7_trace 77 = .ok (.iastore, 1) := by decide +kernel
theorem dX7_trace_78 : decode cX7_trace 78 = .ok (.aload_n 0, 1) := by decide +kernel
theorem dX7_trace_79 : decode cX7_trace 79 = .ok (.dup, 1) := by decide +kernel
theorem dX7_trace_80 : decode cX7_trace 80 = .ok (.getfield 47, 3) := by decide +kernel
theorem dX7_trace_83 : decode cX7_trace 83 = .ok (.iconst 1, 1) := by decide +kernel
theorem dX7_trace_84 : decode cX7_trace 84 = .ok (.iadd, 1) := by decide +kernel
theorem dX7_trace_85 : decode cX7_trace 85 = .ok (.putfield 47, 3) := by decide +kernel
theorem dX7_trace_88 : decode cX7_trace 88 = .ok (.aload_n 0, 1) := by decide +kernel
theorem dX7_trace_89 : decode cX7_trace 89 = .ok (.getfield 24, 3) := by decide +kernel
theorem dX7_trace_92 : decode cX7_trace 92 = .ok (.getfield 61, 3) := by decide +kernel
theorem dX7_trace_95 : decode cX7_trace 95 = .ok (.iload_n 3, 1) := by decide +kernel
theorem dX7_trace_96 : decode cX7_trace 96 = .ok (.iconst 4, 1) := by decide +kernel
theorem dX7_trace_97 : decode cX7_trace 97 = .ok (.imul, 1) := by decide +kernel
theorem dX7_trace_98 : decode cX7_trace 98 = .ok (.iload 4, 2) := by decide +kernel
theorem dX7_trace_100 : decode cX7_trace 100 = .ok (.iadd, 1) := by decide +kernel
theorem dX7_trace_101 : decode cX7_trace 101 = .ok (.iaload, 1) := by decide +kernel
theorem dX7_trace_102 : decode cX7_trace 102 = .ok (.istore_n 3, 1) := by decide +kernel
theorem dX7_trace_103 : decode cX7_trace 103 = .ok (.iinc 5 1, 3) := by decide +kernel
theorem dX7_trace_106 : decode cX7_trace 106 = .ok (.goto (-88), 3) := by decide +kernel
theorem dX7_trace_109 : decode cX7_trace 109 = .ok (.return_, 1) := by decide +kernel
theorem wd85 : Cond.fieldLink RX7 61 "GooseShares$Land" "beside" "[I" ∈ gW := gm (tm_1 125 (by decide +kernel)) rfl
theorem wd86 : Cond.instanceMethod yX7_turned ∈ gW := gm (tm_3 110 (by decide +kernel)) rfl
theorem wd87 : Cond.selects RX7 yX7_turned yX7_turned ∈ gW := gm (tm_3 111 (by decide +kernel)) rfl
theorem wd88 : Cond.code yX7_turned cX7_turned 3 (some .int) ∈ gW := gm (tm_3 112 (by decide +kernel)) rfl
theorem wd89 : Cond.methodLink RX7 57 yX7_turned ∈ gW := gm (tm_3 109 (by decide +kernel)) rfl
theorem wd90 : Cond.fieldLink RX7 50 "GooseShares$Sky" "turns" "I" ∈ gW := gm (tm_1 217 (by decide +kernel)) rfl
theorem wd91 : Cond.fieldLink RX7 35 "GooseShares$Land" "starts" "[I" ∈ gW := gm (tm_1 96 (by decide +kernel)) rfl
theorem wd92 : Cond.fieldLink RX7 40 "GooseShares$Land" "headings" "[I" ∈ gW := gm (tm_1 100 (by decide +kernel)) rfl
theorem wd93 : Cond.instanceMethod yX7_trace ∈ gW := gm (tm_3 103 (by decide +kernel)) rfl
theorem wd94 : Cond.selects RX7 yX7_trace yX7_trace ∈ gW := gm (tm_3 104 (by decide +kernel)) rfl
theorem wd95 : Cond.code yX7_trace cX7_trace 6 none ∈ gW := gm (tm_3 105 (by decide +kernel)) rfl
theorem wd96 : Cond.methodLink RX7 43 yX7_trace ∈ gW := gm (tm_3 102 (by decide +kernel)) rfl
theorem wd97 : Cond.fieldLink RX7 82 "GooseShares$Land" "flocks" "[I" ∈ gW := gm (tm_1 106 (by decide +kernel)) rfl
theorem wd98 : Cond.fieldLink RX7 79 "GooseShares$Land" "flights" "I" ∈ gW := gm (tm_1 78 (by decide +kernel)) rfl
theorem wd99 : Cond.static yJ7_fill_53178 ∈ gW := gm (tm_3 191 (by decide +kernel)) rfl
theorem wd100 : Cond.initialized "java/util/Arrays" ∈ gW := gm (tm_1 18 (by decide +kernel)) rfl
theorem wd101 : Cond.code yJ7_fill_53178 cJ7_fill_53178 4 none ∈ gW := gm (tm_3 192 (by decide +kernel)) rfl
theorem wd102 : Cond.methodLink RX7 73 yJ7_fill_53178 ∈ gW := gm (tm_3 190 (by decide +kernel)) rfl
theorem wd103 : Cond.instanceMethod yX3_keepAct ∈ gW := gm (tm_5 220 (by decide +kernel)) rfl
theorem wd104 : Cond.selects RX3 yX3_keepAct yX3_keepAct ∈ gW := gm (tm_5 221 (by decide +kernel)) rfl
theorem wd105 : Cond.code yX3_keepAct cX3_keepAct 3 none ∈ gW := gm (tm_5 222 (by decide +kernel)) rfl
theorem wd106 : Cond.methodLink RX3 110 yX3_keepAct ∈ gW := gm (tm_5 219 (by decide +kernel)) rfl
theorem wd107 : Cond.instanceMethod yX3_neighbour ∈ gW := gm (tm_3 41 (by decide +kernel)) rfl
theorem wd108 : Cond.selects RX3 yX3_neighbour yX3_neighbour ∈ gW := gm (tm_3 42 (by decide +kernel)) rfl
theorem wd109 : Cond.code yX3_neighbour cX3_neighbour 5 (some .int) ∈ gW := gm (tm_3 43 (by decide +kernel)) rfl
theorem wd110 : Cond.methodLink RX3 87 yX3_neighbour ∈ gW := gm (tm_3 40 (by decide +kernel)) rfl
theorem wd111 : Cond.instanceMethod yX3_distance ∈ gW := gm (tm_3 30 (by decide +kernel)) rfl
theorem wd112 : Cond.selects RX3 yX3_distance yX3_distance ∈ gW := gm (tm_3 31 (by decide +kernel)) rfl
theorem wd113 : Cond.code yX3_distance cX3_distance 6 (some .int) ∈ gW := gm (tm_3 32 (by decide +kernel)) rfl
theorem wd114 : Cond.methodLink RX3 83 yX3_distance ∈ gW := gm (tm_3 29 (by decide +kernel)) rfl
theorem wd115 : Cond.constant "java/lang/Integer" 265 (1431655765 : Int32) ∈ gW := gm (tm_4 144 (by decide +kernel)) rfl
theorem wd116 : Cond.constant "java/lang/Integer" 266 (858993459 : Int32) ∈ gW := gm (tm_4 145 (by decide +kernel)) rfl
theorem wd117 : Cond.constant "java/lang/Integer" 267 (252645135 : Int32) ∈ gW := gm (tm_4 146 (by decide +kernel)) rfl
theorem wd118 : Cond.fieldLink RX1 9 "GooseShares$Fog" "land" "LGooseShares$Land;" ∈ gW := gm (tm_2 69 (by decide +kernel)) rfl
theorem wd119 : Cond.fieldLink RX1 19 "GooseShares$Land" "flights" "I" ∈ gW := gm (tm_1 74 (by decide +kernel)) rfl
theorem wd120 : Cond.fieldLink RX1 29 "GooseShares$Land" "odds" "I" ∈ gW := gm (tm_1 71 (by decide +kernel)) rfl
theorem wd121 : Cond.fieldLink RX1 15 "GooseShares$Fog" "sky" "LGooseShares$Sky;" ∈ gW := gm (tm_2 70 (by decide +kernel)) rfl
theorem wd122 : Cond.fieldLink RX1 32 "GooseShares$Land" "lit" "I" ∈ gW := gm (tm_1 90 (by decide +kernel)) rfl
theorem wd123 : Cond.fieldLink RX1 35 "GooseShares$Land" "law" "I" ∈ gW := gm (tm_1 63 (by decide +kernel)) rfl
theorem wd124 : Cond.instanceMethod yX7_under ∈ gW := gm (tm_3 95 (by decide +kernel)) rfl
theorem wd125 : Cond.selects RX7 yX7_under yX7_under ∈ gW := gm (tm_3 96 (by decide +kernel)) rfl
theorem wd126 : Cond.code yX7_under cX7_under 3 none ∈ gW := gm (tm_3 97 (by decide +kernel)) rfl
theorem wd127 : Cond.methodLink RX1 38 yX7_under ∈ gW := gm (tm_5 181 (by decide +kernel)) rfl
theorem wd128 : Cond.instanceMethod yX7_pass ∈ gW := gm (tm_3 187 (by decide +kernel)) rfl
theorem wd129 : Cond.selects RX7 yX7_pass yX7_pass ∈ gW := gm (tm_3 188 (by decide +kernel)) rfl
theorem wd130 : Cond.code yX7_pass cX7_pass 4 none ∈ gW := gm (tm_3 189 (by decide +kernel)) rfl
theorem wd131 : Cond.methodLink RX1 44 yX7_pass ∈ gW := gm (tm_5 182 (by decide +kernel)) rfl
theorem wd132 : Cond.instanceMethod yX7_servedBits ∈ gW := gm (tm_3 220 (by decide +kernel)) rfl
theorem wd133 : Cond.selects RX7 yX7_servedBits yX7_servedBits ∈ gW := gm (tm_3 221 (by decide +kernel)) rfl
theorem wd134 : Cond.code yX7_servedBits cX7_servedBits 3 (some .int) ∈ gW := gm (tm_3 222 (by decide +kernel)) rfl
theorem wd135 : Cond.methodLink RX1 48 yX7_servedBits ∈ gW := gm (tm_5 183 (by decide +kernel)) rfl
theorem wd136 : Cond.instanceMethod yX1_servedIn ∈ gW := gm (tm_5 178 (by decide +kernel)) rfl
theorem wd137 : Cond.selects RX1 yX1_servedIn yX1_servedIn ∈ gW := gm (tm_5 179 (by decide +kernel)) rfl
theorem wd138 : Cond.initialized RX1 ∈ gW := gm (tm_1 9 (by decide +kernel)) rfl
theorem wd139 : Cond.code yX1_servedIn cX1_servedIn 2 (some .int) ∈ gW := gm (tm_5 180 (by decide +kernel)) rfl
theorem wd140 : Cond.methodLink RX1 52 yX1_servedIn ∈ gW := gm (tm_5 177 (by decide +kernel)) rfl
theorem wd141 : Cond.instanceMethod yX1_weightOf ∈ gW := gm (tm_5 186 (by decide +kernel)) rfl
theorem wd142 : Cond.selects RX1 yX1_weightOf yX1_weightOf ∈ gW := gm (tm_5 187 (by decide +kernel)) rfl
theorem wd143 : Cond.code yX1_weightOf cX1_weightOf 4 (some .int) ∈ gW := gm (tm_5 188 (by decide +kernel)) rfl
theorem wd144 : Cond.methodLink RX1 56 yX1_weightOf ∈ gW := gm (tm_5 185 (by decide +kernel)) rfl
theorem wd145 : Cond.instanceMethod yX3_paidBy ∈ gW := gm (tm_3 237 (by decide +kernel)) rfl
theorem wd146 : Cond.selects RX3 yX3_paidBy yX3_paidBy ∈ gW := gm (tm_3 238 (by decide +kernel)) rfl
theorem wd147 : Cond.code yX3_paidBy cX3_paidBy 4 (some .int) ∈ gW := gm (tm_3 239 (by decide +kernel)) rfl
theorem wd148 : Cond.methodLink RX1 59 yX3_paidBy ∈ gW := gm (tm_5 201 (by decide +kernel)) rfl
theorem wd149 : Cond.static yJ6_bitCount_0f7a4 ∈ gW := gm (tm_4 142 (by decide +kernel)) rfl
theorem wd150 : Cond.initialized "java/lang/Integer" ∈ gW := gm (tm_1 19 (by decide +kernel)) rfl
theorem wd151 : Cond.code yJ6_bitCount_0f7a4 cJ6_bitCount_0f7a4 1 (some .int) ∈ gW := gm (tm_4 143 (by decide +kernel)) rfl
theorem wd152 : Cond.methodLink RX1 62 yJ6_bitCount_0f7a4 ∈ gW := gm (tm_5 210 (by decide +kernel)) rfl
theorem wd153 : Cond.constantLong RX1 67 (1103515245 : Int64) ∈ gW := gm (tm_6 19 (by decide +kernel)) rfl
theorem wd154 : Cond.constantLong RX1 69 (12345 : Int64) ∈ gW := gm (tm_6 20 (by decide +kernel)) rfl
theorem wd155 : Cond.constantLong RX1 71 (2147483647 : Int64) ∈ gW := gm (tm_6 21 (by decide +kernel)) rfl
theorem wd156 : Cond.constantLong RX1 73 (65536 : Int64) ∈ gW := gm (tm_6 22 (by decide +kernel)) rfl
theorem wd157 : Cond.constantLong RX1 75 (10 : Int64) ∈ gW := gm (tm_6 23 (by decide +kernel)) rfl
theorem wd158 : Cond.fieldLink RX2 18 "GooseShares$Houses" "land" "LGooseShares$Land;" ∈ gW := gm (tm_2 49 (by decide +kernel)) rfl
theorem wd159 : Cond.fieldLink RX2 45 "GooseShares$Land" "members" "I" ∈ gW := gm (tm_1 81 (by decide +kernel)) rfl
theorem wd160 : Cond.fieldLink RX2 9 "GooseShares$Houses" "loudness" "[I" ∈ gW := gm (tm_2 51 (by decide +kernel)) rfl
theorem wd161 : Cond.fieldLink RX2 22 "GooseShares$Houses" "sky" "LGooseShares$Sky;" ∈ gW := gm (tm_2 50 (by decide +kernel)) rfl
theorem wd162 : Cond.fieldLink RX2 48 "GooseShares$Land" "houses" "[I" ∈ gW := gm (tm_1 108 (by decide +kernel)) rfl
theorem wd163 : Cond.methodLink RX2 51 yX7_heardIn ∈ gW := gm (tm_5 69 (by decide +kernel)) rfl
theorem wd164 : Cond.fieldLink RX2 26 "GooseShares$Land" "lit" "I" ∈ gW := gm (tm_1 87 (by decide +kernel)) rfl
theorem wd165 : Cond.fieldLink RX2 32 "GooseShares$Land" "law" "I" ∈ gW := gm (tm_1 60 (by decide +kernel)) rfl
theorem wd166 : Cond.methodLink RX2 35 yX7_under ∈ gW := gm (tm_5 67 (by decide +kernel)) rfl
theorem wd167 : Cond.methodLink RX2 41 yX7_pass ∈ gW := gm (tm_5 68 (by decide +kernel)) rfl
theorem wd168 : Cond.methodLink RX2 55 yX7_wouldServe ∈ gW := gm (tm_5 81 (by decide +kernel)) rfl
theorem wd169 : Cond.methodLink RX2 78 yJ6_bitCount_0f7a4 ∈ gW := gm (tm_5 76 (by decide +kernel)) rfl
theorem wd170 : Cond.instanceMethod yX2_isServed ∈ gW := gm (tm_5 78 (by decide +kernel)) rfl
theorem wd171 : Cond.selects RX2 yX2_isServed yX2_isServed ∈ gW := gm (tm_5 79 (by decide +kernel)) rfl
theorem wd172 : Cond.initialized RX2 ∈ gW := gm (tm_1 8 (by decide +kernel)) rfl
theorem wd173 : Cond.code yX2_isServed cX2_isServed 3 (some .boolean) ∈ gW := gm (tm_5 80 (by decide +kernel)) rfl
theorem wd174 : Cond.methodLink RX2 83 yX2_isServed ∈ gW := gm (tm_5 77 (by decide +kernel)) rfl
theorem wd175 : Cond.fieldLink RX2 15 "GooseShares$Houses" "greatest" "[I" ∈ gW := gm (tm_2 52 (by decide +kernel)) rfl
theorem wd176 : Cond.fieldLink RX2 86 "GooseShares$Land" "pays" "[I" ∈ gW := gm (tm_1 117 (by decide +kernel)) rfl
theorem wd177 : Cond.instanceMethod yX2_paidWith ∈ gW := gm (tm_5 73 (by decide +kernel)) rfl
theorem wd178 : Cond.selects RX2 yX2_paidWith yX2_paidWith ∈ gW := gm (tm_5 74 (by decide +kernel)) rfl
theorem wd179 : Cond.code yX2_paidWith cX2_paidWith 5 (some .int) ∈ gW := gm (tm_5 75 (by decide +kernel)) rfl
theorem wd180 : Cond.methodLink RX2 69 yX2_paidWith ∈ gW := gm (tm_5 72 (by decide +kernel)) rfl
theorem wd181 : Cond.methodLink RX2 73 Lib.Math.max.name ∈ gW := gm (tm_5 82 (by decide +kernel)) rfl
theorem wd182 : Cond.static Lib.Math.max.name ∈ gW := gm (tm_4 127 (by decide +kernel)) rfl
theorem wd183 : Cond.code Lib.Math.max.name Lib.Math.max.code 2 (some .int) ∈ gW := gm (tm_4 128 (by decide +kernel)) rfl
theorem wd184 : Cond.instanceMethod yX2_listen ∈ gW := gm (tm_5 64 (by decide +kernel)) rfl
theorem wd185 : Cond.selects RX2 yX2_listen yX2_listen ∈ gW := gm (tm_5 65 (by decide +kernel)) rfl
theorem wd186 : Cond.code yX2_listen cX2_listen 2 none ∈ gW := gm (tm_5 66 (by decide +kernel)) rfl
theorem wd187 : Cond.methodLink RX2 59 yX2_listen ∈ gW := gm (tm_5 63 (by decide +kernel)) rfl
theorem wd188 : Cond.methodLink RX2 62 yX3_allMembers ∈ gW := gm (tm_5 70 (by decide +kernel)) rfl
theorem wd189 : Cond.instanceMethod yX2_leastHouse ∈ gW := gm (tm_5 92 (by decide +kernel)) rfl
theorem wd190 : Cond.selects RX2 yX2_leastHouse yX2_leastHouse ∈ gW := gm (tm_5 93 (by decide +kernel)) rfl
theorem wd191 : Cond.code yX2_leastHouse cX2_leastHouse 5 (some .int) ∈ gW := gm (tm_5 94 (by decide +kernel)) rfl
theorem wd192 : Cond.methodLink RX2 89 yX2_leastHouse ∈ gW := gm (tm_5 91 (by decide +kernel)) rfl
theorem wd193 : Cond.instanceMethod yX2_isGoodSwap ∈ gW := gm (tm_5 104 (by decide +kernel)) rfl
theorem wd194 : Cond.selects RX2 yX2_isGoodSwap yX2_isGoodSwap ∈ gW := gm (tm_5 105 (by decide +kernel)) rfl
theorem wd195 : Cond.code yX2_isGoodSwap cX2_isGoodSwap 4 (some .boolean) ∈ gW := gm (tm_5 106 (by decide +kernel)) rfl
theorem wd196 : Cond.methodLink RX2 92 yX2_isGoodSwap ∈ gW := gm (tm_5 103 (by decide +kernel)) rfl
theorem my_X7_turned : gWV RX7 yX7_turned cX7_turned 3 (some .int) 2 := ⟨⟨wd86, wd87, wd75, wd88⟩, ⟨rfl, by decide +kernel, by decide +kernel, by decide +kernel⟩⟩
theorem my_X7_trace : gWV RX7 yX7_trace cX7_trace 6 none 2 := ⟨⟨wd93, wd94, wd75, wd95⟩, ⟨rfl, by decide +kernel, by decide +kernel, by decide +kernel⟩⟩
theorem my_J7_fill_53178 : gWS "java/util/Arrays" yJ7_fill_53178 cJ7_fill_53178 4 none 2 := ⟨⟨wd99, wd100, wd101⟩, ⟨rfl, by decide +kernel, by decide +kernel, by decide +kernel⟩⟩
theorem my_X3_keepAct : gWV RX3 yX3_keepAct cX3_keepAct 3 none 2 := ⟨⟨wd103, wd104, wd19, wd105⟩, ⟨rfl, by decide +kernel, by decide +kernel, by decide +kernel⟩⟩
theorem my_X3_neighbour : gWV RX3 yX3_neighbour cX3_neighbour 5 (some .int) 2 := ⟨⟨wd107, wd108, wd19, wd109⟩, ⟨rfl, by decide +kernel, by decide +kernel, by decide +kernel⟩⟩
theorem my_X3_distance : gWV RX3 yX3_distance cX3_distance 6 (some .int) 2 := ⟨⟨wd111, wd112, wd19, wd113⟩, ⟨rfl, by decide +kernel, by decide +kernel, by decide +kernel⟩⟩
theorem my_X7_under : gWV RX7 yX7_under cX7_under 3 none 2 := ⟨⟨wd124, wd125, wd75, wd126⟩, ⟨rfl, by decide +kernel, by decide +kernel, by decide +kernel⟩⟩
theorem my_X7_pass : gWV RX7 yX7_pass cX7_pass 4 none 1 := ⟨⟨wd128, wd129, wd75, wd130⟩, ⟨rfl, by decide +kernel, by decide +kernel, by decide +kernel⟩⟩
theorem my_X7_servedBits : gWV RX7 yX7_servedBits cX7_servedBits 3 (some .int) 0 := ⟨⟨wd132, wd133, wd75, wd134⟩, ⟨rfl, by decide +kernel, by decide +kernel, by decide +kernel⟩⟩
theorem my_X1_servedIn : gWV RX1 yX1_servedIn cX1_servedIn 2 (some .int) 1 := ⟨⟨wd136, wd137, wd138, wd139⟩, ⟨rfl, by decide +kernel, by decide +kernel, by decide +kernel⟩⟩
theorem my_X1_weightOf : gWV RX1 yX1_weightOf cX1_weightOf 4 (some .int) 1 := ⟨⟨wd141, wd142, wd138, wd143⟩, ⟨rfl, by decide +kernel, by decide +kernel, by decide +kernel⟩⟩
theorem my_X3_paidBy : gWV RX3 yX3_paidBy cX3_paidBy 4 (some .int) 1 := ⟨⟨wd145, wd146, wd19, wd147⟩, ⟨rfl, by decide +kernel, by decide +kernel, by decide +kernel⟩⟩
theorem my_J6_bitCount_0f7a4 : gWS "java/lang/Integer" yJ6_bitCount_0f7a4 cJ6_bitCount_0f7a4 1 (some .int) 1 := ⟨⟨wd149, wd150, wd151⟩, ⟨rfl, by decide +kernel, by decide +kernel, by decide +kernel⟩⟩
theorem my_X2_isServed : gWV RX2 yX2_isServed cX2_isServed 3 (some .boolean) 2 := ⟨⟨wd170, wd171, wd172, wd173⟩, ⟨rfl, by decide +kernel, by decide +kernel, by decide +kernel⟩⟩
theorem my_X2_paidWith : gWV RX2 yX2_paidWith cX2_paidWith 5 (some .int) 2 := ⟨⟨wd177, wd178, wd172, wd179⟩, ⟨rfl, by decide +kernel, by decide +kernel, by decide +kernel⟩⟩
theorem my_X2_listen : gWV RX2 yX2_listen cX2_listen 2 none 0 := ⟨⟨wd184, wd185, wd172, wd186⟩, ⟨rfl, by decide +kernel, by decide +kernel, by decide +kernel⟩⟩
theorem my_X2_leastHouse : gWV RX2 yX2_leastHouse cX2_leastHouse 5 (some .int) 1 := ⟨⟨wd189, wd190, wd172, wd191⟩, ⟨rfl, by decide +kernel, by decide +kernel, by decide +kernel⟩⟩
theorem my_X2_isGoodSwap : gWV RX2 yX2_isGoodSwap cX2_isGoodSwap 4 (some .boolean) 2 := ⟨⟨wd193, wd194, wd172, wd195⟩, ⟨rfl, by decide +kernel, by decide +kernel, by decide +kernel⟩⟩
theorem tl_10 : (10 : Int32).toInt = 10 := by decide
theorem rl_10 : rg (10 : Int32) 10 10 := ⟨by rw [tl_10]; exact Int.le_refl _, by rw [tl_10]; exact Int.le_refl _⟩
theorem tl_15 : (15 : Int32).toInt = 15 := by decide
theorem rl_15 : rg (15 : Int32) 15 15 := ⟨by rw [tl_15]; exact Int.le_refl _, by rw [tl_15]; exact Int.le_refl _⟩
theorem tl_63 : (63 : Int32).toInt = 63 := by decide
theorem rl_63 : rg (63 : Int32) 63 63 := ⟨by rw [tl_63]; exact Int.le_refl _, by rw [tl_63]; exact Int.le_refl _⟩
theorem tl_252645135 : (252645135 : Int32).toInt = 252645135 := by decide
theorem rl_252645135 : rg (252645135 : Int32) 252645135 252645135 := ⟨by rw [tl_252645135]; exact Int.le_refl _, by rw [tl_252645135]; exact Int.le_refl _⟩
theorem tl_858993459 : (858993459 : Int32).toInt = 858993459 := by decide
theorem rl_858993459 : rg (858993459 : Int32) 858993459 858993459 := ⟨by rw [tl_858993459]; exact Int.le_refl _, by rw [tl_858993459]; exact Int.le_refl _⟩
theorem tl_1431655765 : (1431655765 : Int32).toInt = 1431655765 := by decide
theorem rl_1431655765 : rg (1431655765 : Int32) 1431655765 1431655765 := ⟨by rw [tl_1431655765]; exact Int.le_refl _, by rw [tl_1431655765]; exact Int.le_refl _⟩
