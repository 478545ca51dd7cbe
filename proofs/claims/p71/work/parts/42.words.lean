theorem dX10_at_0 : decode cX10_at 0 = .ok (.aload_n 0, 1) := by decide +kernel
theorem dX10_at_1 : decode cX10_at 1 = .ok (.iconst 0, 1) := by decide +kernel
theorem dX10_at_2 : decode cX10_at 2 = .ok (.putfield 92, 3) := by decide +kernel
theorem dX10_at_5 : decode cX10_at 5 = .ok (.aload_n 0, 1) := by decide +kernel
theorem dX10_at_6 : decode cX10_at 6 = .ok (.iload_n 1, 1) := by decide +kernel
theorem dX10_at_7 : decode cX10_at 7 = .ok (.i2l, 1) := by decide +kernel
theorem dX10_at_8 : decode cX10_at 8 = .ok (.invokevirtual 323, 3) := by decide +kernel
theorem dX10_at_11 : decode cX10_at 11 = .ok (.ifCond .eq 10, 3) := by decide +kernel
theorem dX10_at_14 : decode cX10_at 14 = .ok (.iload_n 2, 1) := by decide +kernel
theorem dX10_at_15 : decode cX10_at 15 = .ok (.invokestatic 328, 3) := by decide +kernel
theorem dX10_at_18 : decode cX10_at 18 = .ok (.ifCond .ne 6, 3) := by decide +kernel
theorem dX10_at_21 : decode cX10_at 21 = .ok (.bipush (-2), 2) := by decide +kernel
theorem dX10_at_23 : decode cX10_at 23 = .ok (.ireturn, 1) := by decide +kernel
theorem dX10_at_24 : decode cX10_at 24 = .ok (.aload_n 0, 1) := by decide +kernel
theorem dX10_at_25 : decode cX10_at 25 = .ok (.invokevirtual 331, 3) := by decide +kernel
theorem dX10_at_28 : decode cX10_at 28 = .ok (.aload_n 0, 1) := by decide +kernel
theorem dX10_at_29 : decode cX10_at 29 = .ok (.getfield 53, 3) := by decide +kernel
theorem dX10_at_32 : decode cX10_at 32 = .ok (.bipush 41, 2) := by decide +kernel
theorem dX10_at_34 : decode cX10_at 34 = .ok (.iload_n 1, 1) := by decide +kernel
theorem dX10_at_35 : decode cX10_at 35 = .ok (.imul, 1) := by decide +kernel
theorem dX10_at_36 : decode cX10_at 36 = .ok (.iload_n 2, 1) := by decide +kernel
theorem dX10_at_37 : decode cX10_at 37 = .ok (.iadd, 1) := by decide +kernel
theorem dX10_at_38 : decode cX10_at 38 = .ok (.iaload, 1) := by decide +kernel
theorem dX10_at_39 : decode cX10_at 39 = .ok (.ireturn, 1) := by decide +kernel
theorem dX10_bends_0 : decode cX10_bends 0 = .ok (.aload_n 0, 1) := by decide +kernel
theorem dX10_bends_1 : decode cX10_bends 1 = .ok (.iconst 0, 1) := by decide +kernel
theorem dX10_bends_2 : decode cX10_bends 2 = .ok (.putfield 92, 3) := by decide +kernel
theorem dX10_bends_5 : decode cX10_bends 5 = .ok (.aload_n 0, 1) := by decide +kernel
theorem dX10_bends_6 : decode cX10_bends 6 = .ok (.iload_n 1, 1) := by decide +kernel
theorem dX10_bends_7 : decode cX10_bends 7 = .ok (.i2l, 1) := by decide +kernel
theorem dX10_bends_8 : decode cX10_bends 8 = .ok (.invokevirtual 323, 3) := by decide +kernel
theorem dX10_bends_11 : decode cX10_bends 11 = .ok (.ifCond .ne 6, 3) := by decide +kernel
theorem dX10_bends_14 : decode cX10_bends 14 = .ok (.bipush (-2), 2) := by decide +kernel
theorem dX10_bends_16 : decode cX10_bends 16 = .ok (.ireturn, 1) := by decide +kernel
theorem dX10_bends_17 : decode cX10_bends 17 = .ok (.aload_n 0, 1) := by decide +kernel
theorem dX10_bends_18 : decode cX10_bends 18 = .ok (.invokevirtual 331, 3) := by decide +kernel
theorem dX10_bends_21 : decode cX10_bends 21 = .ok (.aload_n 0, 1) := by decide +kernel
theorem dX10_bends_22 : decode cX10_bends 22 = .ok (.getfield 59, 3) := by decide +kernel
theorem dX10_bends_25 : decode cX10_bends 25 = .ok (.iload_n 1, 1) := by decide +kernel
theorem dX10_bends_26 : decode cX10_bends 26 = .ok (.iaload, 1) := by decide +kernel
theorem dX10_bends_27 : decode cX10_bends 27 = .ok (.ireturn, 1) := by decide +kernel
theorem dX10_beside_0 : decode cX10_beside 0 = .ok (.iload_n 1, 1) := by decide +kernel
theorem dX10_beside_1 : decode cX10_beside 1 = .ok (.aload_n 0, 1) := by decide +kernel
theorem dX10_beside_2 : decode cX10_beside 2 = .ok (.getfield 34, 3) := by decide +kernel
theorem dX10_beside_5 : decode cX10_beside 5 = .ok (.iconst 0, 1) := by decide +kernel
theorem dX10_beside_6 : decode cX10_beside 6 = .ok (.iaload, 1) := by decide +kernel
theorem dX10_beside_7 : decode cX10_beside 7 = .ok (.irem, 1) := by decide +kernel
theorem dX10_beside_8 : decode cX10_beside 8 = .ok (.iload_n 2, 1) := by decide +kernel
theorem dX10_beside_9 : decode cX10_beside 9 = .ok (.iconst 1, 1) := by decide +kernel
theorem dX10_beside_10 : decode cX10_beside 10 = .ok (.if_icmp .ne 7, 3) := by decide +kernel
theorem dX10_beside_13 : decode cX10_beside 13 = .ok (.iconst 1, 1) := by decide +kernel
theorem dX10_beside_14 : decode cX10_beside 14 = .ok (.goto 13, 3) := by decide +kernel
theorem dX10_beside_17 : decode cX10_beside 17 = .ok (.iload_n 2, 1) := by decide +kernel
theorem dX10_beside_18 : decode cX10_beside 18 = .ok (.iconst 3, 1) := by decide +kernel
theorem dX10_beside_19 : decode cX10_beside 19 = .ok (.if_icmp .ne 7, 3) := by decide +kernel
theorem dX10_beside_22 : decode cX10_beside 22 = .ok (.iconst (-1), 1) := by decide +kernel
theorem dX10_beside_23 : decode cX10_beside 23 = .ok (.goto 4, 3) := by decide +kernel
theorem dX10_beside_26 : decode cX10_beside 26 = .ok (.iconst 0, 1) := by decide +kernel
theorem dX10_beside_27 : decode cX10_beside 27 = .ok (.iadd, 1) := by decide +kernel
theorem dX10_beside_28 : decode cX10_beside 28 = .ok (.istore_n 3, 1) := by decide +kernel
theorem dX10_beside_29 : decode cX10_beside 29 = .ok (.iload_n 1, 1) := by decide +kernel
theorem dX10_beside_30 : decode cX10_beside 30 = .ok (.aload_n 0, 1) := by decide +kernel
theorem dX10_beside_31 : decode cX10_beside 31 = .ok (.getfield 34, 3) := by decide +kernel
theorem dX10_beside_34 : decode cX10_beside 34 = .ok (.iconst 0, 1) := by decide +kernel
theorem dX10_beside_35 : decode cX10_beside 35 = .ok (.iaload, 1) := by decide +kernel
theorem dX10_beside_36 : decode cX10_beside 36 = .ok (.idiv, 1) := by decide +kernel
theorem dX10_beside_37 : decode cX10_beside 37 = .ok (.iload_n 2, 1) := by decide +kernel
theorem dX10_beside_38 : decode cX10_beside 38 = .ok (.iconst 2, 1) := by decide +kernel
theorem dX10_beside_39 : decode cX10_beside 39 = .ok (.if_icmp .ne 7, 3) := by decide +kernel
theorem dX10_beside_42 : decode cX10_beside 42 = .ok (.iconst 1, 1) := by decide +kernel
theorem dX10_beside_43 : decode cX10_beside 43 = .ok (.goto 12, 3) := by decide +kernel
theorem dX10_beside_46 : decode cX10_beside 46 = .ok (.iload_n 2, 1) := by decide +kernel
theorem dX10_beside_47 : decode cX10_beside 47 = .ok (.ifCond .ne 7, 3) := by decide +kernel
theorem dX10_beside_50 : decode cX10_beside 50 = .ok (.iconst (-1), 1) := by decide +kernel
theorem dX10_beside_51 : decode cX10_beside 51 = .ok (.goto 4, 3) := by decide +kernel
theorem dX10_beside_54 : decode cX10_beside 54 = .ok (.iconst 0, 1) := by decide +kernel
theorem dX10_beside_55 : decode cX10_beside 55 = .ok (.iadd, 1) := by decide +kernel
theorem dX10_beside_56 : decode cX10_beside 56 = .ok (.istore 4, 2) := by decide +kernel
theorem dX10_beside_58 : decode cX10_beside 58 = .ok (.iload_n 3, 1) := by decide +kernel
theorem dX10_beside_59 : decode cX10_beside 59 = .ok (.i2l, 1) := by decide +kernel
theorem dX10_beside_60 : decode cX10_beside 60 = .ok (.lconst 0, 1) := by decide +kernel
theorem dX10_beside_61 : decode cX10_beside 61 = .ok (.aload_n 0, 1) := by decide +kernel
theorem dX10_beside_62 : decode cX10_beside 62 = .ok (.getfield 34, 3) := by decide +kernel
theorem dX10_beside_65 : decode cX10_beside 65 = .ok (.iconst 0, 1) := by decide +kernel
theorem dX10_beside_66 : decode cX10_beside 66 = .ok (.iaload, 1) := by decide +kernel
theorem dX10_beside_67 : decode cX10_beside 67 = .ok (.iconst 1, 1) := by decide +kernel
theorem dX10_beside_68 : decode cX10_beside 68 = .ok (.isub, 1) := by decide +kernel
theorem dX10_beside_69 : decode cX10_beside 69 = .ok (.i2l, 1) := by decide +kernel
theorem dX10_beside_70 : decode cX10_beside 70 = .ok (.invokestatic 97, 3) := by decide +kernel
theorem dX10_beside_73 : decode cX10_beside 73 = .ok (.ifCond .eq 36, 3) := by decide +kernel
theorem dX10_beside_76 : decode cX10_beside 76 = .ok (.iload 4, 2) := by decide +kernel
theorem dX10_beside_78 : decode cX10_beside 78 = .ok (.i2l, 1) := by decide +kernel
theorem dX10_beside_79 : decode cX10_beside 79 = .ok (.lconst 0, 1) := by decide +kernel
theorem dX10_beside_80 : decode cX10_beside 80 = .ok (.aload_n 0, 1) := by decide +kernel
theorem dX10_beside_81 : decode cX10_beside 81 = .ok (.getfield 34, 3) := by decide +kernel
theorem dX10_beside_84 : decode cX10_beside 84 = .ok (.iconst 1, 1) := by decide +kernel
theorem dX10_beside_85 : decode cX10_beside 85 = .ok (.iaload, 1) := by decide +kernel
theorem dX10_beside_86 : decode cX10_beside 86 = .ok (.iconst 1, 1) := by decide +kernel
theorem dX10_beside_87 : decode cX10_beside 87 = .ok (.isub, 1) := by decide +kernel
theorem dX10_beside_88 : decode cX10_beside 88 = .ok (.i2l, 1) := by decide +kernel
theorem dX10_beside_89 : decode cX10_beside 89 = .ok (.invokestatic 97, 3) := by decide +kernel
theorem dX10_beside_92 : decode cX10_beside 92 = .ok (.ifCond .eq 17, 3) := by decide +kernel
theorem dX10_beside_95 : decode cX10_beside 95 = .ok (.aload_n 0, 1) := by decide +kernel
theorem dX10_beside_96 : decode cX10_beside 96 = .ok (.getfield 34, 3) := by decide +kernel
theorem dX10_beside_99 : decode cX10_beside 99 = .ok (.iconst 0, 1) := by decide +kernel
theorem dX10_beside_100 : decode cX10_beside 100 = .ok (.iaload, 1) := by decide +kernel
theorem dX10_beside_101 : decode cX10_beside 101 = .ok (.iload 4, 2) := by decide +kernel
theorem dX10_beside_103 : decode cX10_beside 103 = .ok (.imul, 1) := by decide +kernel
theorem dX10_beside_104 : decode cX10_beside 104 = .ok (.iload_n 3, 1) := by decide +kernel
theorem dX10_beside_105 : decode cX10_beside 105 = .ok (.iadd, 1) := by decide +kernel
theorem dX10_beside_106 : decode cX10_beside 106 = .ok (.goto 4, 3) := by decide +kernel
theorem dX10_beside_109 : decode cX10_beside 109 = .ok (.iconst (-1), 1) := by decide +kernel
theorem dX10_beside_110 : decode cX10_beside 110 = .ok (.ireturn, 1) := by decide +kernel
theorem dX10_by_0 : decode cX10_by 0 = .ok (.aload_n 0, 1) := by decide +kernel
theorem dX10_by_1 : decode cX10_by 1 = .ok (.iconst 0, 1) := by decide +kernel
theorem dX10_by_2 : decode cX10_by 2 = .ok (.putfield 92, 3) := by decide +kernel
theorem dX10_by_5 : decode cX10_by 5 = .ok (.aload_n 0, 1) := by decide +kernel
theorem dX10_by_6 : decode cX10_by 6 = .ok (.iload_n 1, 1) := by decide +kernel
theorem dX10_by_7 : decode cX10_by 7 = .ok (.invokevirtual 377, 3) := by decide +kernel
theorem dX10_by_10 : decode cX10_by 10 = .ok (.ifCond .eq 11, 3) := by decide +kernel
theorem dX10_by_13 : decode cX10_by 13 = .ok (.aload_n 0, 1) := by decide +kernel
theorem dX10_by_14 : decode cX10_by 14 = .ok (.iload_n 1, 1) := by decide +kernel
theorem dX10_by_15 : decode cX10_by 15 = .ok (.invokevirtual 380, 3) := by decide +kernel
theorem dX10_by_18 : decode cX10_by 18 = .ok (.goto 5, 3) := by decide +kernel
theorem dX10_by_21 : decode cX10_by 21 = .ok (.bipush (-2), 2) := by decide +kernel
theorem dX10_by_23 : decode cX10_by 23 = .ok (.ireturn, 1) := by decide +kernel
theorem dX10_calls_0 : decode cX10_calls 0 = .ok (.aload_n 0, 1) := by decide +kernel
theorem dX10_calls_1 : decode cX10_calls 1 = .ok (.iconst 0, 1) := by decide +kernel
theorem dX10_calls_2 : decode cX10_calls 2 = .ok (.putfield 92, 3) := by decide +kernel
theorem dX10_calls_5 : decode cX10_calls 5 = .ok (.aload_n 0, 1) := by decide +kernel
theorem dX10_calls_6 : decode cX10_calls 6 = .ok (.invokevirtual 270, 3) := by decide +kernel
theorem dX10_calls_9 : decode cX10_calls 9 = .ok (.ifCond .eq 10, 3) := by decide +kernel
theorem dX10_calls_12 : decode cX10_calls 12 = .ok (.iload_n 1, 1) := by decide +kernel
theorem dX10_calls_13 : decode cX10_calls 13 = .ok (.invokestatic 328, 3) := by decide +kernel
theorem dX10_calls_16 : decode cX10_calls 16 = .ok (.ifCond .ne 6, 3) := by decide +kernel
theorem dX10_calls_19 : decode cX10_calls 19 = .ok (.bipush (-2), 2) := by decide +kernel
theorem dX10_calls_21 : decode cX10_calls 21 = .ok (.ireturn, 1) := by decide +kernel
theorem dX10_calls_22 : decode cX10_calls 22 = .ok (.aload_n 0, 1) := by decide +kernel
theorem dX10_calls_23 : decode cX10_calls 23 = .ok (.invokevirtual 331, 3) := by decide +kernel
theorem dX10_calls_26 : decode cX10_calls 26 = .ok (.iconst 0, 1) := by decide +kernel
theorem dX10_calls_27 : decode cX10_calls 27 = .ok (.istore_n 2, 1) := by decide +kernel
theorem dX10_calls_28 : decode cX10_calls 28 = .ok (.iconst 0, 1) := by decide +kernel
theorem dX10_calls_29 : decode cX10_calls 29 = .ok (.istore_n 3, 1) := by decide +kernel
theorem dX10_calls_30 : decode cX10_calls 30 = .ok (.iload_n 3, 1) := by decide +kernel
theorem dX10_calls_31 : decode cX10_calls 31 = .ok (.aload_n 0, 1) := by decide +kernel
theorem dX10_calls_32 : decode cX10_calls 32 = .ok (.invokevirtual 259, 3) := by decide +kernel
theorem dX10_calls_35 : decode cX10_calls 35 = .ok (.if_icmp .ge 41, 3) := by decide +kernel
theorem dX10_calls_38 : decode cX10_calls 38 = .ok (.iload_n 2, 1) := by decide +kernel
theorem dX10_calls_39 : decode cX10_calls 39 = .ok (.aload_n 0, 1) := by decide +kernel
theorem dX10_calls_40 : decode cX10_calls 40 = .ok (.getfield 53, 3) := by decide +kernel
theorem dX10_calls_43 : decode cX10_calls 43 = .ok (.bipush 41, 2) := by decide +kernel
theorem dX10_calls_45 : decode cX10_calls 45 = .ok (.iload_n 3, 1) := by decide +kernel
theorem dX10_calls_46 : decode cX10_calls 46 = .ok (.imul, 1) := by decide +kernel
theorem dX10_calls_47 : decode cX10_calls 47 = .ok (.iload_n 1, 1) := by decide +kernel
theorem dX10_calls_48 : decode cX10_calls 48 = .ok (.iadd, 1) := by decide +kernel
theorem dX10_calls_49 : decode cX10_calls 49 = .ok (.iaload, 1) := by decide +kernel
theorem dX10_calls_50 : decode cX10_calls 50 = .ok (.iconst (-1), 1) := by decide +kernel
theorem dX10_calls_51 : decode cX10_calls 51 = .ok (.if_icmp .ne 7, 3) := by decide +kernel
theorem dX10_calls_54 : decode cX10_calls 54 = .ok (.iconst 0, 1) := by decide +kernel
theorem dX10_calls_55 : decode cX10_calls 55 = .ok (.goto 13, 3) := by decide +kernel
theorem dX10_calls_58 : decode cX10_calls 58 = .ok (.aload_n 0, 1) := by decide +kernel
theorem dX10_calls_59 : decode cX10_calls 59 = .ok (.getfield 37, 3) := by decide +kernel
theorem dX10_calls_62 : decode cX10_calls 62 = .ok (.iconst 3, 1) := by decide +kernel
theorem dX10_calls_63 : decode cX10_calls 63 = .ok (.iload_n 3, 1) := by decide +kernel
theorem dX10_calls_64 : decode cX10_calls 64 = .ok (.imul, 1) := by decide +kernel
theorem dX10_calls_65 : decode cX10_calls 65 = .ok (.iconst 2, 1) := by decide +kernel
theorem dX10_calls_66 : decode cX10_calls 66 = .ok (.iadd, 1) := by decide +kernel
theorem dX10_calls_67 : decode cX10_calls 67 = .ok (.iaload, 1) := by decide +kernel
theorem dX10_calls_68 : decode cX10_calls 68 = .ok (.iadd, 1) := by decide +kernel
theorem dX10_calls_69 : decode cX10_calls 69 = .ok (.istore_n 2, 1) := by decide +kernel
theorem dX10_calls_70 : decode cX10_calls 70 = .ok (.iinc 3 1, 3) := by decide +kernel
theorem dX10_calls_73 : decode cX10_calls 73 = .ok (.goto (-43), 3) := by decide +kernel
theorem dX10_calls_76 : decode cX10_calls 76 = .ok (.iload_n 2, 1) := by decide +kernel
theorem dX10_calls_77 : decode cX10_calls 77 = .ok (.ireturn, 1) := by decide +kernel
theorem dX10_drawn_0 : decode cX10_drawn 0 = .ok (.aload_n 0, 1) := by decide +kernel
theorem dX10_drawn_1 : decode cX10_drawn 1 = .ok (.iconst 0, 1) := by decide +kernel
theorem dX10_drawn_2 : decode cX10_drawn 2 = .ok (.putfield 92, 3) := by decide +kernel
theorem dX10_drawn_5 : decode cX10_drawn 5 = .ok (.aload_n 0, 1) := by decide +kernel
theorem dX10_drawn_6 : decode cX10_drawn 6 = .ok (.invokevirtual 270, 3) := by decide +kernel
theorem dX10_drawn_9 : decode cX10_drawn 9 = .ok (.ifCond .eq 17, 3) := by decide +kernel
theorem dX10_drawn_12 : decode cX10_drawn 12 = .ok (.iload_n 1, 1) := by decide +kernel
theorem dX10_drawn_13 : decode cX10_drawn 13 = .ok (.invokestatic 498, 3) := by decide +kernel
theorem dX10_drawn_16 : decode cX10_drawn 16 = .ok (.ifCond .eq 10, 3) := by decide +kernel
theorem dX10_drawn_19 : decode cX10_drawn 19 = .ok (.iload_n 2, 1) := by decide +kernel
theorem dX10_drawn_20 : decode cX10_drawn 20 = .ok (.invokestatic 419, 3) := by decide +kernel
theorem dX10_drawn_23 : decode cX10_drawn 23 = .ok (.ifCond .ne 6, 3) := by decide +kernel
theorem dX10_drawn_26 : decode cX10_drawn 26 = .ok (.bipush (-2), 2) := by decide +kernel
theorem dX10_drawn_28 : decode cX10_drawn 28 = .ok (.ireturn, 1) := by decide +kernel
theorem dX10_drawn_29 : decode cX10_drawn 29 = .ok (.aload_n 0, 1) := by decide +kernel
theorem dX10_drawn_30 : decode cX10_drawn 30 = .ok (.iload_n 1, 1) := by decide +kernel
theorem dX10_drawn_31 : decode cX10_drawn 31 = .ok (.i2l, 1) := by decide +kernel
theorem dX10_drawn_32 : decode cX10_drawn 32 = .ok (.invokevirtual 501, 3) := by decide +kernel
theorem dX10_drawn_35 : decode cX10_drawn 35 = .ok (.iload_n 2, 1) := by decide +kernel
theorem dX10_drawn_36 : decode cX10_drawn 36 = .ok (.ifCond .ne 10, 3) := by decide +kernel
theorem dX10_drawn_39 : decode cX10_drawn 39 = .ok (.aload_n 0, 1) := by decide +kernel
theorem dX10_drawn_40 : decode cX10_drawn 40 = .ok (.getfield 279, 3) := by decide +kernel
theorem dX10_drawn_43 : decode cX10_drawn 43 = .ok (.goto 7, 3) := by decide +kernel
theorem dX10_drawn_46 : decode cX10_drawn 46 = .ok (.aload_n 0, 1) := by decide +kernel
theorem dX10_drawn_47 : decode cX10_drawn 47 = .ok (.invokevirtual 346, 3) := by decide +kernel
theorem dX10_drawn_50 : decode cX10_drawn 50 = .ok (.ireturn, 1) := by decide +kernel
theorem dX10_drawnFog_0 : decode cX10_drawnFog 0 = .ok (.lload_n 1, 1) := by decide +kernel
theorem dX10_drawnFog_1 : decode cX10_drawnFog 1 = .ok (.lstore_n 3, 1) := by decide +kernel
theorem dX10_drawnFog_2 : decode cX10_drawnFog 2 = .ok (.iconst 0, 1) := by decide +kernel
theorem dX10_drawnFog_3 : decode cX10_drawnFog 3 = .ok (.istore 5, 2) := by decide +kernel
theorem dX10_drawnFog_5 : decode cX10_drawnFog 5 = .ok (.iconst 0, 1) := by decide +kernel
theorem dX10_drawnFog_6 : decode cX10_drawnFog 6 = .ok (.istore 6, 2) := by decide +kernel
theorem dX10_drawnFog_8 : decode cX10_drawnFog 8 = .ok (.iload 6, 2) := by decide +kernel
theorem dX10_drawnFog_10 : decode cX10_drawnFog 10 = .ok (.aload_n 0, 1) := by decide +kernel
theorem dX10_drawnFog_11 : decode cX10_drawnFog 11 = .ok (.invokevirtual 259, 3) := by decide +kernel
theorem dX10_drawnFog_14 : decode cX10_drawnFog 14 = .ok (.if_icmp .ge 56, 3) := by decide +kernel
theorem dX10_drawnFog_17 : decode cX10_drawnFog 17 = .ok (.ldc2_w 482, 3) := by decide +kernel
theorem dX10_drawnFog_20 : decode cX10_drawnFog 20 = .ok (.lload_n 3, 1) := by decide +kernel
theorem dX10_drawnFog_21 : decode cX10_drawnFog 21 = .ok (.lmul, 1) := by decide +kernel
theorem dX10_drawnFog_22 : decode cX10_drawnFog 22 = .ok (.ldc2_w 484, 3) := by decide +kernel
theorem dX10_drawnFog_25 : decode cX10_drawnFog 25 = .ok (.ladd, 1) := by decide +kernel
theorem dX10_drawnFog_26 : decode cX10_drawnFog 26 = .ok (.ldc2_w 486, 3) := by decide +kernel
theorem dX10_drawnFog_29 : decode cX10_drawnFog 29 = .ok (.lrem, 1) := by decide +kernel
theorem dX10_drawnFog_30 : decode cX10_drawnFog 30 = .ok (.lstore_n 3, 1) := by decide +kernel
theorem dX10_drawnFog_31 : decode cX10_drawnFog 31 = .ok (.iload 5, 2) := by decide +kernel
theorem dX10_drawnFog_33 : decode cX10_drawnFog 33 = .ok (.lload_n 3, 1) := by decide +kernel
theorem dX10_drawnFog_34 : decode cX10_drawnFog 34 = .ok (.ldc2_w 488, 3) := by decide +kernel
theorem dX10_drawnFog_37 : decode cX10_drawnFog 37 = .ok (.ldiv, 1) := by decide +kernel
theorem dX10_drawnFog_38 : decode cX10_drawnFog 38 = .ok (.ldc2_w 490, 3) := by decide +kernel
theorem dX10_drawnFog_41 : decode cX10_drawnFog 41 = .ok (.lrem, 1) := by decide +kernel
theorem dX10_drawnFog_42 : decode cX10_drawnFog 42 = .ok (.aload_n 0, 1) := by decide +kernel
theorem dX10_drawnFog_43 : decode cX10_drawnFog 43 = .ok (.getfield 34, 3) := by decide +kernel
theorem dX10_drawnFog_46 : decode cX10_drawnFog 46 = .ok (.iconst 4, 1) := by decide +kernel
theorem dX10_drawnFog_47 : decode cX10_drawnFog 47 = .ok (.iaload, 1) := by decide +kernel
theorem dX10_drawnFog_48 : decode cX10_drawnFog 48 = .ok (.i2l, 1) := by decide +kernel
theorem dX10_drawnFog_49 : decode cX10_drawnFog 49 = .ok (.lcmp, 1) := by decide +kernel
theorem dX10_drawnFog_50 : decode cX10_drawnFog 50 = .ok (.ifCond .ge 10, 3) := by decide +kernel
theorem dX10_drawnFog_53 : decode cX10_drawnFog 53 = .ok (.iconst 1, 1) := by decide +kernel
theorem dX10_drawnFog_54 : decode cX10_drawnFog 54 = .ok (.iload 6, 2) := by decide +kernel
theorem dX10_drawnFog_56 : decode cX10_drawnFog 56 = .ok (.ishl, 1) := by decide +kernel
theorem dX10_drawnFog_57 : decode cX10_drawnFog 57 = .ok (.goto 4, 3) := by decide +kernel
theorem dX10_drawnFog_60 : decode cX10_drawnFog 60 = .ok (.iconst 0, 1) := by decide +kernel
theorem dX10_drawnFog_61 : decode cX10_drawnFog 61 = .ok (.ior, 1) := by decide +kernel
theorem dX10_drawnFog_62 : decode cX10_drawnFog 62 = .ok (.istore 5, 2) := by decide +kernel
theorem dX10_drawnFog_64 : decode cX10_drawnFog 64 = .ok (.iinc 6 1, 3) := by decide +kernel
theorem dX10_drawnFog_67 : decode cX10_drawnFog 67 = .ok (.goto (-59), 3) := by decide +kernel
theorem dX10_drawnFog_70 : decode cX10_drawnFog 70 = .ok (.iload 5, 2) := by decide +kernel
theorem dX10_drawnFog_72 : decode cX10_drawnFog 72 = .ok (.ireturn, 1) := by decide +kernel
theorem dX10_ears_0 : decode cX10_ears 0 = .ok (.aload_n 0, 1) := by decide +kernel
theorem dX10_ears_1 : decode cX10_ears 1 = .ok (.iconst 0, 1) := by decide +kernel
theorem dX10_ears_2 : decode cX10_ears 2 = .ok (.putfield 92, 3) := by decide +kernel
theorem dX10_ears_5 : decode cX10_ears 5 = .ok (.aload_n 0, 1) := by decide +kernel
theorem dX10_ears_6 : decode cX10_ears 6 = .ok (.iload_n 1, 1) := by decide +kernel
theorem dX10_ears_7 : decode cX10_ears 7 = .ok (.i2l, 1) := by decide +kernel
theorem dX10_ears_8 : decode cX10_ears 8 = .ok (.invokevirtual 340, 3) := by decide +kernel
theorem dX10_ears_11 : decode cX10_ears 11 = .ok (.ifCond .ne 6, 3) := by decide +kernel
theorem dX10_ears_14 : decode cX10_ears 14 = .ok (.bipush (-2), 2) := by decide +kernel
theorem dX10_ears_16 : decode cX10_ears 16 = .ok (.ireturn, 1) := by decide +kernel
theorem dX10_ears_17 : decode cX10_ears 17 = .ok (.aload_n 0, 1) := by decide +kernel
theorem dX10_ears_18 : decode cX10_ears 18 = .ok (.invokevirtual 331, 3) := by decide +kernel
theorem dX10_ears_21 : decode cX10_ears 21 = .ok (.aload_n 0, 1) := by decide +kernel
theorem dX10_ears_22 : decode cX10_ears 22 = .ok (.getfield 62, 3) := by decide +kernel
theorem dX10_ears_25 : decode cX10_ears 25 = .ok (.iload_n 1, 1) := by decide +kernel
theorem dX10_ears_26 : decode cX10_ears 26 = .ok (.iaload, 1) := by decide +kernel
theorem dX10_ears_27 : decode cX10_ears 27 = .ok (.ireturn, 1) := by decide +kernel
theorem dX10_end_0 : decode cX10_end 0 = .ok (.aload_n 0, 1) := by decide +kernel
theorem dX10_end_1 : decode cX10_end 1 = .ok (.iconst 0, 1) := by decide +kernel
theorem dX10_end_2 : decode cX10_end 2 = .ok (.putfield 92, 3) := by decide +kernel
theorem dX10_end_5 : decode cX10_end 5 = .ok (.iload_n 1, 1) := by decide +kernel
theorem dX10_end_6 : decode cX10_end 6 = .ok (.i2l, 1) := by decide +kernel
theorem dX10_end_7 : decode cX10_end 7 = .ok (.lconst 0, 1) := by decide +kernel
theorem dX10_end_8 : decode cX10_end 8 = .ok (.aload_n 0, 1) := by decide +kernel
theorem dX10_end_9 : decode cX10_end 9 = .ok (.getfield 109, 3) := by decide +kernel
theorem dX10_end_12 : decode cX10_end 12 = .ok (.i2l, 1) := by decide +kernel
theorem dX10_end_13 : decode cX10_end 13 = .ok (.invokestatic 97, 3) := by decide +kernel
theorem dX10_end_16 : decode cX10_end 16 = .ok (.ifCond .ne 5, 3) := by decide +kernel
theorem dX10_end_19 : decode cX10_end 19 = .ok (.iconst (-1), 1) := by decide +kernel
theorem dX10_end_20 : decode cX10_end 20 = .ok (.ireturn, 1) := by decide +kernel
theorem dX10_end_21 : decode cX10_end 21 = .ok (.aload_n 0, 1) := by decide +kernel
theorem dX10_end_22 : decode cX10_end 22 = .ok (.iload_n 1, 1) := by decide +kernel
theorem dX10_end_23 : decode cX10_end 23 = .ok (.putfield 109, 3) := by decide +kernel
theorem dX10_end_26 : decode cX10_end 26 = .ok (.iload_n 1, 1) := by decide +kernel
theorem dX10_end_27 : decode cX10_end 27 = .ok (.ireturn, 1) := by decide +kernel
theorem dX10_far_0 : decode cX10_far 0 = .ok (.iload_n 1, 1) := by decide +kernel
theorem dX10_far_1 : decode cX10_far 1 = .ok (.aload_n 0, 1) := by decide +kernel
theorem dX10_far_2 : decode cX10_far 2 = .ok (.getfield 34, 3) := by decide +kernel
theorem dX10_far_5 : decode cX10_far 5 = .ok (.iconst 0, 1) := by decide +kernel
theorem dX10_far_6 : decode cX10_far 6 = .ok (.iaload, 1) := by decide +kernel
theorem dX10_far_7 : decode cX10_far 7 = .ok (.irem, 1) := by decide +kernel
theorem dX10_far_8 : decode cX10_far 8 = .ok (.iload_n 2, 1) := by decide +kernel
theorem dX10_far_9 : decode cX10_far 9 = .ok (.aload_n 0, 1) := by decide +kernel
theorem dX10_far_10 : decode cX10_far 10 = .ok (.getfield 34, 3) := by decide +kernel
theorem dX10_far_13 : decode cX10_far 13 = .ok (.iconst 0, 1) := by decide +kernel
theorem dX10_far_14 : decode cX10_far 14 = .ok (.iaload, 1) := by decide +kernel
theorem dX10_far_15 : decode cX10_far 15 = .ok (.irem, 1) := by decide +kernel
theorem dX10_far_16 : decode cX10_far 16 = .ok (.isub, 1) := by decide +kernel
theorem dX10_far_17 : decode cX10_far 17 = .ok (.istore_n 3, 1) := by decide +kernel
theorem dX10_far_18 : decode cX10_far 18 = .ok (.iload_n 1, 1) := by decide +kernel
theorem dX10_far_19 : decode cX10_far 19 = .ok (.aload_n 0, 1) := by decide +kernel
theorem dX10_far_20 : decode cX10_far 20 = .ok (.getfield 34, 3) := by decide +kernel
theorem dX10_far_23 : decode cX10_far 23 = .ok (.iconst 0, 1) := by decide +kernel
theorem dX10_far_24 : decode cX10_far 24 = .ok (.iaload, 1) := by decide +kernel
theorem dX10_far_25 : decode cX10_far 25 = .ok (.idiv, 1) := by decide +kernel
theorem dX10_far_26 : decode cX10_far 26 = .ok (.iload_n 2, 1) := by decide +kernel
theorem dX10_far_27 : decode cX10_far 27 = .ok (.aload_n 0, 1) := by decide +kernel
theorem dX10_far_28 : decode cX10_far 28 = .ok (.getfield 34, 3) := by decide +kernel
theorem dX10_far_31 : decode cX10_far 31 = .ok (.iconst 0, 1) := by decide +kernel
theorem dX10_far_32 : decode cX10_far 32 = .ok (.iaload, 1) := by decide +kernel
theorem dX10_far_33 : decode cX10_far 33 = .ok (.idiv, 1) := by decide +kernel
theorem dX10_far_34 : decode cX10_far 34 = .ok (.isub, 1) := by decide +kernel
theorem dX10_far_35 : decode cX10_far 35 = .ok (.istore 4, 2) := by decide +kernel
theorem dX10_far_37 : decode cX10_far 37 = .ok (.iload_n 3, 1) := by decide +kernel
theorem dX10_far_38 : decode cX10_far 38 = .ok (.ifCond .ge 8, 3) := by decide +kernel
theorem dX10_far_41 : decode cX10_far 41 = .ok (.iload_n 3, 1) := by decide +kernel
theorem dX10_far_42 : decode cX10_far 42 = .ok (.ineg, 1) := by decide +kernel
theorem dX10_far_43 : decode cX10_far 43 = .ok (.goto 4, 3) := by decide +kernel
theorem dX10_far_46 : decode cX10_far 46 = .ok (.iload_n 3, 1) := by decide +kernel
theorem dX10_far_47 : decode cX10_far 47 = .ok (.iload 4, 2) := by decide +kernel
theorem dX10_far_49 : decode cX10_far 49 = .ok (.ifCond .ge 9, 3) := by decide +kernel
theorem dX10_far_52 : decode cX10_far 52 = .ok (.iload 4, 2) := by decide +kernel
theorem dX10_far_54 : decode cX10_far 54 = .ok (.ineg, 1) := by decide +kernel
theorem dX10_far_55 : decode cX10_far 55 = .ok (.goto 5, 3) := by decide +kernel
theorem dX10_far_58 : decode cX10_far 58 = .ok (.iload 4, 2) := by decide +kernel
theorem dX10_far_60 : decode cX10_far 60 = .ok (.iadd, 1) := by decide +kernel
theorem dX10_far_61 : decode cX10_far 61 = .ok (.ireturn, 1) := by decide +kernel
theorem dX10_farthest_0 : decode cX10_farthest 0 = .ok (.aload_n 0, 1) := by decide +kernel
theorem dX10_farthest_1 : decode cX10_farthest 1 = .ok (.iconst 0, 1) := by decide +kernel
theorem dX10_farthest_2 : decode cX10_farthest 2 = .ok (.putfield 92, 3) := by decide +kernel
theorem dX10_farthest_5 : decode cX10_farthest 5 = .ok (.aload_n 0, 1) := by decide +kernel
theorem dX10_farthest_6 : decode cX10_farthest 6 = .ok (.iload_n 1, 1) := by decide +kernel
theorem dX10_farthest_7 : decode cX10_farthest 7 = .ok (.i2l, 1) := by decide +kernel
theorem dX10_farthest_8 : decode cX10_farthest 8 = .ok (.invokevirtual 323, 3) := by decide +kernel
theorem dX10_farthest_11 : decode cX10_farthest 11 = .ok (.ifCond .ne 6, 3) := by decide +kernel
theorem dX10_farthest_14 : decode cX10_farthest 14 = .ok (.bipush (-2), 2) := by decide +kernel
theorem dX10_farthest_16 : decode cX10_farthest 16 = .ok (.ireturn, 1) := by decide +kernel
theorem dX10_farthest_17 : decode cX10_farthest 17 = .ok (.aload_n 0, 1) := by decide +kernel
theorem dX10_farthest_18 : decode cX10_farthest 18 = .ok (.invokevirtual 331, 3) := by decide +kernel
theorem dX10_farthest_21 : decode cX10_farthest 21 = .ok (.iconst (-1), 1) := by decide +kernel
theorem dX10_farthest_22 : decode cX10_farthest 22 = .ok (.istore_n 2, 1) := by decide +kernel
theorem dX10_farthest_23 : decode cX10_farthest 23 = .ok (.iconst 0, 1) := by decide +kernel
theorem dX10_farthest_24 : decode cX10_farthest 24 = .ok (.istore_n 3, 1) := by decide +kernel
theorem dX10_farthest_25 : decode cX10_farthest 25 = .ok (.iload_n 3, 1) := by decide +kernel
theorem dX10_farthest_26 : decode cX10_farthest 26 = .ok (.aload_n 0, 1) := by decide +kernel
theorem dX10_farthest_27 : decode cX10_farthest 27 = .ok (.invokevirtual 256, 3) := by decide +kernel
theorem dX10_farthest_30 : decode cX10_farthest 30 = .ok (.if_icmp .ge 57, 3) := by decide +kernel
theorem dX10_farthest_33 : decode cX10_farthest 33 = .ok (.aload_n 0, 1) := by decide +kernel
theorem dX10_farthest_34 : decode cX10_farthest 34 = .ok (.iload_n 1, 1) := by decide +kernel
theorem dX10_farthest_35 : decode cX10_farthest 35 = .ok (.invokevirtual 337, 3) := by decide +kernel
theorem dX10_farthest_38 : decode cX10_farthest 38 = .ok (.iload_n 3, 1) := by decide +kernel
theorem dX10_farthest_39 : decode cX10_farthest 39 = .ok (.invokestatic 282, 3) := by decide +kernel
theorem dX10_farthest_42 : decode cX10_farthest 42 = .ok (.ifCond .eq 39, 3) := by decide +kernel
theorem dX10_farthest_45 : decode cX10_farthest 45 = .ok (.iload_n 2, 1) := by decide +kernel
theorem dX10_farthest_46 : decode cX10_farthest 46 = .ok (.iconst (-1), 1) := by decide +kernel
theorem dX10_farthest_47 : decode cX10_farthest 47 = .ok (.if_icmp .eq 32, 3) := by decide +kernel
theorem dX10_farthest_50 : decode cX10_farthest 50 = .ok (.aload_n 0, 1) := by decide +kernel
theorem dX10_farthest_51 : decode cX10_farthest 51 = .ok (.iload_n 3, 1) := by decide +kernel
theorem dX10_farthest_52 : decode cX10_farthest 52 = .ok (.aload_n 0, 1) := by decide +kernel
theorem dX10_farthest_53 : decode cX10_farthest 53 = .ok (.getfield 37, 3) := by decide +kernel
theorem dX10_farthest_56 : decode cX10_farthest 56 = .ok (.iconst 3, 1) := by decide +kernel
theorem dX10_farthest_57 : decode cX10_farthest 57 = .ok (.iload_n 1, 1) := by decide +kernel
theorem dX10_farthest_58 : decode cX10_farthest 58 = .ok (.imul, 1) := by decide +kernel
theorem dX10_farthest_59 : decode cX10_farthest 59 = .ok (.iaload, 1) := by decide +kernel
theorem dX10_farthest_60 : decode cX10_farthest 60 = .ok (.invokevirtual 292, 3) := by decide +kernel
theorem dX10_farthest_63 : decode cX10_farthest 63 = .ok (.aload_n 0, 1) := by decide +kernel
theorem dX10_farthest_64 : decode cX10_farthest 64 = .ok (.iload_n 2, 1) := by decide +kernel
theorem dX10_farthest_65 : decode cX10_farthest 65 = .ok (.aload_n 0, 1) := by decide +kernel
theorem dX10_farthest_66 : decode cX10_farthest 66 = .ok (.getfield 37, 3) := by decide +kernel
theorem dX10_farthest_69 : decode cX10_farthest 69 = .ok (.iconst 3, 1) := by decide +kernel
theorem dX10_farthest_70 : decode cX10_farthest 70 = .ok (.iload_n 1, 1) := by decide +kernel
theorem dX10_farthest_71 : decode cX10_farthest 71 = .ok (.imul, 1) := by decide +kernel
theorem dX10_farthest_72 : decode cX10_farthest 72 = .ok (.iaload, 1) := by decide +kernel
theorem dX10_farthest_73 : decode cX10_farthest 73 = .ok (.invokevirtual 292, 3) := by decide +kernel
theorem dX10_farthest_76 : decode cX10_farthest 76 = .ok (.if_icmp .le 5, 3) := by decide +kernel
theorem dX10_farthest_79 : decode cX10_farthest 79 = .ok (.iload_n 3, 1) := by decide +kernel
theorem dX10_farthest_80 : decode cX10_farthest 80 = .ok (.istore_n 2, 1) := by decide +kernel
theorem dX10_farthest_81 : decode cX10_farthest 81 = .ok (.iinc 3 1, 3) := by decide +kernel
theorem dX10_farthest_84 : decode cX10_farthest 84 = .ok (.goto (-59), 3) := by decide +kernel
theorem dX10_farthest_87 : decode cX10_farthest 87 = .ok (.iload_n 2, 1) := by decide +kernel
theorem dX10_farthest_88 : decode cX10_farthest 88 = .ok (.ireturn, 1) := by decide +kernel
theorem dX10_fault_0 : decode cX10_fault 0 = .ok (.aload_n 0, 1) := by decide +kernel
theorem dX10_fault_1 : decode cX10_fault 1 = .ok (.iconst 0, 1) := by decide +kernel
theorem dX10_fault_2 : decode cX10_fault 2 = .ok (.putfield 92, 3) := by decide +kernel
theorem dX10_fault_5 : decode cX10_fault 5 = .ok (.iload_n 1, 1) := by decide +kernel
theorem dX10_fault_6 : decode cX10_fault 6 = .ok (.ifCond .ne 10, 3) := by decide +kernel
theorem dX10_fault_9 : decode cX10_fault 9 = .ok (.aload_n 0, 1) := by decide +kernel
theorem dX10_fault_10 : decode cX10_fault 10 = .ok (.getfield 171, 3) := by decide +kernel
theorem dX10_fault_13 : decode cX10_fault 13 = .ok (.goto 16, 3) := by decide +kernel
theorem dX10_fault_16 : decode cX10_fault 16 = .ok (.iload_n 1, 1) := by decide +kernel
theorem dX10_fault_17 : decode cX10_fault 17 = .ok (.iconst 1, 1) := by decide +kernel
theorem dX10_fault_18 : decode cX10_fault 18 = .ok (.if_icmp .ne 10, 3) := by decide +kernel
theorem dX10_fault_21 : decode cX10_fault 21 = .ok (.aload_n 0, 1) := by decide +kernel
theorem dX10_fault_22 : decode cX10_fault 22 = .ok (.getfield 27, 3) := by decide +kernel
theorem dX10_fault_25 : decode cX10_fault 25 = .ok (.goto 4, 3) := by decide +kernel
theorem dX10_fault_28 : decode cX10_fault 28 = .ok (.iconst (-1), 1) := by decide +kernel
theorem dX10_fault_29 : decode cX10_fault 29 = .ok (.ireturn, 1) := by decide +kernel
theorem dX10_first_0 : decode cX10_first 0 = .ok (.aload_n 0, 1) := by decide +kernel
theorem dX10_first_1 : decode cX10_first 1 = .ok (.iconst 0, 1) := by decide +kernel
theorem dX10_first_2 : decode cX10_first 2 = .ok (.putfield 92, 3) := by decide +kernel
theorem dX10_first_5 : decode cX10_first 5 = .ok (.aload_n 0, 1) := by decide +kernel
theorem dX10_first_6 : decode cX10_first 6 = .ok (.invokevirtual 270, 3) := by decide +kernel
theorem dX10_first_9 : decode cX10_first 9 = .ok (.ifCond .ne 6, 3) := by decide +kernel
theorem dX10_first_12 : decode cX10_first 12 = .ok (.bipush (-2), 2) := by decide +kernel
theorem dX10_first_14 : decode cX10_first 14 = .ok (.ireturn, 1) := by decide +kernel
theorem dX10_first_15 : decode cX10_first 15 = .ok (.aload_n 0, 1) := by decide +kernel
theorem dX10_first_16 : decode cX10_first 16 = .ok (.invokevirtual 331, 3) := by decide +kernel
theorem dX10_first_19 : decode cX10_first 19 = .ok (.aload_n 0, 1) := by decide +kernel
theorem dX10_first_20 : decode cX10_first 20 = .ok (.invokevirtual 352, 3) := by decide +kernel
theorem dX10_first_23 : decode cX10_first 23 = .ok (.istore_n 1, 1) := by decide +kernel
theorem dX10_first_24 : decode cX10_first 24 = .ok (.iconst 0, 1) := by decide +kernel
theorem dX10_first_25 : decode cX10_first 25 = .ok (.istore_n 2, 1) := by decide +kernel
theorem dX10_first_26 : decode cX10_first 26 = .ok (.iload_n 2, 1) := by decide +kernel
theorem dX10_first_27 : decode cX10_first 27 = .ok (.bipush 40, 2) := by decide +kernel
theorem dX10_first_29 : decode cX10_first 29 = .ok (.if_icmp .gt 71, 3) := by decide +kernel
theorem dX10_first_32 : decode cX10_first 32 = .ok (.iconst 0, 1) := by decide +kernel
theorem dX10_first_33 : decode cX10_first 33 = .ok (.istore_n 3, 1) := by decide +kernel
theorem dX10_first_34 : decode cX10_first 34 = .ok (.iload_n 3, 1) := by decide +kernel
theorem dX10_first_35 : decode cX10_first 35 = .ok (.aload_n 0, 1) := by decide +kernel
theorem dX10_first_36 : decode cX10_first 36 = .ok (.invokevirtual 262, 3) := by decide +kernel
theorem dX10_first_39 : decode cX10_first 39 = .ok (.if_icmp .ge 55, 3) := by decide +kernel
theorem dX10_first_42 : decode cX10_first 42 = .ok (.iconst 0, 1) := by decide +kernel
theorem dX10_first_43 : decode cX10_first 43 = .ok (.istore 4, 2) := by decide +kernel
theorem dX10_first_45 : decode cX10_first 45 = .ok (.iload 4, 2) := by decide +kernel
theorem dX10_first_47 : decode cX10_first 47 = .ok (.aload_n 0, 1) := by decide +kernel
theorem dX10_first_48 : decode cX10_first 48 = .ok (.invokevirtual 259, 3) := by decide +kernel
theorem dX10_first_51 : decode cX10_first 51 = .ok (.if_icmp .ge 37, 3) := by decide +kernel
theorem dX10_first_54 : decode cX10_first 54 = .ok (.iload_n 1, 1) := by decide +kernel
theorem dX10_first_55 : decode cX10_first 55 = .ok (.iload_n 3, 1) := by decide +kernel
theorem dX10_first_56 : decode cX10_first 56 = .ok (.invokestatic 282, 3) := by decide +kernel
theorem dX10_first_59 : decode cX10_first 59 = .ok (.ifCond .eq 23, 3) := by decide +kernel
theorem dX10_first_62 : decode cX10_first 62 = .ok (.aload_n 0, 1) := by decide +kernel
theorem dX10_first_63 : decode cX10_first 63 = .ok (.iload 4, 2) := by decide +kernel
theorem dX10_first_65 : decode cX10_first 65 = .ok (.iload_n 2, 1) := by decide +kernel
theorem dX10_first_66 : decode cX10_first 66 = .ok (.aload_n 0, 1) := by decide +kernel
theorem dX10_first_67 : decode cX10_first 67 = .ok (.getfield 40, 3) := by decide +kernel
theorem dX10_first_70 : decode cX10_first 70 = .ok (.iconst 3, 1) := by decide +kernel
theorem dX10_first_71 : decode cX10_first 71 = .ok (.iload_n 3, 1) := by decide +kernel
theorem dX10_first_72 : decode cX10_first 72 = .ok (.imul, 1) := by decide +kernel
theorem dX10_first_73 : decode cX10_first 73 = .ok (.iaload, 1) := by decide +kernel
theorem dX10_first_74 : decode cX10_first 74 = .ok (.invokevirtual 295, 3) := by decide +kernel
theorem dX10_first_77 : decode cX10_first 77 = .ok (.ifCond .eq 5, 3) := by decide +kernel
theorem dX10_first_80 : decode cX10_first 80 = .ok (.iload_n 2, 1) := by decide +kernel
theorem dX10_first_81 : decode cX10_first 81 = .ok (.ireturn, 1) := by decide +kernel
theorem dX10_first_82 : decode cX10_first 82 = .ok (.iinc 4 1, 3) := by decide +kernel
theorem dX10_first_85 : decode cX10_first 85 = .ok (.goto (-40), 3) := by decide +kernel
theorem dX10_first_88 : decode cX10_first 88 = .ok (.iinc 3 1, 3) := by decide +kernel
theorem dX10_first_91 : decode cX10_first 91 = .ok (.goto (-57), 3) := by decide +kernel
theorem dX10_first_94 : decode cX10_first 94 = .ok (.iinc 2 1, 3) := by decide +kernel
theorem dX10_first_97 : decode cX10_first 97 = .ok (.goto (-71), 3) := by decide +kernel
theorem dX10_first_100 : decode cX10_first 100 = .ok (.iconst (-1), 1) := by decide +kernel
theorem dX10_first_101 : decode cX10_first 101 = .ok (.ireturn, 1) := by decide +kernel
theorem dX10_flies_0 : decode cX10_flies 0 = .ok (.iload_n 2, 1) := by decide +kernel
theorem dX10_flies_1 : decode cX10_flies 1 = .ok (.istore 4, 2) := by decide +kernel
theorem dX10_flies_3 : decode cX10_flies 3 = .ok (.iload_n 3, 1) := by decide +kernel
theorem dX10_flies_4 : decode cX10_flies 4 = .ok (.istore 5, 2) := by decide +kernel
theorem dX10_flies_6 : decode cX10_flies 6 = .ok (.aload_n 0, 1) := by decide +kernel
theorem dX10_flies_7 : decode cX10_flies 7 = .ok (.getfield 59, 3) := by decide +kernel
theorem dX10_flies_10 : decode cX10_flies 10 = .ok (.iload_n 1, 1) := by decide +kernel
theorem dX10_flies_11 : decode cX10_flies 11 = .ok (.iconst 0, 1) := by decide +kernel
theorem dX10_flies_12 : decode cX10_flies 12 = .ok (.iastore, 1) := by decide +kernel
theorem dX10_flies_13 : decode cX10_flies 13 = .ok (.iconst 0, 1) := by decide +kernel
theorem dX10_flies_14 : decode cX10_flies 14 = .ok (.istore 6, 2) := by decide +kernel
theorem dX10_flies_16 : decode cX10_flies 16 = .ok (.iload 6, 2) := by decide +kernel
theorem dX10_flies_18 : decode cX10_flies 18 = .ok (.bipush 40, 2) := by decide +kernel
theorem dX10_flies_20 : decode cX10_flies 20 = .ok (.if_icmp .gt 101, 3) := by decide +kernel
theorem dX10_flies_23 : decode cX10_flies 23 = .ok (.aload_n 0, 1) := by decide +kernel
theorem dX10_flies_24 : decode cX10_flies 24 = .ok (.getfield 53, 3) := by decide +kernel
theorem dX10_flies_27 : decode cX10_flies 27 = .ok (.bipush 41, 2) := by decide +kernel
theorem dX10_flies_29 : decode cX10_flies 29 = .ok (.iload_n 1, 1) := by decide +kernel
theorem dX10_flies_30 : decode cX10_flies 30 = .ok (.imul, 1) := by decide +kernel
theorem dX10_flies_31 : decode cX10_flies 31 = .ok (.iload 6, 2) := by decide +kernel
theorem dX10_flies_33 : decode cX10_flies 33 = .ok (.iadd, 1) := by decide +kernel
theorem dX10_flies_34 : decode cX10_flies 34 = .ok (.iload 4, 2) := by decide +kernel
theorem dX10_flies_36 : decode cX10_flies 36 = .ok (.iastore, 1) := by decide +kernel
theorem dX10_flies_37 : decode cX10_flies 37 = .ok (.aload_n 0, 1) := by decide +kernel
theorem dX10_flies_38 : decode cX10_flies 38 = .ok (.getfield 56, 3) := by decide +kernel
theorem dX10_flies_41 : decode cX10_flies 41 = .ok (.bipush 41, 2) := by decide +kernel
theorem dX10_flies_43 : decode cX10_flies 43 = .ok (.iload_n 1, 1) := by decide +kernel
theorem dX10_flies_44 : decode cX10_flies 44 = .ok (.imul, 1) := by decide +kernel
theorem dX10_flies_45 : decode cX10_flies 45 = .ok (.iload 6, 2) := by decide +kernel
theorem dX10_flies_47 : decode cX10_flies 47 = .ok (.iadd, 1) := by decide +kernel
theorem dX10_flies_48 : decode cX10_flies 48 = .ok (.iconst (-1), 1) := by decide +kernel
theorem dX10_flies_49 : decode cX10_flies 49 = .ok (.iastore, 1) := by decide +kernel
theorem dX10_flies_50 : decode cX10_flies 50 = .ok (.iload 4, 2) := by decide +kernel
theorem dX10_flies_52 : decode cX10_flies 52 = .ok (.iconst (-1), 1) := by decide +kernel
theorem dX10_flies_53 : decode cX10_flies 53 = .ok (.if_icmp .ne 6, 3) := by decide +kernel
theorem dX10_flies_56 : decode cX10_flies 56 = .ok (.goto 59, 3) := by decide +kernel
theorem dX10_flies_59 : decode cX10_flies 59 = .ok (.aload_n 0, 1) := by decide +kernel
theorem dX10_flies_60 : decode cX10_flies 60 = .ok (.getfield 273, 3) := by decide +kernel
theorem dX10_flies_63 : decode cX10_flies 63 = .ok (.iload 4, 2) := by decide +kernel
theorem dX10_flies_65 : decode cX10_flies 65 = .ok (.invokestatic 282, 3) := by decide +kernel
theorem dX10_flies_68 : decode cX10_flies 68 = .ok (.ifCond .eq 23, 3) := by decide +kernel
theorem dX10_flies_71 : decode cX10_flies 71 = .ok (.aload_n 0, 1) := by decide +kernel
theorem dX10_flies_72 : decode cX10_flies 72 = .ok (.iload 5, 2) := by decide +kernel
theorem dX10_flies_74 : decode cX10_flies 74 = .ok (.iload 6, 2) := by decide +kernel
theorem dX10_flies_76 : decode cX10_flies 76 = .ok (.invokevirtual 286, 3) := by decide +kernel
theorem dX10_flies_79 : decode cX10_flies 79 = .ok (.istore 5, 2) := by decide +kernel
theorem dX10_flies_81 : decode cX10_flies 81 = .ok (.aload_n 0, 1) := by decide +kernel
theorem dX10_flies_82 : decode cX10_flies 82 = .ok (.getfield 59, 3) := by decide +kernel
theorem dX10_flies_85 : decode cX10_flies 85 = .ok (.iload_n 1, 1) := by decide +kernel
theorem dX10_flies_86 : decode cX10_flies 86 = .ok (.dup2, 1) := by decide +kernel
theorem dX10_flies_87 : decode cX10_flies 87 = .ok (.iaload, 1) := by decide +kernel
theorem dX10_flies_88 : decode cX10_flies 88 = .ok (.iconst 1, 1) := by decide +kernel
theorem dX10_flies_89 : decode cX10_flies 89 = .ok (.iadd, 1) := by decide +kernel
theorem dX10_flies_90 : decode cX10_flies 90 = .ok (.iastore, 1) := by decide +kernel
theorem dX10_flies_91 : decode cX10_flies 91 = .ok (.aload_n 0, 1) := by decide +kernel
theorem dX10_flies_92 : decode cX10_flies 92 = .ok (.getfield 56, 3) := by decide +kernel
theorem dX10_flies_95 : decode cX10_flies 95 = .ok (.bipush 41, 2) := by decide +kernel
theorem dX10_flies_97 : decode cX10_flies 97 = .ok (.iload_n 1, 1) := by decide +kernel
theorem dX10_flies_98 : decode cX10_flies 98 = .ok (.imul, 1) := by decide +kernel
theorem dX10_flies_99 : decode cX10_flies 99 = .ok (.iload 6, 2) := by decide +kernel
theorem dX10_flies_101 : decode cX10_flies 101 = .ok (.iadd, 1) := by decide +kernel
theorem dX10_flies_102 : decode cX10_flies 102 = .ok (.iload 5, 2) := by decide +kernel
theorem dX10_flies_104 : decode cX10_flies 104 = .ok (.iastore, 1) := by decide +kernel
theorem dX10_flies_105 : decode cX10_flies 105 = .ok (.aload_n 0, 1) := by decide +kernel
theorem dX10_flies_106 : decode cX10_flies 106 = .ok (.iload 4, 2) := by decide +kernel
theorem dX10_flies_108 : decode cX10_flies 108 = .ok (.iload 5, 2) := by decide +kernel
theorem dX10_flies_110 : decode cX10_flies 110 = .ok (.invokevirtual 289, 3) := by decide +kernel
theorem dX10_flies_113 : decode cX10_flies 113 = .ok (.istore 4, 2) := by decide +kernel
theorem dX10_flies_115 : decode cX10_flies 115 = .ok (.iinc 6 1, 3) := by decide +kernel
theorem dX10_flies_118 : decode cX10_flies 118 = .ok (.goto (-102), 3) := by decide +kernel
theorem dX10_flies_121 : decode cX10_flies 121 = .ok (.return_, 1) := by decide +kernel
theorem dX10_flight_0 : decode cX10_flight 0 = .ok (.aload_n 0, 1) := by decide +kernel
theorem dX10_flight_1 : decode cX10_flight 1 = .ok (.iconst 0, 1) := by decide +kernel
theorem dX10_flight_2 : decode cX10_flight 2 = .ok (.putfield 92, 3) := by decide +kernel
theorem dX10_flight_5 : decode cX10_flight 5 = .ok (.aload_n 0, 1) := by decide +kernel
theorem dX10_flight_6 : decode cX10_flight 6 = .ok (.iload_n 1, 1) := by decide +kernel
theorem dX10_flight_7 : decode cX10_flight 7 = .ok (.i2l, 1) := by decide +kernel
theorem dX10_flight_8 : decode cX10_flight 8 = .ok (.invokevirtual 323, 3) := by decide +kernel
theorem dX10_flight_11 : decode cX10_flight 11 = .ok (.ifCond .eq 15, 3) := by decide +kernel
theorem dX10_flight_14 : decode cX10_flight 14 = .ok (.iload_n 2, 1) := by decide +kernel
theorem dX10_flight_15 : decode cX10_flight 15 = .ok (.i2l, 1) := by decide +kernel
theorem dX10_flight_16 : decode cX10_flight 16 = .ok (.lconst 0, 1) := by decide +kernel
theorem dX10_flight_17 : decode cX10_flight 17 = .ok (.ldc2_w 326, 3) := by decide +kernel
theorem dX10_flight_20 : decode cX10_flight 20 = .ok (.invokestatic 97, 3) := by decide +kernel
theorem dX10_flight_23 : decode cX10_flight 23 = .ok (.ifCond .ne 6, 3) := by decide +kernel
theorem dX10_flight_26 : decode cX10_flight 26 = .ok (.bipush (-2), 2) := by decide +kernel
theorem dX10_flight_28 : decode cX10_flight 28 = .ok (.ireturn, 1) := by decide +kernel
theorem dX10_flight_29 : decode cX10_flight 29 = .ok (.aload_n 0, 1) := by decide +kernel
theorem dX10_flight_30 : decode cX10_flight 30 = .ok (.invokevirtual 308, 3) := by decide +kernel
theorem dX10_flight_33 : decode cX10_flight 33 = .ok (.iload_n 2, 1) := by decide +kernel
theorem dX10_flight_34 : decode cX10_flight 34 = .ok (.iconst 1, 1) := by decide +kernel
theorem dX10_flight_35 : decode cX10_flight 35 = .ok (.if_icmp .ne 12, 3) := by decide +kernel
theorem dX10_flight_38 : decode cX10_flight 38 = .ok (.aload_n 0, 1) := by decide +kernel
theorem dX10_flight_39 : decode cX10_flight 39 = .ok (.getfield 50, 3) := by decide +kernel
theorem dX10_flight_42 : decode cX10_flight 42 = .ok (.iload_n 1, 1) := by decide +kernel
theorem dX10_flight_43 : decode cX10_flight 43 = .ok (.iaload, 1) := by decide +kernel
theorem dX10_flight_44 : decode cX10_flight 44 = .ok (.goto 13, 3) := by decide +kernel
theorem dX10_flight_47 : decode cX10_flight 47 = .ok (.aload_n 0, 1) := by decide +kernel
theorem dX10_flight_48 : decode cX10_flight 48 = .ok (.getfield 37, 3) := by decide +kernel
theorem dX10_flight_51 : decode cX10_flight 51 = .ok (.iconst 3, 1) := by decide +kernel
theorem dX10_flight_52 : decode cX10_flight 52 = .ok (.iload_n 1, 1) := by decide +kernel
theorem dX10_flight_53 : decode cX10_flight 53 = .ok (.imul, 1) := by decide +kernel
theorem dX10_flight_54 : decode cX10_flight 54 = .ok (.iload_n 2, 1) := by decide +kernel
theorem dX10_flight_55 : decode cX10_flight 55 = .ok (.iadd, 1) := by decide +kernel
theorem dX10_flight_56 : decode cX10_flight 56 = .ok (.iaload, 1) := by decide +kernel
theorem dX10_flight_57 : decode cX10_flight 57 = .ok (.ireturn, 1) := by decide +kernel
theorem dX10_fogWeight_0 : decode cX10_fogWeight 0 = .ok (.iconst 1, 1) := by decide +kernel
theorem dX10_fogWeight_1 : decode cX10_fogWeight 1 = .ok (.istore_n 2, 1) := by decide +kernel
theorem dX10_fogWeight_2 : decode cX10_fogWeight 2 = .ok (.iconst 0, 1) := by decide +kernel
theorem dX10_fogWeight_3 : decode cX10_fogWeight 3 = .ok (.istore_n 3, 1) := by decide +kernel
theorem dX10_fogWeight_4 : decode cX10_fogWeight 4 = .ok (.iload_n 3, 1) := by decide +kernel
theorem dX10_fogWeight_5 : decode cX10_fogWeight 5 = .ok (.aload_n 0, 1) := by decide +kernel
theorem dX10_fogWeight_6 : decode cX10_fogWeight 6 = .ok (.invokevirtual 259, 3) := by decide +kernel
theorem dX10_fogWeight_9 : decode cX10_fogWeight 9 = .ok (.if_icmp .ge 38, 3) := by decide +kernel
theorem dX10_fogWeight_12 : decode cX10_fogWeight 12 = .ok (.iload_n 2, 1) := by decide +kernel
theorem dX10_fogWeight_13 : decode cX10_fogWeight 13 = .ok (.iload_n 1, 1) := by decide +kernel
theorem dX10_fogWeight_14 : decode cX10_fogWeight 14 = .ok (.iload_n 3, 1) := by decide +kernel
theorem dX10_fogWeight_15 : decode cX10_fogWeight 15 = .ok (.invokestatic 282, 3) := by decide +kernel
theorem dX10_fogWeight_18 : decode cX10_fogWeight 18 = .ok (.ifCond .eq 12, 3) := by decide +kernel
theorem dX10_fogWeight_21 : decode cX10_fogWeight 21 = .ok (.aload_n 0, 1) := by decide +kernel
theorem dX10_fogWeight_22 : decode cX10_fogWeight 22 = .ok (.getfield 34, 3) := by decide +kernel
theorem dX10_fogWeight_25 : decode cX10_fogWeight 25 = .ok (.iconst 4, 1) := by decide +kernel
theorem dX10_fogWeight_26 : decode cX10_fogWeight 26 = .ok (.iaload, 1) := by decide +kernel
theorem dX10_fogWeight_27 : decode cX10_fogWeight 27 = .ok (.goto 12, 3) := by decide +kernel
theorem dX10_fogWeight_30 : decode cX10_fogWeight 30 = .ok (.bipush 10, 2) := by decide +kernel
theorem dX10_fogWeight_32 : decode cX10_fogWeight 32 = .ok (.aload_n 0, 1) := by decide +kernel
theorem dX10_fogWeight_33 : decode cX10_fogWeight 33 = .ok (.getfield 34, 3) := by decide +kernel
theorem dX10_fogWeight_36 : decode cX10_fogWeight 36 = .ok (.iconst 4, 1) := by decide +kernel
theorem dX10_fogWeight_37 : decode cX10_fogWeight 37 = .ok (.iaload, 1) := by decide +kernel
theorem dX10_fogWeight_38 : decode cX10_fogWeight 38 = .ok (.isub, 1) := by decide +kernel
theorem dX10_fogWeight_39 : decode cX10_fogWeight 39 = .ok (.imul, 1) := by decide +kernel
theorem dX10_fogWeight_40 : decode cX10_fogWeight 40 = .ok (.istore_n 2, 1) := by decide +kernel
theorem dX10_fogWeight_41 : decode cX10_fogWeight 41 = .ok (.iinc 3 1, 3) := by decide +kernel
theorem dX10_fogWeight_44 : decode cX10_fogWeight 44 = .ok (.goto (-40), 3) := by decide +kernel
theorem dX10_fogWeight_47 : decode cX10_fogWeight 47 = .ok (.iload_n 2, 1) := by decide +kernel
theorem dX10_fogWeight_48 : decode cX10_fogWeight 48 = .ok (.ireturn, 1) := by decide +kernel
theorem dX10_geese_0 : decode cX10_geese 0 = .ok (.aload_n 0, 1) := by decide +kernel
theorem dX10_geese_1 : decode cX10_geese 1 = .ok (.iconst 0, 1) := by decide +kernel
theorem dX10_geese_2 : decode cX10_geese 2 = .ok (.putfield 92, 3) := by decide +kernel
theorem dX10_geese_5 : decode cX10_geese 5 = .ok (.aload_n 0, 1) := by decide +kernel
theorem dX10_geese_6 : decode cX10_geese 6 = .ok (.iload_n 1, 1) := by decide +kernel
theorem dX10_geese_7 : decode cX10_geese 7 = .ok (.i2l, 1) := by decide +kernel
theorem dX10_geese_8 : decode cX10_geese 8 = .ok (.invokevirtual 340, 3) := by decide +kernel
theorem dX10_geese_11 : decode cX10_geese 11 = .ok (.ifCond .eq 10, 3) := by decide +kernel
theorem dX10_geese_14 : decode cX10_geese 14 = .ok (.iload_n 2, 1) := by decide +kernel
theorem dX10_geese_15 : decode cX10_geese 15 = .ok (.invokestatic 328, 3) := by decide +kernel
theorem dX10_geese_18 : decode cX10_geese 18 = .ok (.ifCond .ne 6, 3) := by decide +kernel
theorem dX10_geese_21 : decode cX10_geese 21 = .ok (.bipush (-2), 2) := by decide +kernel
theorem dX10_geese_23 : decode cX10_geese 23 = .ok (.ireturn, 1) := by decide +kernel
theorem dX10_geese_24 : decode cX10_geese 24 = .ok (.aload_n 0, 1) := by decide +kernel
theorem dX10_geese_25 : decode cX10_geese 25 = .ok (.invokevirtual 331, 3) := by decide +kernel
theorem dX10_geese_28 : decode cX10_geese 28 = .ok (.iconst 0, 1) := by decide +kernel
theorem dX10_geese_29 : decode cX10_geese 29 = .ok (.istore_n 3, 1) := by decide +kernel
theorem dX10_geese_30 : decode cX10_geese 30 = .ok (.iconst 0, 1) := by decide +kernel
theorem dX10_geese_31 : decode cX10_geese 31 = .ok (.istore 4, 2) := by decide +kernel
theorem dX10_geese_33 : decode cX10_geese 33 = .ok (.iload 4, 2) := by decide +kernel
theorem dX10_geese_35 : decode cX10_geese 35 = .ok (.aload_n 0, 1) := by decide +kernel
theorem dX10_geese_36 : decode cX10_geese 36 = .ok (.invokevirtual 259, 3) := by decide +kernel
theorem dX10_geese_39 : decode cX10_geese 39 = .ok (.if_icmp .ge 43, 3) := by decide +kernel
theorem dX10_geese_42 : decode cX10_geese 42 = .ok (.iload_n 3, 1) := by decide +kernel
theorem dX10_geese_43 : decode cX10_geese 43 = .ok (.aload_n 0, 1) := by decide +kernel
theorem dX10_geese_44 : decode cX10_geese 44 = .ok (.getfield 53, 3) := by decide +kernel
theorem dX10_geese_47 : decode cX10_geese 47 = .ok (.bipush 41, 2) := by decide +kernel
theorem dX10_geese_49 : decode cX10_geese 49 = .ok (.iload 4, 2) := by decide +kernel
theorem dX10_geese_51 : decode cX10_geese 51 = .ok (.imul, 1) := by decide +kernel
theorem dX10_geese_52 : decode cX10_geese 52 = .ok (.iload_n 2, 1) := by decide +kernel
theorem dX10_geese_53 : decode cX10_geese 53 = .ok (.iadd, 1) := by decide +kernel
theorem dX10_geese_54 : decode cX10_geese 54 = .ok (.iaload, 1) := by decide +kernel
theorem dX10_geese_55 : decode cX10_geese 55 = .ok (.iload_n 1, 1) := by decide +kernel
theorem dX10_geese_56 : decode cX10_geese 56 = .ok (.if_icmp .ne 17, 3) := by decide +kernel
theorem dX10_geese_59 : decode cX10_geese 59 = .ok (.aload_n 0, 1) := by decide +kernel
theorem dX10_geese_60 : decode cX10_geese 60 = .ok (.getfield 37, 3) := by decide +kernel
theorem dX10_geese_63 : decode cX10_geese 63 = .ok (.iconst 3, 1) := by decide +kernel
theorem dX10_geese_64 : decode cX10_geese 64 = .ok (.iload 4, 2) := by decide +kernel
theorem dX10_geese_66 : decode cX10_geese 66 = .ok (.imul, 1) := by decide +kernel
theorem dX10_geese_67 : decode cX10_geese 67 = .ok (.iconst 2, 1) := by decide +kernel
theorem dX10_geese_68 : decode cX10_geese 68 = .ok (.iadd, 1) := by decide +kernel
theorem dX10_geese_69 : decode cX10_geese 69 = .ok (.iaload, 1) := by decide +kernel
theorem dX10_geese_70 : decode cX10_geese 70 = .ok (.goto 4, 3) := by decide +kernel
theorem dX10_geese_73 : decode cX10_geese 73 = .ok (.iconst 0, 1) := by decide +kernel
theorem dX10_geese_74 : decode cX10_geese 74 = .ok (.iadd, 1) := by decide +kernel
theorem dX10_geese_75 : decode cX10_geese 75 = .ok (.istore_n 3, 1) := by decide +kernel
theorem dX10_geese_76 : decode cX10_geese 76 = .ok (.iinc 4 1, 3) := by decide +kernel
theorem dX10_geese_79 : decode cX10_geese 79 = .ok (.goto (-46), 3) := by decide +kernel
theorem dX10_geese_82 : decode cX10_geese 82 = .ok (.iload_n 3, 1) := by decide +kernel
theorem dX10_geese_83 : decode cX10_geese 83 = .ok (.ireturn, 1) := by decide +kernel
theorem dX10_has_0 : decode cX10_has 0 = .ok (.aload_n 0, 1) := by decide +kernel
theorem dX10_has_1 : decode cX10_has 1 = .ok (.iconst 0, 1) := by decide +kernel
theorem dX10_has_2 : decode cX10_has 2 = .ok (.putfield 92, 3) := by decide +kernel
theorem dX10_has_5 : decode cX10_has 5 = .ok (.aload_n 0, 1) := by decide +kernel
theorem dX10_has_6 : decode cX10_has 6 = .ok (.iload_n 1, 1) := by decide +kernel
theorem dX10_has_7 : decode cX10_has 7 = .ok (.iload_n 2, 1) := by decide +kernel
theorem dX10_has_8 : decode cX10_has 8 = .ok (.invokevirtual 464, 3) := by decide +kernel
theorem dX10_has_11 : decode cX10_has 11 = .ok (.ifCond .eq 31, 3) := by decide +kernel
theorem dX10_has_14 : decode cX10_has 14 = .ok (.iload_n 3, 1) := by decide +kernel
theorem dX10_has_15 : decode cX10_has 15 = .ok (.invokestatic 419, 3) := by decide +kernel
theorem dX10_has_18 : decode cX10_has 18 = .ok (.ifCond .eq 24, 3) := by decide +kernel
theorem dX10_has_21 : decode cX10_has 21 = .ok (.iload 4, 2) := by decide +kernel
theorem dX10_has_23 : decode cX10_has 23 = .ok (.invokestatic 419, 3) := by decide +kernel
theorem dX10_has_26 : decode cX10_has 26 = .ok (.ifCond .eq 16, 3) := by decide +kernel
theorem dX10_has_29 : decode cX10_has 29 = .ok (.aload_n 0, 1) := by decide +kernel
theorem dX10_has_30 : decode cX10_has 30 = .ok (.iload_n 1, 1) := by decide +kernel
theorem dX10_has_31 : decode cX10_has 31 = .ok (.iload_n 1, 1) := by decide +kernel
theorem dX10_has_32 : decode cX10_has 32 = .ok (.iload_n 2, 1) := by decide +kernel
theorem dX10_has_33 : decode cX10_has 33 = .ok (.iload_n 3, 1) := by decide +kernel
theorem dX10_has_34 : decode cX10_has 34 = .ok (.iload 4, 2) := by decide +kernel
theorem dX10_has_36 : decode cX10_has 36 = .ok (.invokevirtual 467, 3) := by decide +kernel
theorem dX10_has_39 : decode cX10_has 39 = .ok (.goto 6, 3) := by decide +kernel
theorem dX10_has_42 : decode cX10_has 42 = .ok (.sipush (-1000), 3) := by decide +kernel
theorem dX10_has_45 : decode cX10_has 45 = .ok (.ireturn, 1) := by decide +kernel
theorem dX10_hasBy_0 : decode cX10_hasBy 0 = .ok (.aload_n 0, 1) := by decide +kernel
theorem dX10_hasBy_1 : decode cX10_hasBy 1 = .ok (.invokevirtual 308, 3) := by decide +kernel
theorem dX10_hasBy_4 : decode cX10_hasBy 4 = .ok (.aload_n 0, 1) := by decide +kernel
theorem dX10_hasBy_5 : decode cX10_hasBy 5 = .ok (.dup, 1) := by decide +kernel
theorem dX10_hasBy_6 : decode cX10_hasBy 6 = .ok (.getfield 273, 3) := by decide +kernel
theorem dX10_hasBy_9 : decode cX10_hasBy 9 = .ok (.iconst 1, 1) := by decide +kernel
theorem dX10_hasBy_10 : decode cX10_hasBy 10 = .ok (.aload_n 0, 1) := by decide +kernel
theorem dX10_hasBy_11 : decode cX10_hasBy 11 = .ok (.getfield 40, 3) := by decide +kernel
theorem dX10_hasBy_14 : decode cX10_hasBy 14 = .ok (.iconst 3, 1) := by decide +kernel
theorem dX10_hasBy_15 : decode cX10_hasBy 15 = .ok (.iload_n 2, 1) := by decide +kernel
theorem dX10_hasBy_16 : decode cX10_hasBy 16 = .ok (.imul, 1) := by decide +kernel
theorem dX10_hasBy_17 : decode cX10_hasBy 17 = .ok (.iaload, 1) := by decide +kernel
theorem dX10_hasBy_18 : decode cX10_hasBy 18 = .ok (.ishl, 1) := by decide +kernel
theorem dX10_hasBy_19 : decode cX10_hasBy 19 = .ok (.iconst 1, 1) := by decide +kernel
theorem dX10_hasBy_20 : decode cX10_hasBy 20 = .ok (.aload_n 0, 1) := by decide +kernel
theorem dX10_hasBy_21 : decode cX10_hasBy 21 = .ok (.getfield 40, 3) := by decide +kernel
theorem dX10_hasBy_24 : decode cX10_hasBy 24 = .ok (.iconst 3, 1) := by decide +kernel
theorem dX10_hasBy_25 : decode cX10_hasBy 25 = .ok (.iload_n 3, 1) := by decide +kernel
theorem dX10_hasBy_26 : decode cX10_hasBy 26 = .ok (.imul, 1) := by decide +kernel
theorem dX10_hasBy_27 : decode cX10_hasBy 27 = .ok (.iaload, 1) := by decide +kernel
theorem dX10_hasBy_28 : decode cX10_hasBy 28 = .ok (.ishl, 1) := by decide +kernel
theorem dX10_hasBy_29 : decode cX10_hasBy 29 = .ok (.ior, 1) := by decide +kernel
theorem dX10_hasBy_30 : decode cX10_hasBy 30 = .ok (.iconst (-1), 1) := by decide +kernel
theorem dX10_hasBy_31 : decode cX10_hasBy 31 = .ok (.ixor, 1) := by decide +kernel
theorem dX10_hasBy_32 : decode cX10_hasBy 32 = .ok (.iand, 1) := by decide +kernel
theorem dX10_hasBy_33 : decode cX10_hasBy 33 = .ok (.putfield 273, 3) := by decide +kernel
theorem dX10_hasBy_36 : decode cX10_hasBy 36 = .ok (.aload_n 0, 1) := by decide +kernel
theorem dX10_hasBy_37 : decode cX10_hasBy 37 = .ok (.dup, 1) := by decide +kernel
theorem dX10_hasBy_38 : decode cX10_hasBy 38 = .ok (.getfield 273, 3) := by decide +kernel
theorem dX10_hasBy_41 : decode cX10_hasBy 41 = .ok (.iload 4, 2) := by decide +kernel
theorem dX10_hasBy_43 : decode cX10_hasBy 43 = .ok (.aload_n 0, 1) := by decide +kernel
theorem dX10_hasBy_44 : decode cX10_hasBy 44 = .ok (.getfield 40, 3) := by decide +kernel
theorem dX10_hasBy_47 : decode cX10_hasBy 47 = .ok (.iconst 3, 1) := by decide +kernel
theorem dX10_hasBy_48 : decode cX10_hasBy 48 = .ok (.iload_n 2, 1) := by decide +kernel
theorem dX10_hasBy_49 : decode cX10_hasBy 49 = .ok (.imul, 1) := by decide +kernel
theorem dX10_hasBy_50 : decode cX10_hasBy 50 = .ok (.iaload, 1) := by decide +kernel
theorem dX10_hasBy_51 : decode cX10_hasBy 51 = .ok (.ishl, 1) := by decide +kernel
theorem dX10_hasBy_52 : decode cX10_hasBy 52 = .ok (.iload 5, 2) := by decide +kernel
theorem dX10_hasBy_54 : decode cX10_hasBy 54 = .ok (.aload_n 0, 1) := by decide +kernel
theorem dX10_hasBy_55 : decode cX10_hasBy 55 = .ok (.getfield 40, 3) := by decide +kernel
theorem dX10_hasBy_58 : decode cX10_hasBy 58 = .ok (.iconst 3, 1) := by decide +kernel
theorem dX10_hasBy_59 : decode cX10_hasBy 59 = .ok (.iload_n 3, 1) := by decide +kernel
theorem dX10_hasBy_60 : decode cX10_hasBy 60 = .ok (.imul, 1) := by decide +kernel
theorem dX10_hasBy_61 : decode cX10_hasBy 61 = .ok (.iaload, 1) := by decide +kernel
theorem dX10_hasBy_62 : decode cX10_hasBy 62 = .ok (.ishl, 1) := by decide +kernel
theorem dX10_hasBy_63 : decode cX10_hasBy 63 = .ok (.ior, 1) := by decide +kernel
theorem dX10_hasBy_64 : decode cX10_hasBy 64 = .ok (.ior, 1) := by decide +kernel
theorem dX10_hasBy_65 : decode cX10_hasBy 65 = .ok (.putfield 273, 3) := by decide +kernel
theorem dX10_hasBy_68 : decode cX10_hasBy 68 = .ok (.aload_n 0, 1) := by decide +kernel
theorem dX10_hasBy_69 : decode cX10_hasBy 69 = .ok (.invokevirtual 311, 3) := by decide +kernel
theorem dX10_hasBy_72 : decode cX10_hasBy 72 = .ok (.aload_n 0, 1) := by decide +kernel
theorem dX10_hasBy_73 : decode cX10_hasBy 73 = .ok (.iload_n 1, 1) := by decide +kernel
theorem dX10_hasBy_74 : decode cX10_hasBy 74 = .ok (.aload_n 0, 1) := by decide +kernel
theorem dX10_hasBy_75 : decode cX10_hasBy 75 = .ok (.getfield 40, 3) := by decide +kernel
theorem dX10_hasBy_78 : decode cX10_hasBy 78 = .ok (.iconst 3, 1) := by decide +kernel
theorem dX10_hasBy_79 : decode cX10_hasBy 79 = .ok (.iload_n 1, 1) := by decide +kernel
theorem dX10_hasBy_80 : decode cX10_hasBy 80 = .ok (.imul, 1) := by decide +kernel
theorem dX10_hasBy_81 : decode cX10_hasBy 81 = .ok (.iaload, 1) := by decide +kernel
theorem dX10_hasBy_82 : decode cX10_hasBy 82 = .ok (.invokevirtual 317, 3) := by decide +kernel
theorem dX10_hasBy_85 : decode cX10_hasBy 85 = .ok (.ifCond .eq 11, 3) := by decide +kernel
theorem dX10_hasBy_88 : decode cX10_hasBy 88 = .ok (.aload_n 0, 1) := by decide +kernel
theorem dX10_hasBy_89 : decode cX10_hasBy 89 = .ok (.iload_n 1, 1) := by decide +kernel
theorem dX10_hasBy_90 : decode cX10_hasBy 90 = .ok (.invokevirtual 320, 3) := by decide +kernel
theorem dX10_hasBy_93 : decode cX10_hasBy 93 = .ok (.goto 4, 3) := by decide +kernel
theorem dX10_hasBy_96 : decode cX10_hasBy 96 = .ok (.iconst 0, 1) := by decide +kernel
theorem dX10_hasBy_97 : decode cX10_hasBy 97 = .ok (.iconst 5, 1) := by decide +kernel
theorem dX10_hasBy_98 : decode cX10_hasBy 98 = .ok (.iload_n 1, 1) := by decide +kernel
theorem dX10_hasBy_99 : decode cX10_hasBy 99 = .ok (.iload_n 2, 1) := by decide +kernel
theorem dX10_hasBy_100 : decode cX10_hasBy 100 = .ok (.if_icmp .ne 8, 3) := by decide +kernel
theorem dX10_hasBy_103 : decode cX10_hasBy 103 = .ok (.iload 4, 2) := by decide +kernel
theorem dX10_hasBy_105 : decode cX10_hasBy 105 = .ok (.goto 5, 3) := by decide +kernel
theorem dX10_hasBy_108 : decode cX10_hasBy 108 = .ok (.iload 5, 2) := by decide +kernel
theorem dX10_hasBy_110 : decode cX10_hasBy 110 = .ok (.imul, 1) := by decide +kernel
theorem dX10_hasBy_111 : decode cX10_hasBy 111 = .ok (.isub, 1) := by decide +kernel
theorem dX10_hasBy_112 : decode cX10_hasBy 112 = .ok (.ireturn, 1) := by decide +kernel
theorem dX10_hasHeard_0 : decode cX10_hasHeard 0 = .ok (.aload_n 0, 1) := by decide +kernel
theorem dX10_hasHeard_1 : decode cX10_hasHeard 1 = .ok (.iconst 4, 1) := by decide +kernel
theorem dX10_hasHeard_2 : decode cX10_hasHeard 2 = .ok (.aload_n 0, 1) := by decide +kernel
theorem dX10_hasHeard_3 : decode cX10_hasHeard 3 = .ok (.getfield 40, 3) := by decide +kernel
theorem dX10_hasHeard_6 : decode cX10_hasHeard 6 = .ok (.iconst 3, 1) := by decide +kernel
theorem dX10_hasHeard_7 : decode cX10_hasHeard 7 = .ok (.iload_n 1, 1) := by decide +kernel
theorem dX10_hasHeard_8 : decode cX10_hasHeard 8 = .ok (.imul, 1) := by decide +kernel
theorem dX10_hasHeard_9 : decode cX10_hasHeard 9 = .ok (.iaload, 1) := by decide +kernel
theorem dX10_hasHeard_10 : decode cX10_hasHeard 10 = .ok (.invokevirtual 305, 3) := by decide +kernel
theorem dX10_hasHeard_13 : decode cX10_hasHeard 13 = .ok (.ifCond .le 7, 3) := by decide +kernel
theorem dX10_hasHeard_16 : decode cX10_hasHeard 16 = .ok (.iconst 1, 1) := by decide +kernel
theorem dX10_hasHeard_17 : decode cX10_hasHeard 17 = .ok (.goto 4, 3) := by decide +kernel
theorem dX10_hasHeard_20 : decode cX10_hasHeard 20 = .ok (.iconst 0, 1) := by decide +kernel
theorem dX10_hasHeard_21 : decode cX10_hasHeard 21 = .ok (.ireturn, 1) := by decide +kernel
theorem dX10_heads_0 : decode cX10_heads 0 = .ok (.aload_n 0, 1) := by decide +kernel
theorem dX10_heads_1 : decode cX10_heads 1 = .ok (.iconst 0, 1) := by decide +kernel
theorem dX10_heads_2 : decode cX10_heads 2 = .ok (.putfield 92, 3) := by decide +kernel
theorem dX10_heads_5 : decode cX10_heads 5 = .ok (.aload_n 0, 1) := by decide +kernel
theorem dX10_heads_6 : decode cX10_heads 6 = .ok (.iload_n 1, 1) := by decide +kernel
theorem dX10_heads_7 : decode cX10_heads 7 = .ok (.i2l, 1) := by decide +kernel
theorem dX10_heads_8 : decode cX10_heads 8 = .ok (.invokevirtual 323, 3) := by decide +kernel
theorem dX10_heads_11 : decode cX10_heads 11 = .ok (.ifCond .eq 10, 3) := by decide +kernel
theorem dX10_heads_14 : decode cX10_heads 14 = .ok (.iload_n 2, 1) := by decide +kernel
theorem dX10_heads_15 : decode cX10_heads 15 = .ok (.invokestatic 328, 3) := by decide +kernel
theorem dX10_heads_18 : decode cX10_heads 18 = .ok (.ifCond .ne 6, 3) := by decide +kernel
theorem dX10_heads_21 : decode cX10_heads 21 = .ok (.bipush (-2), 2) := by decide +kernel
theorem dX10_heads_23 : decode cX10_heads 23 = .ok (.ireturn, 1) := by decide +kernel
theorem dX10_heads_24 : decode cX10_heads 24 = .ok (.aload_n 0, 1) := by decide +kernel
theorem dX10_heads_25 : decode cX10_heads 25 = .ok (.invokevirtual 331, 3) := by decide +kernel
theorem dX10_heads_28 : decode cX10_heads 28 = .ok (.aload_n 0, 1) := by decide +kernel
theorem dX10_heads_29 : decode cX10_heads 29 = .ok (.getfield 56, 3) := by decide +kernel
theorem dX10_heads_32 : decode cX10_heads 32 = .ok (.bipush 41, 2) := by decide +kernel
theorem dX10_heads_34 : decode cX10_heads 34 = .ok (.iload_n 1, 1) := by decide +kernel
theorem dX10_heads_35 : decode cX10_heads 35 = .ok (.imul, 1) := by decide +kernel
theorem dX10_heads_36 : decode cX10_heads 36 = .ok (.iload_n 2, 1) := by decide +kernel
theorem dX10_heads_37 : decode cX10_heads 37 = .ok (.iadd, 1) := by decide +kernel
theorem dX10_heads_38 : decode cX10_heads 38 = .ok (.iaload, 1) := by decide +kernel
theorem dX10_heads_39 : decode cX10_heads 39 = .ok (.ireturn, 1) := by decide +kernel
theorem dX10_heard_0 : decode cX10_heard 0 = .ok (.aload_n 0, 1) := by decide +kernel
theorem dX10_heard_1 : decode cX10_heard 1 = .ok (.iconst 0, 1) := by decide +kernel
theorem dX10_heard_2 : decode cX10_heard 2 = .ok (.putfield 92, 3) := by decide +kernel
theorem dX10_heard_5 : decode cX10_heard 5 = .ok (.aload_n 0, 1) := by decide +kernel
theorem dX10_heard_6 : decode cX10_heard 6 = .ok (.iload_n 1, 1) := by decide +kernel
theorem dX10_heard_7 : decode cX10_heard 7 = .ok (.i2l, 1) := by decide +kernel
theorem dX10_heard_8 : decode cX10_heard 8 = .ok (.invokevirtual 265, 3) := by decide +kernel
theorem dX10_heard_11 : decode cX10_heard 11 = .ok (.ifCond .ne 6, 3) := by decide +kernel
theorem dX10_heard_14 : decode cX10_heard 14 = .ok (.bipush (-2), 2) := by decide +kernel
theorem dX10_heard_16 : decode cX10_heard 16 = .ok (.ireturn, 1) := by decide +kernel
theorem dX10_heard_17 : decode cX10_heard 17 = .ok (.aload_n 0, 1) := by decide +kernel
theorem dX10_heard_18 : decode cX10_heard 18 = .ok (.invokevirtual 331, 3) := by decide +kernel
theorem dX10_heard_21 : decode cX10_heard 21 = .ok (.aload_n 0, 1) := by decide +kernel
theorem dX10_heard_22 : decode cX10_heard 22 = .ok (.iload_n 1, 1) := by decide +kernel
theorem dX10_heard_23 : decode cX10_heard 23 = .ok (.invokevirtual 343, 3) := by decide +kernel
theorem dX10_heard_26 : decode cX10_heard 26 = .ok (.ireturn, 1) := by decide +kernel
theorem dX10_heardOf_0 : decode cX10_heardOf 0 = .ok (.aload_n 0, 1) := by decide +kernel
theorem dX10_heardOf_1 : decode cX10_heardOf 1 = .ok (.getfield 62, 3) := by decide +kernel
theorem dX10_heardOf_4 : decode cX10_heardOf 4 = .ok (.aload_n 0, 1) := by decide +kernel
theorem dX10_heardOf_5 : decode cX10_heardOf 5 = .ok (.getfield 40, 3) := by decide +kernel
theorem dX10_heardOf_8 : decode cX10_heardOf 8 = .ok (.iconst 3, 1) := by decide +kernel
theorem dX10_heardOf_9 : decode cX10_heardOf 9 = .ok (.iload_n 1, 1) := by decide +kernel
theorem dX10_heardOf_10 : decode cX10_heardOf 10 = .ok (.imul, 1) := by decide +kernel
theorem dX10_heardOf_11 : decode cX10_heardOf 11 = .ok (.iaload, 1) := by decide +kernel
theorem dX10_heardOf_12 : decode cX10_heardOf 12 = .ok (.iaload, 1) := by decide +kernel
theorem dX10_heardOf_13 : decode cX10_heardOf 13 = .ok (.ireturn, 1) := by decide +kernel
theorem dX10_hears_0 : decode cX10_hears 0 = .ok (.aload_n 0, 1) := by decide +kernel
theorem dX10_hears_1 : decode cX10_hears 1 = .ok (.iconst 0, 1) := by decide +kernel
theorem dX10_hears_2 : decode cX10_hears 2 = .ok (.putfield 92, 3) := by decide +kernel
theorem dX10_hears_5 : decode cX10_hears 5 = .ok (.aload_n 0, 1) := by decide +kernel
theorem dX10_hears_6 : decode cX10_hears 6 = .ok (.iload_n 1, 1) := by decide +kernel
theorem dX10_hears_7 : decode cX10_hears 7 = .ok (.i2l, 1) := by decide +kernel
theorem dX10_hears_8 : decode cX10_hears 8 = .ok (.invokevirtual 265, 3) := by decide +kernel
theorem dX10_hears_11 : decode cX10_hears 11 = .ok (.ifCond .eq 12, 3) := by decide +kernel
theorem dX10_hears_14 : decode cX10_hears 14 = .ok (.aload_n 0, 1) := by decide +kernel
theorem dX10_hears_15 : decode cX10_hears 15 = .ok (.iload_n 2, 1) := by decide +kernel
theorem dX10_hears_16 : decode cX10_hears 16 = .ok (.i2l, 1) := by decide +kernel
theorem dX10_hears_17 : decode cX10_hears 17 = .ok (.invokevirtual 323, 3) := by decide +kernel
theorem dX10_hears_20 : decode cX10_hears 20 = .ok (.ifCond .ne 6, 3) := by decide +kernel
theorem dX10_hears_23 : decode cX10_hears 23 = .ok (.bipush (-2), 2) := by decide +kernel
theorem dX10_hears_25 : decode cX10_hears 25 = .ok (.ireturn, 1) := by decide +kernel
theorem dX10_hears_26 : decode cX10_hears 26 = .ok (.aload_n 0, 1) := by decide +kernel
theorem dX10_hears_27 : decode cX10_hears 27 = .ok (.invokevirtual 331, 3) := by decide +kernel
theorem dX10_hears_30 : decode cX10_hears 30 = .ok (.aload_n 0, 1) := by decide +kernel
theorem dX10_hears_31 : decode cX10_hears 31 = .ok (.iload_n 2, 1) := by decide +kernel
theorem dX10_hears_32 : decode cX10_hears 32 = .ok (.aload_n 0, 1) := by decide +kernel
theorem dX10_hears_33 : decode cX10_hears 33 = .ok (.getfield 40, 3) := by decide +kernel
theorem dX10_hears_36 : decode cX10_hears 36 = .ok (.iconst 3, 1) := by decide +kernel
theorem dX10_hears_37 : decode cX10_hears 37 = .ok (.iload_n 1, 1) := by decide +kernel
theorem dX10_hears_38 : decode cX10_hears 38 = .ok (.imul, 1) := by decide +kernel
theorem dX10_hears_39 : decode cX10_hears 39 = .ok (.iaload, 1) := by decide +kernel
theorem dX10_hears_40 : decode cX10_hears 40 = .ok (.invokevirtual 305, 3) := by decide +kernel
theorem dX10_hears_43 : decode cX10_hears 43 = .ok (.ireturn, 1) := by decide +kernel
theorem dX10_hearsAll_0 : decode cX10_hearsAll 0 = .ok (.iconst 0, 1) := by decide +kernel
theorem dX10_hearsAll_1 : decode cX10_hearsAll 1 = .ok (.istore_n 1, 1) := by decide +kernel
theorem dX10_hearsAll_2 : decode cX10_hearsAll 2 = .ok (.iload_n 1, 1) := by decide +kernel
theorem dX10_hearsAll_3 : decode cX10_hearsAll 3 = .ok (.aload_n 0, 1) := by decide +kernel
theorem dX10_hearsAll_4 : decode cX10_hearsAll 4 = .ok (.invokevirtual 256, 3) := by decide +kernel
theorem dX10_hearsAll_7 : decode cX10_hearsAll 7 = .ok (.if_icmp .ge 73, 3) := by decide +kernel
theorem dX10_hearsAll_10 : decode cX10_hearsAll 10 = .ok (.aload_n 0, 1) := by decide +kernel
theorem dX10_hearsAll_11 : decode cX10_hearsAll 11 = .ok (.getfield 62, 3) := by decide +kernel
theorem dX10_hearsAll_14 : decode cX10_hearsAll 14 = .ok (.iload_n 1, 1) := by decide +kernel
theorem dX10_hearsAll_15 : decode cX10_hearsAll 15 = .ok (.iconst 0, 1) := by decide +kernel
theorem dX10_hearsAll_16 : decode cX10_hearsAll 16 = .ok (.iastore, 1) := by decide +kernel
theorem dX10_hearsAll_17 : decode cX10_hearsAll 17 = .ok (.iconst 0, 1) := by decide +kernel
theorem dX10_hearsAll_18 : decode cX10_hearsAll 18 = .ok (.istore_n 2, 1) := by decide +kernel
theorem dX10_hearsAll_19 : decode cX10_hearsAll 19 = .ok (.iload_n 2, 1) := by decide +kernel
theorem dX10_hearsAll_20 : decode cX10_hearsAll 20 = .ok (.aload_n 0, 1) := by decide +kernel
theorem dX10_hearsAll_21 : decode cX10_hearsAll 21 = .ok (.invokevirtual 259, 3) := by decide +kernel
theorem dX10_hearsAll_24 : decode cX10_hearsAll 24 = .ok (.if_icmp .ge 50, 3) := by decide +kernel
theorem dX10_hearsAll_27 : decode cX10_hearsAll 27 = .ok (.aload_n 0, 1) := by decide +kernel
theorem dX10_hearsAll_28 : decode cX10_hearsAll 28 = .ok (.getfield 62, 3) := by decide +kernel
theorem dX10_hearsAll_31 : decode cX10_hearsAll 31 = .ok (.iload_n 1, 1) := by decide +kernel
theorem dX10_hearsAll_32 : decode cX10_hearsAll 32 = .ok (.dup2, 1) := by decide +kernel
theorem dX10_hearsAll_33 : decode cX10_hearsAll 33 = .ok (.iaload, 1) := by decide +kernel
theorem dX10_hearsAll_34 : decode cX10_hearsAll 34 = .ok (.aload_n 0, 1) := by decide +kernel
theorem dX10_hearsAll_35 : decode cX10_hearsAll 35 = .ok (.getfield 279, 3) := by decide +kernel
theorem dX10_hearsAll_38 : decode cX10_hearsAll 38 = .ok (.iload_n 2, 1) := by decide +kernel
theorem dX10_hearsAll_39 : decode cX10_hearsAll 39 = .ok (.invokestatic 282, 3) := by decide +kernel
theorem dX10_hearsAll_42 : decode cX10_hearsAll 42 = .ok (.ifCond .eq 7, 3) := by decide +kernel
theorem dX10_hearsAll_45 : decode cX10_hearsAll 45 = .ok (.iconst 0, 1) := by decide +kernel
theorem dX10_hearsAll_46 : decode cX10_hearsAll 46 = .ok (.goto 20, 3) := by decide +kernel
theorem dX10_hearsAll_49 : decode cX10_hearsAll 49 = .ok (.aload_n 0, 1) := by decide +kernel
theorem dX10_hearsAll_50 : decode cX10_hearsAll 50 = .ok (.getfield 37, 3) := by decide +kernel
theorem dX10_hearsAll_53 : decode cX10_hearsAll 53 = .ok (.iconst 3, 1) := by decide +kernel
theorem dX10_hearsAll_54 : decode cX10_hearsAll 54 = .ok (.iload_n 2, 1) := by decide +kernel
theorem dX10_hearsAll_55 : decode cX10_hearsAll 55 = .ok (.imul, 1) := by decide +kernel
theorem dX10_hearsAll_56 : decode cX10_hearsAll 56 = .ok (.iconst 2, 1) := by decide +kernel
theorem dX10_hearsAll_57 : decode cX10_hearsAll 57 = .ok (.iadd, 1) := by decide +kernel
theorem dX10_hearsAll_58 : decode cX10_hearsAll 58 = .ok (.iaload, 1) := by decide +kernel
theorem dX10_hearsAll_59 : decode cX10_hearsAll 59 = .ok (.aload_n 0, 1) := by decide +kernel
theorem dX10_hearsAll_60 : decode cX10_hearsAll 60 = .ok (.iload_n 2, 1) := by decide +kernel
theorem dX10_hearsAll_61 : decode cX10_hearsAll 61 = .ok (.iload_n 1, 1) := by decide +kernel
theorem dX10_hearsAll_62 : decode cX10_hearsAll 62 = .ok (.invokevirtual 305, 3) := by decide +kernel
theorem dX10_hearsAll_65 : decode cX10_hearsAll 65 = .ok (.imul, 1) := by decide +kernel
theorem dX10_hearsAll_66 : decode cX10_hearsAll 66 = .ok (.iadd, 1) := by decide +kernel
theorem dX10_hearsAll_67 : decode cX10_hearsAll 67 = .ok (.iastore, 1) := by decide +kernel
theorem dX10_hearsAll_68 : decode cX10_hearsAll 68 = .ok (.iinc 2 1, 3) := by decide +kernel
theorem dX10_hearsAll_71 : decode cX10_hearsAll 71 = .ok (.goto (-52), 3) := by decide +kernel
theorem dX10_hearsAll_74 : decode cX10_hearsAll 74 = .ok (.iinc 1 1, 3) := by decide +kernel
theorem dX10_hearsAll_77 : decode cX10_hearsAll 77 = .ok (.goto (-75), 3) := by decide +kernel
theorem dX10_hearsAll_80 : decode cX10_hearsAll 80 = .ok (.return_, 1) := by decide +kernel
theorem dX10_hearsOf_0 : decode cX10_hearsOf 0 = .ok (.iconst 0, 1) := by decide +kernel
theorem dX10_hearsOf_1 : decode cX10_hearsOf 1 = .ok (.istore_n 3, 1) := by decide +kernel
theorem dX10_hearsOf_2 : decode cX10_hearsOf 2 = .ok (.iconst 0, 1) := by decide +kernel
theorem dX10_hearsOf_3 : decode cX10_hearsOf 3 = .ok (.istore 4, 2) := by decide +kernel
theorem dX10_hearsOf_5 : decode cX10_hearsOf 5 = .ok (.iload 4, 2) := by decide +kernel
theorem dX10_hearsOf_7 : decode cX10_hearsOf 7 = .ok (.bipush 40, 2) := by decide +kernel
theorem dX10_hearsOf_9 : decode cX10_hearsOf 9 = .ok (.if_icmp .gt 28, 3) := by decide +kernel
theorem dX10_hearsOf_12 : decode cX10_hearsOf 12 = .ok (.iload_n 3, 1) := by decide +kernel
theorem dX10_hearsOf_13 : decode cX10_hearsOf 13 = .ok (.aload_n 0, 1) := by decide +kernel
theorem dX10_hearsOf_14 : decode cX10_hearsOf 14 = .ok (.iload_n 1, 1) := by decide +kernel
theorem dX10_hearsOf_15 : decode cX10_hearsOf 15 = .ok (.iload 4, 2) := by decide +kernel
theorem dX10_hearsOf_17 : decode cX10_hearsOf 17 = .ok (.iload_n 2, 1) := by decide +kernel
theorem dX10_hearsOf_18 : decode cX10_hearsOf 18 = .ok (.invokevirtual 295, 3) := by decide +kernel
theorem dX10_hearsOf_21 : decode cX10_hearsOf 21 = .ok (.ifCond .eq 7, 3) := by decide +kernel
theorem dX10_hearsOf_24 : decode cX10_hearsOf 24 = .ok (.iconst 1, 1) := by decide +kernel
theorem dX10_hearsOf_25 : decode cX10_hearsOf 25 = .ok (.goto 4, 3) := by decide +kernel
theorem dX10_hearsOf_28 : decode cX10_hearsOf 28 = .ok (.iconst 0, 1) := by decide +kernel
theorem dX10_hearsOf_29 : decode cX10_hearsOf 29 = .ok (.iadd, 1) := by decide +kernel
theorem dX10_hearsOf_30 : decode cX10_hearsOf 30 = .ok (.istore_n 3, 1) := by decide +kernel
theorem dX10_hearsOf_31 : decode cX10_hearsOf 31 = .ok (.iinc 4 1, 3) := by decide +kernel
theorem dX10_hearsOf_34 : decode cX10_hearsOf 34 = .ok (.goto (-29), 3) := by decide +kernel
theorem dX10_hearsOf_37 : decode cX10_hearsOf 37 = .ok (.iload_n 3, 1) := by decide +kernel
theorem dX10_hearsOf_38 : decode cX10_hearsOf 38 = .ok (.ireturn, 1) := by decide +kernel
theorem dX10_income_0 : decode cX10_income 0 = .ok (.aload_n 0, 1) := by decide +kernel
theorem dX10_income_1 : decode cX10_income 1 = .ok (.iconst 0, 1) := by decide +kernel
theorem dX10_income_2 : decode cX10_income 2 = .ok (.putfield 92, 3) := by decide +kernel
theorem dX10_income_5 : decode cX10_income 5 = .ok (.aload_n 0, 1) := by decide +kernel
theorem dX10_income_6 : decode cX10_income 6 = .ok (.invokevirtual 270, 3) := by decide +kernel
theorem dX10_income_9 : decode cX10_income 9 = .ok (.ifCond .ne 6, 3) := by decide +kernel
theorem dX10_income_12 : decode cX10_income 12 = .ok (.bipush (-2), 2) := by decide +kernel
theorem dX10_income_14 : decode cX10_income 14 = .ok (.ireturn, 1) := by decide +kernel
theorem dX10_income_15 : decode cX10_income 15 = .ok (.aload_n 0, 1) := by decide +kernel
theorem dX10_income_16 : decode cX10_income 16 = .ok (.invokevirtual 331, 3) := by decide +kernel
theorem dX10_income_19 : decode cX10_income 19 = .ok (.aload_n 0, 1) := by decide +kernel
theorem dX10_income_20 : decode cX10_income 20 = .ok (.invokevirtual 349, 3) := by decide +kernel
theorem dX10_income_23 : decode cX10_income 23 = .ok (.ireturn, 1) := by decide +kernel
theorem dX10_incomeBy_0 : decode cX10_incomeBy 0 = .ok (.aload_n 0, 1) := by decide +kernel
theorem dX10_incomeBy_1 : decode cX10_incomeBy 1 = .ok (.invokevirtual 308, 3) := by decide +kernel
theorem dX10_incomeBy_4 : decode cX10_incomeBy 4 = .ok (.aload_n 0, 1) := by decide +kernel
theorem dX10_incomeBy_5 : decode cX10_incomeBy 5 = .ok (.iload_n 1, 1) := by decide +kernel
theorem dX10_incomeBy_6 : decode cX10_incomeBy 6 = .ok (.putfield 276, 3) := by decide +kernel
theorem dX10_incomeBy_9 : decode cX10_incomeBy 9 = .ok (.aload_n 0, 1) := by decide +kernel
theorem dX10_incomeBy_10 : decode cX10_incomeBy 10 = .ok (.invokevirtual 311, 3) := by decide +kernel
theorem dX10_incomeBy_13 : decode cX10_incomeBy 13 = .ok (.aload_n 0, 1) := by decide +kernel
theorem dX10_incomeBy_14 : decode cX10_incomeBy 14 = .ok (.invokevirtual 349, 3) := by decide +kernel
theorem dX10_incomeBy_17 : decode cX10_incomeBy 17 = .ok (.ireturn, 1) := by decide +kernel
theorem dX10_incomeNow_0 : decode cX10_incomeNow 0 = .ok (.iconst 0, 1) := by decide +kernel
theorem dX10_incomeNow_1 : decode cX10_incomeNow 1 = .ok (.istore_n 1, 1) := by decide +kernel
theorem dX10_incomeNow_2 : decode cX10_incomeNow 2 = .ok (.iconst 0, 1) := by decide +kernel
theorem dX10_incomeNow_3 : decode cX10_incomeNow 3 = .ok (.istore_n 2, 1) := by decide +kernel
theorem dX10_incomeNow_4 : decode cX10_incomeNow 4 = .ok (.iload_n 2, 1) := by decide +kernel
theorem dX10_incomeNow_5 : decode cX10_incomeNow 5 = .ok (.aload_n 0, 1) := by decide +kernel
theorem dX10_incomeNow_6 : decode cX10_incomeNow 6 = .ok (.invokevirtual 262, 3) := by decide +kernel
theorem dX10_incomeNow_9 : decode cX10_incomeNow 9 = .ok (.if_icmp .ge 37, 3) := by decide +kernel
theorem dX10_incomeNow_12 : decode cX10_incomeNow 12 = .ok (.iload_n 1, 1) := by decide +kernel
theorem dX10_incomeNow_13 : decode cX10_incomeNow 13 = .ok (.aload_n 0, 1) := by decide +kernel
theorem dX10_incomeNow_14 : decode cX10_incomeNow 14 = .ok (.iload_n 2, 1) := by decide +kernel
theorem dX10_incomeNow_15 : decode cX10_incomeNow 15 = .ok (.aload_n 0, 1) := by decide +kernel
theorem dX10_incomeNow_16 : decode cX10_incomeNow 16 = .ok (.getfield 40, 3) := by decide +kernel
theorem dX10_incomeNow_19 : decode cX10_incomeNow 19 = .ok (.iconst 3, 1) := by decide +kernel
theorem dX10_incomeNow_20 : decode cX10_incomeNow 20 = .ok (.iload_n 2, 1) := by decide +kernel
theorem dX10_incomeNow_21 : decode cX10_incomeNow 21 = .ok (.imul, 1) := by decide +kernel
theorem dX10_incomeNow_22 : decode cX10_incomeNow 22 = .ok (.iaload, 1) := by decide +kernel
theorem dX10_incomeNow_23 : decode cX10_incomeNow 23 = .ok (.invokevirtual 317, 3) := by decide +kernel
theorem dX10_incomeNow_26 : decode cX10_incomeNow 26 = .ok (.ifCond .eq 11, 3) := by decide +kernel
theorem dX10_incomeNow_29 : decode cX10_incomeNow 29 = .ok (.aload_n 0, 1) := by decide +kernel
theorem dX10_incomeNow_30 : decode cX10_incomeNow 30 = .ok (.iload_n 2, 1) := by decide +kernel
theorem dX10_incomeNow_31 : decode cX10_incomeNow 31 = .ok (.invokevirtual 320, 3) := by decide +kernel
theorem dX10_incomeNow_34 : decode cX10_incomeNow 34 = .ok (.goto 4, 3) := by decide +kernel
theorem dX10_incomeNow_37 : decode cX10_incomeNow 37 = .ok (.iconst 0, 1) := by decide +kernel
theorem dX10_incomeNow_38 : decode cX10_incomeNow 38 = .ok (.iadd, 1) := by decide +kernel
theorem dX10_incomeNow_39 : decode cX10_incomeNow 39 = .ok (.istore_n 1, 1) := by decide +kernel
theorem dX10_incomeNow_40 : decode cX10_incomeNow 40 = .ok (.iinc 2 1, 3) := by decide +kernel
theorem dX10_incomeNow_43 : decode cX10_incomeNow 43 = .ok (.goto (-39), 3) := by decide +kernel
theorem dX10_incomeNow_46 : decode cX10_incomeNow 46 = .ok (.iload_n 1, 1) := by decide +kernel
theorem dX10_incomeNow_47 : decode cX10_incomeNow 47 = .ok (.ireturn, 1) := by decide +kernel
theorem dX10_isHeard_0 : decode cX10_isHeard 0 = .ok (.aload_n 0, 1) := by decide +kernel
theorem dX10_isHeard_1 : decode cX10_isHeard 1 = .ok (.getfield 53, 3) := by decide +kernel
theorem dX10_isHeard_4 : decode cX10_isHeard 4 = .ok (.bipush 41, 2) := by decide +kernel
theorem dX10_isHeard_6 : decode cX10_isHeard 6 = .ok (.iload_n 1, 1) := by decide +kernel
theorem dX10_isHeard_7 : decode cX10_isHeard 7 = .ok (.imul, 1) := by decide +kernel
theorem dX10_isHeard_8 : decode cX10_isHeard 8 = .ok (.iload_n 2, 1) := by decide +kernel
theorem dX10_isHeard_9 : decode cX10_isHeard 9 = .ok (.iadd, 1) := by decide +kernel
theorem dX10_isHeard_10 : decode cX10_isHeard 10 = .ok (.iaload, 1) := by decide +kernel
theorem dX10_isHeard_11 : decode cX10_isHeard 11 = .ok (.iconst (-1), 1) := by decide +kernel
theorem dX10_isHeard_12 : decode cX10_isHeard 12 = .ok (.if_icmp .eq 32, 3) := by decide +kernel
theorem dX10_isHeard_15 : decode cX10_isHeard 15 = .ok (.aload_n 0, 1) := by decide +kernel
theorem dX10_isHeard_16 : decode cX10_isHeard 16 = .ok (.aload_n 0, 1) := by decide +kernel
theorem dX10_isHeard_17 : decode cX10_isHeard 17 = .ok (.getfield 53, 3) := by decide +kernel
theorem dX10_isHeard_20 : decode cX10_isHeard 20 = .ok (.bipush 41, 2) := by decide +kernel
theorem dX10_isHeard_22 : decode cX10_isHeard 22 = .ok (.iload_n 1, 1) := by decide +kernel
theorem dX10_isHeard_23 : decode cX10_isHeard 23 = .ok (.imul, 1) := by decide +kernel
theorem dX10_isHeard_24 : decode cX10_isHeard 24 = .ok (.iload_n 2, 1) := by decide +kernel
theorem dX10_isHeard_25 : decode cX10_isHeard 25 = .ok (.iadd, 1) := by decide +kernel
theorem dX10_isHeard_26 : decode cX10_isHeard 26 = .ok (.iaload, 1) := by decide +kernel
theorem dX10_isHeard_27 : decode cX10_isHeard 27 = .ok (.iload_n 3, 1) := by decide +kernel
theorem dX10_isHeard_28 : decode cX10_isHeard 28 = .ok (.invokevirtual 292, 3) := by decide +kernel
theorem dX10_isHeard_31 : decode cX10_isHeard 31 = .ok (.aload_n 0, 1) := by decide +kernel
theorem dX10_isHeard_32 : decode cX10_isHeard 32 = .ok (.getfield 34, 3) := by decide +kernel
theorem dX10_isHeard_35 : decode cX10_isHeard 35 = .ok (.iconst 3, 1) := by decide +kernel
theorem dX10_isHeard_36 : decode cX10_isHeard 36 = .ok (.iaload, 1) := by decide +kernel
theorem dX10_isHeard_37 : decode cX10_isHeard 37 = .ok (.if_icmp .gt 7, 3) := by decide +kernel
theorem dX10_isHeard_40 : decode cX10_isHeard 40 = .ok (.iconst 1, 1) := by decide +kernel
theorem dX10_isHeard_41 : decode cX10_isHeard 41 = .ok (.goto 4, 3) := by decide +kernel
theorem dX10_isHeard_44 : decode cX10_isHeard 44 = .ok (.iconst 0, 1) := by decide +kernel
theorem dX10_isHeard_45 : decode cX10_isHeard 45 = .ok (.ireturn, 1) := by decide +kernel
theorem dX10_isLess_0 : decode cX10_isLess 0 = .ok (.iconst 0, 1) := by decide +kernel
theorem dX10_isLess_1 : decode cX10_isLess 1 = .ok (.istore_n 1, 1) := by decide +kernel
theorem dX10_isLess_2 : decode cX10_isLess 2 = .ok (.iload_n 1, 1) := by decide +kernel
theorem dX10_isLess_3 : decode cX10_isLess 3 = .ok (.aload_n 0, 1) := by decide +kernel
theorem dX10_isLess_4 : decode cX10_isLess 4 = .ok (.invokevirtual 262, 3) := by decide +kernel
theorem dX10_isLess_7 : decode cX10_isLess 7 = .ok (.if_icmp .ge 45, 3) := by decide +kernel
theorem dX10_isLess_10 : decode cX10_isLess 10 = .ok (.aload_n 0, 1) := by decide +kernel
theorem dX10_isLess_11 : decode cX10_isLess 11 = .ok (.getfield 86, 3) := by decide +kernel
theorem dX10_isLess_14 : decode cX10_isLess 14 = .ok (.iload_n 1, 1) := by decide +kernel
theorem dX10_isLess_15 : decode cX10_isLess 15 = .ok (.iaload, 1) := by decide +kernel
theorem dX10_isLess_16 : decode cX10_isLess 16 = .ok (.aload_n 0, 1) := by decide +kernel
theorem dX10_isLess_17 : decode cX10_isLess 17 = .ok (.getfield 89, 3) := by decide +kernel
theorem dX10_isLess_20 : decode cX10_isLess 20 = .ok (.iload_n 1, 1) := by decide +kernel
theorem dX10_isLess_21 : decode cX10_isLess 21 = .ok (.iaload, 1) := by decide +kernel
theorem dX10_isLess_22 : decode cX10_isLess 22 = .ok (.if_icmp .eq 24, 3) := by decide +kernel
theorem dX10_isLess_25 : decode cX10_isLess 25 = .ok (.aload_n 0, 1) := by decide +kernel
theorem dX10_isLess_26 : decode cX10_isLess 26 = .ok (.getfield 86, 3) := by decide +kernel
theorem dX10_isLess_29 : decode cX10_isLess 29 = .ok (.iload_n 1, 1) := by decide +kernel
theorem dX10_isLess_30 : decode cX10_isLess 30 = .ok (.iaload, 1) := by decide +kernel
theorem dX10_isLess_31 : decode cX10_isLess 31 = .ok (.aload_n 0, 1) := by decide +kernel
theorem dX10_isLess_32 : decode cX10_isLess 32 = .ok (.getfield 89, 3) := by decide +kernel
theorem dX10_isLess_35 : decode cX10_isLess 35 = .ok (.iload_n 1, 1) := by decide +kernel
theorem dX10_isLess_36 : decode cX10_isLess 36 = .ok (.iaload, 1) := by decide +kernel
theorem dX10_isLess_37 : decode cX10_isLess 37 = .ok (.if_icmp .ge 7, 3) := by decide +kernel
theorem dX10_isLess_40 : decode cX10_isLess 40 = .ok (.iconst 1, 1) := by decide +kernel
theorem dX10_isLess_41 : decode cX10_isLess 41 = .ok (.goto 4, 3) := by decide +kernel
theorem dX10_isLess_44 : decode cX10_isLess 44 = .ok (.iconst 0, 1) := by decide +kernel
theorem dX10_isLess_45 : decode cX10_isLess 45 = .ok (.ireturn, 1) := by decide +kernel
theorem dX10_isLess_46 : decode cX10_isLess 46 = .ok (.iinc 1 1, 3) := by decide +kernel
theorem dX10_isLess_49 : decode cX10_isLess 49 = .ok (.goto (-47), 3) := by decide +kernel
theorem dX10_isLess_52 : decode cX10_isLess 52 = .ok (.iconst 0, 1) := by decide +kernel
theorem dX10_isLess_53 : decode cX10_isLess 53 = .ok (.ireturn, 1) := by decide +kernel
theorem dX10_isServedIn_0 : decode cX10_isServedIn 0 = .ok (.aload_n 0, 1) := by decide +kernel
theorem dX10_isServedIn_1 : decode cX10_isServedIn 1 = .ok (.iload_n 1, 1) := by decide +kernel
theorem dX10_isServedIn_2 : decode cX10_isServedIn 2 = .ok (.invokevirtual 314, 3) := by decide +kernel
theorem dX10_isServedIn_5 : decode cX10_isServedIn 5 = .ok (.ifCond .le 21, 3) := by decide +kernel
theorem dX10_isServedIn_8 : decode cX10_isServedIn 8 = .ok (.aload_n 0, 1) := by decide +kernel
theorem dX10_isServedIn_9 : decode cX10_isServedIn 9 = .ok (.getfield 62, 3) := by decide +kernel
theorem dX10_isServedIn_12 : decode cX10_isServedIn 12 = .ok (.iload_n 2, 1) := by decide +kernel
theorem dX10_isServedIn_13 : decode cX10_isServedIn 13 = .ok (.iaload, 1) := by decide +kernel
theorem dX10_isServedIn_14 : decode cX10_isServedIn 14 = .ok (.aload_n 0, 1) := by decide +kernel
theorem dX10_isServedIn_15 : decode cX10_isServedIn 15 = .ok (.iload_n 1, 1) := by decide +kernel
theorem dX10_isServedIn_16 : decode cX10_isServedIn 16 = .ok (.invokevirtual 314, 3) := by decide +kernel
theorem dX10_isServedIn_19 : decode cX10_isServedIn 19 = .ok (.if_icmp .lt 7, 3) := by decide +kernel
theorem dX10_isServedIn_22 : decode cX10_isServedIn 22 = .ok (.iconst 1, 1) := by decide +kernel
theorem dX10_isServedIn_23 : decode cX10_isServedIn 23 = .ok (.goto 4, 3) := by decide +kernel
theorem dX10_isServedIn_26 : decode cX10_isServedIn 26 = .ok (.iconst 0, 1) := by decide +kernel
theorem dX10_isServedIn_27 : decode cX10_isServedIn 27 = .ok (.ireturn, 1) := by decide +kernel
theorem dX10_lacks_0 : decode cX10_lacks 0 = .ok (.aload_n 0, 1) := by decide +kernel
theorem dX10_lacks_1 : decode cX10_lacks 1 = .ok (.iconst 0, 1) := by decide +kernel
theorem dX10_lacks_2 : decode cX10_lacks 2 = .ok (.putfield 92, 3) := by decide +kernel
theorem dX10_lacks_5 : decode cX10_lacks 5 = .ok (.aload_n 0, 1) := by decide +kernel
theorem dX10_lacks_6 : decode cX10_lacks 6 = .ok (.invokevirtual 270, 3) := by decide +kernel
theorem dX10_lacks_9 : decode cX10_lacks 9 = .ok (.ifCond .ne 6, 3) := by decide +kernel
theorem dX10_lacks_12 : decode cX10_lacks 12 = .ok (.bipush (-2), 2) := by decide +kernel
theorem dX10_lacks_14 : decode cX10_lacks 14 = .ok (.ireturn, 1) := by decide +kernel
theorem dX10_lacks_15 : decode cX10_lacks 15 = .ok (.aload_n 0, 1) := by decide +kernel
theorem dX10_lacks_16 : decode cX10_lacks 16 = .ok (.invokevirtual 331, 3) := by decide +kernel
theorem dX10_lacks_19 : decode cX10_lacks 19 = .ok (.iconst (-1), 1) := by decide +kernel
theorem dX10_lacks_20 : decode cX10_lacks 20 = .ok (.istore_n 1, 1) := by decide +kernel
theorem dX10_lacks_21 : decode cX10_lacks 21 = .ok (.iconst 0, 1) := by decide +kernel
theorem dX10_lacks_22 : decode cX10_lacks 22 = .ok (.istore_n 2, 1) := by decide +kernel
theorem dX10_lacks_23 : decode cX10_lacks 23 = .ok (.iconst 0, 1) := by decide +kernel
theorem dX10_lacks_24 : decode cX10_lacks 24 = .ok (.istore_n 3, 1) := by decide +kernel
theorem dX10_lacks_25 : decode cX10_lacks 25 = .ok (.iload_n 3, 1) := by decide +kernel
theorem dX10_lacks_26 : decode cX10_lacks 26 = .ok (.aload_n 0, 1) := by decide +kernel
theorem dX10_lacks_27 : decode cX10_lacks 27 = .ok (.invokevirtual 262, 3) := by decide +kernel
theorem dX10_lacks_30 : decode cX10_lacks 30 = .ok (.if_icmp .ge 41, 3) := by decide +kernel
theorem dX10_lacks_33 : decode cX10_lacks 33 = .ok (.aload_n 0, 1) := by decide +kernel
theorem dX10_lacks_34 : decode cX10_lacks 34 = .ok (.iload_n 3, 1) := by decide +kernel
theorem dX10_lacks_35 : decode cX10_lacks 35 = .ok (.invokevirtual 314, 3) := by decide +kernel
theorem dX10_lacks_38 : decode cX10_lacks 38 = .ok (.aload_n 0, 1) := by decide +kernel
theorem dX10_lacks_39 : decode cX10_lacks 39 = .ok (.iload_n 3, 1) := by decide +kernel
theorem dX10_lacks_40 : decode cX10_lacks 40 = .ok (.invokevirtual 343, 3) := by decide +kernel
theorem dX10_lacks_43 : decode cX10_lacks 43 = .ok (.isub, 1) := by decide +kernel
theorem dX10_lacks_44 : decode cX10_lacks 44 = .ok (.iload_n 2, 1) := by decide +kernel
theorem dX10_lacks_45 : decode cX10_lacks 45 = .ok (.if_icmp .gt 6, 3) := by decide +kernel
theorem dX10_lacks_48 : decode cX10_lacks 48 = .ok (.goto 17, 3) := by decide +kernel
theorem dX10_lacks_51 : decode cX10_lacks 51 = .ok (.iload_n 3, 1) := by decide +kernel
theorem dX10_lacks_52 : decode cX10_lacks 52 = .ok (.istore_n 1, 1) := by decide +kernel
theorem dX10_lacks_53 : decode cX10_lacks 53 = .ok (.aload_n 0, 1) := by decide +kernel
theorem dX10_lacks_54 : decode cX10_lacks 54 = .ok (.iload_n 3, 1) := by decide +kernel
theorem dX10_lacks_55 : decode cX10_lacks 55 = .ok (.invokevirtual 314, 3) := by decide +kernel
theorem dX10_lacks_58 : decode cX10_lacks 58 = .ok (.aload_n 0, 1) := by decide +kernel
theorem dX10_lacks_59 : decode cX10_lacks 59 = .ok (.iload_n 3, 1) := by decide +kernel
theorem dX10_lacks_60 : decode cX10_lacks 60 = .ok (.invokevirtual 343, 3) := by decide +kernel
theorem dX10_lacks_63 : decode cX10_lacks 63 = .ok (.isub, 1) := by decide +kernel
theorem dX10_lacks_64 : decode cX10_lacks 64 = .ok (.istore_n 2, 1) := by decide +kernel
theorem dX10_lacks_65 : decode cX10_lacks 65 = .ok (.iinc 3 1, 3) := by decide +kernel
theorem dX10_lacks_68 : decode cX10_lacks 68 = .ok (.goto (-43), 3) := by decide +kernel
theorem dX10_lacks_71 : decode cX10_lacks 71 = .ok (.iload_n 1, 1) := by decide +kernel
theorem dX10_lacks_72 : decode cX10_lacks 72 = .ok (.ireturn, 1) := by decide +kernel
theorem dX10_lamps_0 : decode cX10_lamps 0 = .ok (.aload_n 0, 1) := by decide +kernel
theorem dX10_lamps_1 : decode cX10_lamps 1 = .ok (.iconst 0, 1) := by decide +kernel
theorem dX10_lamps_2 : decode cX10_lamps 2 = .ok (.putfield 92, 3) := by decide +kernel
theorem dX10_lamps_5 : decode cX10_lamps 5 = .ok (.aload_n 0, 1) := by decide +kernel
theorem dX10_lamps_6 : decode cX10_lamps 6 = .ok (.invokevirtual 270, 3) := by decide +kernel
theorem dX10_lamps_9 : decode cX10_lamps 9 = .ok (.ifCond .ne 6, 3) := by decide +kernel
theorem dX10_lamps_12 : decode cX10_lamps 12 = .ok (.bipush (-2), 2) := by decide +kernel
theorem dX10_lamps_14 : decode cX10_lamps 14 = .ok (.ireturn, 1) := by decide +kernel
theorem dX10_lamps_15 : decode cX10_lamps 15 = .ok (.aload_n 0, 1) := by decide +kernel
theorem dX10_lamps_16 : decode cX10_lamps 16 = .ok (.invokevirtual 308, 3) := by decide +kernel
theorem dX10_lamps_19 : decode cX10_lamps 19 = .ok (.aload_n 0, 1) := by decide +kernel
theorem dX10_lamps_20 : decode cX10_lamps 20 = .ok (.getfield 273, 3) := by decide +kernel
theorem dX10_lamps_23 : decode cX10_lamps 23 = .ok (.ireturn, 1) := by decide +kernel
theorem dX10_law_0 : decode cX10_law 0 = .ok (.aload_n 0, 1) := by decide +kernel
theorem dX10_law_1 : decode cX10_law 1 = .ok (.iconst 0, 1) := by decide +kernel
theorem dX10_law_2 : decode cX10_law 2 = .ok (.putfield 92, 3) := by decide +kernel
theorem dX10_law_5 : decode cX10_law 5 = .ok (.aload_n 0, 1) := by decide +kernel
theorem dX10_law_6 : decode cX10_law 6 = .ok (.invokevirtual 270, 3) := by decide +kernel
theorem dX10_law_9 : decode cX10_law 9 = .ok (.ifCond .ne 6, 3) := by decide +kernel
theorem dX10_law_12 : decode cX10_law 12 = .ok (.bipush (-2), 2) := by decide +kernel
theorem dX10_law_14 : decode cX10_law 14 = .ok (.ireturn, 1) := by decide +kernel
theorem dX10_law_15 : decode cX10_law 15 = .ok (.iconst 0, 1) := by decide +kernel
theorem dX10_law_16 : decode cX10_law 16 = .ok (.istore_n 1, 1) := by decide +kernel
theorem dX10_law_17 : decode cX10_law 17 = .ok (.iconst 1, 1) := by decide +kernel
theorem dX10_law_18 : decode cX10_law 18 = .ok (.istore_n 2, 1) := by decide +kernel
theorem dX10_law_19 : decode cX10_law 19 = .ok (.iload_n 2, 1) := by decide +kernel
theorem dX10_law_20 : decode cX10_law 20 = .ok (.iconst 4, 1) := by decide +kernel
theorem dX10_law_21 : decode cX10_law 21 = .ok (.if_icmp .ge 24, 3) := by decide +kernel
theorem dX10_law_24 : decode cX10_law 24 = .ok (.aload_n 0, 1) := by decide +kernel
theorem dX10_law_25 : decode cX10_law 25 = .ok (.iload_n 2, 1) := by decide +kernel
theorem dX10_law_26 : decode cX10_law 26 = .ok (.invokevirtual 380, 3) := by decide +kernel
theorem dX10_law_29 : decode cX10_law 29 = .ok (.aload_n 0, 1) := by decide +kernel
theorem dX10_law_30 : decode cX10_law 30 = .ok (.iload_n 1, 1) := by decide +kernel
theorem dX10_law_31 : decode cX10_law 31 = .ok (.invokevirtual 380, 3) := by decide +kernel
theorem dX10_law_34 : decode cX10_law 34 = .ok (.if_icmp .le 5, 3) := by decide +kernel
theorem dX10_law_37 : decode cX10_law 37 = .ok (.iload_n 2, 1) := by decide +kernel
theorem dX10_law_38 : decode cX10_law 38 = .ok (.istore_n 1, 1) := by decide +kernel
theorem dX10_law_39 : decode cX10_law 39 = .ok (.iinc 2 1, 3) := by decide +kernel
theorem dX10_law_42 : decode cX10_law 42 = .ok (.goto (-23), 3) := by decide +kernel
theorem dX10_law_45 : decode cX10_law 45 = .ok (.iload_n 1, 1) := by decide +kernel
theorem dX10_law_46 : decode cX10_law 46 = .ok (.ireturn, 1) := by decide +kernel
theorem dX10_lays_0 : decode cX10_lays 0 = .ok (.aload_n 0, 1) := by decide +kernel
theorem dX10_lays_1 : decode cX10_lays 1 = .ok (.aload_n 0, 1) := by decide +kernel
theorem dX10_lays_2 : decode cX10_lays 2 = .ok (.getfield 34, 3) := by decide +kernel
theorem dX10_lays_5 : decode cX10_lays 5 = .ok (.bipush 8, 2) := by decide +kernel
theorem dX10_lays_7 : decode cX10_lays 7 = .ok (.iaload, 1) := by decide +kernel
theorem dX10_lays_8 : decode cX10_lays 8 = .ok (.putfield 273, 3) := by decide +kernel
theorem dX10_lays_11 : decode cX10_lays 11 = .ok (.aload_n 0, 1) := by decide +kernel
theorem dX10_lays_12 : decode cX10_lays 12 = .ok (.aload_n 0, 1) := by decide +kernel
theorem dX10_lays_13 : decode cX10_lays 13 = .ok (.getfield 34, 3) := by decide +kernel
theorem dX10_lays_16 : decode cX10_lays 16 = .ok (.iconst 2, 1) := by decide +kernel
theorem dX10_lays_17 : decode cX10_lays 17 = .ok (.iaload, 1) := by decide +kernel
theorem dX10_lays_18 : decode cX10_lays 18 = .ok (.putfield 276, 3) := by decide +kernel
theorem dX10_lays_21 : decode cX10_lays 21 = .ok (.aload_n 0, 1) := by decide +kernel
theorem dX10_lays_22 : decode cX10_lays 22 = .ok (.iconst 0, 1) := by decide +kernel
theorem dX10_lays_23 : decode cX10_lays 23 = .ok (.putfield 279, 3) := by decide +kernel
theorem dX10_lays_26 : decode cX10_lays 26 = .ok (.iconst 0, 1) := by decide +kernel
theorem dX10_lays_27 : decode cX10_lays 27 = .ok (.istore_n 1, 1) := by decide +kernel
theorem dX10_lays_28 : decode cX10_lays 28 = .ok (.iload_n 1, 1) := by decide +kernel
theorem dX10_lays_29 : decode cX10_lays 29 = .ok (.aload_n 0, 1) := by decide +kernel
theorem dX10_lays_30 : decode cX10_lays 30 = .ok (.invokevirtual 259, 3) := by decide +kernel
theorem dX10_lays_33 : decode cX10_lays 33 = .ok (.if_icmp .ge 25, 3) := by decide +kernel
theorem dX10_lays_36 : decode cX10_lays 36 = .ok (.aload_n 0, 1) := by decide +kernel
theorem dX10_lays_37 : decode cX10_lays 37 = .ok (.getfield 50, 3) := by decide +kernel
theorem dX10_lays_40 : decode cX10_lays 40 = .ok (.iload_n 1, 1) := by decide +kernel
theorem dX10_lays_41 : decode cX10_lays 41 = .ok (.aload_n 0, 1) := by decide +kernel
theorem dX10_lays_42 : decode cX10_lays 42 = .ok (.getfield 37, 3) := by decide +kernel
theorem dX10_lays_45 : decode cX10_lays 45 = .ok (.iconst 3, 1) := by decide +kernel
theorem dX10_lays_46 : decode cX10_lays 46 = .ok (.iload_n 1, 1) := by decide +kernel
theorem dX10_lays_47 : decode cX10_lays 47 = .ok (.imul, 1) := by decide +kernel
theorem dX10_lays_48 : decode cX10_lays 48 = .ok (.iconst 1, 1) := by decide +kernel
theorem dX10_lays_49 : decode cX10_lays 49 = .ok (.iadd, 1) := by decide +kernel
theorem dX10_lays_50 : decode cX10_lays 50 = .ok (.iaload, 1) := by decide +kernel
theorem dX10_lays_51 : decode cX10_lays 51 = .ok (.iastore, 1) := by decide +kernel
theorem dX10_lays_52 : decode cX10_lays 52 = .ok (.iinc 1 1, 3) := by decide +kernel
theorem dX10_lays_55 : decode cX10_lays 55 = .ok (.goto (-27), 3) := by decide +kernel
theorem dX10_lays_58 : decode cX10_lays 58 = .ok (.iconst 0, 1) := by decide +kernel
theorem dX10_lays_59 : decode cX10_lays 59 = .ok (.istore_n 1, 1) := by decide +kernel
theorem dX10_lays_60 : decode cX10_lays 60 = .ok (.iload_n 1, 1) := by decide +kernel
theorem dX10_lays_61 : decode cX10_lays 61 = .ok (.aload_n 0, 1) := by decide +kernel
theorem dX10_lays_62 : decode cX10_lays 62 = .ok (.getfield 34, 3) := by decide +kernel
theorem dX10_lays_65 : decode cX10_lays 65 = .ok (.bipush 7, 2) := by decide +kernel
theorem dX10_lays_67 : decode cX10_lays 67 = .ok (.iaload, 1) := by decide +kernel
theorem dX10_lays_68 : decode cX10_lays 68 = .ok (.if_icmp .ge 90, 3) := by decide +kernel
theorem dX10_lays_71 : decode cX10_lays 71 = .ok (.aload_n 0, 1) := by decide +kernel
theorem dX10_lays_72 : decode cX10_lays 72 = .ok (.getfield 43, 3) := by decide +kernel
theorem dX10_lays_75 : decode cX10_lays 75 = .ok (.iconst 3, 1) := by decide +kernel
theorem dX10_lays_76 : decode cX10_lays 76 = .ok (.iload_n 1, 1) := by decide +kernel
theorem dX10_lays_77 : decode cX10_lays 77 = .ok (.imul, 1) := by decide +kernel
theorem dX10_lays_78 : decode cX10_lays 78 = .ok (.iconst 1, 1) := by decide +kernel
theorem dX10_lays_79 : decode cX10_lays 79 = .ok (.iadd, 1) := by decide +kernel
theorem dX10_lays_80 : decode cX10_lays 80 = .ok (.iaload, 1) := by decide +kernel
theorem dX10_lays_81 : decode cX10_lays 81 = .ok (.istore_n 2, 1) := by decide +kernel
theorem dX10_lays_82 : decode cX10_lays 82 = .ok (.aload_n 0, 1) := by decide +kernel
theorem dX10_lays_83 : decode cX10_lays 83 = .ok (.getfield 43, 3) := by decide +kernel
theorem dX10_lays_86 : decode cX10_lays 86 = .ok (.iconst 3, 1) := by decide +kernel
theorem dX10_lays_87 : decode cX10_lays 87 = .ok (.iload_n 1, 1) := by decide +kernel
theorem dX10_lays_88 : decode cX10_lays 88 = .ok (.imul, 1) := by decide +kernel
theorem dX10_lays_89 : decode cX10_lays 89 = .ok (.iaload, 1) := by decide +kernel
theorem dX10_lays_90 : decode cX10_lays 90 = .ok (.iconst 1, 1) := by decide +kernel
theorem dX10_lays_91 : decode cX10_lays 91 = .ok (.if_icmp .ne 22, 3) := by decide +kernel
theorem dX10_lays_94 : decode cX10_lays 94 = .ok (.aload_n 0, 1) := by decide +kernel
theorem dX10_lays_95 : decode cX10_lays 95 = .ok (.getfield 50, 3) := by decide +kernel
theorem dX10_lays_98 : decode cX10_lays 98 = .ok (.iload_n 2, 1) := by decide +kernel
theorem dX10_lays_99 : decode cX10_lays 99 = .ok (.aload_n 0, 1) := by decide +kernel
theorem dX10_lays_100 : decode cX10_lays 100 = .ok (.getfield 43, 3) := by decide +kernel
theorem dX10_lays_103 : decode cX10_lays 103 = .ok (.iconst 3, 1) := by decide +kernel
theorem dX10_lays_104 : decode cX10_lays 104 = .ok (.iload_n 1, 1) := by decide +kernel
theorem dX10_lays_105 : decode cX10_lays 105 = .ok (.imul, 1) := by decide +kernel
theorem dX10_lays_106 : decode cX10_lays 106 = .ok (.iconst 2, 1) := by decide +kernel
theorem dX10_lays_107 : decode cX10_lays 107 = .ok (.iadd, 1) := by decide +kernel
theorem dX10_lays_108 : decode cX10_lays 108 = .ok (.iaload, 1) := by decide +kernel
theorem dX10_lays_109 : decode cX10_lays 109 = .ok (.iastore, 1) := by decide +kernel
theorem dX10_lays_110 : decode cX10_lays 110 = .ok (.goto 42, 3) := by decide +kernel
theorem dX10_lays_113 : decode cX10_lays 113 = .ok (.aload_n 0, 1) := by decide +kernel
theorem dX10_lays_114 : decode cX10_lays 114 = .ok (.aload_n 0, 1) := by decide +kernel
theorem dX10_lays_115 : decode cX10_lays 115 = .ok (.getfield 43, 3) := by decide +kernel
theorem dX10_lays_118 : decode cX10_lays 118 = .ok (.iconst 3, 1) := by decide +kernel
theorem dX10_lays_119 : decode cX10_lays 119 = .ok (.iload_n 1, 1) := by decide +kernel
theorem dX10_lays_120 : decode cX10_lays 120 = .ok (.imul, 1) := by decide +kernel
theorem dX10_lays_121 : decode cX10_lays 121 = .ok (.iconst 2, 1) := by decide +kernel
theorem dX10_lays_122 : decode cX10_lays 122 = .ok (.iadd, 1) := by decide +kernel
theorem dX10_lays_123 : decode cX10_lays 123 = .ok (.iaload, 1) := by decide +kernel
theorem dX10_lays_124 : decode cX10_lays 124 = .ok (.iconst 1, 1) := by decide +kernel
theorem dX10_lays_125 : decode cX10_lays 125 = .ok (.if_icmp .ne 14, 3) := by decide +kernel
theorem dX10_lays_128 : decode cX10_lays 128 = .ok (.aload_n 0, 1) := by decide +kernel
theorem dX10_lays_129 : decode cX10_lays 129 = .ok (.getfield 273, 3) := by decide +kernel
theorem dX10_lays_132 : decode cX10_lays 132 = .ok (.iconst 1, 1) := by decide +kernel
theorem dX10_lays_133 : decode cX10_lays 133 = .ok (.iload_n 2, 1) := by decide +kernel
theorem dX10_lays_134 : decode cX10_lays 134 = .ok (.ishl, 1) := by decide +kernel
theorem dX10_lays_135 : decode cX10_lays 135 = .ok (.ior, 1) := by decide +kernel
theorem dX10_lays_136 : decode cX10_lays 136 = .ok (.goto 13, 3) := by decide +kernel
theorem dX10_lays_139 : decode cX10_lays 139 = .ok (.aload_n 0, 1) := by decide +kernel
theorem dX10_lays_140 : decode cX10_lays 140 = .ok (.getfield 273, 3) := by decide +kernel
theorem dX10_lays_143 : decode cX10_lays 143 = .ok (.iconst 1, 1) := by decide +kernel
theorem dX10_lays_144 : decode cX10_lays 144 = .ok (.iload_n 2, 1) := by decide +kernel
theorem dX10_lays_145 : decode cX10_lays 145 = .ok (.ishl, 1) := by decide +kernel
theorem dX10_lays_146 : decode cX10_lays 146 = .ok (.iconst (-1), 1) := by decide +kernel
theorem dX10_lays_147 : decode cX10_lays 147 = .ok (.ixor, 1) := by decide +kernel
theorem dX10_lays_148 : decode cX10_lays 148 = .ok (.iand, 1) := by decide +kernel
theorem dX10_lays_149 : decode cX10_lays 149 = .ok (.putfield 273, 3) := by decide +kernel
theorem dX10_lays_152 : decode cX10_lays 152 = .ok (.iinc 1 1, 3) := by decide +kernel
theorem dX10_lays_155 : decode cX10_lays 155 = .ok (.goto (-95), 3) := by decide +kernel
theorem dX10_lays_158 : decode cX10_lays 158 = .ok (.return_, 1) := by decide +kernel
theorem dX10_laysDrawn_0 : decode cX10_laysDrawn 0 = .ok (.aload_n 0, 1) := by decide +kernel
theorem dX10_laysDrawn_1 : decode cX10_laysDrawn 1 = .ok (.invokevirtual 308, 3) := by decide +kernel
theorem dX10_laysDrawn_4 : decode cX10_laysDrawn 4 = .ok (.aload_n 0, 1) := by decide +kernel
theorem dX10_laysDrawn_5 : decode cX10_laysDrawn 5 = .ok (.aload_n 0, 1) := by decide +kernel
theorem dX10_laysDrawn_6 : decode cX10_laysDrawn 6 = .ok (.lload_n 1, 1) := by decide +kernel
theorem dX10_laysDrawn_7 : decode cX10_laysDrawn 7 = .ok (.invokevirtual 492, 3) := by decide +kernel
theorem dX10_laysDrawn_10 : decode cX10_laysDrawn 10 = .ok (.putfield 279, 3) := by decide +kernel
theorem dX10_laysDrawn_13 : decode cX10_laysDrawn 13 = .ok (.aload_n 0, 1) := by decide +kernel
theorem dX10_laysDrawn_14 : decode cX10_laysDrawn 14 = .ok (.invokevirtual 311, 3) := by decide +kernel
theorem dX10_laysDrawn_17 : decode cX10_laysDrawn 17 = .ok (.return_, 1) := by decide +kernel
theorem dX10_laysNow_0 : decode cX10_laysNow 0 = .ok (.aload_n 0, 1) := by decide +kernel
theorem dX10_laysNow_1 : decode cX10_laysNow 1 = .ok (.invokevirtual 308, 3) := by decide +kernel
theorem dX10_laysNow_4 : decode cX10_laysNow 4 = .ok (.aload_n 0, 1) := by decide +kernel
theorem dX10_laysNow_5 : decode cX10_laysNow 5 = .ok (.invokevirtual 311, 3) := by decide +kernel
theorem dX10_laysNow_8 : decode cX10_laysNow 8 = .ok (.return_, 1) := by decide +kernel
theorem dX10_less_0 : decode cX10_less 0 = .ok (.aload_n 0, 1) := by decide +kernel
theorem dX10_less_1 : decode cX10_less 1 = .ok (.iconst 0, 1) := by decide +kernel
theorem dX10_less_2 : decode cX10_less 2 = .ok (.putfield 92, 3) := by decide +kernel
theorem dX10_less_5 : decode cX10_less 5 = .ok (.aload_n 0, 1) := by decide +kernel
theorem dX10_less_6 : decode cX10_less 6 = .ok (.invokevirtual 270, 3) := by decide +kernel
theorem dX10_less_9 : decode cX10_less 9 = .ok (.ifCond .eq 11, 3) := by decide +kernel
theorem dX10_less_12 : decode cX10_less 12 = .ok (.aload_n 0, 1) := by decide +kernel
theorem dX10_less_13 : decode cX10_less 13 = .ok (.iconst 0, 1) := by decide +kernel
theorem dX10_less_14 : decode cX10_less 14 = .ok (.invokevirtual 373, 3) := by decide +kernel
theorem dX10_less_17 : decode cX10_less 17 = .ok (.goto 5, 3) := by decide +kernel
theorem dX10_less_20 : decode cX10_less 20 = .ok (.bipush (-2), 2) := by decide +kernel
theorem dX10_less_22 : decode cX10_less 22 = .ok (.ireturn, 1) := by decide +kernel
theorem dX10_lone_0 : decode cX10_lone 0 = .ok (.aload_n 0, 1) := by decide +kernel
theorem dX10_lone_1 : decode cX10_lone 1 = .ok (.iconst 0, 1) := by decide +kernel
theorem dX10_lone_2 : decode cX10_lone 2 = .ok (.putfield 92, 3) := by decide +kernel
theorem dX10_lone_5 : decode cX10_lone 5 = .ok (.aload_n 0, 1) := by decide +kernel
theorem dX10_lone_6 : decode cX10_lone 6 = .ok (.invokevirtual 270, 3) := by decide +kernel
theorem dX10_lone_9 : decode cX10_lone 9 = .ok (.ifCond .ne 6, 3) := by decide +kernel
theorem dX10_lone_12 : decode cX10_lone 12 = .ok (.bipush (-2), 2) := by decide +kernel
theorem dX10_lone_14 : decode cX10_lone 14 = .ok (.ireturn, 1) := by decide +kernel
theorem dX10_lone_15 : decode cX10_lone 15 = .ok (.aload_n 0, 1) := by decide +kernel
theorem dX10_lone_16 : decode cX10_lone 16 = .ok (.invokevirtual 331, 3) := by decide +kernel
theorem dX10_lone_19 : decode cX10_lone 19 = .ok (.iconst 0, 1) := by decide +kernel
theorem dX10_lone_20 : decode cX10_lone 20 = .ok (.istore_n 1, 1) := by decide +kernel
theorem dX10_lone_21 : decode cX10_lone 21 = .ok (.iconst 0, 1) := by decide +kernel
theorem dX10_lone_22 : decode cX10_lone 22 = .ok (.istore_n 2, 1) := by decide +kernel
theorem dX10_lone_23 : decode cX10_lone 23 = .ok (.iload_n 2, 1) := by decide +kernel
theorem dX10_lone_24 : decode cX10_lone 24 = .ok (.aload_n 0, 1) := by decide +kernel
theorem dX10_lone_25 : decode cX10_lone 25 = .ok (.invokevirtual 262, 3) := by decide +kernel
theorem dX10_lone_28 : decode cX10_lone 28 = .ok (.if_icmp .ge 27, 3) := by decide +kernel
theorem dX10_lone_31 : decode cX10_lone 31 = .ok (.iload_n 1, 1) := by decide +kernel
theorem dX10_lone_32 : decode cX10_lone 32 = .ok (.aload_n 0, 1) := by decide +kernel
theorem dX10_lone_33 : decode cX10_lone 33 = .ok (.iload_n 2, 1) := by decide +kernel
theorem dX10_lone_34 : decode cX10_lone 34 = .ok (.invokevirtual 343, 3) := by decide +kernel
theorem dX10_lone_37 : decode cX10_lone 37 = .ok (.ifCond .ne 9, 3) := by decide +kernel
theorem dX10_lone_40 : decode cX10_lone 40 = .ok (.iconst 1, 1) := by decide +kernel
theorem dX10_lone_41 : decode cX10_lone 41 = .ok (.iload_n 2, 1) := by decide +kernel
theorem dX10_lone_42 : decode cX10_lone 42 = .ok (.ishl, 1) := by decide +kernel
theorem dX10_lone_43 : decode cX10_lone 43 = .ok (.goto 4, 3) := by decide +kernel
theorem dX10_lone_46 : decode cX10_lone 46 = .ok (.iconst 0, 1) := by decide +kernel
theorem dX10_lone_47 : decode cX10_lone 47 = .ok (.ior, 1) := by decide +kernel
theorem dX10_lone_48 : decode cX10_lone 48 = .ok (.istore_n 1, 1) := by decide +kernel
theorem dX10_lone_49 : decode cX10_lone 49 = .ok (.iinc 2 1, 3) := by decide +kernel
theorem dX10_lone_52 : decode cX10_lone 52 = .ok (.goto (-29), 3) := by decide +kernel
theorem dX10_lone_55 : decode cX10_lone 55 = .ok (.iload_n 1, 1) := by decide +kernel
theorem dX10_lone_56 : decode cX10_lone 56 = .ok (.ireturn, 1) := by decide +kernel
theorem dX10_loud_0 : decode cX10_loud 0 = .ok (.aload_n 0, 1) := by decide +kernel
theorem dX10_loud_1 : decode cX10_loud 1 = .ok (.iconst 0, 1) := by decide +kernel
theorem dX10_loud_2 : decode cX10_loud 2 = .ok (.putfield 92, 3) := by decide +kernel
theorem dX10_loud_5 : decode cX10_loud 5 = .ok (.aload_n 0, 1) := by decide +kernel
theorem dX10_loud_6 : decode cX10_loud 6 = .ok (.invokevirtual 270, 3) := by decide +kernel
theorem dX10_loud_9 : decode cX10_loud 9 = .ok (.ifCond .ne 6, 3) := by decide +kernel
theorem dX10_loud_12 : decode cX10_loud 12 = .ok (.bipush (-2), 2) := by decide +kernel
theorem dX10_loud_14 : decode cX10_loud 14 = .ok (.ireturn, 1) := by decide +kernel
theorem dX10_loud_15 : decode cX10_loud 15 = .ok (.aload_n 0, 1) := by decide +kernel
theorem dX10_loud_16 : decode cX10_loud 16 = .ok (.invokevirtual 331, 3) := by decide +kernel
theorem dX10_loud_19 : decode cX10_loud 19 = .ok (.iconst 0, 1) := by decide +kernel
theorem dX10_loud_20 : decode cX10_loud 20 = .ok (.istore_n 1, 1) := by decide +kernel
theorem dX10_loud_21 : decode cX10_loud 21 = .ok (.iconst 1, 1) := by decide +kernel
theorem dX10_loud_22 : decode cX10_loud 22 = .ok (.istore_n 2, 1) := by decide +kernel
theorem dX10_loud_23 : decode cX10_loud 23 = .ok (.iload_n 2, 1) := by decide +kernel
theorem dX10_loud_24 : decode cX10_loud 24 = .ok (.aload_n 0, 1) := by decide +kernel
theorem dX10_loud_25 : decode cX10_loud 25 = .ok (.invokevirtual 256, 3) := by decide +kernel
theorem dX10_loud_28 : decode cX10_loud 28 = .ok (.if_icmp .ge 26, 3) := by decide +kernel
theorem dX10_loud_31 : decode cX10_loud 31 = .ok (.aload_n 0, 1) := by decide +kernel
theorem dX10_loud_32 : decode cX10_loud 32 = .ok (.getfield 62, 3) := by decide +kernel
theorem dX10_loud_35 : decode cX10_loud 35 = .ok (.iload_n 2, 1) := by decide +kernel
theorem dX10_loud_36 : decode cX10_loud 36 = .ok (.iaload, 1) := by decide +kernel
theorem dX10_loud_37 : decode cX10_loud 37 = .ok (.aload_n 0, 1) := by decide +kernel
theorem dX10_loud_38 : decode cX10_loud 38 = .ok (.getfield 62, 3) := by decide +kernel
theorem dX10_loud_41 : decode cX10_loud 41 = .ok (.iload_n 1, 1) := by decide +kernel
theorem dX10_loud_42 : decode cX10_loud 42 = .ok (.iaload, 1) := by decide +kernel
theorem dX10_loud_43 : decode cX10_loud 43 = .ok (.if_icmp .le 5, 3) := by decide +kernel
theorem dX10_loud_46 : decode cX10_loud 46 = .ok (.iload_n 2, 1) := by decide +kernel
theorem dX10_loud_47 : decode cX10_loud 47 = .ok (.istore_n 1, 1) := by decide +kernel
theorem dX10_loud_48 : decode cX10_loud 48 = .ok (.iinc 2 1, 3) := by decide +kernel
theorem dX10_loud_51 : decode cX10_loud 51 = .ok (.goto (-28), 3) := by decide +kernel
theorem dX10_loud_54 : decode cX10_loud 54 = .ok (.iload_n 1, 1) := by decide +kernel
theorem dX10_loud_55 : decode cX10_loud 55 = .ok (.ireturn, 1) := by decide +kernel
theorem dX10_luck_0 : decode cX10_luck 0 = .ok (.aload_n 0, 1) := by decide +kernel
theorem dX10_luck_1 : decode cX10_luck 1 = .ok (.iconst 0, 1) := by decide +kernel
theorem dX10_luck_2 : decode cX10_luck 2 = .ok (.putfield 92, 3) := by decide +kernel
theorem dX10_luck_5 : decode cX10_luck 5 = .ok (.iload_n 1, 1) := by decide +kernel
theorem dX10_luck_6 : decode cX10_luck 6 = .ok (.invokestatic 498, 3) := by decide +kernel
theorem dX10_luck_9 : decode cX10_luck 9 = .ok (.ifCond .eq 24, 3) := by decide +kernel
theorem dX10_luck_12 : decode cX10_luck 12 = .ok (.iload_n 2, 1) := by decide +kernel
theorem dX10_luck_13 : decode cX10_luck 13 = .ok (.i2l, 1) := by decide +kernel
theorem dX10_luck_14 : decode cX10_luck 14 = .ok (.lconst 1, 1) := by decide +kernel
theorem dX10_luck_15 : decode cX10_luck 15 = .ok (.ldc2_w 504, 3) := by decide +kernel
theorem dX10_luck_18 : decode cX10_luck 18 = .ok (.invokestatic 97, 3) := by decide +kernel
theorem dX10_luck_21 : decode cX10_luck 21 = .ok (.ifCond .eq 12, 3) := by decide +kernel
theorem dX10_luck_24 : decode cX10_luck 24 = .ok (.aload_n 0, 1) := by decide +kernel
theorem dX10_luck_25 : decode cX10_luck 25 = .ok (.iload_n 3, 1) := by decide +kernel
theorem dX10_luck_26 : decode cX10_luck 26 = .ok (.i2l, 1) := by decide +kernel
theorem dX10_luck_27 : decode cX10_luck 27 = .ok (.invokevirtual 265, 3) := by decide +kernel
theorem dX10_luck_30 : decode cX10_luck 30 = .ok (.ifCond .ne 6, 3) := by decide +kernel
theorem dX10_luck_33 : decode cX10_luck 33 = .ok (.bipush (-2), 2) := by decide +kernel
theorem dX10_luck_35 : decode cX10_luck 35 = .ok (.ireturn, 1) := by decide +kernel
theorem dX10_luck_36 : decode cX10_luck 36 = .ok (.iconst 0, 1) := by decide +kernel
theorem dX10_luck_37 : decode cX10_luck 37 = .ok (.istore 4, 2) := by decide +kernel
theorem dX10_luck_39 : decode cX10_luck 39 = .ok (.iconst 0, 1) := by decide +kernel
theorem dX10_luck_40 : decode cX10_luck 40 = .ok (.istore 5, 2) := by decide +kernel
theorem dX10_luck_42 : decode cX10_luck 42 = .ok (.iload 5, 2) := by decide +kernel
theorem dX10_luck_44 : decode cX10_luck 44 = .ok (.iload_n 2, 1) := by decide +kernel
theorem dX10_luck_45 : decode cX10_luck 45 = .ok (.if_icmp .ge 45, 3) := by decide +kernel
theorem dX10_luck_48 : decode cX10_luck 48 = .ok (.aload_n 0, 1) := by decide +kernel
theorem dX10_luck_49 : decode cX10_luck 49 = .ok (.iload_n 1, 1) := by decide +kernel
theorem dX10_luck_50 : decode cX10_luck 50 = .ok (.i2l, 1) := by decide +kernel
theorem dX10_luck_51 : decode cX10_luck 51 = .ok (.iload 5, 2) := by decide +kernel
theorem dX10_luck_53 : decode cX10_luck 53 = .ok (.i2l, 1) := by decide +kernel
theorem dX10_luck_54 : decode cX10_luck 54 = .ok (.ladd, 1) := by decide +kernel
theorem dX10_luck_55 : decode cX10_luck 55 = .ok (.invokevirtual 501, 3) := by decide +kernel
theorem dX10_luck_58 : decode cX10_luck 58 = .ok (.iload 4, 2) := by decide +kernel
theorem dX10_luck_60 : decode cX10_luck 60 = .ok (.aload_n 0, 1) := by decide +kernel
theorem dX10_luck_61 : decode cX10_luck 61 = .ok (.iload_n 3, 1) := by decide +kernel
theorem dX10_luck_62 : decode cX10_luck 62 = .ok (.aload_n 0, 1) := by decide +kernel
theorem dX10_luck_63 : decode cX10_luck 63 = .ok (.getfield 40, 3) := by decide +kernel
theorem dX10_luck_66 : decode cX10_luck 66 = .ok (.iconst 3, 1) := by decide +kernel
theorem dX10_luck_67 : decode cX10_luck 67 = .ok (.iload_n 3, 1) := by decide +kernel
theorem dX10_luck_68 : decode cX10_luck 68 = .ok (.imul, 1) := by decide +kernel
theorem dX10_luck_69 : decode cX10_luck 69 = .ok (.iaload, 1) := by decide +kernel
theorem dX10_luck_70 : decode cX10_luck 70 = .ok (.invokevirtual 317, 3) := by decide +kernel
theorem dX10_luck_73 : decode cX10_luck 73 = .ok (.ifCond .eq 7, 3) := by decide +kernel
theorem dX10_luck_76 : decode cX10_luck 76 = .ok (.iconst 1, 1) := by decide +kernel
theorem dX10_luck_77 : decode cX10_luck 77 = .ok (.goto 4, 3) := by decide +kernel
theorem dX10_luck_80 : decode cX10_luck 80 = .ok (.iconst 0, 1) := by decide +kernel
theorem dX10_luck_81 : decode cX10_luck 81 = .ok (.iadd, 1) := by decide +kernel
theorem dX10_luck_82 : decode cX10_luck 82 = .ok (.istore 4, 2) := by decide +kernel
theorem dX10_luck_84 : decode cX10_luck 84 = .ok (.iinc 5 1, 3) := by decide +kernel
theorem dX10_luck_87 : decode cX10_luck 87 = .ok (.goto (-45), 3) := by decide +kernel
theorem dX10_luck_90 : decode cX10_luck 90 = .ok (.iload 4, 2) := by decide +kernel
theorem dX10_luck_92 : decode cX10_luck 92 = .ok (.ireturn, 1) := by decide +kernel
theorem dX10_meets_0 : decode cX10_meets 0 = .ok (.aload_n 0, 1) := by decide +kernel
theorem dX10_meets_1 : decode cX10_meets 1 = .ok (.iconst 0, 1) := by decide +kernel
theorem dX10_meets_2 : decode cX10_meets 2 = .ok (.putfield 92, 3) := by decide +kernel
theorem dX10_meets_5 : decode cX10_meets 5 = .ok (.aload_n 0, 1) := by decide +kernel
theorem dX10_meets_6 : decode cX10_meets 6 = .ok (.iload_n 1, 1) := by decide +kernel
theorem dX10_meets_7 : decode cX10_meets 7 = .ok (.i2l, 1) := by decide +kernel
theorem dX10_meets_8 : decode cX10_meets 8 = .ok (.invokevirtual 323, 3) := by decide +kernel
theorem dX10_meets_11 : decode cX10_meets 11 = .ok (.ifCond .eq 12, 3) := by decide +kernel
theorem dX10_meets_14 : decode cX10_meets 14 = .ok (.aload_n 0, 1) := by decide +kernel
theorem dX10_meets_15 : decode cX10_meets 15 = .ok (.iload_n 2, 1) := by decide +kernel
theorem dX10_meets_16 : decode cX10_meets 16 = .ok (.i2l, 1) := by decide +kernel
theorem dX10_meets_17 : decode cX10_meets 17 = .ok (.invokevirtual 323, 3) := by decide +kernel
theorem dX10_meets_20 : decode cX10_meets 20 = .ok (.ifCond .ne 6, 3) := by decide +kernel
theorem dX10_meets_23 : decode cX10_meets 23 = .ok (.bipush (-2), 2) := by decide +kernel
theorem dX10_meets_25 : decode cX10_meets 25 = .ok (.ireturn, 1) := by decide +kernel
theorem dX10_meets_26 : decode cX10_meets 26 = .ok (.aload_n 0, 1) := by decide +kernel
theorem dX10_meets_27 : decode cX10_meets 27 = .ok (.invokevirtual 331, 3) := by decide +kernel
theorem dX10_meets_30 : decode cX10_meets 30 = .ok (.iconst 0, 1) := by decide +kernel
theorem dX10_meets_31 : decode cX10_meets 31 = .ok (.istore_n 3, 1) := by decide +kernel
theorem dX10_meets_32 : decode cX10_meets 32 = .ok (.iload_n 3, 1) := by decide +kernel
theorem dX10_meets_33 : decode cX10_meets 33 = .ok (.bipush 40, 2) := by decide +kernel
theorem dX10_meets_35 : decode cX10_meets 35 = .ok (.if_icmp .gt 51, 3) := by decide +kernel
theorem dX10_meets_38 : decode cX10_meets 38 = .ok (.aload_n 0, 1) := by decide +kernel
theorem dX10_meets_39 : decode cX10_meets 39 = .ok (.getfield 53, 3) := by decide +kernel
theorem dX10_meets_42 : decode cX10_meets 42 = .ok (.bipush 41, 2) := by decide +kernel
theorem dX10_meets_44 : decode cX10_meets 44 = .ok (.iload_n 1, 1) := by decide +kernel
theorem dX10_meets_45 : decode cX10_meets 45 = .ok (.imul, 1) := by decide +kernel
theorem dX10_meets_46 : decode cX10_meets 46 = .ok (.iload_n 3, 1) := by decide +kernel
theorem dX10_meets_47 : decode cX10_meets 47 = .ok (.iadd, 1) := by decide +kernel
theorem dX10_meets_48 : decode cX10_meets 48 = .ok (.iaload, 1) := by decide +kernel
theorem dX10_meets_49 : decode cX10_meets 49 = .ok (.iconst (-1), 1) := by decide +kernel
theorem dX10_meets_50 : decode cX10_meets 50 = .ok (.if_icmp .eq 30, 3) := by decide +kernel
theorem dX10_meets_53 : decode cX10_meets 53 = .ok (.aload_n 0, 1) := by decide +kernel
theorem dX10_meets_54 : decode cX10_meets 54 = .ok (.getfield 53, 3) := by decide +kernel
theorem dX10_meets_57 : decode cX10_meets 57 = .ok (.bipush 41, 2) := by decide +kernel
theorem dX10_meets_59 : decode cX10_meets 59 = .ok (.iload_n 1, 1) := by decide +kernel
theorem dX10_meets_60 : decode cX10_meets 60 = .ok (.imul, 1) := by decide +kernel
theorem dX10_meets_61 : decode cX10_meets 61 = .ok (.iload_n 3, 1) := by decide +kernel
theorem dX10_meets_62 : decode cX10_meets 62 = .ok (.iadd, 1) := by decide +kernel
theorem dX10_meets_63 : decode cX10_meets 63 = .ok (.iaload, 1) := by decide +kernel
theorem dX10_meets_64 : decode cX10_meets 64 = .ok (.aload_n 0, 1) := by decide +kernel
theorem dX10_meets_65 : decode cX10_meets 65 = .ok (.getfield 53, 3) := by decide +kernel
theorem dX10_meets_68 : decode cX10_meets 68 = .ok (.bipush 41, 2) := by decide +kernel
theorem dX10_meets_70 : decode cX10_meets 70 = .ok (.iload_n 2, 1) := by decide +kernel
theorem dX10_meets_71 : decode cX10_meets 71 = .ok (.imul, 1) := by decide +kernel
theorem dX10_meets_72 : decode cX10_meets 72 = .ok (.iload_n 3, 1) := by decide +kernel
theorem dX10_meets_73 : decode cX10_meets 73 = .ok (.iadd, 1) := by decide +kernel
theorem dX10_meets_74 : decode cX10_meets 74 = .ok (.iaload, 1) := by decide +kernel
theorem dX10_meets_75 : decode cX10_meets 75 = .ok (.if_icmp .ne 5, 3) := by decide +kernel
theorem dX10_meets_78 : decode cX10_meets 78 = .ok (.iload_n 3, 1) := by decide +kernel
theorem dX10_meets_79 : decode cX10_meets 79 = .ok (.ireturn, 1) := by decide +kernel
theorem dX10_meets_80 : decode cX10_meets 80 = .ok (.iinc 3 1, 3) := by decide +kernel
theorem dX10_meets_83 : decode cX10_meets 83 = .ok (.goto (-51), 3) := by decide +kernel
theorem dX10_meets_86 : decode cX10_meets 86 = .ok (.iconst (-1), 1) := by decide +kernel
theorem dX10_meets_87 : decode cX10_meets 87 = .ok (.ireturn, 1) := by decide +kernel
theorem dX10_member_0 : decode cX10_member 0 = .ok (.aload_n 0, 1) := by decide +kernel
theorem dX10_member_1 : decode cX10_member 1 = .ok (.iconst 0, 1) := by decide +kernel
theorem dX10_member_2 : decode cX10_member 2 = .ok (.putfield 92, 3) := by decide +kernel
theorem dX10_member_5 : decode cX10_member 5 = .ok (.aload_n 0, 1) := by decide +kernel
theorem dX10_member_6 : decode cX10_member 6 = .ok (.iload_n 1, 1) := by decide +kernel
theorem dX10_member_7 : decode cX10_member 7 = .ok (.i2l, 1) := by decide +kernel
theorem dX10_member_8 : decode cX10_member 8 = .ok (.invokevirtual 265, 3) := by decide +kernel
theorem dX10_member_11 : decode cX10_member 11 = .ok (.ifCond .eq 28, 3) := by decide +kernel
theorem dX10_member_14 : decode cX10_member 14 = .ok (.iload_n 2, 1) := by decide +kernel
theorem dX10_member_15 : decode cX10_member 15 = .ok (.i2l, 1) := by decide +kernel
theorem dX10_member_16 : decode cX10_member 16 = .ok (.lconst 0, 1) := by decide +kernel
theorem dX10_member_17 : decode cX10_member 17 = .ok (.ldc2_w 326, 3) := by decide +kernel
theorem dX10_member_20 : decode cX10_member 20 = .ok (.invokestatic 97, 3) := by decide +kernel
theorem dX10_member_23 : decode cX10_member 23 = .ok (.ifCond .eq 16, 3) := by decide +kernel
theorem dX10_member_26 : decode cX10_member 26 = .ok (.aload_n 0, 1) := by decide +kernel
theorem dX10_member_27 : decode cX10_member 27 = .ok (.getfield 40, 3) := by decide +kernel
theorem dX10_member_30 : decode cX10_member 30 = .ok (.iconst 3, 1) := by decide +kernel
theorem dX10_member_31 : decode cX10_member 31 = .ok (.iload_n 1, 1) := by decide +kernel
theorem dX10_member_32 : decode cX10_member 32 = .ok (.imul, 1) := by decide +kernel
theorem dX10_member_33 : decode cX10_member 33 = .ok (.iload_n 2, 1) := by decide +kernel
theorem dX10_member_34 : decode cX10_member 34 = .ok (.iadd, 1) := by decide +kernel
theorem dX10_member_35 : decode cX10_member 35 = .ok (.iaload, 1) := by decide +kernel
theorem dX10_member_36 : decode cX10_member 36 = .ok (.goto 5, 3) := by decide +kernel
theorem dX10_member_39 : decode cX10_member 39 = .ok (.bipush (-2), 2) := by decide +kernel
theorem dX10_member_41 : decode cX10_member 41 = .ok (.ireturn, 1) := by decide +kernel
theorem dX10_more_0 : decode cX10_more 0 = .ok (.aload_n 0, 1) := by decide +kernel
theorem dX10_more_1 : decode cX10_more 1 = .ok (.iconst 0, 1) := by decide +kernel
theorem dX10_more_2 : decode cX10_more 2 = .ok (.putfield 92, 3) := by decide +kernel
theorem dX10_more_5 : decode cX10_more 5 = .ok (.aload_n 0, 1) := by decide +kernel
theorem dX10_more_6 : decode cX10_more 6 = .ok (.invokevirtual 270, 3) := by decide +kernel
theorem dX10_more_9 : decode cX10_more 9 = .ok (.ifCond .eq 11, 3) := by decide +kernel
theorem dX10_more_12 : decode cX10_more 12 = .ok (.aload_n 0, 1) := by decide +kernel
theorem dX10_more_13 : decode cX10_more 13 = .ok (.iconst 1, 1) := by decide +kernel
theorem dX10_more_14 : decode cX10_more 14 = .ok (.invokevirtual 373, 3) := by decide +kernel
theorem dX10_more_17 : decode cX10_more 17 = .ok (.goto 5, 3) := by decide +kernel
theorem dX10_more_20 : decode cX10_more 20 = .ok (.bipush (-2), 2) := by decide +kernel
theorem dX10_more_22 : decode cX10_more 22 = .ok (.ireturn, 1) := by decide +kernel
theorem dX10_near_0 : decode cX10_near 0 = .ok (.aload_n 0, 1) := by decide +kernel
theorem dX10_near_1 : decode cX10_near 1 = .ok (.iconst 0, 1) := by decide +kernel
theorem dX10_near_2 : decode cX10_near 2 = .ok (.putfield 92, 3) := by decide +kernel
theorem dX10_near_5 : decode cX10_near 5 = .ok (.aload_n 0, 1) := by decide +kernel
theorem dX10_near_6 : decode cX10_near 6 = .ok (.iload_n 1, 1) := by decide +kernel
theorem dX10_near_7 : decode cX10_near 7 = .ok (.i2l, 1) := by decide +kernel
theorem dX10_near_8 : decode cX10_near 8 = .ok (.invokevirtual 265, 3) := by decide +kernel
theorem dX10_near_11 : decode cX10_near 11 = .ok (.ifCond .ne 6, 3) := by decide +kernel
theorem dX10_near_14 : decode cX10_near 14 = .ok (.bipush (-2), 2) := by decide +kernel
theorem dX10_near_16 : decode cX10_near 16 = .ok (.ireturn, 1) := by decide +kernel
theorem dX10_near_17 : decode cX10_near 17 = .ok (.aload_n 0, 1) := by decide +kernel
theorem dX10_near_18 : decode cX10_near 18 = .ok (.invokevirtual 331, 3) := by decide +kernel
theorem dX10_near_21 : decode cX10_near 21 = .ok (.iconst 0, 1) := by decide +kernel
theorem dX10_near_22 : decode cX10_near 22 = .ok (.istore_n 2, 1) := by decide +kernel
theorem dX10_near_23 : decode cX10_near 23 = .ok (.iconst 0, 1) := by decide +kernel
theorem dX10_near_24 : decode cX10_near 24 = .ok (.istore_n 3, 1) := by decide +kernel
theorem dX10_near_25 : decode cX10_near 25 = .ok (.iload_n 3, 1) := by decide +kernel
theorem dX10_near_26 : decode cX10_near 26 = .ok (.aload_n 0, 1) := by decide +kernel
theorem dX10_near_27 : decode cX10_near 27 = .ok (.invokevirtual 259, 3) := by decide +kernel
theorem dX10_near_30 : decode cX10_near 30 = .ok (.if_icmp .ge 35, 3) := by decide +kernel
theorem dX10_near_33 : decode cX10_near 33 = .ok (.iload_n 2, 1) := by decide +kernel
theorem dX10_near_34 : decode cX10_near 34 = .ok (.aload_n 0, 1) := by decide +kernel
theorem dX10_near_35 : decode cX10_near 35 = .ok (.iload_n 3, 1) := by decide +kernel
theorem dX10_near_36 : decode cX10_near 36 = .ok (.aload_n 0, 1) := by decide +kernel
theorem dX10_near_37 : decode cX10_near 37 = .ok (.getfield 40, 3) := by decide +kernel
theorem dX10_near_40 : decode cX10_near 40 = .ok (.iconst 3, 1) := by decide +kernel
theorem dX10_near_41 : decode cX10_near 41 = .ok (.iload_n 1, 1) := by decide +kernel
theorem dX10_near_42 : decode cX10_near 42 = .ok (.imul, 1) := by decide +kernel
theorem dX10_near_43 : decode cX10_near 43 = .ok (.iaload, 1) := by decide +kernel
theorem dX10_near_44 : decode cX10_near 44 = .ok (.invokevirtual 305, 3) := by decide +kernel
theorem dX10_near_47 : decode cX10_near 47 = .ok (.ifCond .le 9, 3) := by decide +kernel
theorem dX10_near_50 : decode cX10_near 50 = .ok (.iconst 1, 1) := by decide +kernel
theorem dX10_near_51 : decode cX10_near 51 = .ok (.iload_n 3, 1) := by decide +kernel
theorem dX10_near_52 : decode cX10_near 52 = .ok (.ishl, 1) := by decide +kernel
theorem dX10_near_53 : decode cX10_near 53 = .ok (.goto 4, 3) := by decide +kernel
theorem dX10_near_56 : decode cX10_near 56 = .ok (.iconst 0, 1) := by decide +kernel
theorem dX10_near_57 : decode cX10_near 57 = .ok (.ior, 1) := by decide +kernel
theorem dX10_near_58 : decode cX10_near 58 = .ok (.istore_n 2, 1) := by decide +kernel
theorem dX10_near_59 : decode cX10_near 59 = .ok (.iinc 3 1, 3) := by decide +kernel
theorem dX10_near_62 : decode cX10_near 62 = .ok (.goto (-37), 3) := by decide +kernel
theorem dX10_near_65 : decode cX10_near 65 = .ok (.iload_n 2, 1) := by decide +kernel
theorem dX10_near_66 : decode cX10_near 66 = .ok (.ireturn, 1) := by decide +kernel
theorem dX10_otherwise_0 : decode cX10_otherwise 0 = .ok (.aload_n 0, 1) := by decide +kernel
theorem dX10_otherwise_1 : decode cX10_otherwise 1 = .ok (.invokevirtual 331, 3) := by decide +kernel
theorem dX10_otherwise_4 : decode cX10_otherwise 4 = .ok (.aload_n 0, 1) := by decide +kernel
theorem dX10_otherwise_5 : decode cX10_otherwise 5 = .ok (.getfield 273, 3) := by decide +kernel
theorem dX10_otherwise_8 : decode cX10_otherwise 8 = .ok (.istore_n 2, 1) := by decide +kernel
theorem dX10_otherwise_9 : decode cX10_otherwise 9 = .ok (.iconst (-1), 1) := by decide +kernel
theorem dX10_otherwise_10 : decode cX10_otherwise 10 = .ok (.istore_n 3, 1) := by decide +kernel
theorem dX10_otherwise_11 : decode cX10_otherwise 11 = .ok (.aload_n 0, 1) := by decide +kernel
theorem dX10_otherwise_12 : decode cX10_otherwise 12 = .ok (.invokevirtual 349, 3) := by decide +kernel
theorem dX10_otherwise_15 : decode cX10_otherwise 15 = .ok (.istore 4, 2) := by decide +kernel
theorem dX10_otherwise_17 : decode cX10_otherwise 17 = .ok (.iconst 0, 1) := by decide +kernel
theorem dX10_otherwise_18 : decode cX10_otherwise 18 = .ok (.istore 5, 2) := by decide +kernel
theorem dX10_otherwise_20 : decode cX10_otherwise 20 = .ok (.iload 5, 2) := by decide +kernel
theorem dX10_otherwise_22 : decode cX10_otherwise 22 = .ok (.aload_n 0, 1) := by decide +kernel
theorem dX10_otherwise_23 : decode cX10_otherwise 23 = .ok (.invokevirtual 256, 3) := by decide +kernel
theorem dX10_otherwise_26 : decode cX10_otherwise 26 = .ok (.if_icmp .ge 57, 3) := by decide +kernel
theorem dX10_otherwise_29 : decode cX10_otherwise 29 = .ok (.iload_n 2, 1) := by decide +kernel
theorem dX10_otherwise_30 : decode cX10_otherwise 30 = .ok (.iload 5, 2) := by decide +kernel
theorem dX10_otherwise_32 : decode cX10_otherwise 32 = .ok (.invokestatic 282, 3) := by decide +kernel
theorem dX10_otherwise_35 : decode cX10_otherwise 35 = .ok (.iload_n 1, 1) := by decide +kernel
theorem dX10_otherwise_36 : decode cX10_otherwise 36 = .ok (.if_icmp .ne 6, 3) := by decide +kernel
theorem dX10_otherwise_39 : decode cX10_otherwise 39 = .ok (.goto 38, 3) := by decide +kernel
theorem dX10_otherwise_42 : decode cX10_otherwise 42 = .ok (.aload_n 0, 1) := by decide +kernel
theorem dX10_otherwise_43 : decode cX10_otherwise 43 = .ok (.iload_n 2, 1) := by decide +kernel
theorem dX10_otherwise_44 : decode cX10_otherwise 44 = .ok (.iconst 1, 1) := by decide +kernel
theorem dX10_otherwise_45 : decode cX10_otherwise 45 = .ok (.iload 5, 2) := by decide +kernel
theorem dX10_otherwise_47 : decode cX10_otherwise 47 = .ok (.ishl, 1) := by decide +kernel
theorem dX10_otherwise_48 : decode cX10_otherwise 48 = .ok (.ixor, 1) := by decide +kernel
theorem dX10_otherwise_49 : decode cX10_otherwise 49 = .ok (.putfield 273, 3) := by decide +kernel
theorem dX10_otherwise_52 : decode cX10_otherwise 52 = .ok (.aload_n 0, 1) := by decide +kernel
theorem dX10_otherwise_53 : decode cX10_otherwise 53 = .ok (.invokevirtual 311, 3) := by decide +kernel
theorem dX10_otherwise_56 : decode cX10_otherwise 56 = .ok (.aload_n 0, 1) := by decide +kernel
theorem dX10_otherwise_57 : decode cX10_otherwise 57 = .ok (.invokevirtual 349, 3) := by decide +kernel
theorem dX10_otherwise_60 : decode cX10_otherwise 60 = .ok (.iload 4, 2) := by decide +kernel
theorem dX10_otherwise_62 : decode cX10_otherwise 62 = .ok (.if_icmp .gt 6, 3) := by decide +kernel
theorem dX10_otherwise_65 : decode cX10_otherwise 65 = .ok (.goto 12, 3) := by decide +kernel
theorem dX10_otherwise_68 : decode cX10_otherwise 68 = .ok (.iload 5, 2) := by decide +kernel
theorem dX10_otherwise_70 : decode cX10_otherwise 70 = .ok (.istore_n 3, 1) := by decide +kernel
theorem dX10_otherwise_71 : decode cX10_otherwise 71 = .ok (.aload_n 0, 1) := by decide +kernel
theorem dX10_otherwise_72 : decode cX10_otherwise 72 = .ok (.invokevirtual 349, 3) := by decide +kernel
theorem dX10_otherwise_75 : decode cX10_otherwise 75 = .ok (.istore 4, 2) := by decide +kernel
theorem dX10_otherwise_77 : decode cX10_otherwise 77 = .ok (.iinc 5 1, 3) := by decide +kernel
theorem dX10_otherwise_80 : decode cX10_otherwise 80 = .ok (.goto (-60), 3) := by decide +kernel
theorem dX10_otherwise_83 : decode cX10_otherwise 83 = .ok (.iload_n 3, 1) := by decide +kernel
theorem dX10_otherwise_84 : decode cX10_otherwise 84 = .ok (.ireturn, 1) := by decide +kernel
theorem dX10_out_0 : decode cX10_out 0 = .ok (.aload_n 0, 1) := by decide +kernel
theorem dX10_out_1 : decode cX10_out 1 = .ok (.iconst 0, 1) := by decide +kernel
theorem dX10_out_2 : decode cX10_out 2 = .ok (.putfield 92, 3) := by decide +kernel
theorem dX10_out_5 : decode cX10_out 5 = .ok (.aload_n 0, 1) := by decide +kernel
theorem dX10_out_6 : decode cX10_out 6 = .ok (.iload_n 1, 1) := by decide +kernel
theorem dX10_out_7 : decode cX10_out 7 = .ok (.i2l, 1) := by decide +kernel
theorem dX10_out_8 : decode cX10_out 8 = .ok (.invokevirtual 323, 3) := by decide +kernel
theorem dX10_out_11 : decode cX10_out 11 = .ok (.ifCond .ne 6, 3) := by decide +kernel
theorem dX10_out_14 : decode cX10_out 14 = .ok (.bipush (-2), 2) := by decide +kernel
theorem dX10_out_16 : decode cX10_out 16 = .ok (.ireturn, 1) := by decide +kernel
theorem dX10_out_17 : decode cX10_out 17 = .ok (.aload_n 0, 1) := by decide +kernel
theorem dX10_out_18 : decode cX10_out 18 = .ok (.invokevirtual 331, 3) := by decide +kernel
theorem dX10_out_21 : decode cX10_out 21 = .ok (.aload_n 0, 1) := by decide +kernel
theorem dX10_out_22 : decode cX10_out 22 = .ok (.iload_n 1, 1) := by decide +kernel
theorem dX10_out_23 : decode cX10_out 23 = .ok (.invokevirtual 334, 3) := by decide +kernel
theorem dX10_out_26 : decode cX10_out 26 = .ok (.ireturn, 1) := by decide +kernel
theorem dX10_outOf_0 : decode cX10_outOf 0 = .ok (.iconst 0, 1) := by decide +kernel
theorem dX10_outOf_1 : decode cX10_outOf 1 = .ok (.istore_n 2, 1) := by decide +kernel
theorem dX10_outOf_2 : decode cX10_outOf 2 = .ok (.iload_n 2, 1) := by decide +kernel
theorem dX10_outOf_3 : decode cX10_outOf 3 = .ok (.bipush 40, 2) := by decide +kernel
theorem dX10_outOf_5 : decode cX10_outOf 5 = .ok (.if_icmp .gt 26, 3) := by decide +kernel
theorem dX10_outOf_8 : decode cX10_outOf 8 = .ok (.aload_n 0, 1) := by decide +kernel
theorem dX10_outOf_9 : decode cX10_outOf 9 = .ok (.getfield 53, 3) := by decide +kernel
theorem dX10_outOf_12 : decode cX10_outOf 12 = .ok (.bipush 41, 2) := by decide +kernel
theorem dX10_outOf_14 : decode cX10_outOf 14 = .ok (.iload_n 1, 1) := by decide +kernel
theorem dX10_outOf_15 : decode cX10_outOf 15 = .ok (.imul, 1) := by decide +kernel
theorem dX10_outOf_16 : decode cX10_outOf 16 = .ok (.iload_n 2, 1) := by decide +kernel
theorem dX10_outOf_17 : decode cX10_outOf 17 = .ok (.iadd, 1) := by decide +kernel
theorem dX10_outOf_18 : decode cX10_outOf 18 = .ok (.iaload, 1) := by decide +kernel
theorem dX10_outOf_19 : decode cX10_outOf 19 = .ok (.iconst (-1), 1) := by decide +kernel
theorem dX10_outOf_20 : decode cX10_outOf 20 = .ok (.if_icmp .ne 5, 3) := by decide +kernel
theorem dX10_outOf_23 : decode cX10_outOf 23 = .ok (.iload_n 2, 1) := by decide +kernel
theorem dX10_outOf_24 : decode cX10_outOf 24 = .ok (.ireturn, 1) := by decide +kernel
theorem dX10_outOf_25 : decode cX10_outOf 25 = .ok (.iinc 2 1, 3) := by decide +kernel
theorem dX10_outOf_28 : decode cX10_outOf 28 = .ok (.goto (-26), 3) := by decide +kernel
theorem dX10_outOf_31 : decode cX10_outOf 31 = .ok (.iconst (-1), 1) := by decide +kernel
theorem dX10_outOf_32 : decode cX10_outOf 32 = .ok (.ireturn, 1) := by decide +kernel
theorem dX10_over_0 : decode cX10_over 0 = .ok (.aload_n 0, 1) := by decide +kernel
theorem dX10_over_1 : decode cX10_over 1 = .ok (.iconst 0, 1) := by decide +kernel
theorem dX10_over_2 : decode cX10_over 2 = .ok (.putfield 92, 3) := by decide +kernel
theorem dX10_over_5 : decode cX10_over 5 = .ok (.aload_n 0, 1) := by decide +kernel
theorem dX10_over_6 : decode cX10_over 6 = .ok (.iload_n 1, 1) := by decide +kernel
theorem dX10_over_7 : decode cX10_over 7 = .ok (.i2l, 1) := by decide +kernel
theorem dX10_over_8 : decode cX10_over 8 = .ok (.invokevirtual 340, 3) := by decide +kernel
theorem dX10_over_11 : decode cX10_over 11 = .ok (.ifCond .ne 6, 3) := by decide +kernel
theorem dX10_over_14 : decode cX10_over 14 = .ok (.bipush (-2), 2) := by decide +kernel
theorem dX10_over_16 : decode cX10_over 16 = .ok (.ireturn, 1) := by decide +kernel
theorem dX10_over_17 : decode cX10_over 17 = .ok (.aload_n 0, 1) := by decide +kernel
theorem dX10_over_18 : decode cX10_over 18 = .ok (.invokevirtual 331, 3) := by decide +kernel
theorem dX10_over_21 : decode cX10_over 21 = .ok (.iconst 0, 1) := by decide +kernel
theorem dX10_over_22 : decode cX10_over 22 = .ok (.istore_n 2, 1) := by decide +kernel
theorem dX10_over_23 : decode cX10_over 23 = .ok (.iconst 0, 1) := by decide +kernel
theorem dX10_over_24 : decode cX10_over 24 = .ok (.istore_n 3, 1) := by decide +kernel
theorem dX10_over_25 : decode cX10_over 25 = .ok (.iload_n 3, 1) := by decide +kernel
theorem dX10_over_26 : decode cX10_over 26 = .ok (.aload_n 0, 1) := by decide +kernel
theorem dX10_over_27 : decode cX10_over 27 = .ok (.invokevirtual 259, 3) := by decide +kernel
theorem dX10_over_30 : decode cX10_over 30 = .ok (.if_icmp .ge 31, 3) := by decide +kernel
theorem dX10_over_33 : decode cX10_over 33 = .ok (.iload_n 2, 1) := by decide +kernel
theorem dX10_over_34 : decode cX10_over 34 = .ok (.aload_n 0, 1) := by decide +kernel
theorem dX10_over_35 : decode cX10_over 35 = .ok (.iload_n 3, 1) := by decide +kernel
theorem dX10_over_36 : decode cX10_over 36 = .ok (.invokevirtual 337, 3) := by decide +kernel
theorem dX10_over_39 : decode cX10_over 39 = .ok (.iload_n 1, 1) := by decide +kernel
theorem dX10_over_40 : decode cX10_over 40 = .ok (.invokestatic 282, 3) := by decide +kernel
theorem dX10_over_43 : decode cX10_over 43 = .ok (.ifCond .eq 9, 3) := by decide +kernel
theorem dX10_over_46 : decode cX10_over 46 = .ok (.iconst 1, 1) := by decide +kernel
theorem dX10_over_47 : decode cX10_over 47 = .ok (.iload_n 3, 1) := by decide +kernel
theorem dX10_over_48 : decode cX10_over 48 = .ok (.ishl, 1) := by decide +kernel
theorem dX10_over_49 : decode cX10_over 49 = .ok (.goto 4, 3) := by decide +kernel
theorem dX10_over_52 : decode cX10_over 52 = .ok (.iconst 0, 1) := by decide +kernel
theorem dX10_over_53 : decode cX10_over 53 = .ok (.ior, 1) := by decide +kernel
theorem dX10_over_54 : decode cX10_over 54 = .ok (.istore_n 2, 1) := by decide +kernel
theorem dX10_over_55 : decode cX10_over 55 = .ok (.iinc 3 1, 3) := by decide +kernel
theorem dX10_over_58 : decode cX10_over 58 = .ok (.goto (-33), 3) := by decide +kernel
theorem dX10_over_61 : decode cX10_over 61 = .ok (.iload_n 2, 1) := by decide +kernel
theorem dX10_over_62 : decode cX10_over 62 = .ok (.ireturn, 1) := by decide +kernel
theorem dX10_paysOf_0 : decode cX10_paysOf 0 = .ok (.aload_n 0, 1) := by decide +kernel
theorem dX10_paysOf_1 : decode cX10_paysOf 1 = .ok (.getfield 40, 3) := by decide +kernel
theorem dX10_paysOf_4 : decode cX10_paysOf 4 = .ok (.iconst 3, 1) := by decide +kernel
theorem dX10_paysOf_5 : decode cX10_paysOf 5 = .ok (.iload_n 1, 1) := by decide +kernel
theorem dX10_paysOf_6 : decode cX10_paysOf 6 = .ok (.imul, 1) := by decide +kernel
theorem dX10_paysOf_7 : decode cX10_paysOf 7 = .ok (.iconst 2, 1) := by decide +kernel
theorem dX10_paysOf_8 : decode cX10_paysOf 8 = .ok (.iadd, 1) := by decide +kernel
theorem dX10_paysOf_9 : decode cX10_paysOf 9 = .ok (.iaload, 1) := by decide +kernel
theorem dX10_paysOf_10 : decode cX10_paysOf 10 = .ok (.ireturn, 1) := by decide +kernel
theorem dX10_quiet_0 : decode cX10_quiet 0 = .ok (.aload_n 0, 1) := by decide +kernel
theorem dX10_quiet_1 : decode cX10_quiet 1 = .ok (.iconst 0, 1) := by decide +kernel
theorem dX10_quiet_2 : decode cX10_quiet 2 = .ok (.putfield 92, 3) := by decide +kernel
theorem dX10_quiet_5 : decode cX10_quiet 5 = .ok (.aload_n 0, 1) := by decide +kernel
theorem dX10_quiet_6 : decode cX10_quiet 6 = .ok (.invokevirtual 270, 3) := by decide +kernel
theorem dX10_quiet_9 : decode cX10_quiet 9 = .ok (.ifCond .ne 6, 3) := by decide +kernel
theorem dX10_quiet_12 : decode cX10_quiet 12 = .ok (.bipush (-2), 2) := by decide +kernel
theorem dX10_quiet_14 : decode cX10_quiet 14 = .ok (.ireturn, 1) := by decide +kernel
theorem dX10_quiet_15 : decode cX10_quiet 15 = .ok (.aload_n 0, 1) := by decide +kernel
theorem dX10_quiet_16 : decode cX10_quiet 16 = .ok (.invokevirtual 331, 3) := by decide +kernel
theorem dX10_quiet_19 : decode cX10_quiet 19 = .ok (.iconst 0, 1) := by decide +kernel
theorem dX10_quiet_20 : decode cX10_quiet 20 = .ok (.istore_n 1, 1) := by decide +kernel
theorem dX10_quiet_21 : decode cX10_quiet 21 = .ok (.iconst 0, 1) := by decide +kernel
theorem dX10_quiet_22 : decode cX10_quiet 22 = .ok (.istore_n 2, 1) := by decide +kernel
theorem dX10_quiet_23 : decode cX10_quiet 23 = .ok (.iload_n 2, 1) := by decide +kernel
theorem dX10_quiet_24 : decode cX10_quiet 24 = .ok (.aload_n 0, 1) := by decide +kernel
theorem dX10_quiet_25 : decode cX10_quiet 25 = .ok (.invokevirtual 256, 3) := by decide +kernel
theorem dX10_quiet_28 : decode cX10_quiet 28 = .ok (.if_icmp .ge 28, 3) := by decide +kernel
theorem dX10_quiet_31 : decode cX10_quiet 31 = .ok (.iload_n 1, 1) := by decide +kernel
theorem dX10_quiet_32 : decode cX10_quiet 32 = .ok (.aload_n 0, 1) := by decide +kernel
theorem dX10_quiet_33 : decode cX10_quiet 33 = .ok (.getfield 62, 3) := by decide +kernel
theorem dX10_quiet_36 : decode cX10_quiet 36 = .ok (.iload_n 2, 1) := by decide +kernel
theorem dX10_quiet_37 : decode cX10_quiet 37 = .ok (.iaload, 1) := by decide +kernel
theorem dX10_quiet_38 : decode cX10_quiet 38 = .ok (.ifCond .ne 9, 3) := by decide +kernel
theorem dX10_quiet_41 : decode cX10_quiet 41 = .ok (.iconst 1, 1) := by decide +kernel
theorem dX10_quiet_42 : decode cX10_quiet 42 = .ok (.iload_n 2, 1) := by decide +kernel
theorem dX10_quiet_43 : decode cX10_quiet 43 = .ok (.ishl, 1) := by decide +kernel
theorem dX10_quiet_44 : decode cX10_quiet 44 = .ok (.goto 4, 3) := by decide +kernel
theorem dX10_quiet_47 : decode cX10_quiet 47 = .ok (.iconst 0, 1) := by decide +kernel
theorem dX10_quiet_48 : decode cX10_quiet 48 = .ok (.ior, 1) := by decide +kernel
theorem dX10_quiet_49 : decode cX10_quiet 49 = .ok (.istore_n 1, 1) := by decide +kernel
theorem dX10_quiet_50 : decode cX10_quiet 50 = .ok (.iinc 2 1, 3) := by decide +kernel
theorem dX10_quiet_53 : decode cX10_quiet 53 = .ok (.goto (-30), 3) := by decide +kernel
theorem dX10_quiet_56 : decode cX10_quiet 56 = .ok (.iload_n 1, 1) := by decide +kernel
theorem dX10_quiet_57 : decode cX10_quiet 57 = .ok (.ireturn, 1) := by decide +kernel
theorem dX10_rests_0 : decode cX10_rests 0 = .ok (.aload_n 0, 1) := by decide +kernel
theorem dX10_rests_1 : decode cX10_rests 1 = .ok (.iconst 0, 1) := by decide +kernel
theorem dX10_rests_2 : decode cX10_rests 2 = .ok (.putfield 92, 3) := by decide +kernel
theorem dX10_rests_5 : decode cX10_rests 5 = .ok (.aload_n 0, 1) := by decide +kernel
theorem dX10_rests_6 : decode cX10_rests 6 = .ok (.iload_n 1, 1) := by decide +kernel
theorem dX10_rests_7 : decode cX10_rests 7 = .ok (.iload_n 2, 1) := by decide +kernel
theorem dX10_rests_8 : decode cX10_rests 8 = .ok (.invokevirtual 464, 3) := by decide +kernel
theorem dX10_rests_11 : decode cX10_rests 11 = .ok (.ifCond .ne 6, 3) := by decide +kernel
theorem dX10_rests_14 : decode cX10_rests 14 = .ok (.bipush (-2), 2) := by decide +kernel
theorem dX10_rests_16 : decode cX10_rests 16 = .ok (.ireturn, 1) := by decide +kernel
theorem dX10_rests_17 : decode cX10_rests 17 = .ok (.iconst 0, 1) := by decide +kernel
theorem dX10_rests_18 : decode cX10_rests 18 = .ok (.istore_n 3, 1) := by decide +kernel
theorem dX10_rests_19 : decode cX10_rests 19 = .ok (.iconst 0, 1) := by decide +kernel
theorem dX10_rests_20 : decode cX10_rests 20 = .ok (.istore 4, 2) := by decide +kernel
theorem dX10_rests_22 : decode cX10_rests 22 = .ok (.iload 4, 2) := by decide +kernel
theorem dX10_rests_24 : decode cX10_rests 24 = .ok (.iconst 4, 1) := by decide +kernel
theorem dX10_rests_25 : decode cX10_rests 25 = .ok (.if_icmp .ge 98, 3) := by decide +kernel
theorem dX10_rests_28 : decode cX10_rests 28 = .ok (.iload 4, 2) := by decide +kernel
theorem dX10_rests_30 : decode cX10_rests 30 = .ok (.iconst 2, 1) := by decide +kernel
theorem dX10_rests_31 : decode cX10_rests 31 = .ok (.irem, 1) := by decide +kernel
theorem dX10_rests_32 : decode cX10_rests 32 = .ok (.istore 5, 2) := by decide +kernel
theorem dX10_rests_34 : decode cX10_rests 34 = .ok (.iload 4, 2) := by decide +kernel
theorem dX10_rests_36 : decode cX10_rests 36 = .ok (.iconst 2, 1) := by decide +kernel
theorem dX10_rests_37 : decode cX10_rests 37 = .ok (.idiv, 1) := by decide +kernel
theorem dX10_rests_38 : decode cX10_rests 38 = .ok (.istore 6, 2) := by decide +kernel
theorem dX10_rests_40 : decode cX10_rests 40 = .ok (.aload_n 0, 1) := by decide +kernel
theorem dX10_rests_41 : decode cX10_rests 41 = .ok (.iload_n 1, 1) := by decide +kernel
theorem dX10_rests_42 : decode cX10_rests 42 = .ok (.iload_n 1, 1) := by decide +kernel
theorem dX10_rests_43 : decode cX10_rests 43 = .ok (.iload_n 2, 1) := by decide +kernel
theorem dX10_rests_44 : decode cX10_rests 44 = .ok (.iconst 1, 1) := by decide +kernel
theorem dX10_rests_45 : decode cX10_rests 45 = .ok (.iload 5, 2) := by decide +kernel
theorem dX10_rests_47 : decode cX10_rests 47 = .ok (.isub, 1) := by decide +kernel
theorem dX10_rests_48 : decode cX10_rests 48 = .ok (.iload 6, 2) := by decide +kernel
theorem dX10_rests_50 : decode cX10_rests 50 = .ok (.invokevirtual 467, 3) := by decide +kernel
theorem dX10_rests_53 : decode cX10_rests 53 = .ok (.aload_n 0, 1) := by decide +kernel
theorem dX10_rests_54 : decode cX10_rests 54 = .ok (.iload_n 1, 1) := by decide +kernel
theorem dX10_rests_55 : decode cX10_rests 55 = .ok (.iload_n 1, 1) := by decide +kernel
theorem dX10_rests_56 : decode cX10_rests 56 = .ok (.iload_n 2, 1) := by decide +kernel
theorem dX10_rests_57 : decode cX10_rests 57 = .ok (.iload 5, 2) := by decide +kernel
theorem dX10_rests_59 : decode cX10_rests 59 = .ok (.iload 6, 2) := by decide +kernel
theorem dX10_rests_61 : decode cX10_rests 61 = .ok (.invokevirtual 467, 3) := by decide +kernel
theorem dX10_rests_64 : decode cX10_rests 64 = .ok (.if_icmp .gt 34, 3) := by decide +kernel
theorem dX10_rests_67 : decode cX10_rests 67 = .ok (.aload_n 0, 1) := by decide +kernel
theorem dX10_rests_68 : decode cX10_rests 68 = .ok (.iload_n 2, 1) := by decide +kernel
theorem dX10_rests_69 : decode cX10_rests 69 = .ok (.iload_n 1, 1) := by decide +kernel
theorem dX10_rests_70 : decode cX10_rests 70 = .ok (.iload_n 2, 1) := by decide +kernel
theorem dX10_rests_71 : decode cX10_rests 71 = .ok (.iload 5, 2) := by decide +kernel
theorem dX10_rests_73 : decode cX10_rests 73 = .ok (.iconst 1, 1) := by decide +kernel
theorem dX10_rests_74 : decode cX10_rests 74 = .ok (.iload 6, 2) := by decide +kernel
theorem dX10_rests_76 : decode cX10_rests 76 = .ok (.isub, 1) := by decide +kernel
theorem dX10_rests_77 : decode cX10_rests 77 = .ok (.invokevirtual 467, 3) := by decide +kernel
theorem dX10_rests_80 : decode cX10_rests 80 = .ok (.aload_n 0, 1) := by decide +kernel
theorem dX10_rests_81 : decode cX10_rests 81 = .ok (.iload_n 2, 1) := by decide +kernel
theorem dX10_rests_82 : decode cX10_rests 82 = .ok (.iload_n 1, 1) := by decide +kernel
theorem dX10_rests_83 : decode cX10_rests 83 = .ok (.iload_n 2, 1) := by decide +kernel
theorem dX10_rests_84 : decode cX10_rests 84 = .ok (.iload 5, 2) := by decide +kernel
theorem dX10_rests_86 : decode cX10_rests 86 = .ok (.iload 6, 2) := by decide +kernel
theorem dX10_rests_88 : decode cX10_rests 88 = .ok (.invokevirtual 467, 3) := by decide +kernel
theorem dX10_rests_91 : decode cX10_rests 91 = .ok (.if_icmp .gt 7, 3) := by decide +kernel
theorem dX10_rests_94 : decode cX10_rests 94 = .ok (.iconst 1, 1) := by decide +kernel
theorem dX10_rests_95 : decode cX10_rests 95 = .ok (.goto 4, 3) := by decide +kernel
theorem dX10_rests_98 : decode cX10_rests 98 = .ok (.iconst 0, 1) := by decide +kernel
theorem dX10_rests_99 : decode cX10_rests 99 = .ok (.istore 7, 2) := by decide +kernel
theorem dX10_rests_101 : decode cX10_rests 101 = .ok (.iload_n 3, 1) := by decide +kernel
theorem dX10_rests_102 : decode cX10_rests 102 = .ok (.iload 7, 2) := by decide +kernel
theorem dX10_rests_104 : decode cX10_rests 104 = .ok (.ifCond .eq 10, 3) := by decide +kernel
theorem dX10_rests_107 : decode cX10_rests 107 = .ok (.iconst 1, 1) := by decide +kernel
theorem dX10_rests_108 : decode cX10_rests 108 = .ok (.iload 4, 2) := by decide +kernel
theorem dX10_rests_110 : decode cX10_rests 110 = .ok (.ishl, 1) := by decide +kernel
theorem dX10_rests_111 : decode cX10_rests 111 = .ok (.goto 4, 3) := by decide +kernel
theorem dX10_rests_114 : decode cX10_rests 114 = .ok (.iconst 0, 1) := by decide +kernel
theorem dX10_rests_115 : decode cX10_rests 115 = .ok (.ior, 1) := by decide +kernel
theorem dX10_rests_116 : decode cX10_rests 116 = .ok (.istore_n 3, 1) := by decide +kernel
theorem dX10_rests_117 : decode cX10_rests 117 = .ok (.iinc 4 1, 3) := by decide +kernel
theorem dX10_rests_120 : decode cX10_rests 120 = .ok (.goto (-98), 3) := by decide +kernel
theorem dX10_rests_123 : decode cX10_rests 123 = .ok (.iload_n 3, 1) := by decide +kernel
theorem dX10_rests_124 : decode cX10_rests 124 = .ok (.ireturn, 1) := by decide +kernel
theorem dX10_runs_0 : decode cX10_runs 0 = .ok (.iconst 0, 1) := by decide +kernel
theorem dX10_runs_1 : decode cX10_runs 1 = .ok (.istore_n 1, 1) := by decide +kernel
theorem dX10_runs_2 : decode cX10_runs 2 = .ok (.iload_n 1, 1) := by decide +kernel
theorem dX10_runs_3 : decode cX10_runs 3 = .ok (.aload_n 0, 1) := by decide +kernel
theorem dX10_runs_4 : decode cX10_runs 4 = .ok (.invokevirtual 259, 3) := by decide +kernel
theorem dX10_runs_7 : decode cX10_runs 7 = .ok (.if_icmp .ge 28, 3) := by decide +kernel
theorem dX10_runs_10 : decode cX10_runs 10 = .ok (.aload_n 0, 1) := by decide +kernel
theorem dX10_runs_11 : decode cX10_runs 11 = .ok (.iload_n 1, 1) := by decide +kernel
theorem dX10_runs_12 : decode cX10_runs 12 = .ok (.aload_n 0, 1) := by decide +kernel
theorem dX10_runs_13 : decode cX10_runs 13 = .ok (.getfield 37, 3) := by decide +kernel
theorem dX10_runs_16 : decode cX10_runs 16 = .ok (.iconst 3, 1) := by decide +kernel
theorem dX10_runs_17 : decode cX10_runs 17 = .ok (.iload_n 1, 1) := by decide +kernel
theorem dX10_runs_18 : decode cX10_runs 18 = .ok (.imul, 1) := by decide +kernel
theorem dX10_runs_19 : decode cX10_runs 19 = .ok (.iaload, 1) := by decide +kernel
theorem dX10_runs_20 : decode cX10_runs 20 = .ok (.aload_n 0, 1) := by decide +kernel
theorem dX10_runs_21 : decode cX10_runs 21 = .ok (.getfield 50, 3) := by decide +kernel
theorem dX10_runs_24 : decode cX10_runs 24 = .ok (.iload_n 1, 1) := by decide +kernel
theorem dX10_runs_25 : decode cX10_runs 25 = .ok (.iaload, 1) := by decide +kernel
theorem dX10_runs_26 : decode cX10_runs 26 = .ok (.invokevirtual 298, 3) := by decide +kernel
theorem dX10_runs_29 : decode cX10_runs 29 = .ok (.iinc 1 1, 3) := by decide +kernel
theorem dX10_runs_32 : decode cX10_runs 32 = .ok (.goto (-30), 3) := by decide +kernel
theorem dX10_runs_35 : decode cX10_runs 35 = .ok (.aload_n 0, 1) := by decide +kernel
theorem dX10_runs_36 : decode cX10_runs 36 = .ok (.invokevirtual 302, 3) := by decide +kernel
theorem dX10_runs_39 : decode cX10_runs 39 = .ok (.return_, 1) := by decide +kernel
theorem dX10_served_0 : decode cX10_served 0 = .ok (.aload_n 0, 1) := by decide +kernel
theorem dX10_served_1 : decode cX10_served 1 = .ok (.iconst 0, 1) := by decide +kernel
theorem dX10_served_2 : decode cX10_served 2 = .ok (.putfield 92, 3) := by decide +kernel
theorem dX10_served_5 : decode cX10_served 5 = .ok (.aload_n 0, 1) := by decide +kernel
theorem dX10_served_6 : decode cX10_served 6 = .ok (.invokevirtual 270, 3) := by decide +kernel
theorem dX10_served_9 : decode cX10_served 9 = .ok (.ifCond .ne 6, 3) := by decide +kernel
theorem dX10_served_12 : decode cX10_served 12 = .ok (.bipush (-2), 2) := by decide +kernel
theorem dX10_served_14 : decode cX10_served 14 = .ok (.ireturn, 1) := by decide +kernel
theorem dX10_served_15 : decode cX10_served 15 = .ok (.aload_n 0, 1) := by decide +kernel
theorem dX10_served_16 : decode cX10_served 16 = .ok (.invokevirtual 331, 3) := by decide +kernel
theorem dX10_served_19 : decode cX10_served 19 = .ok (.aload_n 0, 1) := by decide +kernel
theorem dX10_served_20 : decode cX10_served 20 = .ok (.invokevirtual 346, 3) := by decide +kernel
theorem dX10_served_23 : decode cX10_served 23 = .ok (.ireturn, 1) := by decide +kernel
theorem dX10_servedNow_0 : decode cX10_servedNow 0 = .ok (.iconst 0, 1) := by decide +kernel
theorem dX10_servedNow_1 : decode cX10_servedNow 1 = .ok (.istore_n 1, 1) := by decide +kernel
theorem dX10_servedNow_2 : decode cX10_servedNow 2 = .ok (.iconst 0, 1) := by decide +kernel
theorem dX10_servedNow_3 : decode cX10_servedNow 3 = .ok (.istore_n 2, 1) := by decide +kernel
theorem dX10_servedNow_4 : decode cX10_servedNow 4 = .ok (.iload_n 2, 1) := by decide +kernel
theorem dX10_servedNow_5 : decode cX10_servedNow 5 = .ok (.aload_n 0, 1) := by decide +kernel
theorem dX10_servedNow_6 : decode cX10_servedNow 6 = .ok (.invokevirtual 262, 3) := by decide +kernel
theorem dX10_servedNow_9 : decode cX10_servedNow 9 = .ok (.if_icmp .ge 35, 3) := by decide +kernel
theorem dX10_servedNow_12 : decode cX10_servedNow 12 = .ok (.iload_n 1, 1) := by decide +kernel
theorem dX10_servedNow_13 : decode cX10_servedNow 13 = .ok (.aload_n 0, 1) := by decide +kernel
theorem dX10_servedNow_14 : decode cX10_servedNow 14 = .ok (.iload_n 2, 1) := by decide +kernel
theorem dX10_servedNow_15 : decode cX10_servedNow 15 = .ok (.aload_n 0, 1) := by decide +kernel
theorem dX10_servedNow_16 : decode cX10_servedNow 16 = .ok (.getfield 40, 3) := by decide +kernel
theorem dX10_servedNow_19 : decode cX10_servedNow 19 = .ok (.iconst 3, 1) := by decide +kernel
theorem dX10_servedNow_20 : decode cX10_servedNow 20 = .ok (.iload_n 2, 1) := by decide +kernel
theorem dX10_servedNow_21 : decode cX10_servedNow 21 = .ok (.imul, 1) := by decide +kernel
theorem dX10_servedNow_22 : decode cX10_servedNow 22 = .ok (.iaload, 1) := by decide +kernel
theorem dX10_servedNow_23 : decode cX10_servedNow 23 = .ok (.invokevirtual 317, 3) := by decide +kernel
theorem dX10_servedNow_26 : decode cX10_servedNow 26 = .ok (.ifCond .eq 9, 3) := by decide +kernel
theorem dX10_servedNow_29 : decode cX10_servedNow 29 = .ok (.iconst 1, 1) := by decide +kernel
theorem dX10_servedNow_30 : decode cX10_servedNow 30 = .ok (.iload_n 2, 1) := by decide +kernel
theorem dX10_servedNow_31 : decode cX10_servedNow 31 = .ok (.ishl, 1) := by decide +kernel
theorem dX10_servedNow_32 : decode cX10_servedNow 32 = .ok (.goto 4, 3) := by decide +kernel
theorem dX10_servedNow_35 : decode cX10_servedNow 35 = .ok (.iconst 0, 1) := by decide +kernel
theorem dX10_servedNow_36 : decode cX10_servedNow 36 = .ok (.ior, 1) := by decide +kernel
theorem dX10_servedNow_37 : decode cX10_servedNow 37 = .ok (.istore_n 1, 1) := by decide +kernel
theorem dX10_servedNow_38 : decode cX10_servedNow 38 = .ok (.iinc 2 1, 3) := by decide +kernel
theorem dX10_servedNow_41 : decode cX10_servedNow 41 = .ok (.goto (-37), 3) := by decide +kernel
theorem dX10_servedNow_44 : decode cX10_servedNow 44 = .ok (.iload_n 1, 1) := by decide +kernel
theorem dX10_servedNow_45 : decode cX10_servedNow 45 = .ok (.ireturn, 1) := by decide +kernel
theorem dX10_spare_0 : decode cX10_spare 0 = .ok (.aload_n 0, 1) := by decide +kernel
theorem dX10_spare_1 : decode cX10_spare 1 = .ok (.iconst 0, 1) := by decide +kernel
theorem dX10_spare_2 : decode cX10_spare 2 = .ok (.putfield 92, 3) := by decide +kernel
theorem dX10_spare_5 : decode cX10_spare 5 = .ok (.aload_n 0, 1) := by decide +kernel
theorem dX10_spare_6 : decode cX10_spare 6 = .ok (.invokevirtual 270, 3) := by decide +kernel
theorem dX10_spare_9 : decode cX10_spare 9 = .ok (.ifCond .ne 6, 3) := by decide +kernel
theorem dX10_spare_12 : decode cX10_spare 12 = .ok (.bipush (-2), 2) := by decide +kernel
theorem dX10_spare_14 : decode cX10_spare 14 = .ok (.ireturn, 1) := by decide +kernel
theorem dX10_spare_15 : decode cX10_spare 15 = .ok (.aload_n 0, 1) := by decide +kernel
theorem dX10_spare_16 : decode cX10_spare 16 = .ok (.invokevirtual 331, 3) := by decide +kernel
theorem dX10_spare_19 : decode cX10_spare 19 = .ok (.iconst 0, 1) := by decide +kernel
theorem dX10_spare_20 : decode cX10_spare 20 = .ok (.istore_n 1, 1) := by decide +kernel
theorem dX10_spare_21 : decode cX10_spare 21 = .ok (.iconst 0, 1) := by decide +kernel
theorem dX10_spare_22 : decode cX10_spare 22 = .ok (.istore_n 2, 1) := by decide +kernel
theorem dX10_spare_23 : decode cX10_spare 23 = .ok (.iload_n 2, 1) := by decide +kernel
theorem dX10_spare_24 : decode cX10_spare 24 = .ok (.aload_n 0, 1) := by decide +kernel
theorem dX10_spare_25 : decode cX10_spare 25 = .ok (.invokevirtual 262, 3) := by decide +kernel
theorem dX10_spare_28 : decode cX10_spare 28 = .ok (.if_icmp .ge 43, 3) := by decide +kernel
theorem dX10_spare_31 : decode cX10_spare 31 = .ok (.iload_n 1, 1) := by decide +kernel
theorem dX10_spare_32 : decode cX10_spare 32 = .ok (.aload_n 0, 1) := by decide +kernel
theorem dX10_spare_33 : decode cX10_spare 33 = .ok (.iload_n 2, 1) := by decide +kernel
theorem dX10_spare_34 : decode cX10_spare 34 = .ok (.aload_n 0, 1) := by decide +kernel
theorem dX10_spare_35 : decode cX10_spare 35 = .ok (.getfield 40, 3) := by decide +kernel
theorem dX10_spare_38 : decode cX10_spare 38 = .ok (.iconst 3, 1) := by decide +kernel
theorem dX10_spare_39 : decode cX10_spare 39 = .ok (.iload_n 2, 1) := by decide +kernel
theorem dX10_spare_40 : decode cX10_spare 40 = .ok (.imul, 1) := by decide +kernel
theorem dX10_spare_41 : decode cX10_spare 41 = .ok (.iaload, 1) := by decide +kernel
theorem dX10_spare_42 : decode cX10_spare 42 = .ok (.invokevirtual 317, 3) := by decide +kernel
theorem dX10_spare_45 : decode cX10_spare 45 = .ok (.ifCond .eq 17, 3) := by decide +kernel
theorem dX10_spare_48 : decode cX10_spare 48 = .ok (.aload_n 0, 1) := by decide +kernel
theorem dX10_spare_49 : decode cX10_spare 49 = .ok (.iload_n 2, 1) := by decide +kernel
theorem dX10_spare_50 : decode cX10_spare 50 = .ok (.invokevirtual 343, 3) := by decide +kernel
theorem dX10_spare_53 : decode cX10_spare 53 = .ok (.aload_n 0, 1) := by decide +kernel
theorem dX10_spare_54 : decode cX10_spare 54 = .ok (.iload_n 2, 1) := by decide +kernel
theorem dX10_spare_55 : decode cX10_spare 55 = .ok (.invokevirtual 314, 3) := by decide +kernel
theorem dX10_spare_58 : decode cX10_spare 58 = .ok (.isub, 1) := by decide +kernel
theorem dX10_spare_59 : decode cX10_spare 59 = .ok (.goto 4, 3) := by decide +kernel
theorem dX10_spare_62 : decode cX10_spare 62 = .ok (.iconst 0, 1) := by decide +kernel
theorem dX10_spare_63 : decode cX10_spare 63 = .ok (.iadd, 1) := by decide +kernel
theorem dX10_spare_64 : decode cX10_spare 64 = .ok (.istore_n 1, 1) := by decide +kernel
theorem dX10_spare_65 : decode cX10_spare 65 = .ok (.iinc 2 1, 3) := by decide +kernel
theorem dX10_spare_68 : decode cX10_spare 68 = .ok (.goto (-45), 3) := by decide +kernel
theorem dX10_spare_71 : decode cX10_spare 71 = .ok (.iload_n 1, 1) := by decide +kernel
theorem dX10_spare_72 : decode cX10_spare 72 = .ok (.ireturn, 1) := by decide +kernel
theorem dX10_swap_0 : decode cX10_swap 0 = .ok (.aload_n 0, 1) := by decide +kernel
theorem dX10_swap_1 : decode cX10_swap 1 = .ok (.iconst 0, 1) := by decide +kernel
theorem dX10_swap_2 : decode cX10_swap 2 = .ok (.putfield 92, 3) := by decide +kernel
theorem dX10_swap_5 : decode cX10_swap 5 = .ok (.aload_n 0, 1) := by decide +kernel
theorem dX10_swap_6 : decode cX10_swap 6 = .ok (.invokevirtual 270, 3) := by decide +kernel
theorem dX10_swap_9 : decode cX10_swap 9 = .ok (.ifCond .ne 6, 3) := by decide +kernel
theorem dX10_swap_12 : decode cX10_swap 12 = .ok (.bipush (-2), 2) := by decide +kernel
theorem dX10_swap_14 : decode cX10_swap 14 = .ok (.ireturn, 1) := by decide +kernel
theorem dX10_swap_15 : decode cX10_swap 15 = .ok (.aload_n 0, 1) := by decide +kernel
theorem dX10_swap_16 : decode cX10_swap 16 = .ok (.invokevirtual 441, 3) := by decide +kernel
theorem dX10_swap_19 : decode cX10_swap 19 = .ok (.pop, 1) := by decide +kernel
theorem dX10_swap_20 : decode cX10_swap 20 = .ok (.aload_n 0, 1) := by decide +kernel
theorem dX10_swap_21 : decode cX10_swap 21 = .ok (.getfield 438, 3) := by decide +kernel
theorem dX10_swap_24 : decode cX10_swap 24 = .ok (.ireturn, 1) := by decide +kernel
theorem dX10_swaps_0 : decode cX10_swaps 0 = .ok (.aload_n 0, 1) := by decide +kernel
theorem dX10_swaps_1 : decode cX10_swaps 1 = .ok (.iconst 0, 1) := by decide +kernel
theorem dX10_swaps_2 : decode cX10_swaps 2 = .ok (.putfield 92, 3) := by decide +kernel
theorem dX10_swaps_5 : decode cX10_swaps 5 = .ok (.aload_n 0, 1) := by decide +kernel
theorem dX10_swaps_6 : decode cX10_swaps 6 = .ok (.invokevirtual 270, 3) := by decide +kernel
theorem dX10_swaps_9 : decode cX10_swaps 9 = .ok (.ifCond .eq 10, 3) := by decide +kernel
theorem dX10_swaps_12 : decode cX10_swaps 12 = .ok (.aload_n 0, 1) := by decide +kernel
theorem dX10_swaps_13 : decode cX10_swaps 13 = .ok (.invokevirtual 441, 3) := by decide +kernel
theorem dX10_swaps_16 : decode cX10_swaps 16 = .ok (.goto 5, 3) := by decide +kernel
theorem dX10_swaps_19 : decode cX10_swaps 19 = .ok (.bipush (-2), 2) := by decide +kernel
theorem dX10_swaps_21 : decode cX10_swaps 21 = .ok (.ireturn, 1) := by decide +kernel
theorem dX10_swapsOf_0 : decode cX10_swapsOf 0 = .ok (.aload_n 0, 1) := by decide +kernel
theorem dX10_swapsOf_1 : decode cX10_swapsOf 1 = .ok (.invokevirtual 331, 3) := by decide +kernel
theorem dX10_swapsOf_4 : decode cX10_swapsOf 4 = .ok (.iconst 0, 1) := by decide +kernel
theorem dX10_swapsOf_5 : decode cX10_swapsOf 5 = .ok (.istore_n 1, 1) := by decide +kernel
theorem dX10_swapsOf_6 : decode cX10_swapsOf 6 = .ok (.aload_n 0, 1) := by decide +kernel
theorem dX10_swapsOf_7 : decode cX10_swapsOf 7 = .ok (.iconst (-1), 1) := by decide +kernel
theorem dX10_swapsOf_8 : decode cX10_swapsOf 8 = .ok (.putfield 438, 3) := by decide +kernel
theorem dX10_swapsOf_11 : decode cX10_swapsOf 11 = .ok (.iconst 0, 1) := by decide +kernel
theorem dX10_swapsOf_12 : decode cX10_swapsOf 12 = .ok (.istore_n 2, 1) := by decide +kernel
theorem dX10_swapsOf_13 : decode cX10_swapsOf 13 = .ok (.iload_n 2, 1) := by decide +kernel
theorem dX10_swapsOf_14 : decode cX10_swapsOf 14 = .ok (.aload_n 0, 1) := by decide +kernel
theorem dX10_swapsOf_15 : decode cX10_swapsOf 15 = .ok (.invokevirtual 262, 3) := by decide +kernel
theorem dX10_swapsOf_18 : decode cX10_swapsOf 18 = .ok (.if_icmp .ge 123, 3) := by decide +kernel
theorem dX10_swapsOf_21 : decode cX10_swapsOf 21 = .ok (.iload_n 2, 1) := by decide +kernel
theorem dX10_swapsOf_22 : decode cX10_swapsOf 22 = .ok (.iconst 1, 1) := by decide +kernel
theorem dX10_swapsOf_23 : decode cX10_swapsOf 23 = .ok (.iadd, 1) := by decide +kernel
theorem dX10_swapsOf_24 : decode cX10_swapsOf 24 = .ok (.istore_n 3, 1) := by decide +kernel
theorem dX10_swapsOf_25 : decode cX10_swapsOf 25 = .ok (.iload_n 3, 1) := by decide +kernel
theorem dX10_swapsOf_26 : decode cX10_swapsOf 26 = .ok (.aload_n 0, 1) := by decide +kernel
theorem dX10_swapsOf_27 : decode cX10_swapsOf 27 = .ok (.invokevirtual 262, 3) := by decide +kernel
theorem dX10_swapsOf_30 : decode cX10_swapsOf 30 = .ok (.if_icmp .ge 105, 3) := by decide +kernel
theorem dX10_swapsOf_33 : decode cX10_swapsOf 33 = .ok (.aload_n 0, 1) := by decide +kernel
theorem dX10_swapsOf_34 : decode cX10_swapsOf 34 = .ok (.iload_n 2, 1) := by decide +kernel
theorem dX10_swapsOf_35 : decode cX10_swapsOf 35 = .ok (.aload_n 0, 1) := by decide +kernel
theorem dX10_swapsOf_36 : decode cX10_swapsOf 36 = .ok (.getfield 40, 3) := by decide +kernel
theorem dX10_swapsOf_39 : decode cX10_swapsOf 39 = .ok (.iconst 3, 1) := by decide +kernel
theorem dX10_swapsOf_40 : decode cX10_swapsOf 40 = .ok (.iload_n 2, 1) := by decide +kernel
theorem dX10_swapsOf_41 : decode cX10_swapsOf 41 = .ok (.imul, 1) := by decide +kernel
theorem dX10_swapsOf_42 : decode cX10_swapsOf 42 = .ok (.iaload, 1) := by decide +kernel
theorem dX10_swapsOf_43 : decode cX10_swapsOf 43 = .ok (.invokevirtual 317, 3) := by decide +kernel
theorem dX10_swapsOf_46 : decode cX10_swapsOf 46 = .ok (.ifCond .eq 23, 3) := by decide +kernel
theorem dX10_swapsOf_49 : decode cX10_swapsOf 49 = .ok (.aload_n 0, 1) := by decide +kernel
theorem dX10_swapsOf_50 : decode cX10_swapsOf 50 = .ok (.iload_n 3, 1) := by decide +kernel
theorem dX10_swapsOf_51 : decode cX10_swapsOf 51 = .ok (.aload_n 0, 1) := by decide +kernel
theorem dX10_swapsOf_52 : decode cX10_swapsOf 52 = .ok (.getfield 40, 3) := by decide +kernel
theorem dX10_swapsOf_55 : decode cX10_swapsOf 55 = .ok (.iconst 3, 1) := by decide +kernel
theorem dX10_swapsOf_56 : decode cX10_swapsOf 56 = .ok (.iload_n 3, 1) := by decide +kernel
theorem dX10_swapsOf_57 : decode cX10_swapsOf 57 = .ok (.imul, 1) := by decide +kernel
theorem dX10_swapsOf_58 : decode cX10_swapsOf 58 = .ok (.iaload, 1) := by decide +kernel
theorem dX10_swapsOf_59 : decode cX10_swapsOf 59 = .ok (.invokevirtual 317, 3) := by decide +kernel
theorem dX10_swapsOf_62 : decode cX10_swapsOf 62 = .ok (.ifCond .eq 7, 3) := by decide +kernel
theorem dX10_swapsOf_65 : decode cX10_swapsOf 65 = .ok (.iconst 1, 1) := by decide +kernel
theorem dX10_swapsOf_66 : decode cX10_swapsOf 66 = .ok (.goto 4, 3) := by decide +kernel
theorem dX10_swapsOf_69 : decode cX10_swapsOf 69 = .ok (.iconst 0, 1) := by decide +kernel
theorem dX10_swapsOf_70 : decode cX10_swapsOf 70 = .ok (.istore 4, 2) := by decide +kernel
theorem dX10_swapsOf_72 : decode cX10_swapsOf 72 = .ok (.iload 4, 2) := by decide +kernel
theorem dX10_swapsOf_74 : decode cX10_swapsOf 74 = .ok (.ifCond .ne 55, 3) := by decide +kernel
theorem dX10_swapsOf_77 : decode cX10_swapsOf 77 = .ok (.aload_n 0, 1) := by decide +kernel
theorem dX10_swapsOf_78 : decode cX10_swapsOf 78 = .ok (.iload_n 2, 1) := by decide +kernel
theorem dX10_swapsOf_79 : decode cX10_swapsOf 79 = .ok (.aload_n 0, 1) := by decide +kernel
theorem dX10_swapsOf_80 : decode cX10_swapsOf 80 = .ok (.getfield 40, 3) := by decide +kernel
theorem dX10_swapsOf_83 : decode cX10_swapsOf 83 = .ok (.iconst 3, 1) := by decide +kernel
theorem dX10_swapsOf_84 : decode cX10_swapsOf 84 = .ok (.iload_n 3, 1) := by decide +kernel
theorem dX10_swapsOf_85 : decode cX10_swapsOf 85 = .ok (.imul, 1) := by decide +kernel
theorem dX10_swapsOf_86 : decode cX10_swapsOf 86 = .ok (.iaload, 1) := by decide +kernel
theorem dX10_swapsOf_87 : decode cX10_swapsOf 87 = .ok (.invokevirtual 317, 3) := by decide +kernel
theorem dX10_swapsOf_90 : decode cX10_swapsOf 90 = .ok (.ifCond .eq 39, 3) := by decide +kernel
theorem dX10_swapsOf_93 : decode cX10_swapsOf 93 = .ok (.aload_n 0, 1) := by decide +kernel
theorem dX10_swapsOf_94 : decode cX10_swapsOf 94 = .ok (.iload_n 3, 1) := by decide +kernel
theorem dX10_swapsOf_95 : decode cX10_swapsOf 95 = .ok (.aload_n 0, 1) := by decide +kernel
theorem dX10_swapsOf_96 : decode cX10_swapsOf 96 = .ok (.getfield 40, 3) := by decide +kernel
theorem dX10_swapsOf_99 : decode cX10_swapsOf 99 = .ok (.iconst 3, 1) := by decide +kernel
theorem dX10_swapsOf_100 : decode cX10_swapsOf 100 = .ok (.iload_n 2, 1) := by decide +kernel
theorem dX10_swapsOf_101 : decode cX10_swapsOf 101 = .ok (.imul, 1) := by decide +kernel
theorem dX10_swapsOf_102 : decode cX10_swapsOf 102 = .ok (.iaload, 1) := by decide +kernel
theorem dX10_swapsOf_103 : decode cX10_swapsOf 103 = .ok (.invokevirtual 317, 3) := by decide +kernel
theorem dX10_swapsOf_106 : decode cX10_swapsOf 106 = .ok (.ifCond .ne 6, 3) := by decide +kernel
theorem dX10_swapsOf_109 : decode cX10_swapsOf 109 = .ok (.goto 20, 3) := by decide +kernel
theorem dX10_swapsOf_112 : decode cX10_swapsOf 112 = .ok (.iload_n 1, 1) := by decide +kernel
theorem dX10_swapsOf_113 : decode cX10_swapsOf 113 = .ok (.ifCond .ne 13, 3) := by decide +kernel
theorem dX10_swapsOf_116 : decode cX10_swapsOf 116 = .ok (.aload_n 0, 1) := by decide +kernel
theorem dX10_swapsOf_117 : decode cX10_swapsOf 117 = .ok (.bipush 10, 2) := by decide +kernel
theorem dX10_swapsOf_119 : decode cX10_swapsOf 119 = .ok (.iload_n 2, 1) := by decide +kernel
theorem dX10_swapsOf_120 : decode cX10_swapsOf 120 = .ok (.imul, 1) := by decide +kernel
theorem dX10_swapsOf_121 : decode cX10_swapsOf 121 = .ok (.iload_n 3, 1) := by decide +kernel
theorem dX10_swapsOf_122 : decode cX10_swapsOf 122 = .ok (.iadd, 1) := by decide +kernel
theorem dX10_swapsOf_123 : decode cX10_swapsOf 123 = .ok (.putfield 438, 3) := by decide +kernel
theorem dX10_swapsOf_126 : decode cX10_swapsOf 126 = .ok (.iinc 1 1, 3) := by decide +kernel
theorem dX10_swapsOf_129 : decode cX10_swapsOf 129 = .ok (.iinc 3 1, 3) := by decide +kernel
theorem dX10_swapsOf_132 : decode cX10_swapsOf 132 = .ok (.goto (-107), 3) := by decide +kernel
theorem dX10_swapsOf_135 : decode cX10_swapsOf 135 = .ok (.iinc 2 1, 3) := by decide +kernel
theorem dX10_swapsOf_138 : decode cX10_swapsOf 138 = .ok (.goto (-125), 3) := by decide +kernel
theorem dX10_swapsOf_141 : decode cX10_swapsOf 141 = .ok (.iload_n 1, 1) := by decide +kernel
theorem dX10_swapsOf_142 : decode cX10_swapsOf 142 = .ok (.ireturn, 1) := by decide +kernel
theorem dX10_turned_0 : decode cX10_turned 0 = .ok (.aload_n 0, 1) := by decide +kernel
theorem dX10_turned_1 : decode cX10_turned 1 = .ok (.getfield 276, 3) := by decide +kernel
theorem dX10_turned_4 : decode cX10_turned 4 = .ok (.ifCond .ne 7, 3) := by decide +kernel
theorem dX10_turned_7 : decode cX10_turned 7 = .ok (.iconst 1, 1) := by decide +kernel
theorem dX10_turned_8 : decode cX10_turned 8 = .ok (.goto 38, 3) := by decide +kernel
theorem dX10_turned_11 : decode cX10_turned 11 = .ok (.aload_n 0, 1) := by decide +kernel
theorem dX10_turned_12 : decode cX10_turned 12 = .ok (.getfield 276, 3) := by decide +kernel
theorem dX10_turned_15 : decode cX10_turned 15 = .ok (.iconst 1, 1) := by decide +kernel
theorem dX10_turned_16 : decode cX10_turned 16 = .ok (.if_icmp .ne 7, 3) := by decide +kernel
theorem dX10_turned_19 : decode cX10_turned 19 = .ok (.iconst 3, 1) := by decide +kernel
theorem dX10_turned_20 : decode cX10_turned 20 = .ok (.goto 26, 3) := by decide +kernel
theorem dX10_turned_23 : decode cX10_turned 23 = .ok (.aload_n 0, 1) := by decide +kernel
theorem dX10_turned_24 : decode cX10_turned 24 = .ok (.getfield 276, 3) := by decide +kernel
theorem dX10_turned_27 : decode cX10_turned 27 = .ok (.iconst 2, 1) := by decide +kernel
theorem dX10_turned_28 : decode cX10_turned 28 = .ok (.if_icmp .ne 7, 3) := by decide +kernel
theorem dX10_turned_31 : decode cX10_turned 31 = .ok (.iconst 2, 1) := by decide +kernel
theorem dX10_turned_32 : decode cX10_turned 32 = .ok (.goto 14, 3) := by decide +kernel
theorem dX10_turned_35 : decode cX10_turned 35 = .ok (.iload_n 2, 1) := by decide +kernel
theorem dX10_turned_36 : decode cX10_turned 36 = .ok (.iconst 2, 1) := by decide +kernel
theorem dX10_turned_37 : decode cX10_turned 37 = .ok (.irem, 1) := by decide +kernel
theorem dX10_turned_38 : decode cX10_turned 38 = .ok (.ifCond .ne 7, 3) := by decide +kernel
theorem dX10_turned_41 : decode cX10_turned 41 = .ok (.iconst 1, 1) := by decide +kernel
theorem dX10_turned_42 : decode cX10_turned 42 = .ok (.goto 4, 3) := by decide +kernel
theorem dX10_turned_45 : decode cX10_turned 45 = .ok (.iconst 3, 1) := by decide +kernel
theorem dX10_turned_46 : decode cX10_turned 46 = .ok (.istore_n 3, 1) := by decide +kernel
theorem dX10_turned_47 : decode cX10_turned 47 = .ok (.iload_n 1, 1) := by decide +kernel
theorem dX10_turned_48 : decode cX10_turned 48 = .ok (.iload_n 3, 1) := by decide +kernel
theorem dX10_turned_49 : decode cX10_turned 49 = .ok (.iadd, 1) := by decide +kernel
theorem dX10_turned_50 : decode cX10_turned 50 = .ok (.iconst 4, 1) := by decide +kernel
theorem dX10_turned_51 : decode cX10_turned 51 = .ok (.irem, 1) := by decide +kernel
theorem dX10_turned_52 : decode cX10_turned 52 = .ok (.ireturn, 1) := by decide +kernel
theorem dX10_unpaid_0 : decode cX10_unpaid 0 = .ok (.aload_n 0, 1) := by decide +kernel
theorem dX10_unpaid_1 : decode cX10_unpaid 1 = .ok (.iconst 0, 1) := by decide +kernel
theorem dX10_unpaid_2 : decode cX10_unpaid 2 = .ok (.putfield 92, 3) := by decide +kernel
theorem dX10_unpaid_5 : decode cX10_unpaid 5 = .ok (.aload_n 0, 1) := by decide +kernel
theorem dX10_unpaid_6 : decode cX10_unpaid 6 = .ok (.invokevirtual 270, 3) := by decide +kernel
theorem dX10_unpaid_9 : decode cX10_unpaid 9 = .ok (.ifCond .ne 6, 3) := by decide +kernel
theorem dX10_unpaid_12 : decode cX10_unpaid 12 = .ok (.bipush (-2), 2) := by decide +kernel
theorem dX10_unpaid_14 : decode cX10_unpaid 14 = .ok (.ireturn, 1) := by decide +kernel
theorem dX10_unpaid_15 : decode cX10_unpaid 15 = .ok (.aload_n 0, 1) := by decide +kernel
theorem dX10_unpaid_16 : decode cX10_unpaid 16 = .ok (.invokevirtual 331, 3) := by decide +kernel
theorem dX10_unpaid_19 : decode cX10_unpaid 19 = .ok (.aload_n 0, 1) := by decide +kernel
theorem dX10_unpaid_20 : decode cX10_unpaid 20 = .ok (.invokevirtual 352, 3) := by decide +kernel
theorem dX10_unpaid_23 : decode cX10_unpaid 23 = .ok (.ireturn, 1) := by decide +kernel
theorem dX10_unpaidNow_0 : decode cX10_unpaidNow 0 = .ok (.iconst 0, 1) := by decide +kernel
theorem dX10_unpaidNow_1 : decode cX10_unpaidNow 1 = .ok (.istore_n 1, 1) := by decide +kernel
theorem dX10_unpaidNow_2 : decode cX10_unpaidNow 2 = .ok (.iconst 0, 1) := by decide +kernel
theorem dX10_unpaidNow_3 : decode cX10_unpaidNow 3 = .ok (.istore_n 2, 1) := by decide +kernel
theorem dX10_unpaidNow_4 : decode cX10_unpaidNow 4 = .ok (.iload_n 2, 1) := by decide +kernel
theorem dX10_unpaidNow_5 : decode cX10_unpaidNow 5 = .ok (.aload_n 0, 1) := by decide +kernel
theorem dX10_unpaidNow_6 : decode cX10_unpaidNow 6 = .ok (.invokevirtual 262, 3) := by decide +kernel
theorem dX10_unpaidNow_9 : decode cX10_unpaidNow 9 = .ok (.if_icmp .ge 35, 3) := by decide +kernel
theorem dX10_unpaidNow_12 : decode cX10_unpaidNow 12 = .ok (.iload_n 1, 1) := by decide +kernel
theorem dX10_unpaidNow_13 : decode cX10_unpaidNow 13 = .ok (.aload_n 0, 1) := by decide +kernel
theorem dX10_unpaidNow_14 : decode cX10_unpaidNow 14 = .ok (.iload_n 2, 1) := by decide +kernel
theorem dX10_unpaidNow_15 : decode cX10_unpaidNow 15 = .ok (.invokevirtual 314, 3) := by decide +kernel
theorem dX10_unpaidNow_18 : decode cX10_unpaidNow 18 = .ok (.ifCond .ne 17, 3) := by decide +kernel
theorem dX10_unpaidNow_21 : decode cX10_unpaidNow 21 = .ok (.aload_n 0, 1) := by decide +kernel
theorem dX10_unpaidNow_22 : decode cX10_unpaidNow 22 = .ok (.iload_n 2, 1) := by decide +kernel
theorem dX10_unpaidNow_23 : decode cX10_unpaidNow 23 = .ok (.invokevirtual 343, 3) := by decide +kernel
theorem dX10_unpaidNow_26 : decode cX10_unpaidNow 26 = .ok (.ifCond .le 9, 3) := by decide +kernel
theorem dX10_unpaidNow_29 : decode cX10_unpaidNow 29 = .ok (.iconst 1, 1) := by decide +kernel
theorem dX10_unpaidNow_30 : decode cX10_unpaidNow 30 = .ok (.iload_n 2, 1) := by decide +kernel
theorem dX10_unpaidNow_31 : decode cX10_unpaidNow 31 = .ok (.ishl, 1) := by decide +kernel
theorem dX10_unpaidNow_32 : decode cX10_unpaidNow 32 = .ok (.goto 4, 3) := by decide +kernel
theorem dX10_unpaidNow_35 : decode cX10_unpaidNow 35 = .ok (.iconst 0, 1) := by decide +kernel
theorem dX10_unpaidNow_36 : decode cX10_unpaidNow 36 = .ok (.ior, 1) := by decide +kernel
theorem dX10_unpaidNow_37 : decode cX10_unpaidNow 37 = .ok (.istore_n 1, 1) := by decide +kernel
theorem dX10_unpaidNow_38 : decode cX10_unpaidNow 38 = .ok (.iinc 2 1, 3) := by decide +kernel
theorem dX10_unpaidNow_41 : decode cX10_unpaidNow 41 = .ok (.goto (-37), 3) := by decide +kernel
theorem dX10_unpaidNow_44 : decode cX10_unpaidNow 44 = .ok (.iload_n 1, 1) := by decide +kernel
theorem dX10_unpaidNow_45 : decode cX10_unpaidNow 45 = .ok (.ireturn, 1) := by decide +kernel
theorem dX10_wantsOf_0 : decode cX10_wantsOf 0 = .ok (.aload_n 0, 1) := by decide +kernel
theorem dX10_wantsOf_1 : decode cX10_wantsOf 1 = .ok (.getfield 40, 3) := by decide +kernel
theorem dX10_wantsOf_4 : decode cX10_wantsOf 4 = .ok (.iconst 3, 1) := by decide +kernel
theorem dX10_wantsOf_5 : decode cX10_wantsOf 5 = .ok (.iload_n 1, 1) := by decide +kernel
theorem dX10_wantsOf_6 : decode cX10_wantsOf 6 = .ok (.imul, 1) := by decide +kernel
theorem dX10_wantsOf_7 : decode cX10_wantsOf 7 = .ok (.iconst 1, 1) := by decide +kernel
theorem dX10_wantsOf_8 : decode cX10_wantsOf 8 = .ok (.iadd, 1) := by decide +kernel
theorem dX10_wantsOf_9 : decode cX10_wantsOf 9 = .ok (.iaload, 1) := by decide +kernel
theorem dX10_wantsOf_10 : decode cX10_wantsOf 10 = .ok (.ireturn, 1) := by decide +kernel
theorem dX10_way_0 : decode cX10_way 0 = .ok (.aload_n 0, 1) := by decide +kernel
theorem dX10_way_1 : decode cX10_way 1 = .ok (.iconst 0, 1) := by decide +kernel
theorem dX10_way_2 : decode cX10_way 2 = .ok (.putfield 92, 3) := by decide +kernel
theorem dX10_way_5 : decode cX10_way 5 = .ok (.aload_n 0, 1) := by decide +kernel
theorem dX10_way_6 : decode cX10_way 6 = .ok (.iload_n 1, 1) := by decide +kernel
theorem dX10_way_7 : decode cX10_way 7 = .ok (.i2l, 1) := by decide +kernel
theorem dX10_way_8 : decode cX10_way 8 = .ok (.invokevirtual 323, 3) := by decide +kernel
theorem dX10_way_11 : decode cX10_way 11 = .ok (.ifCond .ne 6, 3) := by decide +kernel
theorem dX10_way_14 : decode cX10_way 14 = .ok (.bipush (-2), 2) := by decide +kernel
theorem dX10_way_16 : decode cX10_way 16 = .ok (.ireturn, 1) := by decide +kernel
theorem dX10_way_17 : decode cX10_way 17 = .ok (.aload_n 0, 1) := by decide +kernel
theorem dX10_way_18 : decode cX10_way 18 = .ok (.invokevirtual 331, 3) := by decide +kernel
theorem dX10_way_21 : decode cX10_way 21 = .ok (.aload_n 0, 1) := by decide +kernel
theorem dX10_way_22 : decode cX10_way 22 = .ok (.iload_n 1, 1) := by decide +kernel
theorem dX10_way_23 : decode cX10_way 23 = .ok (.invokevirtual 337, 3) := by decide +kernel
theorem dX10_way_26 : decode cX10_way 26 = .ok (.ireturn, 1) := by decide +kernel
theorem dX10_wayOf_0 : decode cX10_wayOf 0 = .ok (.iconst 0, 1) := by decide +kernel
theorem dX10_wayOf_1 : decode cX10_wayOf 1 = .ok (.istore_n 2, 1) := by decide +kernel
theorem dX10_wayOf_2 : decode cX10_wayOf 2 = .ok (.iconst 0, 1) := by decide +kernel
theorem dX10_wayOf_3 : decode cX10_wayOf 3 = .ok (.istore_n 3, 1) := by decide +kernel
theorem dX10_wayOf_4 : decode cX10_wayOf 4 = .ok (.iload_n 3, 1) := by decide +kernel
theorem dX10_wayOf_5 : decode cX10_wayOf 5 = .ok (.bipush 40, 2) := by decide +kernel
theorem dX10_wayOf_7 : decode cX10_wayOf 7 = .ok (.if_icmp .gt 44, 3) := by decide +kernel
theorem dX10_wayOf_10 : decode cX10_wayOf 10 = .ok (.iload_n 2, 1) := by decide +kernel
theorem dX10_wayOf_11 : decode cX10_wayOf 11 = .ok (.aload_n 0, 1) := by decide +kernel
theorem dX10_wayOf_12 : decode cX10_wayOf 12 = .ok (.getfield 53, 3) := by decide +kernel
theorem dX10_wayOf_15 : decode cX10_wayOf 15 = .ok (.bipush 41, 2) := by decide +kernel
theorem dX10_wayOf_17 : decode cX10_wayOf 17 = .ok (.iload_n 1, 1) := by decide +kernel
theorem dX10_wayOf_18 : decode cX10_wayOf 18 = .ok (.imul, 1) := by decide +kernel
theorem dX10_wayOf_19 : decode cX10_wayOf 19 = .ok (.iload_n 3, 1) := by decide +kernel
theorem dX10_wayOf_20 : decode cX10_wayOf 20 = .ok (.iadd, 1) := by decide +kernel
theorem dX10_wayOf_21 : decode cX10_wayOf 21 = .ok (.iaload, 1) := by decide +kernel
theorem dX10_wayOf_22 : decode cX10_wayOf 22 = .ok (.iconst (-1), 1) := by decide +kernel
theorem dX10_wayOf_23 : decode cX10_wayOf 23 = .ok (.if_icmp .ne 7, 3) := by decide +kernel
theorem dX10_wayOf_26 : decode cX10_wayOf 26 = .ok (.iconst 0, 1) := by decide +kernel
theorem dX10_wayOf_27 : decode cX10_wayOf 27 = .ok (.goto 16, 3) := by decide +kernel
theorem dX10_wayOf_30 : decode cX10_wayOf 30 = .ok (.iconst 1, 1) := by decide +kernel
theorem dX10_wayOf_31 : decode cX10_wayOf 31 = .ok (.aload_n 0, 1) := by decide +kernel
theorem dX10_wayOf_32 : decode cX10_wayOf 32 = .ok (.getfield 53, 3) := by decide +kernel
theorem dX10_wayOf_35 : decode cX10_wayOf 35 = .ok (.bipush 41, 2) := by decide +kernel
theorem dX10_wayOf_37 : decode cX10_wayOf 37 = .ok (.iload_n 1, 1) := by decide +kernel
theorem dX10_wayOf_38 : decode cX10_wayOf 38 = .ok (.imul, 1) := by decide +kernel
theorem dX10_wayOf_39 : decode cX10_wayOf 39 = .ok (.iload_n 3, 1) := by decide +kernel
theorem dX10_wayOf_40 : decode cX10_wayOf 40 = .ok (.iadd, 1) := by decide +kernel
theorem dX10_wayOf_41 : decode cX10_wayOf 41 = .ok (.iaload, 1) := by decide +kernel
theorem dX10_wayOf_42 : decode cX10_wayOf 42 = .ok (.ishl, 1) := by decide +kernel
theorem dX10_wayOf_43 : decode cX10_wayOf 43 = .ok (.ior, 1) := by decide +kernel
theorem dX10_wayOf_44 : decode cX10_wayOf 44 = .ok (.istore_n 2, 1) := by decide +kernel
theorem dX10_wayOf_45 : decode cX10_wayOf 45 = .ok (.iinc 3 1, 3) := by decide +kernel
theorem dX10_wayOf_48 : decode cX10_wayOf 48 = .ok (.goto (-44), 3) := by decide +kernel
theorem dX10_wayOf_51 : decode cX10_wayOf 51 = .ok (.iload_n 2, 1) := by decide +kernel
theorem dX10_wayOf_52 : decode cX10_wayOf 52 = .ok (.ireturn, 1) := by decide +kernel
theorem wd769 : Cond.fieldLink RX10 276 "GooseSharesModel" "law" "I" ∈ gW := gm (tm_6 106 (by decide +kernel)) rfl
theorem wd770 : Cond.fieldLink RX10 43 "GooseSharesModel" "act" "[I" ∈ gW := gm (tm_6 103 (by decide +kernel)) rfl
theorem wd771 : Cond.fieldLink RX10 273 "GooseSharesModel" "lit" "I" ∈ gW := gm (tm_6 105 (by decide +kernel)) rfl
theorem wd772 : Cond.fieldLink RX10 50 "GooseSharesModel" "headsAt" "[I" ∈ gW := gm (tm_6 108 (by decide +kernel)) rfl
theorem wd773 : Cond.fieldLink RX10 37 "GooseSharesModel" "flight" "[I" ∈ gW := gm (tm_6 101 (by decide +kernel)) rfl
theorem wd774 : Cond.fieldLink RX10 279 "GooseSharesModel" "fog" "I" ∈ gW := gm (tm_6 107 (by decide +kernel)) rfl
theorem wd775 : Cond.fieldLink RX10 56 "GooseSharesModel" "headAt" "[I" ∈ gW := gm (tm_6 110 (by decide +kernel)) rfl
theorem wd776 : Cond.instanceMethod yX10_beside ∈ gW := gm (tm_7 206 (by decide +kernel)) rfl
theorem wd777 : Cond.selects RX10 yX10_beside yX10_beside ∈ gW := gm (gmP 49 (by decide +kernel)) rfl
theorem wd778 : Cond.code yX10_beside cX10_beside 5 (some .int) ∈ gW := gm (tm_7 207 (by decide +kernel)) rfl
theorem wd779 : Cond.methodLink RX10 289 yX10_beside ∈ gW := gm (tm_7 204 (by decide +kernel)) rfl
theorem wd780 : Cond.fieldLink RX10 53 "GooseSharesModel" "cellAt" "[I" ∈ gW := gm (tm_6 109 (by decide +kernel)) rfl
theorem wd781 : Cond.static yX10_isBit ∈ gW := gm (tm_7 198 (by decide +kernel)) rfl
theorem wd782 : Cond.code yX10_isBit cX10_isBit 2 (some .boolean) ∈ gW := gm (tm_7 199 (by decide +kernel)) rfl
theorem wd783 : Cond.methodLink RX10 282 yX10_isBit ∈ gW := gm (tm_7 197 (by decide +kernel)) rfl
theorem wd784 : Cond.instanceMethod yX10_turned ∈ gW := gm (tm_7 202 (by decide +kernel)) rfl
theorem wd785 : Cond.selects RX10 yX10_turned yX10_turned ∈ gW := gm (gmP 48 (by decide +kernel)) rfl
theorem wd786 : Cond.code yX10_turned cX10_turned 4 (some .int) ∈ gW := gm (tm_7 203 (by decide +kernel)) rfl
theorem wd787 : Cond.methodLink RX10 286 yX10_turned ∈ gW := gm (tm_7 200 (by decide +kernel)) rfl
theorem wd788 : Cond.fieldLink RX10 59 "GooseSharesModel" "turnsOf" "[I" ∈ gW := gm (tm_6 111 (by decide +kernel)) rfl
theorem wd789 : Cond.instanceMethod yX10_far ∈ gW := gm (tm_7 226 (by decide +kernel)) rfl
theorem wd790 : Cond.selects RX10 yX10_far yX10_far ∈ gW := gm (gmP 54 (by decide +kernel)) rfl
theorem wd791 : Cond.code yX10_far cX10_far 5 (some .int) ∈ gW := gm (tm_7 227 (by decide +kernel)) rfl
theorem wd792 : Cond.methodLink RX10 292 yX10_far ∈ gW := gm (tm_7 224 (by decide +kernel)) rfl
theorem wd793 : Cond.instanceMethod yX10_isHeard ∈ gW := gm (tm_7 222 (by decide +kernel)) rfl
theorem wd794 : Cond.selects RX10 yX10_isHeard yX10_isHeard ∈ gW := gm (gmP 53 (by decide +kernel)) rfl
theorem wd795 : Cond.code yX10_isHeard cX10_isHeard 4 (some .boolean) ∈ gW := gm (tm_7 223 (by decide +kernel)) rfl
theorem wd796 : Cond.methodLink RX10 295 yX10_isHeard ∈ gW := gm (tm_7 220 (by decide +kernel)) rfl
theorem wd797 : Cond.fieldLink RX10 62 "GooseSharesModel" "heardAt" "[I" ∈ gW := gm (tm_6 112 (by decide +kernel)) rfl
theorem wd798 : Cond.instanceMethod yX10_hearsOf ∈ gW := gm (tm_7 218 (by decide +kernel)) rfl
theorem wd799 : Cond.selects RX10 yX10_hearsOf yX10_hearsOf ∈ gW := gm (gmP 52 (by decide +kernel)) rfl
theorem wd800 : Cond.code yX10_hearsOf cX10_hearsOf 5 (some .int) ∈ gW := gm (tm_7 219 (by decide +kernel)) rfl
theorem wd801 : Cond.methodLink RX10 305 yX10_hearsOf ∈ gW := gm (tm_7 216 (by decide +kernel)) rfl
theorem wd802 : Cond.instanceMethod yX10_hearsAll ∈ gW := gm (tm_7 210 (by decide +kernel)) rfl
theorem wd803 : Cond.selects RX10 yX10_hearsAll yX10_hearsAll ∈ gW := gm (gmP 50 (by decide +kernel)) rfl
theorem wd804 : Cond.code yX10_hearsAll cX10_hearsAll 3 none ∈ gW := gm (tm_7 211 (by decide +kernel)) rfl
theorem wd805 : Cond.methodLink RX10 302 yX10_hearsAll ∈ gW := gm (tm_7 208 (by decide +kernel)) rfl
theorem wd806 : Cond.instanceMethod yX10_flies ∈ gW := gm (tm_7 195 (by decide +kernel)) rfl
theorem wd807 : Cond.selects RX10 yX10_flies yX10_flies ∈ gW := gm (gmP 47 (by decide +kernel)) rfl
theorem wd808 : Cond.code yX10_flies cX10_flies 7 none ∈ gW := gm (tm_7 196 (by decide +kernel)) rfl
theorem wd809 : Cond.methodLink RX10 298 yX10_flies ∈ gW := gm (tm_7 193 (by decide +kernel)) rfl
theorem wd810 : Cond.instanceMethod yX10_lays ∈ gW := gm (tm_7 155 (by decide +kernel)) rfl
theorem wd811 : Cond.selects RX10 yX10_lays yX10_lays ∈ gW := gm (gmP 41 (by decide +kernel)) rfl
theorem wd812 : Cond.code yX10_lays cX10_lays 3 none ∈ gW := gm (tm_7 156 (by decide +kernel)) rfl
theorem wd813 : Cond.methodLink RX10 308 yX10_lays ∈ gW := gm (tm_7 153 (by decide +kernel)) rfl
theorem wd814 : Cond.instanceMethod yX10_runs ∈ gW := gm (tm_7 191 (by decide +kernel)) rfl
theorem wd815 : Cond.selects RX10 yX10_runs yX10_runs ∈ gW := gm (gmP 46 (by decide +kernel)) rfl
theorem wd816 : Cond.code yX10_runs cX10_runs 2 none ∈ gW := gm (tm_7 192 (by decide +kernel)) rfl
theorem wd817 : Cond.methodLink RX10 311 yX10_runs ∈ gW := gm (tm_7 189 (by decide +kernel)) rfl
theorem wd818 : Cond.fieldLink RX10 40 "GooseSharesModel" "member" "[I" ∈ gW := gm (tm_6 102 (by decide +kernel)) rfl
theorem wd819 : Cond.instanceMethod yX10_wantsOf ∈ gW := gm (tm_8 62 (by decide +kernel)) rfl
theorem wd820 : Cond.selects RX10 yX10_wantsOf yX10_wantsOf ∈ gW := gm (gmP 61 (by decide +kernel)) rfl
theorem wd821 : Cond.code yX10_wantsOf cX10_wantsOf 2 (some .int) ∈ gW := gm (tm_8 63 (by decide +kernel)) rfl
theorem wd822 : Cond.methodLink RX10 314 yX10_wantsOf ∈ gW := gm (tm_8 60 (by decide +kernel)) rfl
theorem wd823 : Cond.instanceMethod yX10_isServedIn ∈ gW := gm (tm_8 58 (by decide +kernel)) rfl
theorem wd824 : Cond.selects RX10 yX10_isServedIn yX10_isServedIn ∈ gW := gm (gmP 60 (by decide +kernel)) rfl
theorem wd825 : Cond.code yX10_isServedIn cX10_isServedIn 3 (some .boolean) ∈ gW := gm (tm_8 59 (by decide +kernel)) rfl
theorem wd826 : Cond.methodLink RX10 317 yX10_isServedIn ∈ gW := gm (tm_8 56 (by decide +kernel)) rfl
theorem wd827 : Cond.instanceMethod yX10_paysOf ∈ gW := gm (tm_8 74 (by decide +kernel)) rfl
theorem wd828 : Cond.selects RX10 yX10_paysOf yX10_paysOf ∈ gW := gm (gmP 63 (by decide +kernel)) rfl
theorem wd829 : Cond.code yX10_paysOf cX10_paysOf 2 (some .int) ∈ gW := gm (tm_8 75 (by decide +kernel)) rfl
theorem wd830 : Cond.methodLink RX10 320 yX10_paysOf ∈ gW := gm (tm_8 72 (by decide +kernel)) rfl
theorem wd831 : Cond.instanceMethod yX10_heardOf ∈ gW := gm (tm_8 34 (by decide +kernel)) rfl
theorem wd832 : Cond.selects RX10 yX10_heardOf yX10_heardOf ∈ gW := gm (gmP 58 (by decide +kernel)) rfl
theorem wd833 : Cond.code yX10_heardOf cX10_heardOf 2 (some .int) ∈ gW := gm (tm_8 35 (by decide +kernel)) rfl
theorem wd834 : Cond.methodLink RX10 343 yX10_heardOf ∈ gW := gm (tm_8 32 (by decide +kernel)) rfl
theorem wd835 : Cond.instanceMethod yX10_incomeNow ∈ gW := gm (tm_8 70 (by decide +kernel)) rfl
theorem wd836 : Cond.selects RX10 yX10_incomeNow yX10_incomeNow ∈ gW := gm (gmP 62 (by decide +kernel)) rfl
theorem wd837 : Cond.code yX10_incomeNow cX10_incomeNow 3 (some .int) ∈ gW := gm (tm_8 71 (by decide +kernel)) rfl
theorem wd838 : Cond.methodLink RX10 349 yX10_incomeNow ∈ gW := gm (tm_8 68 (by decide +kernel)) rfl
theorem wd839 : Cond.instanceMethod yX10_laysNow ∈ gW := gm (tm_7 187 (by decide +kernel)) rfl
theorem wd840 : Cond.selects RX10 yX10_laysNow yX10_laysNow ∈ gW := gm (gmP 45 (by decide +kernel)) rfl
theorem wd841 : Cond.code yX10_laysNow cX10_laysNow 1 none ∈ gW := gm (tm_7 188 (by decide +kernel)) rfl
theorem wd842 : Cond.methodLink RX10 331 yX10_laysNow ∈ gW := gm (tm_7 185 (by decide +kernel)) rfl
theorem wd843 : Cond.fieldLink RX10 438 "GooseSharesModel" "swapFirst" "I" ∈ gW := gm (tm_6 127 (by decide +kernel)) rfl
theorem wd844 : Cond.constantLong RX10 482 (1103515245 : Int64) ∈ gW := gm (tm_9 121 (by decide +kernel)) rfl
theorem wd845 : Cond.constantLong RX10 484 (12345 : Int64) ∈ gW := gm (tm_9 122 (by decide +kernel)) rfl
theorem wd846 : Cond.constantLong RX10 486 (2147483648 : Int64) ∈ gW := gm (tm_9 123 (by decide +kernel)) rfl
theorem wd847 : Cond.constantLong RX10 488 (65536 : Int64) ∈ gW := gm (tm_9 124 (by decide +kernel)) rfl
theorem wd848 : Cond.constantLong RX10 490 (10 : Int64) ∈ gW := gm (tm_9 125 (by decide +kernel)) rfl
theorem wd849 : Cond.instanceMethod yX10_drawnFog ∈ gW := gm (tm_9 119 (by decide +kernel)) rfl
theorem wd850 : Cond.selects RX10 yX10_drawnFog yX10_drawnFog ∈ gW := gm (gmP 92 (by decide +kernel)) rfl
theorem wd851 : Cond.code yX10_drawnFog cX10_drawnFog 7 (some .int) ∈ gW := gm (tm_9 120 (by decide +kernel)) rfl
theorem wd852 : Cond.methodLink RX10 492 yX10_drawnFog ∈ gW := gm (tm_9 117 (by decide +kernel)) rfl
theorem wd853 : Cond.fieldLink RX10 86 "GooseSharesModel" "house" "[I" ∈ gW := gm (tm_6 124 (by decide +kernel)) rfl
theorem wd854 : Cond.fieldLink RX10 89 "GooseSharesModel" "bestHouse" "[I" ∈ gW := gm (tm_6 125 (by decide +kernel)) rfl
theorem wd855 : Cond.fieldLink RX10 92 "GooseSharesModel" "thrown" "I" ∈ gW := gm (tm_6 83 (by decide +kernel)) rfl
theorem wd856 : Cond.instanceMethod yX10_isFlight ∈ gW := gm (tm_7 146 (by decide +kernel)) rfl
theorem wd857 : Cond.selects RX10 yX10_isFlight yX10_isFlight ∈ gW := gm (gmP 39 (by decide +kernel)) rfl
theorem wd858 : Cond.code yX10_isFlight cX10_isFlight 3 (some .boolean) ∈ gW := gm (tm_7 147 (by decide +kernel)) rfl
theorem wd859 : Cond.methodLink RX10 323 yX10_isFlight ∈ gW := gm (tm_7 144 (by decide +kernel)) rfl
theorem wd860 : Cond.constantLong RX10 326 (2 : Int64) ∈ gW := gm (tm_7 152 (by decide +kernel)) rfl
theorem wd861 : Cond.static yX10_isStep ∈ gW := gm (tm_7 182 (by decide +kernel)) rfl
theorem wd862 : Cond.code yX10_isStep cX10_isStep 1 (some .boolean) ∈ gW := gm (tm_7 183 (by decide +kernel)) rfl
theorem wd863 : Cond.methodLink RX10 328 yX10_isStep ∈ gW := gm (tm_7 181 (by decide +kernel)) rfl
theorem wd864 : Cond.instanceMethod yX10_outOf ∈ gW := gm (tm_7 238 (by decide +kernel)) rfl
theorem wd865 : Cond.selects RX10 yX10_outOf yX10_outOf ∈ gW := gm (gmP 55 (by decide +kernel)) rfl
theorem wd866 : Cond.code yX10_outOf cX10_outOf 3 (some .int) ∈ gW := gm (tm_7 239 (by decide +kernel)) rfl
theorem wd867 : Cond.methodLink RX10 334 yX10_outOf ∈ gW := gm (tm_7 236 (by decide +kernel)) rfl
theorem wd868 : Cond.instanceMethod yX10_wayOf ∈ gW := gm (tm_8 10 (by decide +kernel)) rfl
theorem wd869 : Cond.selects RX10 yX10_wayOf yX10_wayOf ∈ gW := gm (gmP 56 (by decide +kernel)) rfl
theorem wd870 : Cond.code yX10_wayOf cX10_wayOf 4 (some .int) ∈ gW := gm (tm_8 11 (by decide +kernel)) rfl
theorem wd871 : Cond.methodLink RX10 337 yX10_wayOf ∈ gW := gm (tm_8 8 (by decide +kernel)) rfl
theorem wd872 : Cond.instanceMethod yX10_isCell ∈ gW := gm (tm_8 18 (by decide +kernel)) rfl
theorem wd873 : Cond.selects RX10 yX10_isCell yX10_isCell ∈ gW := gm (gmP 57 (by decide +kernel)) rfl
theorem wd874 : Cond.code yX10_isCell cX10_isCell 3 (some .boolean) ∈ gW := gm (tm_8 19 (by decide +kernel)) rfl
theorem wd875 : Cond.methodLink RX10 340 yX10_isCell ∈ gW := gm (tm_8 16 (by decide +kernel)) rfl
theorem wd876 : Cond.instanceMethod yX10_servedNow ∈ gW := gm (tm_8 54 (by decide +kernel)) rfl
theorem wd877 : Cond.selects RX10 yX10_servedNow yX10_servedNow ∈ gW := gm (gmP 59 (by decide +kernel)) rfl
theorem wd878 : Cond.code yX10_servedNow cX10_servedNow 3 (some .int) ∈ gW := gm (tm_8 55 (by decide +kernel)) rfl
theorem wd879 : Cond.methodLink RX10 346 yX10_servedNow ∈ gW := gm (tm_8 52 (by decide +kernel)) rfl
theorem wd880 : Cond.instanceMethod yX10_unpaidNow ∈ gW := gm (tm_8 82 (by decide +kernel)) rfl
theorem wd881 : Cond.selects RX10 yX10_unpaidNow yX10_unpaidNow ∈ gW := gm (gmP 64 (by decide +kernel)) rfl
theorem wd882 : Cond.code yX10_unpaidNow cX10_unpaidNow 3 (some .int) ∈ gW := gm (tm_8 83 (by decide +kernel)) rfl
theorem wd883 : Cond.methodLink RX10 352 yX10_unpaidNow ∈ gW := gm (tm_8 80 (by decide +kernel)) rfl
theorem wd884 : Cond.instanceMethod yX10_otherwise ∈ gW := gm (tm_8 165 (by decide +kernel)) rfl
theorem wd885 : Cond.selects RX10 yX10_otherwise yX10_otherwise ∈ gW := gm (gmP 70 (by decide +kernel)) rfl
theorem wd886 : Cond.code yX10_otherwise cX10_otherwise 6 (some .int) ∈ gW := gm (tm_8 166 (by decide +kernel)) rfl
theorem wd887 : Cond.methodLink RX10 373 yX10_otherwise ∈ gW := gm (tm_8 163 (by decide +kernel)) rfl
theorem wd888 : Cond.instanceMethod yX10_isLaw ∈ gW := gm (tm_8 177 (by decide +kernel)) rfl
theorem wd889 : Cond.selects RX10 yX10_isLaw yX10_isLaw ∈ gW := gm (gmP 71 (by decide +kernel)) rfl
theorem wd890 : Cond.code yX10_isLaw cX10_isLaw 2 (some .boolean) ∈ gW := gm (tm_8 178 (by decide +kernel)) rfl
theorem wd891 : Cond.methodLink RX10 377 yX10_isLaw ∈ gW := gm (tm_8 175 (by decide +kernel)) rfl
theorem wd892 : Cond.instanceMethod yX10_incomeBy ∈ gW := gm (tm_8 181 (by decide +kernel)) rfl
theorem wd893 : Cond.selects RX10 yX10_incomeBy yX10_incomeBy ∈ gW := gm (gmP 72 (by decide +kernel)) rfl
theorem wd894 : Cond.code yX10_incomeBy cX10_incomeBy 2 (some .int) ∈ gW := gm (tm_8 182 (by decide +kernel)) rfl
theorem wd895 : Cond.methodLink RX10 380 yX10_incomeBy ∈ gW := gm (tm_8 179 (by decide +kernel)) rfl
theorem wd896 : Cond.instanceMethod yX10_swapsOf ∈ gW := gm (tm_9 38 (by decide +kernel)) rfl
theorem wd897 : Cond.selects RX10 yX10_swapsOf yX10_swapsOf ∈ gW := gm (gmP 83 (by decide +kernel)) rfl
theorem wd898 : Cond.code yX10_swapsOf cX10_swapsOf 5 (some .int) ∈ gW := gm (tm_9 39 (by decide +kernel)) rfl
theorem wd899 : Cond.methodLink RX10 441 yX10_swapsOf ∈ gW := gm (tm_9 36 (by decide +kernel)) rfl
theorem wd900 : Cond.instanceMethod yX10_hasBy ∈ gW := gm (tm_9 74 (by decide +kernel)) rfl
theorem wd901 : Cond.selects RX10 yX10_hasBy yX10_hasBy ∈ gW := gm (gmP 87 (by decide +kernel)) rfl
theorem wd902 : Cond.code yX10_hasBy cX10_hasBy 6 (some .int) ∈ gW := gm (tm_9 75 (by decide +kernel)) rfl
theorem wd903 : Cond.methodLink RX10 467 yX10_hasBy ∈ gW := gm (tm_9 72 (by decide +kernel)) rfl
theorem wd904 : Cond.instanceMethod yX10_areTwo ∈ gW := gm (tm_9 70 (by decide +kernel)) rfl
theorem wd905 : Cond.selects RX10 yX10_areTwo yX10_areTwo ∈ gW := gm (gmP 86 (by decide +kernel)) rfl
theorem wd906 : Cond.code yX10_areTwo cX10_areTwo 3 (some .boolean) ∈ gW := gm (tm_9 71 (by decide +kernel)) rfl
theorem wd907 : Cond.methodLink RX10 464 yX10_areTwo ∈ gW := gm (tm_9 68 (by decide +kernel)) rfl
theorem wd908 : Cond.static yX10_isHalf ∈ gW := gm (tm_9 4 (by decide +kernel)) rfl
theorem wd909 : Cond.code yX10_isHalf cX10_isHalf 1 (some .boolean) ∈ gW := gm (tm_9 5 (by decide +kernel)) rfl
theorem wd910 : Cond.methodLink RX10 419 yX10_isHalf ∈ gW := gm (tm_9 3 (by decide +kernel)) rfl
theorem wd911 : Cond.static yX10_isSeed ∈ gW := gm (tm_9 110 (by decide +kernel)) rfl
theorem wd912 : Cond.code yX10_isSeed cX10_isSeed 1 (some .boolean) ∈ gW := gm (tm_9 111 (by decide +kernel)) rfl
theorem wd913 : Cond.methodLink RX10 498 yX10_isSeed ∈ gW := gm (tm_9 109 (by decide +kernel)) rfl
theorem wd914 : Cond.instanceMethod yX10_laysDrawn ∈ gW := gm (tm_9 115 (by decide +kernel)) rfl
theorem wd915 : Cond.selects RX10 yX10_laysDrawn yX10_laysDrawn ∈ gW := gm (gmP 91 (by decide +kernel)) rfl
theorem wd916 : Cond.code yX10_laysDrawn cX10_laysDrawn 3 none ∈ gW := gm (tm_9 116 (by decide +kernel)) rfl
theorem wd917 : Cond.methodLink RX10 501 yX10_laysDrawn ∈ gW := gm (tm_9 113 (by decide +kernel)) rfl
theorem wd918 : Cond.constantLong RX10 504 (20 : Int64) ∈ gW := gm (tm_9 130 (by decide +kernel)) rfl
theorem wd919 : Cond.fieldLink RX10 109 "GooseSharesModel" "taped" "I" ∈ gW := gm (tm_6 89 (by decide +kernel)) rfl
theorem wd920 : Cond.fieldLink RX10 27 "GooseSharesModel" "faultPlace" "I" ∈ gW := gm (tm_6 98 (by decide +kernel)) rfl
theorem wd921 : Cond.fieldLink RX10 171 "GooseSharesModel" "fault" "I" ∈ gW := gm (tm_6 97 (by decide +kernel)) rfl
theorem my_X10_beside : gWV RX10 yX10_beside cX10_beside 5 (some .int) 2 := ⟨⟨wd776, wd777, wd742, wd778⟩, ⟨rfl, by decide +kernel, by decide +kernel, by decide +kernel⟩⟩
theorem my_X10_isBit : gWS RX10 yX10_isBit cX10_isBit 2 (some .boolean) 2 := ⟨⟨wd781, wd742, wd782⟩, ⟨rfl, by decide +kernel, by decide +kernel, by decide +kernel⟩⟩
theorem my_X10_turned : gWV RX10 yX10_turned cX10_turned 4 (some .int) 2 := ⟨⟨wd784, wd785, wd742, wd786⟩, ⟨rfl, by decide +kernel, by decide +kernel, by decide +kernel⟩⟩
theorem my_X10_far : gWV RX10 yX10_far cX10_far 5 (some .int) 2 := ⟨⟨wd789, wd790, wd742, wd791⟩, ⟨rfl, by decide +kernel, by decide +kernel, by decide +kernel⟩⟩
theorem my_X10_isHeard : gWV RX10 yX10_isHeard cX10_isHeard 4 (some .boolean) 3 := ⟨⟨wd793, wd794, wd742, wd795⟩, ⟨rfl, by decide +kernel, by decide +kernel, by decide +kernel⟩⟩
theorem my_X10_hearsOf : gWV RX10 yX10_hearsOf cX10_hearsOf 5 (some .int) 2 := ⟨⟨wd798, wd799, wd742, wd800⟩, ⟨rfl, by decide +kernel, by decide +kernel, by decide +kernel⟩⟩
theorem my_X10_hearsAll : gWV RX10 yX10_hearsAll cX10_hearsAll 3 none 0 := ⟨⟨wd802, wd803, wd742, wd804⟩, ⟨rfl, by decide +kernel, by decide +kernel, by decide +kernel⟩⟩
theorem my_X10_flies : gWV RX10 yX10_flies cX10_flies 7 none 3 := ⟨⟨wd806, wd807, wd742, wd808⟩, ⟨rfl, by decide +kernel, by decide +kernel, by decide +kernel⟩⟩
theorem my_X10_lays : gWV RX10 yX10_lays cX10_lays 3 none 0 := ⟨⟨wd810, wd811, wd742, wd812⟩, ⟨rfl, by decide +kernel, by decide +kernel, by decide +kernel⟩⟩
theorem my_X10_runs : gWV RX10 yX10_runs cX10_runs 2 none 0 := ⟨⟨wd814, wd815, wd742, wd816⟩, ⟨rfl, by decide +kernel, by decide +kernel, by decide +kernel⟩⟩
theorem my_X10_wantsOf : gWV RX10 yX10_wantsOf cX10_wantsOf 2 (some .int) 1 := ⟨⟨wd819, wd820, wd742, wd821⟩, ⟨rfl, by decide +kernel, by decide +kernel, by decide +kernel⟩⟩
theorem my_X10_isServedIn : gWV RX10 yX10_isServedIn cX10_isServedIn 3 (some .boolean) 2 := ⟨⟨wd823, wd824, wd742, wd825⟩, ⟨rfl, by decide +kernel, by decide +kernel, by decide +kernel⟩⟩
theorem my_X10_paysOf : gWV RX10 yX10_paysOf cX10_paysOf 2 (some .int) 1 := ⟨⟨wd827, wd828, wd742, wd829⟩, ⟨rfl, by decide +kernel, by decide +kernel, by decide +kernel⟩⟩
theorem my_X10_heardOf : gWV RX10 yX10_heardOf cX10_heardOf 2 (some .int) 1 := ⟨⟨wd831, wd832, wd742, wd833⟩, ⟨rfl, by decide +kernel, by decide +kernel, by decide +kernel⟩⟩
theorem my_X10_incomeNow : gWV RX10 yX10_incomeNow cX10_incomeNow 3 (some .int) 0 := ⟨⟨wd835, wd836, wd742, wd837⟩, ⟨rfl, by decide +kernel, by decide +kernel, by decide +kernel⟩⟩
theorem my_X10_laysNow : gWV RX10 yX10_laysNow cX10_laysNow 1 none 0 := ⟨⟨wd839, wd840, wd742, wd841⟩, ⟨rfl, by decide +kernel, by decide +kernel, by decide +kernel⟩⟩
theorem my_X10_drawnFog : gWV RX10 yX10_drawnFog cX10_drawnFog 7 (some .int) 1 := ⟨⟨wd849, wd850, wd742, wd851⟩, ⟨rfl, by decide +kernel, by decide +kernel, by decide +kernel⟩⟩
theorem my_X10_isFlight : gWV RX10 yX10_isFlight cX10_isFlight 3 (some .boolean) 1 := ⟨⟨wd856, wd857, wd742, wd858⟩, ⟨rfl, by decide +kernel, by decide +kernel, by decide +kernel⟩⟩
theorem my_X10_isStep : gWS RX10 yX10_isStep cX10_isStep 1 (some .boolean) 1 := ⟨⟨wd861, wd742, wd862⟩, ⟨rfl, by decide +kernel, by decide +kernel, by decide +kernel⟩⟩
theorem my_X10_outOf : gWV RX10 yX10_outOf cX10_outOf 3 (some .int) 1 := ⟨⟨wd864, wd865, wd742, wd866⟩, ⟨rfl, by decide +kernel, by decide +kernel, by decide +kernel⟩⟩
theorem my_X10_wayOf : gWV RX10 yX10_wayOf cX10_wayOf 4 (some .int) 1 := ⟨⟨wd868, wd869, wd742, wd870⟩, ⟨rfl, by decide +kernel, by decide +kernel, by decide +kernel⟩⟩
theorem my_X10_isCell : gWV RX10 yX10_isCell cX10_isCell 3 (some .boolean) 1 := ⟨⟨wd872, wd873, wd742, wd874⟩, ⟨rfl, by decide +kernel, by decide +kernel, by decide +kernel⟩⟩
theorem my_X10_servedNow : gWV RX10 yX10_servedNow cX10_servedNow 3 (some .int) 0 := ⟨⟨wd876, wd877, wd742, wd878⟩, ⟨rfl, by decide +kernel, by decide +kernel, by decide +kernel⟩⟩
theorem my_X10_unpaidNow : gWV RX10 yX10_unpaidNow cX10_unpaidNow 3 (some .int) 0 := ⟨⟨wd880, wd881, wd742, wd882⟩, ⟨rfl, by decide +kernel, by decide +kernel, by decide +kernel⟩⟩
theorem my_X10_otherwise : gWV RX10 yX10_otherwise cX10_otherwise 6 (some .int) 1 := ⟨⟨wd884, wd885, wd742, wd886⟩, ⟨rfl, by decide +kernel, by decide +kernel, by decide +kernel⟩⟩
theorem my_X10_isLaw : gWV RX10 yX10_isLaw cX10_isLaw 2 (some .boolean) 1 := ⟨⟨wd888, wd889, wd742, wd890⟩, ⟨rfl, by decide +kernel, by decide +kernel, by decide +kernel⟩⟩
theorem my_X10_incomeBy : gWV RX10 yX10_incomeBy cX10_incomeBy 2 (some .int) 1 := ⟨⟨wd892, wd893, wd742, wd894⟩, ⟨rfl, by decide +kernel, by decide +kernel, by decide +kernel⟩⟩
theorem my_X10_swapsOf : gWV RX10 yX10_swapsOf cX10_swapsOf 5 (some .int) 0 := ⟨⟨wd896, wd897, wd742, wd898⟩, ⟨rfl, by decide +kernel, by decide +kernel, by decide +kernel⟩⟩
theorem my_X10_hasBy : gWV RX10 yX10_hasBy cX10_hasBy 6 (some .int) 5 := ⟨⟨wd900, wd901, wd742, wd902⟩, ⟨rfl, by decide +kernel, by decide +kernel, by decide +kernel⟩⟩
theorem my_X10_areTwo : gWV RX10 yX10_areTwo cX10_areTwo 3 (some .boolean) 2 := ⟨⟨wd904, wd905, wd742, wd906⟩, ⟨rfl, by decide +kernel, by decide +kernel, by decide +kernel⟩⟩
theorem my_X10_isHalf : gWS RX10 yX10_isHalf cX10_isHalf 1 (some .boolean) 1 := ⟨⟨wd908, wd742, wd909⟩, ⟨rfl, by decide +kernel, by decide +kernel, by decide +kernel⟩⟩
theorem my_X10_isSeed : gWS RX10 yX10_isSeed cX10_isSeed 1 (some .boolean) 1 := ⟨⟨wd911, wd742, wd912⟩, ⟨rfl, by decide +kernel, by decide +kernel, by decide +kernel⟩⟩
theorem my_X10_laysDrawn : gWV RX10 yX10_laysDrawn cX10_laysDrawn 3 none 1 := ⟨⟨wd914, wd915, wd742, wd916⟩, ⟨rfl, by decide +kernel, by decide +kernel, by decide +kernel⟩⟩
