theorem dX10_best_0 : decode cX10_best 0 = .ok (.aload_n 0, 1) := by decide +kernel
theorem dX10_best_1 : decode cX10_best 1 = .ok (.iconst 0, 1) := by decide +kernel
theorem dX10_best_2 : decode cX10_best 2 = .ok (.putfield 92, 3) := by decide +kernel
theorem dX10_best_5 : decode cX10_best 5 = .ok (.aload_n 0, 1) := by decide +kernel
theorem dX10_best_6 : decode cX10_best 6 = .ok (.iload_n 1, 1) := by decide +kernel
theorem dX10_best_7 : decode cX10_best 7 = .ok (.invokevirtual 370, 3) := by decide +kernel
theorem dX10_best_10 : decode cX10_best 10 = .ok (.ifCond .ne 6, 3) := by decide +kernel
theorem dX10_best_13 : decode cX10_best 13 = .ok (.bipush (-2), 2) := by decide +kernel
theorem dX10_best_15 : decode cX10_best 15 = .ok (.ireturn, 1) := by decide +kernel
theorem dX10_best_16 : decode cX10_best 16 = .ok (.aload_n 0, 1) := by decide +kernel
theorem dX10_best_17 : decode cX10_best 17 = .ok (.invokevirtual 367, 3) := by decide +kernel
theorem dX10_best_20 : decode cX10_best 20 = .ok (.aload_n 0, 1) := by decide +kernel
theorem dX10_best_21 : decode cX10_best 21 = .ok (.getfield 71, 3) := by decide +kernel
theorem dX10_best_24 : decode cX10_best 24 = .ok (.iload_n 1, 1) := by decide +kernel
theorem dX10_best_25 : decode cX10_best 25 = .ok (.iaload, 1) := by decide +kernel
theorem dX10_best_26 : decode cX10_best 26 = .ok (.ireturn, 1) := by decide +kernel
theorem dX10_bests_0 : decode cX10_bests 0 = .ok (.aload_n 0, 1) := by decide +kernel
theorem dX10_bests_1 : decode cX10_bests 1 = .ok (.iconst 0, 1) := by decide +kernel
theorem dX10_bests_2 : decode cX10_bests 2 = .ok (.putfield 92, 3) := by decide +kernel
theorem dX10_bests_5 : decode cX10_bests 5 = .ok (.aload_n 0, 1) := by decide +kernel
theorem dX10_bests_6 : decode cX10_bests 6 = .ok (.iload_n 1, 1) := by decide +kernel
theorem dX10_bests_7 : decode cX10_bests 7 = .ok (.invokevirtual 370, 3) := by decide +kernel
theorem dX10_bests_10 : decode cX10_bests 10 = .ok (.ifCond .ne 6, 3) := by decide +kernel
theorem dX10_bests_13 : decode cX10_bests 13 = .ok (.bipush (-2), 2) := by decide +kernel
theorem dX10_bests_15 : decode cX10_bests 15 = .ok (.ireturn, 1) := by decide +kernel
theorem dX10_bests_16 : decode cX10_bests 16 = .ok (.aload_n 0, 1) := by decide +kernel
theorem dX10_bests_17 : decode cX10_bests 17 = .ok (.invokevirtual 367, 3) := by decide +kernel
theorem dX10_bests_20 : decode cX10_bests 20 = .ok (.aload_n 0, 1) := by decide +kernel
theorem dX10_bests_21 : decode cX10_bests 21 = .ok (.getfield 74, 3) := by decide +kernel
theorem dX10_bests_24 : decode cX10_bests 24 = .ok (.iload_n 1, 1) := by decide +kernel
theorem dX10_bests_25 : decode cX10_bests 25 = .ok (.iaload, 1) := by decide +kernel
theorem dX10_bests_26 : decode cX10_bests 26 = .ok (.ireturn, 1) := by decide +kernel
theorem dX10_chance_0 : decode cX10_chance 0 = .ok (.aload_n 0, 1) := by decide +kernel
theorem dX10_chance_1 : decode cX10_chance 1 = .ok (.iconst 0, 1) := by decide +kernel
theorem dX10_chance_2 : decode cX10_chance 2 = .ok (.putfield 92, 3) := by decide +kernel
theorem dX10_chance_5 : decode cX10_chance 5 = .ok (.aload_n 0, 1) := by decide +kernel
theorem dX10_chance_6 : decode cX10_chance 6 = .ok (.iload_n 1, 1) := by decide +kernel
theorem dX10_chance_7 : decode cX10_chance 7 = .ok (.i2l, 1) := by decide +kernel
theorem dX10_chance_8 : decode cX10_chance 8 = .ok (.invokevirtual 265, 3) := by decide +kernel
theorem dX10_chance_11 : decode cX10_chance 11 = .ok (.ifCond .eq 26, 3) := by decide +kernel
theorem dX10_chance_14 : decode cX10_chance 14 = .ok (.iload_n 2, 1) := by decide +kernel
theorem dX10_chance_15 : decode cX10_chance 15 = .ok (.invokestatic 419, 3) := by decide +kernel
theorem dX10_chance_18 : decode cX10_chance 18 = .ok (.ifCond .eq 19, 3) := by decide +kernel
theorem dX10_chance_21 : decode cX10_chance 21 = .ok (.aload_n 0, 1) := by decide +kernel
theorem dX10_chance_22 : decode cX10_chance 22 = .ok (.iload_n 1, 1) := by decide +kernel
theorem dX10_chance_23 : decode cX10_chance 23 = .ok (.invokevirtual 474, 3) := by decide +kernel
theorem dX10_chance_26 : decode cX10_chance 26 = .ok (.aload_n 0, 1) := by decide +kernel
theorem dX10_chance_27 : decode cX10_chance 27 = .ok (.invokevirtual 477, 3) := by decide +kernel
theorem dX10_chance_30 : decode cX10_chance 30 = .ok (.iload_n 2, 1) := by decide +kernel
theorem dX10_chance_31 : decode cX10_chance 31 = .ok (.invokestatic 422, 3) := by decide +kernel
theorem dX10_chance_34 : decode cX10_chance 34 = .ok (.goto 5, 3) := by decide +kernel
theorem dX10_chance_37 : decode cX10_chance 37 = .ok (.bipush (-2), 2) := by decide +kernel
theorem dX10_chance_39 : decode cX10_chance 39 = .ok (.ireturn, 1) := by decide +kernel
theorem dX10_common_0 : decode cX10_common 0 = .ok (.iload_n 1, 1) := by decide +kernel
theorem dX10_common_1 : decode cX10_common 1 = .ok (.ifCond .ne 7, 3) := by decide +kernel
theorem dX10_common_4 : decode cX10_common 4 = .ok (.iload_n 0, 1) := by decide +kernel
theorem dX10_common_5 : decode cX10_common 5 = .ok (.goto 10, 3) := by decide +kernel
theorem dX10_common_8 : decode cX10_common 8 = .ok (.iload_n 1, 1) := by decide +kernel
theorem dX10_common_9 : decode cX10_common 9 = .ok (.iload_n 0, 1) := by decide +kernel
theorem dX10_common_10 : decode cX10_common 10 = .ok (.iload_n 1, 1) := by decide +kernel
theorem dX10_common_11 : decode cX10_common 11 = .ok (.irem, 1) := by decide +kernel
theorem dX10_common_12 : decode cX10_common 12 = .ok (.invokestatic 416, 3) := by decide +kernel
theorem dX10_common_15 : decode cX10_common 15 = .ok (.ireturn, 1) := by decide +kernel
theorem dX10_fewest_0 : decode cX10_fewest 0 = .ok (.aload_n 0, 1) := by decide +kernel
theorem dX10_fewest_1 : decode cX10_fewest 1 = .ok (.iconst 0, 1) := by decide +kernel
theorem dX10_fewest_2 : decode cX10_fewest 2 = .ok (.putfield 92, 3) := by decide +kernel
theorem dX10_fewest_5 : decode cX10_fewest 5 = .ok (.aload_n 0, 1) := by decide +kernel
theorem dX10_fewest_6 : decode cX10_fewest 6 = .ok (.iload_n 1, 1) := by decide +kernel
theorem dX10_fewest_7 : decode cX10_fewest 7 = .ok (.invokevirtual 364, 3) := by decide +kernel
theorem dX10_fewest_10 : decode cX10_fewest 10 = .ok (.ifCond .ne 6, 3) := by decide +kernel
theorem dX10_fewest_13 : decode cX10_fewest 13 = .ok (.bipush (-2), 2) := by decide +kernel
theorem dX10_fewest_15 : decode cX10_fewest 15 = .ok (.ireturn, 1) := by decide +kernel
theorem dX10_fewest_16 : decode cX10_fewest 16 = .ok (.aload_n 0, 1) := by decide +kernel
theorem dX10_fewest_17 : decode cX10_fewest 17 = .ok (.invokevirtual 367, 3) := by decide +kernel
theorem dX10_fewest_20 : decode cX10_fewest 20 = .ok (.aload_n 0, 1) := by decide +kernel
theorem dX10_fewest_21 : decode cX10_fewest 21 = .ok (.getfield 65, 3) := by decide +kernel
theorem dX10_fewest_24 : decode cX10_fewest 24 = .ok (.iload_n 1, 1) := by decide +kernel
theorem dX10_fewest_25 : decode cX10_fewest 25 = .ok (.iaload, 1) := by decide +kernel
theorem dX10_fewest_26 : decode cX10_fewest 26 = .ok (.ldc 142, 2) := by decide +kernel
theorem dX10_fewest_28 : decode cX10_fewest 28 = .ok (.if_icmp .lt 7, 3) := by decide +kernel
theorem dX10_fewest_31 : decode cX10_fewest 31 = .ok (.iconst (-1), 1) := by decide +kernel
theorem dX10_fewest_32 : decode cX10_fewest 32 = .ok (.goto 9, 3) := by decide +kernel
theorem dX10_fewest_35 : decode cX10_fewest 35 = .ok (.aload_n 0, 1) := by decide +kernel
theorem dX10_fewest_36 : decode cX10_fewest 36 = .ok (.getfield 65, 3) := by decide +kernel
theorem dX10_fewest_39 : decode cX10_fewest 39 = .ok (.iload_n 1, 1) := by decide +kernel
theorem dX10_fewest_40 : decode cX10_fewest 40 = .ok (.iaload, 1) := by decide +kernel
theorem dX10_fewest_41 : decode cX10_fewest 41 = .ok (.ireturn, 1) := by decide +kernel
theorem dX10_flown_0 : decode cX10_flown 0 = .ok (.aload_n 0, 1) := by decide +kernel
theorem dX10_flown_1 : decode cX10_flown 1 = .ok (.iconst 0, 1) := by decide +kernel
theorem dX10_flown_2 : decode cX10_flown 2 = .ok (.putfield 92, 3) := by decide +kernel
theorem dX10_flown_5 : decode cX10_flown 5 = .ok (.aload_n 0, 1) := by decide +kernel
theorem dX10_flown_6 : decode cX10_flown 6 = .ok (.invokevirtual 270, 3) := by decide +kernel
theorem dX10_flown_9 : decode cX10_flown 9 = .ok (.ifCond .eq 22, 3) := by decide +kernel
theorem dX10_flown_12 : decode cX10_flown 12 = .ok (.iload_n 1, 1) := by decide +kernel
theorem dX10_flown_13 : decode cX10_flown 13 = .ok (.i2l, 1) := by decide +kernel
theorem dX10_flown_14 : decode cX10_flown 14 = .ok (.lconst 0, 1) := by decide +kernel
theorem dX10_flown_15 : decode cX10_flown 15 = .ok (.ldc2_w 480, 3) := by decide +kernel
theorem dX10_flown_18 : decode cX10_flown 18 = .ok (.invokestatic 97, 3) := by decide +kernel
theorem dX10_flown_21 : decode cX10_flown 21 = .ok (.ifCond .eq 10, 3) := by decide +kernel
theorem dX10_flown_24 : decode cX10_flown 24 = .ok (.iload_n 2, 1) := by decide +kernel
theorem dX10_flown_25 : decode cX10_flown 25 = .ok (.invokestatic 419, 3) := by decide +kernel
theorem dX10_flown_28 : decode cX10_flown 28 = .ok (.ifCond .ne 6, 3) := by decide +kernel
theorem dX10_flown_31 : decode cX10_flown 31 = .ok (.bipush (-2), 2) := by decide +kernel
theorem dX10_flown_33 : decode cX10_flown 33 = .ok (.ireturn, 1) := by decide +kernel
theorem dX10_flown_34 : decode cX10_flown 34 = .ok (.iconst 0, 1) := by decide +kernel
theorem dX10_flown_35 : decode cX10_flown 35 = .ok (.istore_n 3, 1) := by decide +kernel
theorem dX10_flown_36 : decode cX10_flown 36 = .ok (.iconst 0, 1) := by decide +kernel
theorem dX10_flown_37 : decode cX10_flown 37 = .ok (.istore 4, 2) := by decide +kernel
theorem dX10_flown_39 : decode cX10_flown 39 = .ok (.iload 4, 2) := by decide +kernel
theorem dX10_flown_41 : decode cX10_flown 41 = .ok (.iconst 1, 1) := by decide +kernel
theorem dX10_flown_42 : decode cX10_flown 42 = .ok (.aload_n 0, 1) := by decide +kernel
theorem dX10_flown_43 : decode cX10_flown 43 = .ok (.invokevirtual 259, 3) := by decide +kernel
theorem dX10_flown_46 : decode cX10_flown 46 = .ok (.ishl, 1) := by decide +kernel
theorem dX10_flown_47 : decode cX10_flown 47 = .ok (.if_icmp .ge 36, 3) := by decide +kernel
theorem dX10_flown_50 : decode cX10_flown 50 = .ok (.iload_n 3, 1) := by decide +kernel
theorem dX10_flown_51 : decode cX10_flown 51 = .ok (.aload_n 0, 1) := by decide +kernel
theorem dX10_flown_52 : decode cX10_flown 52 = .ok (.invokevirtual 259, 3) := by decide +kernel
theorem dX10_flown_55 : decode cX10_flown 55 = .ok (.iload 4, 2) := by decide +kernel
theorem dX10_flown_57 : decode cX10_flown 57 = .ok (.invokestatic 355, 3) := by decide +kernel
theorem dX10_flown_60 : decode cX10_flown 60 = .ok (.isub, 1) := by decide +kernel
theorem dX10_flown_61 : decode cX10_flown 61 = .ok (.iload_n 1, 1) := by decide +kernel
theorem dX10_flown_62 : decode cX10_flown 62 = .ok (.if_icmp .lt 12, 3) := by decide +kernel
theorem dX10_flown_65 : decode cX10_flown 65 = .ok (.aload_n 0, 1) := by decide +kernel
theorem dX10_flown_66 : decode cX10_flown 66 = .ok (.iload 4, 2) := by decide +kernel
theorem dX10_flown_68 : decode cX10_flown 68 = .ok (.invokevirtual 471, 3) := by decide +kernel
theorem dX10_flown_71 : decode cX10_flown 71 = .ok (.goto 4, 3) := by decide +kernel
theorem dX10_flown_74 : decode cX10_flown 74 = .ok (.iconst 0, 1) := by decide +kernel
theorem dX10_flown_75 : decode cX10_flown 75 = .ok (.iadd, 1) := by decide +kernel
theorem dX10_flown_76 : decode cX10_flown 76 = .ok (.istore_n 3, 1) := by decide +kernel
theorem dX10_flown_77 : decode cX10_flown 77 = .ok (.iinc 4 1, 3) := by decide +kernel
theorem dX10_flown_80 : decode cX10_flown 80 = .ok (.goto (-41), 3) := by decide +kernel
theorem dX10_flown_83 : decode cX10_flown 83 = .ok (.iload_n 3, 1) := by decide +kernel
theorem dX10_flown_84 : decode cX10_flown 84 = .ok (.aload_n 0, 1) := by decide +kernel
theorem dX10_flown_85 : decode cX10_flown 85 = .ok (.invokevirtual 477, 3) := by decide +kernel
theorem dX10_flown_88 : decode cX10_flown 88 = .ok (.iload_n 2, 1) := by decide +kernel
theorem dX10_flown_89 : decode cX10_flown 89 = .ok (.invokestatic 422, 3) := by decide +kernel
theorem dX10_flown_92 : decode cX10_flown 92 = .ok (.ireturn, 1) := by decide +kernel
theorem dX10_fogAll_0 : decode cX10_fogAll 0 = .ok (.iconst 1, 1) := by decide +kernel
theorem dX10_fogAll_1 : decode cX10_fogAll 1 = .ok (.istore_n 1, 1) := by decide +kernel
theorem dX10_fogAll_2 : decode cX10_fogAll 2 = .ok (.iconst 0, 1) := by decide +kernel
theorem dX10_fogAll_3 : decode cX10_fogAll 3 = .ok (.istore_n 2, 1) := by decide +kernel
theorem dX10_fogAll_4 : decode cX10_fogAll 4 = .ok (.iload_n 2, 1) := by decide +kernel
theorem dX10_fogAll_5 : decode cX10_fogAll 5 = .ok (.aload_n 0, 1) := by decide +kernel
theorem dX10_fogAll_6 : decode cX10_fogAll 6 = .ok (.invokevirtual 259, 3) := by decide +kernel
theorem dX10_fogAll_9 : decode cX10_fogAll 9 = .ok (.if_icmp .ge 14, 3) := by decide +kernel
theorem dX10_fogAll_12 : decode cX10_fogAll 12 = .ok (.iload_n 1, 1) := by decide +kernel
theorem dX10_fogAll_13 : decode cX10_fogAll 13 = .ok (.bipush 10, 2) := by decide +kernel
theorem dX10_fogAll_15 : decode cX10_fogAll 15 = .ok (.imul, 1) := by decide +kernel
theorem dX10_fogAll_16 : decode cX10_fogAll 16 = .ok (.istore_n 1, 1) := by decide +kernel
theorem dX10_fogAll_17 : decode cX10_fogAll 17 = .ok (.iinc 2 1, 3) := by decide +kernel
theorem dX10_fogAll_20 : decode cX10_fogAll 20 = .ok (.goto (-16), 3) := by decide +kernel
theorem dX10_fogAll_23 : decode cX10_fogAll 23 = .ok (.iload_n 1, 1) := by decide +kernel
theorem dX10_fogAll_24 : decode cX10_fogAll 24 = .ok (.ireturn, 1) := by decide +kernel
theorem dX10_fogs_0 : decode cX10_fogs 0 = .ok (.aload_n 0, 1) := by decide +kernel
theorem dX10_fogs_1 : decode cX10_fogs 1 = .ok (.invokevirtual 331, 3) := by decide +kernel
theorem dX10_fogs_4 : decode cX10_fogs 4 = .ok (.iconst 0, 1) := by decide +kernel
theorem dX10_fogs_5 : decode cX10_fogs 5 = .ok (.istore_n 2, 1) := by decide +kernel
theorem dX10_fogs_6 : decode cX10_fogs 6 = .ok (.aload_n 0, 1) := by decide +kernel
theorem dX10_fogs_7 : decode cX10_fogs 7 = .ok (.iconst 0, 1) := by decide +kernel
theorem dX10_fogs_8 : decode cX10_fogs 8 = .ok (.putfield 279, 3) := by decide +kernel
theorem dX10_fogs_11 : decode cX10_fogs 11 = .ok (.aload_n 0, 1) := by decide +kernel
theorem dX10_fogs_12 : decode cX10_fogs 12 = .ok (.getfield 279, 3) := by decide +kernel
theorem dX10_fogs_15 : decode cX10_fogs 15 = .ok (.iconst 1, 1) := by decide +kernel
theorem dX10_fogs_16 : decode cX10_fogs 16 = .ok (.aload_n 0, 1) := by decide +kernel
theorem dX10_fogs_17 : decode cX10_fogs 17 = .ok (.invokevirtual 259, 3) := by decide +kernel
theorem dX10_fogs_20 : decode cX10_fogs 20 = .ok (.ishl, 1) := by decide +kernel
theorem dX10_fogs_21 : decode cX10_fogs 21 = .ok (.if_icmp .ge 65, 3) := by decide +kernel
theorem dX10_fogs_24 : decode cX10_fogs 24 = .ok (.aload_n 0, 1) := by decide +kernel
theorem dX10_fogs_25 : decode cX10_fogs 25 = .ok (.invokevirtual 302, 3) := by decide +kernel
theorem dX10_fogs_28 : decode cX10_fogs 28 = .ok (.iload_n 2, 1) := by decide +kernel
theorem dX10_fogs_29 : decode cX10_fogs 29 = .ok (.aload_n 0, 1) := by decide +kernel
theorem dX10_fogs_30 : decode cX10_fogs 30 = .ok (.aload_n 0, 1) := by decide +kernel
theorem dX10_fogs_31 : decode cX10_fogs 31 = .ok (.getfield 279, 3) := by decide +kernel
theorem dX10_fogs_34 : decode cX10_fogs 34 = .ok (.invokevirtual 471, 3) := by decide +kernel
theorem dX10_fogs_37 : decode cX10_fogs 37 = .ok (.iload_n 1, 1) := by decide +kernel
theorem dX10_fogs_38 : decode cX10_fogs 38 = .ok (.iconst (-1), 1) := by decide +kernel
theorem dX10_fogs_39 : decode cX10_fogs 39 = .ok (.if_icmp .ne 10, 3) := by decide +kernel
theorem dX10_fogs_42 : decode cX10_fogs 42 = .ok (.aload_n 0, 1) := by decide +kernel
theorem dX10_fogs_43 : decode cX10_fogs 43 = .ok (.invokevirtual 349, 3) := by decide +kernel
theorem dX10_fogs_46 : decode cX10_fogs 46 = .ok (.goto 24, 3) := by decide +kernel
theorem dX10_fogs_49 : decode cX10_fogs 49 = .ok (.aload_n 0, 1) := by decide +kernel
theorem dX10_fogs_50 : decode cX10_fogs 50 = .ok (.iload_n 1, 1) := by decide +kernel
theorem dX10_fogs_51 : decode cX10_fogs 51 = .ok (.aload_n 0, 1) := by decide +kernel
theorem dX10_fogs_52 : decode cX10_fogs 52 = .ok (.getfield 40, 3) := by decide +kernel
theorem dX10_fogs_55 : decode cX10_fogs 55 = .ok (.iconst 3, 1) := by decide +kernel
theorem dX10_fogs_56 : decode cX10_fogs 56 = .ok (.iload_n 1, 1) := by decide +kernel
theorem dX10_fogs_57 : decode cX10_fogs 57 = .ok (.imul, 1) := by decide +kernel
theorem dX10_fogs_58 : decode cX10_fogs 58 = .ok (.iaload, 1) := by decide +kernel
theorem dX10_fogs_59 : decode cX10_fogs 59 = .ok (.invokevirtual 317, 3) := by decide +kernel
theorem dX10_fogs_62 : decode cX10_fogs 62 = .ok (.ifCond .eq 7, 3) := by decide +kernel
theorem dX10_fogs_65 : decode cX10_fogs 65 = .ok (.iconst 1, 1) := by decide +kernel
theorem dX10_fogs_66 : decode cX10_fogs 66 = .ok (.goto 4, 3) := by decide +kernel
theorem dX10_fogs_69 : decode cX10_fogs 69 = .ok (.iconst 0, 1) := by decide +kernel
theorem dX10_fogs_70 : decode cX10_fogs 70 = .ok (.imul, 1) := by decide +kernel
theorem dX10_fogs_71 : decode cX10_fogs 71 = .ok (.iadd, 1) := by decide +kernel
theorem dX10_fogs_72 : decode cX10_fogs 72 = .ok (.istore_n 2, 1) := by decide +kernel
theorem dX10_fogs_73 : decode cX10_fogs 73 = .ok (.aload_n 0, 1) := by decide +kernel
theorem dX10_fogs_74 : decode cX10_fogs 74 = .ok (.dup, 1) := by decide +kernel
theorem dX10_fogs_75 : decode cX10_fogs 75 = .ok (.getfield 279, 3) := by decide +kernel
theorem dX10_fogs_78 : decode cX10_fogs 78 = .ok (.iconst 1, 1) := by decide +kernel
theorem dX10_fogs_79 : decode cX10_fogs 79 = .ok (.iadd, 1) := by decide +kernel
theorem dX10_fogs_80 : decode cX10_fogs 80 = .ok (.putfield 279, 3) := by decide +kernel
theorem dX10_fogs_83 : decode cX10_fogs 83 = .ok (.goto (-72), 3) := by decide +kernel
theorem dX10_fogs_86 : decode cX10_fogs 86 = .ok (.iload_n 2, 1) := by decide +kernel
theorem dX10_fogs_87 : decode cX10_fogs 87 = .ok (.ireturn, 1) := by decide +kernel
theorem dX10_isSet_0 : decode cX10_isSet 0 = .ok (.aload_n 0, 1) := by decide +kernel
theorem dX10_isSet_1 : decode cX10_isSet 1 = .ok (.invokevirtual 270, 3) := by decide +kernel
theorem dX10_isSet_4 : decode cX10_isSet 4 = .ok (.ifCond .eq 25, 3) := by decide +kernel
theorem dX10_isSet_7 : decode cX10_isSet 7 = .ok (.iload_n 1, 1) := by decide +kernel
theorem dX10_isSet_8 : decode cX10_isSet 8 = .ok (.i2l, 1) := by decide +kernel
theorem dX10_isSet_9 : decode cX10_isSet 9 = .ok (.lconst 0, 1) := by decide +kernel
theorem dX10_isSet_10 : decode cX10_isSet 10 = .ok (.iconst 1, 1) := by decide +kernel
theorem dX10_isSet_11 : decode cX10_isSet 11 = .ok (.aload_n 0, 1) := by decide +kernel
theorem dX10_isSet_12 : decode cX10_isSet 12 = .ok (.invokevirtual 262, 3) := by decide +kernel
theorem dX10_isSet_15 : decode cX10_isSet 15 = .ok (.ishl, 1) := by decide +kernel
theorem dX10_isSet_16 : decode cX10_isSet 16 = .ok (.iconst 1, 1) := by decide +kernel
theorem dX10_isSet_17 : decode cX10_isSet 17 = .ok (.isub, 1) := by decide +kernel
theorem dX10_isSet_18 : decode cX10_isSet 18 = .ok (.i2l, 1) := by decide +kernel
theorem dX10_isSet_19 : decode cX10_isSet 19 = .ok (.invokestatic 97, 3) := by decide +kernel
theorem dX10_isSet_22 : decode cX10_isSet 22 = .ok (.ifCond .eq 7, 3) := by decide +kernel
theorem dX10_isSet_25 : decode cX10_isSet 25 = .ok (.iconst 1, 1) := by decide +kernel
theorem dX10_isSet_26 : decode cX10_isSet 26 = .ok (.goto 4, 3) := by decide +kernel
theorem dX10_isSet_29 : decode cX10_isSet 29 = .ok (.iconst 0, 1) := by decide +kernel
theorem dX10_isSet_30 : decode cX10_isSet 30 = .ok (.ireturn, 1) := by decide +kernel
theorem dX10_lights_0 : decode cX10_lights 0 = .ok (.aload_n 0, 1) := by decide +kernel
theorem dX10_lights_1 : decode cX10_lights 1 = .ok (.iconst 0, 1) := by decide +kernel
theorem dX10_lights_2 : decode cX10_lights 2 = .ok (.putfield 92, 3) := by decide +kernel
theorem dX10_lights_5 : decode cX10_lights 5 = .ok (.aload_n 0, 1) := by decide +kernel
theorem dX10_lights_6 : decode cX10_lights 6 = .ok (.iload_n 1, 1) := by decide +kernel
theorem dX10_lights_7 : decode cX10_lights 7 = .ok (.invokevirtual 364, 3) := by decide +kernel
theorem dX10_lights_10 : decode cX10_lights 10 = .ok (.ifCond .ne 6, 3) := by decide +kernel
theorem dX10_lights_13 : decode cX10_lights 13 = .ok (.bipush (-2), 2) := by decide +kernel
theorem dX10_lights_15 : decode cX10_lights 15 = .ok (.ireturn, 1) := by decide +kernel
theorem dX10_lights_16 : decode cX10_lights 16 = .ok (.aload_n 0, 1) := by decide +kernel
theorem dX10_lights_17 : decode cX10_lights 17 = .ok (.invokevirtual 367, 3) := by decide +kernel
theorem dX10_lights_20 : decode cX10_lights 20 = .ok (.aload_n 0, 1) := by decide +kernel
theorem dX10_lights_21 : decode cX10_lights 21 = .ok (.getfield 65, 3) := by decide +kernel
theorem dX10_lights_24 : decode cX10_lights 24 = .ok (.iload_n 1, 1) := by decide +kernel
theorem dX10_lights_25 : decode cX10_lights 25 = .ok (.iaload, 1) := by decide +kernel
theorem dX10_lights_26 : decode cX10_lights 26 = .ok (.ldc 142, 2) := by decide +kernel
theorem dX10_lights_28 : decode cX10_lights 28 = .ok (.if_icmp .lt 7, 3) := by decide +kernel
theorem dX10_lights_31 : decode cX10_lights 31 = .ok (.iconst (-1), 1) := by decide +kernel
theorem dX10_lights_32 : decode cX10_lights 32 = .ok (.goto 9, 3) := by decide +kernel
theorem dX10_lights_35 : decode cX10_lights 35 = .ok (.aload_n 0, 1) := by decide +kernel
theorem dX10_lights_36 : decode cX10_lights 36 = .ok (.getfield 68, 3) := by decide +kernel
theorem dX10_lights_39 : decode cX10_lights 39 = .ok (.iload_n 1, 1) := by decide +kernel
theorem dX10_lights_40 : decode cX10_lights 40 = .ok (.iaload, 1) := by decide +kernel
theorem dX10_lights_41 : decode cX10_lights 41 = .ok (.ireturn, 1) := by decide +kernel
theorem dX10_mean_0 : decode cX10_mean 0 = .ok (.aload_n 0, 1) := by decide +kernel
theorem dX10_mean_1 : decode cX10_mean 1 = .ok (.iconst 0, 1) := by decide +kernel
theorem dX10_mean_2 : decode cX10_mean 2 = .ok (.putfield 92, 3) := by decide +kernel
theorem dX10_mean_5 : decode cX10_mean 5 = .ok (.aload_n 0, 1) := by decide +kernel
theorem dX10_mean_6 : decode cX10_mean 6 = .ok (.invokevirtual 270, 3) := by decide +kernel
theorem dX10_mean_9 : decode cX10_mean 9 = .ok (.ifCond .eq 26, 3) := by decide +kernel
theorem dX10_mean_12 : decode cX10_mean 12 = .ok (.iload_n 1, 1) := by decide +kernel
theorem dX10_mean_13 : decode cX10_mean 13 = .ok (.invokestatic 419, 3) := by decide +kernel
theorem dX10_mean_16 : decode cX10_mean 16 = .ok (.ifCond .eq 19, 3) := by decide +kernel
theorem dX10_mean_19 : decode cX10_mean 19 = .ok (.aload_n 0, 1) := by decide +kernel
theorem dX10_mean_20 : decode cX10_mean 20 = .ok (.iconst (-1), 1) := by decide +kernel
theorem dX10_mean_21 : decode cX10_mean 21 = .ok (.invokevirtual 474, 3) := by decide +kernel
theorem dX10_mean_24 : decode cX10_mean 24 = .ok (.aload_n 0, 1) := by decide +kernel
theorem dX10_mean_25 : decode cX10_mean 25 = .ok (.invokevirtual 477, 3) := by decide +kernel
theorem dX10_mean_28 : decode cX10_mean 28 = .ok (.iload_n 1, 1) := by decide +kernel
theorem dX10_mean_29 : decode cX10_mean 29 = .ok (.invokestatic 422, 3) := by decide +kernel
theorem dX10_mean_32 : decode cX10_mean 32 = .ok (.goto 5, 3) := by decide +kernel
theorem dX10_mean_35 : decode cX10_mean 35 = .ok (.bipush (-2), 2) := by decide +kernel
theorem dX10_mean_37 : decode cX10_mean 37 = .ok (.ireturn, 1) := by decide +kernel
theorem dX10_most_0 : decode cX10_most 0 = .ok (.aload_n 0, 1) := by decide +kernel
theorem dX10_most_1 : decode cX10_most 1 = .ok (.iconst 0, 1) := by decide +kernel
theorem dX10_most_2 : decode cX10_most 2 = .ok (.putfield 92, 3) := by decide +kernel
theorem dX10_most_5 : decode cX10_most 5 = .ok (.aload_n 0, 1) := by decide +kernel
theorem dX10_most_6 : decode cX10_most 6 = .ok (.iload_n 1, 1) := by decide +kernel
theorem dX10_most_7 : decode cX10_most 7 = .ok (.invokevirtual 370, 3) := by decide +kernel
theorem dX10_most_10 : decode cX10_most 10 = .ok (.ifCond .ne 6, 3) := by decide +kernel
theorem dX10_most_13 : decode cX10_most 13 = .ok (.bipush (-2), 2) := by decide +kernel
theorem dX10_most_15 : decode cX10_most 15 = .ok (.ireturn, 1) := by decide +kernel
theorem dX10_most_16 : decode cX10_most 16 = .ok (.aload_n 0, 1) := by decide +kernel
theorem dX10_most_17 : decode cX10_most 17 = .ok (.invokevirtual 367, 3) := by decide +kernel
theorem dX10_most_20 : decode cX10_most 20 = .ok (.aload_n 0, 1) := by decide +kernel
theorem dX10_most_21 : decode cX10_most 21 = .ok (.getfield 77, 3) := by decide +kernel
theorem dX10_most_24 : decode cX10_most 24 = .ok (.iload_n 1, 1) := by decide +kernel
theorem dX10_most_25 : decode cX10_most 25 = .ok (.iaload, 1) := by decide +kernel
theorem dX10_most_26 : decode cX10_most 26 = .ok (.ireturn, 1) := by decide +kernel
theorem dX10_part_0 : decode cX10_part 0 = .ok (.iload_n 2, 1) := by decide +kernel
theorem dX10_part_1 : decode cX10_part 1 = .ok (.ifCond .ne 7, 3) := by decide +kernel
theorem dX10_part_4 : decode cX10_part 4 = .ok (.iload_n 0, 1) := by decide +kernel
theorem dX10_part_5 : decode cX10_part 5 = .ok (.goto 4, 3) := by decide +kernel
theorem dX10_part_8 : decode cX10_part 8 = .ok (.iload_n 1, 1) := by decide +kernel
theorem dX10_part_9 : decode cX10_part 9 = .ok (.iload_n 0, 1) := by decide +kernel
theorem dX10_part_10 : decode cX10_part 10 = .ok (.iload_n 1, 1) := by decide +kernel
theorem dX10_part_11 : decode cX10_part 11 = .ok (.invokestatic 416, 3) := by decide +kernel
theorem dX10_part_14 : decode cX10_part 14 = .ok (.idiv, 1) := by decide +kernel
theorem dX10_part_15 : decode cX10_part 15 = .ok (.ireturn, 1) := by decide +kernel
theorem dX10_price_0 : decode cX10_price 0 = .ok (.aload_n 0, 1) := by decide +kernel
theorem dX10_price_1 : decode cX10_price 1 = .ok (.iconst 0, 1) := by decide +kernel
theorem dX10_price_2 : decode cX10_price 2 = .ok (.putfield 92, 3) := by decide +kernel
theorem dX10_price_5 : decode cX10_price 5 = .ok (.aload_n 0, 1) := by decide +kernel
theorem dX10_price_6 : decode cX10_price 6 = .ok (.invokevirtual 270, 3) := by decide +kernel
theorem dX10_price_9 : decode cX10_price 9 = .ok (.ifCond .eq 15, 3) := by decide +kernel
theorem dX10_price_12 : decode cX10_price 12 = .ok (.iload_n 1, 1) := by decide +kernel
theorem dX10_price_13 : decode cX10_price 13 = .ok (.i2l, 1) := by decide +kernel
theorem dX10_price_14 : decode cX10_price 14 = .ok (.lconst 0, 1) := by decide +kernel
theorem dX10_price_15 : decode cX10_price 15 = .ok (.ldc2_w 444, 3) := by decide +kernel
theorem dX10_price_18 : decode cX10_price 18 = .ok (.invokestatic 97, 3) := by decide +kernel
theorem dX10_price_21 : decode cX10_price 21 = .ok (.ifCond .ne 6, 3) := by decide +kernel
theorem dX10_price_24 : decode cX10_price 24 = .ok (.bipush (-2), 2) := by decide +kernel
theorem dX10_price_26 : decode cX10_price 26 = .ok (.ireturn, 1) := by decide +kernel
theorem dX10_price_27 : decode cX10_price 27 = .ok (.iconst 0, 1) := by decide +kernel
theorem dX10_price_28 : decode cX10_price 28 = .ok (.istore_n 2, 1) := by decide +kernel
theorem dX10_price_29 : decode cX10_price 29 = .ok (.aload_n 0, 1) := by decide +kernel
theorem dX10_price_30 : decode cX10_price 30 = .ok (.iload_n 2, 1) := by decide +kernel
theorem dX10_price_31 : decode cX10_price 31 = .ok (.invokevirtual 446, 3) := by decide +kernel
theorem dX10_price_34 : decode cX10_price 34 = .ok (.iload_n 1, 1) := by decide +kernel
theorem dX10_price_35 : decode cX10_price 35 = .ok (.if_icmp .le 9, 3) := by decide +kernel
theorem dX10_price_38 : decode cX10_price 38 = .ok (.iinc 2 1, 3) := by decide +kernel
theorem dX10_price_41 : decode cX10_price 41 = .ok (.goto (-12), 3) := by decide +kernel
theorem dX10_price_44 : decode cX10_price 44 = .ok (.iload_n 2, 1) := by decide +kernel
theorem dX10_price_45 : decode cX10_price 45 = .ok (.ireturn, 1) := by decide +kernel
theorem dX10_wantedAt_0 : decode cX10_wantedAt 0 = .ok (.iconst 0, 1) := by decide +kernel
theorem dX10_wantedAt_1 : decode cX10_wantedAt 1 = .ok (.istore_n 2, 1) := by decide +kernel
theorem dX10_wantedAt_2 : decode cX10_wantedAt 2 = .ok (.iconst 0, 1) := by decide +kernel
theorem dX10_wantedAt_3 : decode cX10_wantedAt 3 = .ok (.istore_n 3, 1) := by decide +kernel
theorem dX10_wantedAt_4 : decode cX10_wantedAt 4 = .ok (.iload_n 3, 1) := by decide +kernel
theorem dX10_wantedAt_5 : decode cX10_wantedAt 5 = .ok (.aload_n 0, 1) := by decide +kernel
theorem dX10_wantedAt_6 : decode cX10_wantedAt 6 = .ok (.invokevirtual 262, 3) := by decide +kernel
theorem dX10_wantedAt_9 : decode cX10_wantedAt 9 = .ok (.if_icmp .ge 44, 3) := by decide +kernel
theorem dX10_wantedAt_12 : decode cX10_wantedAt 12 = .ok (.iload_n 2, 1) := by decide +kernel
theorem dX10_wantedAt_13 : decode cX10_wantedAt 13 = .ok (.aload_n 0, 1) := by decide +kernel
theorem dX10_wantedAt_14 : decode cX10_wantedAt 14 = .ok (.iload_n 3, 1) := by decide +kernel
theorem dX10_wantedAt_15 : decode cX10_wantedAt 15 = .ok (.invokevirtual 314, 3) := by decide +kernel
theorem dX10_wantedAt_18 : decode cX10_wantedAt 18 = .ok (.ifCond .le 26, 3) := by decide +kernel
theorem dX10_wantedAt_21 : decode cX10_wantedAt 21 = .ok (.aload_n 0, 1) := by decide +kernel
theorem dX10_wantedAt_22 : decode cX10_wantedAt 22 = .ok (.iload_n 3, 1) := by decide +kernel
theorem dX10_wantedAt_23 : decode cX10_wantedAt 23 = .ok (.invokevirtual 320, 3) := by decide +kernel
theorem dX10_wantedAt_26 : decode cX10_wantedAt 26 = .ok (.iload_n 1, 1) := by decide +kernel
theorem dX10_wantedAt_27 : decode cX10_wantedAt 27 = .ok (.aload_n 0, 1) := by decide +kernel
theorem dX10_wantedAt_28 : decode cX10_wantedAt 28 = .ok (.iload_n 3, 1) := by decide +kernel
theorem dX10_wantedAt_29 : decode cX10_wantedAt 29 = .ok (.invokevirtual 314, 3) := by decide +kernel
theorem dX10_wantedAt_32 : decode cX10_wantedAt 32 = .ok (.imul, 1) := by decide +kernel
theorem dX10_wantedAt_33 : decode cX10_wantedAt 33 = .ok (.if_icmp .lt 11, 3) := by decide +kernel
theorem dX10_wantedAt_36 : decode cX10_wantedAt 36 = .ok (.aload_n 0, 1) := by decide +kernel
theorem dX10_wantedAt_37 : decode cX10_wantedAt 37 = .ok (.iload_n 3, 1) := by decide +kernel
theorem dX10_wantedAt_38 : decode cX10_wantedAt 38 = .ok (.invokevirtual 314, 3) := by decide +kernel
theorem dX10_wantedAt_41 : decode cX10_wantedAt 41 = .ok (.goto 4, 3) := by decide +kernel
theorem dX10_wantedAt_44 : decode cX10_wantedAt 44 = .ok (.iconst 0, 1) := by decide +kernel
theorem dX10_wantedAt_45 : decode cX10_wantedAt 45 = .ok (.iadd, 1) := by decide +kernel
theorem dX10_wantedAt_46 : decode cX10_wantedAt 46 = .ok (.istore_n 2, 1) := by decide +kernel
theorem dX10_wantedAt_47 : decode cX10_wantedAt 47 = .ok (.iinc 3 1, 3) := by decide +kernel
theorem dX10_wantedAt_50 : decode cX10_wantedAt 50 = .ok (.goto (-46), 3) := by decide +kernel
theorem dX10_wantedAt_53 : decode cX10_wantedAt 53 = .ok (.iload_n 2, 1) := by decide +kernel
theorem dX10_wantedAt_54 : decode cX10_wantedAt 54 = .ok (.ireturn, 1) := by decide +kernel
theorem wd939 : Cond.static yX10_common ∈ gW := gm (tm_9 10 (by decide +kernel)) rfl
theorem wd940 : Cond.code yX10_common cX10_common 2 (some .int) ∈ gW := gm (tm_9 11 (by decide +kernel)) rfl
theorem wd941 : Cond.methodLink RX10 416 yX10_common ∈ gW := gm (tm_9 9 (by decide +kernel)) rfl
theorem wd942 : Cond.instanceMethod yX10_fogWeight ∈ gW := gm (tm_9 90 (by decide +kernel)) rfl
theorem wd943 : Cond.selects RX10 yX10_fogWeight yX10_fogWeight ∈ gW := gm (gmP 89 (by decide +kernel)) rfl
theorem wd944 : Cond.code yX10_fogWeight cX10_fogWeight 4 (some .int) ∈ gW := gm (tm_9 91 (by decide +kernel)) rfl
theorem wd945 : Cond.methodLink RX10 471 yX10_fogWeight ∈ gW := gm (tm_9 88 (by decide +kernel)) rfl
theorem wd946 : Cond.instanceMethod yX10_fogs ∈ gW := gm (tm_9 86 (by decide +kernel)) rfl
theorem wd947 : Cond.selects RX10 yX10_fogs yX10_fogs ∈ gW := gm (gmP 88 (by decide +kernel)) rfl
theorem wd948 : Cond.code yX10_fogs cX10_fogs 3 (some .int) ∈ gW := gm (tm_9 87 (by decide +kernel)) rfl
theorem wd949 : Cond.methodLink RX10 474 yX10_fogs ∈ gW := gm (tm_9 84 (by decide +kernel)) rfl
theorem wd950 : Cond.instanceMethod yX10_fogAll ∈ gW := gm (tm_9 94 (by decide +kernel)) rfl
theorem wd951 : Cond.selects RX10 yX10_fogAll yX10_fogAll ∈ gW := gm (gmP 90 (by decide +kernel)) rfl
theorem wd952 : Cond.code yX10_fogAll cX10_fogAll 3 (some .int) ∈ gW := gm (tm_9 95 (by decide +kernel)) rfl
theorem wd953 : Cond.methodLink RX10 477 yX10_fogAll ∈ gW := gm (tm_9 92 (by decide +kernel)) rfl
theorem wd954 : Cond.static yX10_part ∈ gW := gm (tm_9 7 (by decide +kernel)) rfl
theorem wd955 : Cond.code yX10_part cX10_part 3 (some .int) ∈ gW := gm (tm_9 8 (by decide +kernel)) rfl
theorem wd956 : Cond.methodLink RX10 422 yX10_part ∈ gW := gm (tm_9 6 (by decide +kernel)) rfl
theorem wd957 : Cond.constantLong RX10 480 (4 : Int64) ∈ gW := gm (tm_9 104 (by decide +kernel)) rfl
theorem wd958 : Cond.instanceMethod yX10_isSet ∈ gW := gm (tm_8 122 (by decide +kernel)) rfl
theorem wd959 : Cond.selects RX10 yX10_isSet yX10_isSet ∈ gW := gm (gmP 65 (by decide +kernel)) rfl
theorem wd960 : Cond.code yX10_isSet cX10_isSet 2 (some .boolean) ∈ gW := gm (tm_8 123 (by decide +kernel)) rfl
theorem wd961 : Cond.methodLink RX10 364 yX10_isSet ∈ gW := gm (tm_8 120 (by decide +kernel)) rfl
theorem wd962 : Cond.instanceMethod yX10_laysLamps ∈ gW := gm (tm_8 126 (by decide +kernel)) rfl
theorem wd963 : Cond.selects RX10 yX10_laysLamps yX10_laysLamps ∈ gW := gm (gmP 66 (by decide +kernel)) rfl
theorem wd964 : Cond.code yX10_laysLamps cX10_laysLamps 2 none ∈ gW := gm (tm_8 127 (by decide +kernel)) rfl
theorem wd965 : Cond.methodLink RX10 367 yX10_laysLamps ∈ gW := gm (tm_8 124 (by decide +kernel)) rfl
theorem wd966 : Cond.instanceMethod yX10_isMany ∈ gW := gm (tm_8 149 (by decide +kernel)) rfl
theorem wd967 : Cond.selects RX10 yX10_isMany yX10_isMany ∈ gW := gm (gmP 69 (by decide +kernel)) rfl
theorem wd968 : Cond.code yX10_isMany cX10_isMany 2 (some .boolean) ∈ gW := gm (tm_8 150 (by decide +kernel)) rfl
theorem wd969 : Cond.methodLink RX10 370 yX10_isMany ∈ gW := gm (tm_8 147 (by decide +kernel)) rfl
theorem wd970 : Cond.instanceMethod yX10_wantedAt ∈ gW := gm (tm_9 51 (by decide +kernel)) rfl
theorem wd971 : Cond.selects RX10 yX10_wantedAt yX10_wantedAt ∈ gW := gm (gmP 84 (by decide +kernel)) rfl
theorem wd972 : Cond.code yX10_wantedAt cX10_wantedAt 4 (some .int) ∈ gW := gm (tm_9 52 (by decide +kernel)) rfl
theorem wd973 : Cond.methodLink RX10 446 yX10_wantedAt ∈ gW := gm (tm_9 49 (by decide +kernel)) rfl
theorem wd974 : Cond.constantLong RX10 444 (999 : Int64) ∈ gW := gm (tm_9 48 (by decide +kernel)) rfl
theorem my_X10_common : gWS RX10 yX10_common cX10_common 2 (some .int) 2 := ⟨⟨wd939, wd742, wd940⟩, ⟨rfl, by decide +kernel, by decide +kernel, by decide +kernel⟩⟩
theorem my_X10_fogWeight : gWV RX10 yX10_fogWeight cX10_fogWeight 4 (some .int) 1 := ⟨⟨wd942, wd943, wd742, wd944⟩, ⟨rfl, by decide +kernel, by decide +kernel, by decide +kernel⟩⟩
theorem my_X10_fogs : gWV RX10 yX10_fogs cX10_fogs 3 (some .int) 1 := ⟨⟨wd946, wd947, wd742, wd948⟩, ⟨rfl, by decide +kernel, by decide +kernel, by decide +kernel⟩⟩
theorem my_X10_fogAll : gWV RX10 yX10_fogAll cX10_fogAll 3 (some .int) 0 := ⟨⟨wd950, wd951, wd742, wd952⟩, ⟨rfl, by decide +kernel, by decide +kernel, by decide +kernel⟩⟩
theorem my_X10_part : gWS RX10 yX10_part cX10_part 3 (some .int) 3 := ⟨⟨wd954, wd742, wd955⟩, ⟨rfl, by decide +kernel, by decide +kernel, by decide +kernel⟩⟩
theorem my_X10_isSet : gWV RX10 yX10_isSet cX10_isSet 2 (some .boolean) 1 := ⟨⟨wd958, wd959, wd742, wd960⟩, ⟨rfl, by decide +kernel, by decide +kernel, by decide +kernel⟩⟩
theorem my_X10_laysLamps : gWV RX10 yX10_laysLamps cX10_laysLamps 2 none 0 := ⟨⟨wd962, wd963, wd742, wd964⟩, ⟨rfl, by decide +kernel, by decide +kernel, by decide +kernel⟩⟩
theorem my_X10_isMany : gWV RX10 yX10_isMany cX10_isMany 2 (some .boolean) 1 := ⟨⟨wd966, wd967, wd742, wd968⟩, ⟨rfl, by decide +kernel, by decide +kernel, by decide +kernel⟩⟩
theorem my_X10_wantedAt : gWV RX10 yX10_wantedAt cX10_wantedAt 4 (some .int) 1 := ⟨⟨wd970, wd971, wd742, wd972⟩, ⟨rfl, by decide +kernel, by decide +kernel, by decide +kernel⟩⟩
theorem tl_100 : (100 : Int32).toInt = 100 := by decide
theorem rl_100 : rg (100 : Int32) 100 100 := ⟨by rw [tl_100]; exact Int.le_refl _, by rw [tl_100]; exact Int.le_refl _⟩
theorem tl_10000 : (10000 : Int32).toInt = 10000 := by decide
theorem rl_10000 : rg (10000 : Int32) 10000 10000 := ⟨by rw [tl_10000]; exact Int.le_refl _, by rw [tl_10000]; exact Int.le_refl _⟩
theorem tl_100000 : (100000 : Int32).toInt = 100000 := by decide
theorem rl_100000 : rg (100000 : Int32) 100000 100000 := ⟨by rw [tl_100000]; exact Int.le_refl _, by rw [tl_100000]; exact Int.le_refl _⟩
