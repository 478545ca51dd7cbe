theorem dX0_allReported_0 : decode cX0_allReported 0 = .ok (.iconst 0, 1) := by decide +kernel
theorem dX0_allReported_1 : decode cX0_allReported 1 = .ok (.istore_n 3, 1) := by decide +kernel
theorem dX0_allReported_2 : decode cX0_allReported 2 = .ok (.iload_n 3, 1) := by decide +kernel
theorem dX0_allReported_3 : decode cX0_allReported 3 = .ok (.iconst 1, 1) := by decide +kernel
theorem dX0_allReported_4 : decode cX0_allReported 4 = .ok (.iadd, 1) := by decide +kernel
theorem dX0_allReported_5 : decode cX0_allReported 5 = .ok (.aload_n 1, 1) := by decide +kernel
theorem dX0_allReported_6 : decode cX0_allReported 6 = .ok (.getfield 26, 3) := by decide +kernel
theorem dX0_allReported_9 : decode cX0_allReported 9 = .ok (.if_icmp .ge 35, 3) := by decide +kernel
theorem dX0_allReported_12 : decode cX0_allReported 12 = .ok (.iload_n 2, 1) := by decide +kernel
theorem dX0_allReported_13 : decode cX0_allReported 13 = .ok (.aload_n 1, 1) := by decide +kernel
theorem dX0_allReported_14 : decode cX0_allReported 14 = .ok (.getfield 32, 3) := by decide +kernel
theorem dX0_allReported_17 : decode cX0_allReported 17 = .ok (.iload_n 3, 1) := by decide +kernel
theorem dX0_allReported_18 : decode cX0_allReported 18 = .ok (.laload, 1) := by decide +kernel
theorem dX0_allReported_19 : decode cX0_allReported 19 = .ok (.l2i, 1) := by decide +kernel
theorem dX0_allReported_20 : decode cX0_allReported 20 = .ok (.ishr, 1) := by decide +kernel
theorem dX0_allReported_21 : decode cX0_allReported 21 = .ok (.iconst 1, 1) := by decide +kernel
theorem dX0_allReported_22 : decode cX0_allReported 22 = .ok (.iand, 1) := by decide +kernel
theorem dX0_allReported_23 : decode cX0_allReported 23 = .ok (.i2l, 1) := by decide +kernel
theorem dX0_allReported_24 : decode cX0_allReported 24 = .ok (.aload_n 1, 1) := by decide +kernel
theorem dX0_allReported_25 : decode cX0_allReported 25 = .ok (.getfield 32, 3) := by decide +kernel
theorem dX0_allReported_28 : decode cX0_allReported 28 = .ok (.iload_n 3, 1) := by decide +kernel
theorem dX0_allReported_29 : decode cX0_allReported 29 = .ok (.iconst 1, 1) := by decide +kernel
theorem dX0_allReported_30 : decode cX0_allReported 30 = .ok (.iadd, 1) := by decide +kernel
theorem dX0_allReported_31 : decode cX0_allReported 31 = .ok (.laload, 1) := by decide +kernel
theorem dX0_allReported_32 : decode cX0_allReported 32 = .ok (.lcmp, 1) := by decide +kernel
theorem dX0_allReported_33 : decode cX0_allReported 33 = .ok (.ifCond .eq 5, 3) := by decide +kernel
theorem dX0_allReported_36 : decode cX0_allReported 36 = .ok (.iconst 0, 1) := by decide +kernel
theorem dX0_allReported_37 : decode cX0_allReported 37 = .ok (.ireturn, 1) := by decide +kernel
theorem dX0_allReported_38 : decode cX0_allReported 38 = .ok (.iinc 3 2, 3) := by decide +kernel
theorem dX0_allReported_41 : decode cX0_allReported 41 = .ok (.goto (-39), 3) := by decide +kernel
theorem dX0_allReported_44 : decode cX0_allReported 44 = .ok (.iconst 1, 1) := by decide +kernel
theorem dX0_allReported_45 : decode cX0_allReported 45 = .ok (.ireturn, 1) := by decide +kernel
theorem dX0_allSeen_0 : decode cX0_allSeen 0 = .ok (.iconst 0, 1) := by decide +kernel
theorem dX0_allSeen_1 : decode cX0_allSeen 1 = .ok (.istore_n 2, 1) := by decide +kernel
theorem dX0_allSeen_2 : decode cX0_allSeen 2 = .ok (.iload_n 2, 1) := by decide +kernel
theorem dX0_allSeen_3 : decode cX0_allSeen 3 = .ok (.iconst 2, 1) := by decide +kernel
theorem dX0_allSeen_4 : decode cX0_allSeen 4 = .ok (.iadd, 1) := by decide +kernel
theorem dX0_allSeen_5 : decode cX0_allSeen 5 = .ok (.aload_n 1, 1) := by decide +kernel
theorem dX0_allSeen_6 : decode cX0_allSeen 6 = .ok (.getfield 26, 3) := by decide +kernel
theorem dX0_allSeen_9 : decode cX0_allSeen 9 = .ok (.if_icmp .ge 54, 3) := by decide +kernel
theorem dX0_allSeen_12 : decode cX0_allSeen 12 = .ok (.aload_n 0, 1) := by decide +kernel
theorem dX0_allSeen_13 : decode cX0_allSeen 13 = .ok (.getfield 22, 3) := by decide +kernel
theorem dX0_allSeen_16 : decode cX0_allSeen 16 = .ok (.aload_n 1, 1) := by decide +kernel
theorem dX0_allSeen_17 : decode cX0_allSeen 17 = .ok (.getfield 32, 3) := by decide +kernel
theorem dX0_allSeen_20 : decode cX0_allSeen 20 = .ok (.iload_n 2, 1) := by decide +kernel
theorem dX0_allSeen_21 : decode cX0_allSeen 21 = .ok (.laload, 1) := by decide +kernel
theorem dX0_allSeen_22 : decode cX0_allSeen 22 = .ok (.l2i, 1) := by decide +kernel
theorem dX0_allSeen_23 : decode cX0_allSeen 23 = .ok (.invokevirtual 65, 3) := by decide +kernel
theorem dX0_allSeen_26 : decode cX0_allSeen 26 = .ok (.aload_n 0, 1) := by decide +kernel
theorem dX0_allSeen_27 : decode cX0_allSeen 27 = .ok (.getfield 22, 3) := by decide +kernel
theorem dX0_allSeen_30 : decode cX0_allSeen 30 = .ok (.aload_n 1, 1) := by decide +kernel
theorem dX0_allSeen_31 : decode cX0_allSeen 31 = .ok (.getfield 32, 3) := by decide +kernel
theorem dX0_allSeen_34 : decode cX0_allSeen 34 = .ok (.iload_n 2, 1) := by decide +kernel
theorem dX0_allSeen_35 : decode cX0_allSeen 35 = .ok (.iconst 1, 1) := by decide +kernel
theorem dX0_allSeen_36 : decode cX0_allSeen 36 = .ok (.iadd, 1) := by decide +kernel
theorem dX0_allSeen_37 : decode cX0_allSeen 37 = .ok (.laload, 1) := by decide +kernel
theorem dX0_allSeen_38 : decode cX0_allSeen 38 = .ok (.l2i, 1) := by decide +kernel
theorem dX0_allSeen_39 : decode cX0_allSeen 39 = .ok (.invokevirtual 69, 3) := by decide +kernel
theorem dX0_allSeen_42 : decode cX0_allSeen 42 = .ok (.i2l, 1) := by decide +kernel
theorem dX0_allSeen_43 : decode cX0_allSeen 43 = .ok (.aload_n 1, 1) := by decide +kernel
theorem dX0_allSeen_44 : decode cX0_allSeen 44 = .ok (.getfield 32, 3) := by decide +kernel
theorem dX0_allSeen_47 : decode cX0_allSeen 47 = .ok (.iload_n 2, 1) := by decide +kernel
theorem dX0_allSeen_48 : decode cX0_allSeen 48 = .ok (.iconst 2, 1) := by decide +kernel
theorem dX0_allSeen_49 : decode cX0_allSeen 49 = .ok (.iadd, 1) := by decide +kernel
theorem dX0_allSeen_50 : decode cX0_allSeen 50 = .ok (.laload, 1) := by decide +kernel
theorem dX0_allSeen_51 : decode cX0_allSeen 51 = .ok (.lcmp, 1) := by decide +kernel
theorem dX0_allSeen_52 : decode cX0_allSeen 52 = .ok (.ifCond .eq 5, 3) := by decide +kernel
theorem dX0_allSeen_55 : decode cX0_allSeen 55 = .ok (.iconst 0, 1) := by decide +kernel
theorem dX0_allSeen_56 : decode cX0_allSeen 56 = .ok (.ireturn, 1) := by decide +kernel
theorem dX0_allSeen_57 : decode cX0_allSeen 57 = .ok (.iinc 2 3, 3) := by decide +kernel
theorem dX0_allSeen_60 : decode cX0_allSeen 60 = .ok (.goto (-58), 3) := by decide +kernel
theorem dX0_allSeen_63 : decode cX0_allSeen 63 = .ok (.iconst 1, 1) := by decide +kernel
theorem dX0_allSeen_64 : decode cX0_allSeen 64 = .ok (.ireturn, 1) := by decide +kernel
theorem dX0_areReports_0 : decode cX0_areReports 0 = .ok (.aload_n 1, 1) := by decide +kernel
theorem dX0_areReports_1 : decode cX0_areReports 1 = .ok (.getfield 26, 3) := by decide +kernel
theorem dX0_areReports_4 : decode cX0_areReports 4 = .ok (.iconst 2, 1) := by decide +kernel
theorem dX0_areReports_5 : decode cX0_areReports 5 = .ok (.irem, 1) := by decide +kernel
theorem dX0_areReports_6 : decode cX0_areReports 6 = .ok (.ifCond .eq 5, 3) := by decide +kernel
theorem dX0_areReports_9 : decode cX0_areReports 9 = .ok (.iconst 0, 1) := by decide +kernel
theorem dX0_areReports_10 : decode cX0_areReports 10 = .ok (.ireturn, 1) := by decide +kernel
theorem dX0_areReports_11 : decode cX0_areReports 11 = .ok (.iconst 0, 1) := by decide +kernel
theorem dX0_areReports_12 : decode cX0_areReports 12 = .ok (.istore_n 2, 1) := by decide +kernel
theorem dX0_areReports_13 : decode cX0_areReports 13 = .ok (.iload_n 2, 1) := by decide +kernel
theorem dX0_areReports_14 : decode cX0_areReports 14 = .ok (.iconst 1, 1) := by decide +kernel
theorem dX0_areReports_15 : decode cX0_areReports 15 = .ok (.iadd, 1) := by decide +kernel
theorem dX0_areReports_16 : decode cX0_areReports 16 = .ok (.aload_n 1, 1) := by decide +kernel
theorem dX0_areReports_17 : decode cX0_areReports 17 = .ok (.getfield 26, 3) := by decide +kernel
theorem dX0_areReports_20 : decode cX0_areReports 20 = .ok (.if_icmp .ge 51, 3) := by decide +kernel
theorem dX0_areReports_23 : decode cX0_areReports 23 = .ok (.aload_n 1, 1) := by decide +kernel
theorem dX0_areReports_24 : decode cX0_areReports 24 = .ok (.getfield 32, 3) := by decide +kernel
theorem dX0_areReports_27 : decode cX0_areReports 27 = .ok (.iload_n 2, 1) := by decide +kernel
theorem dX0_areReports_28 : decode cX0_areReports 28 = .ok (.laload, 1) := by decide +kernel
theorem dX0_areReports_29 : decode cX0_areReports 29 = .ok (.iconst 0, 1) := by decide +kernel
theorem dX0_areReports_30 : decode cX0_areReports 30 = .ok (.aload_n 0, 1) := by decide +kernel
theorem dX0_areReports_31 : decode cX0_areReports 31 = .ok (.getfield 18, 3) := by decide +kernel
theorem dX0_areReports_34 : decode cX0_areReports 34 = .ok (.getfield 49, 3) := by decide +kernel
theorem dX0_areReports_37 : decode cX0_areReports 37 = .ok (.iconst 1, 1) := by decide +kernel
theorem dX0_areReports_38 : decode cX0_areReports 38 = .ok (.isub, 1) := by decide +kernel
theorem dX0_areReports_39 : decode cX0_areReports 39 = .ok (.invokestatic 41, 3) := by decide +kernel
theorem dX0_areReports_42 : decode cX0_areReports 42 = .ok (.istore_n 3, 1) := by decide +kernel
theorem dX0_areReports_43 : decode cX0_areReports 43 = .ok (.iload_n 3, 1) := by decide +kernel
theorem dX0_areReports_44 : decode cX0_areReports 44 = .ok (.ifCond .eq 19, 3) := by decide +kernel
theorem dX0_areReports_47 : decode cX0_areReports 47 = .ok (.aload_n 1, 1) := by decide +kernel
theorem dX0_areReports_48 : decode cX0_areReports 48 = .ok (.getfield 32, 3) := by decide +kernel
theorem dX0_areReports_51 : decode cX0_areReports 51 = .ok (.iload_n 2, 1) := by decide +kernel
theorem dX0_areReports_52 : decode cX0_areReports 52 = .ok (.iconst 1, 1) := by decide +kernel
theorem dX0_areReports_53 : decode cX0_areReports 53 = .ok (.iadd, 1) := by decide +kernel
theorem dX0_areReports_54 : decode cX0_areReports 54 = .ok (.laload, 1) := by decide +kernel
theorem dX0_areReports_55 : decode cX0_areReports 55 = .ok (.iconst 0, 1) := by decide +kernel
theorem dX0_areReports_56 : decode cX0_areReports 56 = .ok (.iconst 1, 1) := by decide +kernel
theorem dX0_areReports_57 : decode cX0_areReports 57 = .ok (.invokestatic 41, 3) := by decide +kernel
theorem dX0_areReports_60 : decode cX0_areReports 60 = .ok (.ifCond .ne 5, 3) := by decide +kernel
theorem dX0_areReports_63 : decode cX0_areReports 63 = .ok (.iconst 0, 1) := by decide +kernel
theorem dX0_areReports_64 : decode cX0_areReports 64 = .ok (.ireturn, 1) := by decide +kernel
theorem dX0_areReports_65 : decode cX0_areReports 65 = .ok (.iinc 2 2, 3) := by decide +kernel
theorem dX0_areReports_68 : decode cX0_areReports 68 = .ok (.goto (-55), 3) := by decide +kernel
theorem dX0_areReports_71 : decode cX0_areReports 71 = .ok (.iconst 1, 1) := by decide +kernel
theorem dX0_areReports_72 : decode cX0_areReports 72 = .ok (.ireturn, 1) := by decide +kernel
theorem dX0_areSights_0 : decode cX0_areSights 0 = .ok (.aload_n 1, 1) := by decide +kernel
theorem dX0_areSights_1 : decode cX0_areSights 1 = .ok (.getfield 26, 3) := by decide +kernel
theorem dX0_areSights_4 : decode cX0_areSights 4 = .ok (.iconst 3, 1) := by decide +kernel
theorem dX0_areSights_5 : decode cX0_areSights 5 = .ok (.irem, 1) := by decide +kernel
theorem dX0_areSights_6 : decode cX0_areSights 6 = .ok (.ifCond .eq 5, 3) := by decide +kernel
theorem dX0_areSights_9 : decode cX0_areSights 9 = .ok (.iconst 0, 1) := by decide +kernel
theorem dX0_areSights_10 : decode cX0_areSights 10 = .ok (.ireturn, 1) := by decide +kernel
theorem dX0_areSights_11 : decode cX0_areSights 11 = .ok (.iconst 0, 1) := by decide +kernel
theorem dX0_areSights_12 : decode cX0_areSights 12 = .ok (.istore_n 2, 1) := by decide +kernel
theorem dX0_areSights_13 : decode cX0_areSights 13 = .ok (.iload_n 2, 1) := by decide +kernel
theorem dX0_areSights_14 : decode cX0_areSights 14 = .ok (.iconst 2, 1) := by decide +kernel
theorem dX0_areSights_15 : decode cX0_areSights 15 = .ok (.iadd, 1) := by decide +kernel
theorem dX0_areSights_16 : decode cX0_areSights 16 = .ok (.aload_n 1, 1) := by decide +kernel
theorem dX0_areSights_17 : decode cX0_areSights 17 = .ok (.getfield 26, 3) := by decide +kernel
theorem dX0_areSights_20 : decode cX0_areSights 20 = .ok (.if_icmp .ge 84, 3) := by decide +kernel
theorem dX0_areSights_23 : decode cX0_areSights 23 = .ok (.aload_n 1, 1) := by decide +kernel
theorem dX0_areSights_24 : decode cX0_areSights 24 = .ok (.getfield 32, 3) := by decide +kernel
theorem dX0_areSights_27 : decode cX0_areSights 27 = .ok (.iload_n 2, 1) := by decide +kernel
theorem dX0_areSights_28 : decode cX0_areSights 28 = .ok (.laload, 1) := by decide +kernel
theorem dX0_areSights_29 : decode cX0_areSights 29 = .ok (.iconst 0, 1) := by decide +kernel
theorem dX0_areSights_30 : decode cX0_areSights 30 = .ok (.aload_n 0, 1) := by decide +kernel
theorem dX0_areSights_31 : decode cX0_areSights 31 = .ok (.getfield 18, 3) := by decide +kernel
theorem dX0_areSights_34 : decode cX0_areSights 34 = .ok (.getfield 36, 3) := by decide +kernel
theorem dX0_areSights_37 : decode cX0_areSights 37 = .ok (.iconst 1, 1) := by decide +kernel
theorem dX0_areSights_38 : decode cX0_areSights 38 = .ok (.isub, 1) := by decide +kernel
theorem dX0_areSights_39 : decode cX0_areSights 39 = .ok (.invokestatic 41, 3) := by decide +kernel
theorem dX0_areSights_42 : decode cX0_areSights 42 = .ok (.istore_n 3, 1) := by decide +kernel
theorem dX0_areSights_43 : decode cX0_areSights 43 = .ok (.aload_n 1, 1) := by decide +kernel
theorem dX0_areSights_44 : decode cX0_areSights 44 = .ok (.getfield 32, 3) := by decide +kernel
theorem dX0_areSights_47 : decode cX0_areSights 47 = .ok (.iload_n 2, 1) := by decide +kernel
theorem dX0_areSights_48 : decode cX0_areSights 48 = .ok (.iconst 1, 1) := by decide +kernel
theorem dX0_areSights_49 : decode cX0_areSights 49 = .ok (.iadd, 1) := by decide +kernel
theorem dX0_areSights_50 : decode cX0_areSights 50 = .ok (.laload, 1) := by decide +kernel
theorem dX0_areSights_51 : decode cX0_areSights 51 = .ok (.iconst 0, 1) := by decide +kernel
theorem dX0_areSights_52 : decode cX0_areSights 52 = .ok (.bipush 40, 2) := by decide +kernel
theorem dX0_areSights_54 : decode cX0_areSights 54 = .ok (.invokestatic 41, 3) := by decide +kernel
theorem dX0_areSights_57 : decode cX0_areSights 57 = .ok (.istore 4, 2) := by decide +kernel
theorem dX0_areSights_59 : decode cX0_areSights 59 = .ok (.aload_n 1, 1) := by decide +kernel
theorem dX0_areSights_60 : decode cX0_areSights 60 = .ok (.getfield 32, 3) := by decide +kernel
theorem dX0_areSights_63 : decode cX0_areSights 63 = .ok (.iload_n 2, 1) := by decide +kernel
theorem dX0_areSights_64 : decode cX0_areSights 64 = .ok (.iconst 2, 1) := by decide +kernel
theorem dX0_areSights_65 : decode cX0_areSights 65 = .ok (.iadd, 1) := by decide +kernel
theorem dX0_areSights_66 : decode cX0_areSights 66 = .ok (.laload, 1) := by decide +kernel
theorem dX0_areSights_67 : decode cX0_areSights 67 = .ok (.iconst (-1), 1) := by decide +kernel
theorem dX0_areSights_68 : decode cX0_areSights 68 = .ok (.aload_n 0, 1) := by decide +kernel
theorem dX0_areSights_69 : decode cX0_areSights 69 = .ok (.getfield 18, 3) := by decide +kernel
theorem dX0_areSights_72 : decode cX0_areSights 72 = .ok (.invokevirtual 45, 3) := by decide +kernel
theorem dX0_areSights_75 : decode cX0_areSights 75 = .ok (.iconst 1, 1) := by decide +kernel
theorem dX0_areSights_76 : decode cX0_areSights 76 = .ok (.isub, 1) := by decide +kernel
theorem dX0_areSights_77 : decode cX0_areSights 77 = .ok (.invokestatic 41, 3) := by decide +kernel
theorem dX0_areSights_80 : decode cX0_areSights 80 = .ok (.istore 5, 2) := by decide +kernel
theorem dX0_areSights_82 : decode cX0_areSights 82 = .ok (.iload_n 3, 1) := by decide +kernel
theorem dX0_areSights_83 : decode cX0_areSights 83 = .ok (.ifCond .eq 13, 3) := by decide +kernel
theorem dX0_areSights_86 : decode cX0_areSights 86 = .ok (.iload 4, 2) := by decide +kernel
theorem dX0_areSights_88 : decode cX0_areSights 88 = .ok (.ifCond .eq 8, 3) := by decide +kernel
theorem dX0_areSights_91 : decode cX0_areSights 91 = .ok (.iload 5, 2) := by decide +kernel
theorem dX0_areSights_93 : decode cX0_areSights 93 = .ok (.ifCond .ne 5, 3) := by decide +kernel
theorem dX0_areSights_96 : decode cX0_areSights 96 = .ok (.iconst 0, 1) := by decide +kernel
theorem dX0_areSights_97 : decode cX0_areSights 97 = .ok (.ireturn, 1) := by decide +kernel
theorem dX0_areSights_98 : decode cX0_areSights 98 = .ok (.iinc 2 3, 3) := by decide +kernel
theorem dX0_areSights_101 : decode cX0_areSights 101 = .ok (.goto (-88), 3) := by decide +kernel
theorem dX0_areSights_104 : decode cX0_areSights 104 = .ok (.iconst 1, 1) := by decide +kernel
theorem dX0_areSights_105 : decode cX0_areSights 105 = .ok (.ireturn, 1) := by decide +kernel
theorem dX0_cellBits_0 : decode cX0_cellBits 0 = .ok (.iconst 0, 1) := by decide +kernel
theorem dX0_cellBits_1 : decode cX0_cellBits 1 = .ok (.istore_n 1, 1) := by decide +kernel
theorem dX0_cellBits_2 : decode cX0_cellBits 2 = .ok (.iconst 0, 1) := by decide +kernel
theorem dX0_cellBits_3 : decode cX0_cellBits 3 = .ok (.istore_n 2, 1) := by decide +kernel
theorem dX0_cellBits_4 : decode cX0_cellBits 4 = .ok (.iload_n 2, 1) := by decide +kernel
theorem dX0_cellBits_5 : decode cX0_cellBits 5 = .ok (.aload_n 0, 1) := by decide +kernel
theorem dX0_cellBits_6 : decode cX0_cellBits 6 = .ok (.invokevirtual 97, 3) := by decide +kernel
theorem dX0_cellBits_9 : decode cX0_cellBits 9 = .ok (.if_icmp .ge 27, 3) := by decide +kernel
theorem dX0_cellBits_12 : decode cX0_cellBits 12 = .ok (.aload_n 0, 1) := by decide +kernel
theorem dX0_cellBits_13 : decode cX0_cellBits 13 = .ok (.getfield 11, 3) := by decide +kernel
theorem dX0_cellBits_16 : decode cX0_cellBits 16 = .ok (.iload_n 2, 1) := by decide +kernel
theorem dX0_cellBits_17 : decode cX0_cellBits 17 = .ok (.iaload, 1) := by decide +kernel
theorem dX0_cellBits_18 : decode cX0_cellBits 18 = .ok (.iconst (-1), 1) := by decide +kernel
theorem dX0_cellBits_19 : decode cX0_cellBits 19 = .ok (.if_icmp .eq 11, 3) := by decide +kernel
theorem dX0_cellBits_22 : decode cX0_cellBits 22 = .ok (.iload_n 1, 1) := by decide +kernel
theorem dX0_cellBits_23 : decode cX0_cellBits 23 = .ok (.iconst 1, 1) := by decide +kernel
theorem dX0_cellBits_24 : decode cX0_cellBits 24 = .ok (.iload_n 2, 1) := by decide +kernel
theorem dX0_cellBits_25 : decode cX0_cellBits 25 = .ok (.iconst 4, 1) := by decide +kernel
theorem dX0_cellBits_26 : decode cX0_cellBits 26 = .ok (.idiv, 1) := by decide +kernel
theorem dX0_cellBits_27 : decode cX0_cellBits 27 = .ok (.ishl, 1) := by decide +kernel
theorem dX0_cellBits_28 : decode cX0_cellBits 28 = .ok (.ior, 1) := by decide +kernel
theorem dX0_cellBits_29 : decode cX0_cellBits 29 = .ok (.istore_n 1, 1) := by decide +kernel
theorem dX0_cellBits_30 : decode cX0_cellBits 30 = .ok (.iinc 2 1, 3) := by decide +kernel
theorem dX0_cellBits_33 : decode cX0_cellBits 33 = .ok (.goto (-29), 3) := by decide +kernel
theorem dX0_cellBits_36 : decode cX0_cellBits 36 = .ok (.iload_n 1, 1) := by decide +kernel
theorem dX0_cellBits_37 : decode cX0_cellBits 37 = .ok (.ireturn, 1) := by decide +kernel
theorem dX0_flightToAsk_0 : decode cX0_flightToAsk 0 = .ok (.iconst (-1), 1) := by decide +kernel
theorem dX0_flightToAsk_1 : decode cX0_flightToAsk 1 = .ok (.istore_n 2, 1) := by decide +kernel
theorem dX0_flightToAsk_2 : decode cX0_flightToAsk 2 = .ok (.iload_n 1, 1) := by decide +kernel
theorem dX0_flightToAsk_3 : decode cX0_flightToAsk 3 = .ok (.invokestatic 73, 3) := by decide +kernel
theorem dX0_flightToAsk_6 : decode cX0_flightToAsk 6 = .ok (.istore_n 3, 1) := by decide +kernel
theorem dX0_flightToAsk_7 : decode cX0_flightToAsk 7 = .ok (.iconst 0, 1) := by decide +kernel
theorem dX0_flightToAsk_8 : decode cX0_flightToAsk 8 = .ok (.istore 4, 2) := by decide +kernel
theorem dX0_flightToAsk_10 : decode cX0_flightToAsk 10 = .ok (.iload 4, 2) := by decide +kernel
theorem dX0_flightToAsk_12 : decode cX0_flightToAsk 12 = .ok (.aload_n 0, 1) := by decide +kernel
theorem dX0_flightToAsk_13 : decode cX0_flightToAsk 13 = .ok (.getfield 18, 3) := by decide +kernel
theorem dX0_flightToAsk_16 : decode cX0_flightToAsk 16 = .ok (.getfield 36, 3) := by decide +kernel
theorem dX0_flightToAsk_19 : decode cX0_flightToAsk 19 = .ok (.if_icmp .ge 30, 3) := by decide +kernel
theorem dX0_flightToAsk_22 : decode cX0_flightToAsk 22 = .ok (.aload_n 0, 1) := by decide +kernel
theorem dX0_flightToAsk_23 : decode cX0_flightToAsk 23 = .ok (.iload_n 1, 1) := by decide +kernel
theorem dX0_flightToAsk_24 : decode cX0_flightToAsk 24 = .ok (.iload 4, 2) := by decide +kernel
theorem dX0_flightToAsk_26 : decode cX0_flightToAsk 26 = .ok (.invokevirtual 78, 3) := by decide +kernel
theorem dX0_flightToAsk_29 : decode cX0_flightToAsk 29 = .ok (.istore 5, 2) := by decide +kernel
theorem dX0_flightToAsk_31 : decode cX0_flightToAsk 31 = .ok (.iload 5, 2) := by decide +kernel
theorem dX0_flightToAsk_33 : decode cX0_flightToAsk 33 = .ok (.iload_n 3, 1) := by decide +kernel
theorem dX0_flightToAsk_34 : decode cX0_flightToAsk 34 = .ok (.if_icmp .ge 9, 3) := by decide +kernel
theorem dX0_flightToAsk_37 : decode cX0_flightToAsk 37 = .ok (.iload 5, 2) := by decide +kernel
theorem dX0_flightToAsk_39 : decode cX0_flightToAsk 39 = .ok (.istore_n 3, 1) := by decide +kernel
theorem dX0_flightToAsk_40 : decode cX0_flightToAsk 40 = .ok (.iload 4, 2) := by decide +kernel
theorem dX0_flightToAsk_42 : decode cX0_flightToAsk 42 = .ok (.istore_n 2, 1) := by decide +kernel
theorem dX0_flightToAsk_43 : decode cX0_flightToAsk 43 = .ok (.iinc 4 1, 3) := by decide +kernel
theorem dX0_flightToAsk_46 : decode cX0_flightToAsk 46 = .ok (.goto (-36), 3) := by decide +kernel
theorem dX0_flightToAsk_49 : decode cX0_flightToAsk 49 = .ok (.iload_n 2, 1) := by decide +kernel
theorem dX0_flightToAsk_50 : decode cX0_flightToAsk 50 = .ok (.ireturn, 1) := by decide +kernel
theorem dX0_heardOf_0 : decode cX0_heardOf 0 = .ok (.iconst 0, 1) := by decide +kernel
theorem dX0_heardOf_1 : decode cX0_heardOf 1 = .ok (.istore_n 2, 1) := by decide +kernel
theorem dX0_heardOf_2 : decode cX0_heardOf 2 = .ok (.iconst 0, 1) := by decide +kernel
theorem dX0_heardOf_3 : decode cX0_heardOf 3 = .ok (.istore_n 3, 1) := by decide +kernel
theorem dX0_heardOf_4 : decode cX0_heardOf 4 = .ok (.iload_n 3, 1) := by decide +kernel
theorem dX0_heardOf_5 : decode cX0_heardOf 5 = .ok (.aload_n 0, 1) := by decide +kernel
theorem dX0_heardOf_6 : decode cX0_heardOf 6 = .ok (.invokevirtual 97, 3) := by decide +kernel
theorem dX0_heardOf_9 : decode cX0_heardOf 9 = .ok (.if_icmp .ge 35, 3) := by decide +kernel
theorem dX0_heardOf_12 : decode cX0_heardOf 12 = .ok (.aload_n 0, 1) := by decide +kernel
theorem dX0_heardOf_13 : decode cX0_heardOf 13 = .ok (.getfield 11, 3) := by decide +kernel
theorem dX0_heardOf_16 : decode cX0_heardOf 16 = .ok (.iload_n 3, 1) := by decide +kernel
theorem dX0_heardOf_17 : decode cX0_heardOf 17 = .ok (.iaload, 1) := by decide +kernel
theorem dX0_heardOf_18 : decode cX0_heardOf 18 = .ok (.iconst (-1), 1) := by decide +kernel
theorem dX0_heardOf_19 : decode cX0_heardOf 19 = .ok (.if_icmp .eq 19, 3) := by decide +kernel
theorem dX0_heardOf_22 : decode cX0_heardOf 22 = .ok (.aload_n 0, 1) := by decide +kernel
theorem dX0_heardOf_23 : decode cX0_heardOf 23 = .ok (.getfield 11, 3) := by decide +kernel
theorem dX0_heardOf_26 : decode cX0_heardOf 26 = .ok (.iload_n 3, 1) := by decide +kernel
theorem dX0_heardOf_27 : decode cX0_heardOf 27 = .ok (.iaload, 1) := by decide +kernel
theorem dX0_heardOf_28 : decode cX0_heardOf 28 = .ok (.iload_n 1, 1) := by decide +kernel
theorem dX0_heardOf_29 : decode cX0_heardOf 29 = .ok (.invokestatic 85, 3) := by decide +kernel
theorem dX0_heardOf_32 : decode cX0_heardOf 32 = .ok (.ifCond .eq 6, 3) := by decide +kernel
theorem dX0_heardOf_35 : decode cX0_heardOf 35 = .ok (.iinc 2 1, 3) := by decide +kernel
theorem dX0_heardOf_38 : decode cX0_heardOf 38 = .ok (.iinc 3 1, 3) := by decide +kernel
theorem dX0_heardOf_41 : decode cX0_heardOf 41 = .ok (.goto (-37), 3) := by decide +kernel
theorem dX0_heardOf_44 : decode cX0_heardOf 44 = .ok (.iload_n 2, 1) := by decide +kernel
theorem dX0_heardOf_45 : decode cX0_heardOf 45 = .ok (.ireturn, 1) := by decide +kernel
theorem dX0_hearersOf_0 : decode cX0_hearersOf 0 = .ok (.iconst 0, 1) := by decide +kernel
theorem dX0_hearersOf_1 : decode cX0_hearersOf 1 = .ok (.istore_n 2, 1) := by decide +kernel
theorem dX0_hearersOf_2 : decode cX0_hearersOf 2 = .ok (.iconst 0, 1) := by decide +kernel
theorem dX0_hearersOf_3 : decode cX0_hearersOf 3 = .ok (.istore_n 3, 1) := by decide +kernel
theorem dX0_hearersOf_4 : decode cX0_hearersOf 4 = .ok (.iload_n 3, 1) := by decide +kernel
theorem dX0_hearersOf_5 : decode cX0_hearersOf 5 = .ok (.aload_n 0, 1) := by decide +kernel
theorem dX0_hearersOf_6 : decode cX0_hearersOf 6 = .ok (.getfield 18, 3) := by decide +kernel
theorem dX0_hearersOf_9 : decode cX0_hearersOf 9 = .ok (.getfield 49, 3) := by decide +kernel
theorem dX0_hearersOf_12 : decode cX0_hearersOf 12 = .ok (.if_icmp .ge 28, 3) := by decide +kernel
theorem dX0_hearersOf_15 : decode cX0_hearersOf 15 = .ok (.aload_n 0, 1) := by decide +kernel
theorem dX0_hearersOf_16 : decode cX0_hearersOf 16 = .ok (.getfield 18, 3) := by decide +kernel
theorem dX0_hearersOf_19 : decode cX0_hearersOf 19 = .ok (.iload_n 3, 1) := by decide +kernel
theorem dX0_hearersOf_20 : decode cX0_hearersOf 20 = .ok (.invokevirtual 113, 3) := by decide +kernel
theorem dX0_hearersOf_23 : decode cX0_hearersOf 23 = .ok (.iload_n 1, 1) := by decide +kernel
theorem dX0_hearersOf_24 : decode cX0_hearersOf 24 = .ok (.iand, 1) := by decide +kernel
theorem dX0_hearersOf_25 : decode cX0_hearersOf 25 = .ok (.ifCond .eq 9, 3) := by decide +kernel
theorem dX0_hearersOf_28 : decode cX0_hearersOf 28 = .ok (.iload_n 2, 1) := by decide +kernel
theorem dX0_hearersOf_29 : decode cX0_hearersOf 29 = .ok (.iconst 1, 1) := by decide +kernel
theorem dX0_hearersOf_30 : decode cX0_hearersOf 30 = .ok (.iload_n 3, 1) := by decide +kernel
theorem dX0_hearersOf_31 : decode cX0_hearersOf 31 = .ok (.ishl, 1) := by decide +kernel
theorem dX0_hearersOf_32 : decode cX0_hearersOf 32 = .ok (.ior, 1) := by decide +kernel
theorem dX0_hearersOf_33 : decode cX0_hearersOf 33 = .ok (.istore_n 2, 1) := by decide +kernel
theorem dX0_hearersOf_34 : decode cX0_hearersOf 34 = .ok (.iinc 3 1, 3) := by decide +kernel
theorem dX0_hearersOf_37 : decode cX0_hearersOf 37 = .ok (.goto (-33), 3) := by decide +kernel
theorem dX0_hearersOf_40 : decode cX0_hearersOf 40 = .ok (.iload_n 2, 1) := by decide +kernel
theorem dX0_hearersOf_41 : decode cX0_hearersOf 41 = .ok (.ireturn, 1) := by decide +kernel
theorem dX0_isWithin_0 : decode cX0_isWithin 0 = .ok (.lload_n 0, 1) := by decide +kernel
theorem dX0_isWithin_1 : decode cX0_isWithin 1 = .ok (.iload_n 2, 1) := by decide +kernel
theorem dX0_isWithin_2 : decode cX0_isWithin 2 = .ok (.i2l, 1) := by decide +kernel
theorem dX0_isWithin_3 : decode cX0_isWithin 3 = .ok (.lcmp, 1) := by decide +kernel
theorem dX0_isWithin_4 : decode cX0_isWithin 4 = .ok (.ifCond .lt 14, 3) := by decide +kernel
theorem dX0_isWithin_7 : decode cX0_isWithin 7 = .ok (.lload_n 0, 1) := by decide +kernel
theorem dX0_isWithin_8 : decode cX0_isWithin 8 = .ok (.iload_n 3, 1) := by decide +kernel
theorem dX0_isWithin_9 : decode cX0_isWithin 9 = .ok (.i2l, 1) := by decide +kernel
theorem dX0_isWithin_10 : decode cX0_isWithin 10 = .ok (.lcmp, 1) := by decide +kernel
theorem dX0_isWithin_11 : decode cX0_isWithin 11 = .ok (.ifCond .gt 7, 3) := by decide +kernel
theorem dX0_isWithin_14 : decode cX0_isWithin 14 = .ok (.iconst 1, 1) := by decide +kernel
theorem dX0_isWithin_15 : decode cX0_isWithin 15 = .ok (.goto 4, 3) := by decide +kernel
theorem dX0_isWithin_18 : decode cX0_isWithin 18 = .ok (.iconst 0, 1) := by decide +kernel
theorem dX0_isWithin_19 : decode cX0_isWithin 19 = .ok (.ireturn, 1) := by decide +kernel
theorem dX0_lawsFitting_0 : decode cX0_lawsFitting 0 = .ok (.iconst 0, 1) := by decide +kernel
theorem dX0_lawsFitting_1 : decode cX0_lawsFitting 1 = .ok (.istore_n 2, 1) := by decide +kernel
theorem dX0_lawsFitting_2 : decode cX0_lawsFitting 2 = .ok (.iconst 0, 1) := by decide +kernel
theorem dX0_lawsFitting_3 : decode cX0_lawsFitting 3 = .ok (.istore_n 3, 1) := by decide +kernel
theorem dX0_lawsFitting_4 : decode cX0_lawsFitting 4 = .ok (.iload_n 3, 1) := by decide +kernel
theorem dX0_lawsFitting_5 : decode cX0_lawsFitting 5 = .ok (.iconst 4, 1) := by decide +kernel
theorem dX0_lawsFitting_6 : decode cX0_lawsFitting 6 = .ok (.if_icmp .ge 38, 3) := by decide +kernel
theorem dX0_lawsFitting_9 : decode cX0_lawsFitting 9 = .ok (.aload_n 0, 1) := by decide +kernel
theorem dX0_lawsFitting_10 : decode cX0_lawsFitting 10 = .ok (.getfield 22, 3) := by decide +kernel
theorem dX0_lawsFitting_13 : decode cX0_lawsFitting 13 = .ok (.aload_n 0, 1) := by decide +kernel
theorem dX0_lawsFitting_14 : decode cX0_lawsFitting 14 = .ok (.getfield 18, 3) := by decide +kernel
theorem dX0_lawsFitting_17 : decode cX0_lawsFitting 17 = .ok (.getfield 52, 3) := by decide +kernel
theorem dX0_lawsFitting_20 : decode cX0_lawsFitting 20 = .ok (.iload_n 3, 1) := by decide +kernel
theorem dX0_lawsFitting_21 : decode cX0_lawsFitting 21 = .ok (.invokevirtual 55, 3) := by decide +kernel
theorem dX0_lawsFitting_24 : decode cX0_lawsFitting 24 = .ok (.aload_n 0, 1) := by decide +kernel
theorem dX0_lawsFitting_25 : decode cX0_lawsFitting 25 = .ok (.aload_n 1, 1) := by decide +kernel
theorem dX0_lawsFitting_26 : decode cX0_lawsFitting 26 = .ok (.invokevirtual 61, 3) := by decide +kernel
theorem dX0_lawsFitting_29 : decode cX0_lawsFitting 29 = .ok (.ifCond .eq 9, 3) := by decide +kernel
theorem dX0_lawsFitting_32 : decode cX0_lawsFitting 32 = .ok (.iload_n 2, 1) := by decide +kernel
theorem dX0_lawsFitting_33 : decode cX0_lawsFitting 33 = .ok (.iconst 1, 1) := by decide +kernel
theorem dX0_lawsFitting_34 : decode cX0_lawsFitting 34 = .ok (.iload_n 3, 1) := by decide +kernel
theorem dX0_lawsFitting_35 : decode cX0_lawsFitting 35 = .ok (.ishl, 1) := by decide +kernel
theorem dX0_lawsFitting_36 : decode cX0_lawsFitting 36 = .ok (.ior, 1) := by decide +kernel
theorem dX0_lawsFitting_37 : decode cX0_lawsFitting 37 = .ok (.istore_n 2, 1) := by decide +kernel
theorem dX0_lawsFitting_38 : decode cX0_lawsFitting 38 = .ok (.iinc 3 1, 3) := by decide +kernel
theorem dX0_lawsFitting_41 : decode cX0_lawsFitting 41 = .ok (.goto (-37), 3) := by decide +kernel
theorem dX0_lawsFitting_44 : decode cX0_lawsFitting 44 = .ok (.iload_n 2, 1) := by decide +kernel
theorem dX0_lawsFitting_45 : decode cX0_lawsFitting 45 = .ok (.ireturn, 1) := by decide +kernel
theorem dX0_memberToAsk_0 : decode cX0_memberToAsk 0 = .ok (.iconst (-1), 1) := by decide +kernel
theorem dX0_memberToAsk_1 : decode cX0_memberToAsk 1 = .ok (.istore_n 2, 1) := by decide +kernel
theorem dX0_memberToAsk_2 : decode cX0_memberToAsk 2 = .ok (.iload_n 1, 1) := by decide +kernel
theorem dX0_memberToAsk_3 : decode cX0_memberToAsk 3 = .ok (.istore_n 3, 1) := by decide +kernel
theorem dX0_memberToAsk_4 : decode cX0_memberToAsk 4 = .ok (.iconst 0, 1) := by decide +kernel
theorem dX0_memberToAsk_5 : decode cX0_memberToAsk 5 = .ok (.istore 4, 2) := by decide +kernel
theorem dX0_memberToAsk_7 : decode cX0_memberToAsk 7 = .ok (.iload 4, 2) := by decide +kernel
theorem dX0_memberToAsk_9 : decode cX0_memberToAsk 9 = .ok (.aload_n 0, 1) := by decide +kernel
theorem dX0_memberToAsk_10 : decode cX0_memberToAsk 10 = .ok (.getfield 18, 3) := by decide +kernel
theorem dX0_memberToAsk_13 : decode cX0_memberToAsk 13 = .ok (.getfield 49, 3) := by decide +kernel
theorem dX0_memberToAsk_16 : decode cX0_memberToAsk 16 = .ok (.if_icmp .ge 30, 3) := by decide +kernel
theorem dX0_memberToAsk_19 : decode cX0_memberToAsk 19 = .ok (.aload_n 0, 1) := by decide +kernel
theorem dX0_memberToAsk_20 : decode cX0_memberToAsk 20 = .ok (.iload_n 1, 1) := by decide +kernel
theorem dX0_memberToAsk_21 : decode cX0_memberToAsk 21 = .ok (.iload 4, 2) := by decide +kernel
theorem dX0_memberToAsk_23 : decode cX0_memberToAsk 23 = .ok (.invokevirtual 119, 3) := by decide +kernel
theorem dX0_memberToAsk_26 : decode cX0_memberToAsk 26 = .ok (.istore 5, 2) := by decide +kernel
theorem dX0_memberToAsk_28 : decode cX0_memberToAsk 28 = .ok (.iload 5, 2) := by decide +kernel
theorem dX0_memberToAsk_30 : decode cX0_memberToAsk 30 = .ok (.iload_n 3, 1) := by decide +kernel
theorem dX0_memberToAsk_31 : decode cX0_memberToAsk 31 = .ok (.if_icmp .ge 9, 3) := by decide +kernel
theorem dX0_memberToAsk_34 : decode cX0_memberToAsk 34 = .ok (.iload 5, 2) := by decide +kernel
theorem dX0_memberToAsk_36 : decode cX0_memberToAsk 36 = .ok (.istore_n 3, 1) := by decide +kernel
theorem dX0_memberToAsk_37 : decode cX0_memberToAsk 37 = .ok (.iload 4, 2) := by decide +kernel
theorem dX0_memberToAsk_39 : decode cX0_memberToAsk 39 = .ok (.istore_n 2, 1) := by decide +kernel
theorem dX0_memberToAsk_40 : decode cX0_memberToAsk 40 = .ok (.iinc 4 1, 3) := by decide +kernel
theorem dX0_memberToAsk_43 : decode cX0_memberToAsk 43 = .ok (.goto (-36), 3) := by decide +kernel
theorem dX0_memberToAsk_46 : decode cX0_memberToAsk 46 = .ok (.iload_n 2, 1) := by decide +kernel
theorem dX0_memberToAsk_47 : decode cX0_memberToAsk 47 = .ok (.ireturn, 1) := by decide +kernel
theorem dX0_pairs_0 : decode cX0_pairs 0 = .ok (.aload_n 0, 1) := by decide +kernel
theorem dX0_pairs_1 : decode cX0_pairs 1 = .ok (.getfield 18, 3) := by decide +kernel
theorem dX0_pairs_4 : decode cX0_pairs 4 = .ok (.invokevirtual 45, 3) := by decide +kernel
theorem dX0_pairs_7 : decode cX0_pairs 7 = .ok (.iconst 4, 1) := by decide +kernel
theorem dX0_pairs_8 : decode cX0_pairs 8 = .ok (.imul, 1) := by decide +kernel
theorem dX0_pairs_9 : decode cX0_pairs 9 = .ok (.ireturn, 1) := by decide +kernel
theorem dX0_sift_0 : decode cX0_sift 0 = .ok (.aload_n 0, 1) := by decide +kernel
theorem dX0_sift_1 : decode cX0_sift 1 = .ok (.getfield 22, 3) := by decide +kernel
theorem dX0_sift_4 : decode cX0_sift 4 = .ok (.aload_n 0, 1) := by decide +kernel
theorem dX0_sift_5 : decode cX0_sift 5 = .ok (.getfield 18, 3) := by decide +kernel
theorem dX0_sift_8 : decode cX0_sift 8 = .ok (.getfield 52, 3) := by decide +kernel
theorem dX0_sift_11 : decode cX0_sift 11 = .ok (.aload_n 0, 1) := by decide +kernel
theorem dX0_sift_12 : decode cX0_sift 12 = .ok (.getfield 18, 3) := by decide +kernel
theorem dX0_sift_15 : decode cX0_sift 15 = .ok (.getfield 94, 3) := by decide +kernel
theorem dX0_sift_18 : decode cX0_sift 18 = .ok (.invokevirtual 55, 3) := by decide +kernel
theorem dX0_sift_21 : decode cX0_sift 21 = .ok (.iconst 0, 1) := by decide +kernel
theorem dX0_sift_22 : decode cX0_sift 22 = .ok (.istore_n 2, 1) := by decide +kernel
theorem dX0_sift_23 : decode cX0_sift 23 = .ok (.iconst 0, 1) := by decide +kernel
theorem dX0_sift_24 : decode cX0_sift 24 = .ok (.istore_n 3, 1) := by decide +kernel
theorem dX0_sift_25 : decode cX0_sift 25 = .ok (.iload_n 3, 1) := by decide +kernel
theorem dX0_sift_26 : decode cX0_sift 26 = .ok (.aload_n 0, 1) := by decide +kernel
theorem dX0_sift_27 : decode cX0_sift 27 = .ok (.invokevirtual 97, 3) := by decide +kernel
theorem dX0_sift_30 : decode cX0_sift 30 = .ok (.if_icmp .ge 75, 3) := by decide +kernel
theorem dX0_sift_33 : decode cX0_sift 33 = .ok (.aload_n 0, 1) := by decide +kernel
theorem dX0_sift_34 : decode cX0_sift 34 = .ok (.getfield 22, 3) := by decide +kernel
theorem dX0_sift_37 : decode cX0_sift 37 = .ok (.iload_n 3, 1) := by decide +kernel
theorem dX0_sift_38 : decode cX0_sift 38 = .ok (.iconst 4, 1) := by decide +kernel
theorem dX0_sift_39 : decode cX0_sift 39 = .ok (.idiv, 1) := by decide +kernel
theorem dX0_sift_40 : decode cX0_sift 40 = .ok (.iload_n 3, 1) := by decide +kernel
theorem dX0_sift_41 : decode cX0_sift 41 = .ok (.iconst 4, 1) := by decide +kernel
theorem dX0_sift_42 : decode cX0_sift 42 = .ok (.irem, 1) := by decide +kernel
theorem dX0_sift_43 : decode cX0_sift 43 = .ok (.invokevirtual 100, 3) := by decide +kernel
theorem dX0_sift_46 : decode cX0_sift 46 = .ok (.aload_n 0, 1) := by decide +kernel
theorem dX0_sift_47 : decode cX0_sift 47 = .ok (.aload_n 0, 1) := by decide +kernel
theorem dX0_sift_48 : decode cX0_sift 48 = .ok (.getfield 22, 3) := by decide +kernel
theorem dX0_sift_51 : decode cX0_sift 51 = .ok (.invokevirtual 103, 3) := by decide +kernel
theorem dX0_sift_54 : decode cX0_sift 54 = .ok (.invokevirtual 106, 3) := by decide +kernel
theorem dX0_sift_57 : decode cX0_sift 57 = .ok (.istore 4, 2) := by decide +kernel
theorem dX0_sift_59 : decode cX0_sift 59 = .ok (.aload_n 0, 1) := by decide +kernel
theorem dX0_sift_60 : decode cX0_sift 60 = .ok (.getfield 11, 3) := by decide +kernel
theorem dX0_sift_63 : decode cX0_sift 63 = .ok (.iload_n 3, 1) := by decide +kernel
theorem dX0_sift_64 : decode cX0_sift 64 = .ok (.aload_n 0, 1) := by decide +kernel
theorem dX0_sift_65 : decode cX0_sift 65 = .ok (.aload_n 1, 1) := by decide +kernel
theorem dX0_sift_66 : decode cX0_sift 66 = .ok (.iload 4, 2) := by decide +kernel
theorem dX0_sift_68 : decode cX0_sift 68 = .ok (.invokevirtual 109, 3) := by decide +kernel
theorem dX0_sift_71 : decode cX0_sift 71 = .ok (.ifCond .eq 8, 3) := by decide +kernel
theorem dX0_sift_74 : decode cX0_sift 74 = .ok (.iload 4, 2) := by decide +kernel
theorem dX0_sift_76 : decode cX0_sift 76 = .ok (.goto 4, 3) := by decide +kernel
theorem dX0_sift_79 : decode cX0_sift 79 = .ok (.iconst (-1), 1) := by decide +kernel
theorem dX0_sift_80 : decode cX0_sift 80 = .ok (.iastore, 1) := by decide +kernel
theorem dX0_sift_81 : decode cX0_sift 81 = .ok (.iload_n 2, 1) := by decide +kernel
theorem dX0_sift_82 : decode cX0_sift 82 = .ok (.aload_n 0, 1) := by decide +kernel
theorem dX0_sift_83 : decode cX0_sift 83 = .ok (.getfield 11, 3) := by decide +kernel
theorem dX0_sift_86 : decode cX0_sift 86 = .ok (.iload_n 3, 1) := by decide +kernel
theorem dX0_sift_87 : decode cX0_sift 87 = .ok (.iaload, 1) := by decide +kernel
theorem dX0_sift_88 : decode cX0_sift 88 = .ok (.iconst (-1), 1) := by decide +kernel
theorem dX0_sift_89 : decode cX0_sift 89 = .ok (.if_icmp .ne 7, 3) := by decide +kernel
theorem dX0_sift_92 : decode cX0_sift 92 = .ok (.iconst 0, 1) := by decide +kernel
theorem dX0_sift_93 : decode cX0_sift 93 = .ok (.goto 4, 3) := by decide +kernel
theorem dX0_sift_96 : decode cX0_sift 96 = .ok (.iconst 1, 1) := by decide +kernel
theorem dX0_sift_97 : decode cX0_sift 97 = .ok (.iadd, 1) := by decide +kernel
theorem dX0_sift_98 : decode cX0_sift 98 = .ok (.istore_n 2, 1) := by decide +kernel
theorem dX0_sift_99 : decode cX0_sift 99 = .ok (.iinc 3 1, 3) := by decide +kernel
theorem dX0_sift_102 : decode cX0_sift 102 = .ok (.goto (-77), 3) := by decide +kernel
theorem dX0_sift_105 : decode cX0_sift 105 = .ok (.iload_n 2, 1) := by decide +kernel
theorem dX0_sift_106 : decode cX0_sift 106 = .ok (.ireturn, 1) := by decide +kernel
theorem dX0_worstLaws_0 : decode cX0_worstLaws 0 = .ok (.iconst 0, 1) := by decide +kernel
theorem dX0_worstLaws_1 : decode cX0_worstLaws 1 = .ok (.istore_n 3, 1) := by decide +kernel
theorem dX0_worstLaws_2 : decode cX0_worstLaws 2 = .ok (.iload_n 3, 1) := by decide +kernel
theorem dX0_worstLaws_3 : decode cX0_worstLaws 3 = .ok (.iconst 4, 1) := by decide +kernel
theorem dX0_worstLaws_4 : decode cX0_worstLaws 4 = .ok (.if_icmp .ge 45, 3) := by decide +kernel
theorem dX0_worstLaws_7 : decode cX0_worstLaws 7 = .ok (.aload_n 0, 1) := by decide +kernel
theorem dX0_worstLaws_8 : decode cX0_worstLaws 8 = .ok (.getfield 22, 3) := by decide +kernel
theorem dX0_worstLaws_11 : decode cX0_worstLaws 11 = .ok (.aload_n 0, 1) := by decide +kernel
theorem dX0_worstLaws_12 : decode cX0_worstLaws 12 = .ok (.getfield 18, 3) := by decide +kernel
theorem dX0_worstLaws_15 : decode cX0_worstLaws 15 = .ok (.getfield 52, 3) := by decide +kernel
theorem dX0_worstLaws_18 : decode cX0_worstLaws 18 = .ok (.iload_n 3, 1) := by decide +kernel
theorem dX0_worstLaws_19 : decode cX0_worstLaws 19 = .ok (.invokevirtual 55, 3) := by decide +kernel
theorem dX0_worstLaws_22 : decode cX0_worstLaws 22 = .ok (.aload_n 0, 1) := by decide +kernel
theorem dX0_worstLaws_23 : decode cX0_worstLaws 23 = .ok (.getfield 22, 3) := by decide +kernel
theorem dX0_worstLaws_26 : decode cX0_worstLaws 26 = .ok (.iload_n 2, 1) := by decide +kernel
theorem dX0_worstLaws_27 : decode cX0_worstLaws 27 = .ok (.invokevirtual 65, 3) := by decide +kernel
theorem dX0_worstLaws_30 : decode cX0_worstLaws 30 = .ok (.aload_n 0, 1) := by decide +kernel
theorem dX0_worstLaws_31 : decode cX0_worstLaws 31 = .ok (.getfield 15, 3) := by decide +kernel
theorem dX0_worstLaws_34 : decode cX0_worstLaws 34 = .ok (.iload_n 3, 1) := by decide +kernel
theorem dX0_worstLaws_35 : decode cX0_worstLaws 35 = .ok (.aload_n 0, 1) := by decide +kernel
theorem dX0_worstLaws_36 : decode cX0_worstLaws 36 = .ok (.getfield 22, 3) := by decide +kernel
theorem dX0_worstLaws_39 : decode cX0_worstLaws 39 = .ok (.invokevirtual 82, 3) := by decide +kernel
theorem dX0_worstLaws_42 : decode cX0_worstLaws 42 = .ok (.iastore, 1) := by decide +kernel
theorem dX0_worstLaws_43 : decode cX0_worstLaws 43 = .ok (.iinc 3 1, 3) := by decide +kernel
theorem dX0_worstLaws_46 : decode cX0_worstLaws 46 = .ok (.goto (-44), 3) := by decide +kernel
theorem dX0_worstLaws_49 : decode cX0_worstLaws 49 = .ok (.iconst 0, 1) := by decide +kernel
theorem dX0_worstLaws_50 : decode cX0_worstLaws 50 = .ok (.istore_n 3, 1) := by decide +kernel
theorem dX0_worstLaws_51 : decode cX0_worstLaws 51 = .ok (.iconst 0, 1) := by decide +kernel
theorem dX0_worstLaws_52 : decode cX0_worstLaws 52 = .ok (.istore 4, 2) := by decide +kernel
theorem dX0_worstLaws_54 : decode cX0_worstLaws 54 = .ok (.iload 4, 2) := by decide +kernel
theorem dX0_worstLaws_56 : decode cX0_worstLaws 56 = .ok (.iconst 4, 1) := by decide +kernel
theorem dX0_worstLaws_57 : decode cX0_worstLaws 57 = .ok (.if_icmp .ge 72, 3) := by decide +kernel
theorem dX0_worstLaws_60 : decode cX0_worstLaws 60 = .ok (.iconst 0, 1) := by decide +kernel
theorem dX0_worstLaws_61 : decode cX0_worstLaws 61 = .ok (.istore 5, 2) := by decide +kernel
theorem dX0_worstLaws_63 : decode cX0_worstLaws 63 = .ok (.iconst 0, 1) := by decide +kernel
theorem dX0_worstLaws_64 : decode cX0_worstLaws 64 = .ok (.istore 6, 2) := by decide +kernel
theorem dX0_worstLaws_66 : decode cX0_worstLaws 66 = .ok (.iload 6, 2) := by decide +kernel
theorem dX0_worstLaws_68 : decode cX0_worstLaws 68 = .ok (.iconst 4, 1) := by decide +kernel
theorem dX0_worstLaws_69 : decode cX0_worstLaws 69 = .ok (.if_icmp .ge 47, 3) := by decide +kernel
theorem dX0_worstLaws_72 : decode cX0_worstLaws 72 = .ok (.iload_n 1, 1) := by decide +kernel
theorem dX0_worstLaws_73 : decode cX0_worstLaws 73 = .ok (.iload 4, 2) := by decide +kernel
theorem dX0_worstLaws_75 : decode cX0_worstLaws 75 = .ok (.invokestatic 85, 3) := by decide +kernel
theorem dX0_worstLaws_78 : decode cX0_worstLaws 78 = .ok (.ifCond .eq 32, 3) := by decide +kernel
theorem dX0_worstLaws_81 : decode cX0_worstLaws 81 = .ok (.iload_n 1, 1) := by decide +kernel
theorem dX0_worstLaws_82 : decode cX0_worstLaws 82 = .ok (.iload 6, 2) := by decide +kernel
theorem dX0_worstLaws_84 : decode cX0_worstLaws 84 = .ok (.invokestatic 85, 3) := by decide +kernel
theorem dX0_worstLaws_87 : decode cX0_worstLaws 87 = .ok (.ifCond .eq 23, 3) := by decide +kernel
theorem dX0_worstLaws_90 : decode cX0_worstLaws 90 = .ok (.aload_n 0, 1) := by decide +kernel
theorem dX0_worstLaws_91 : decode cX0_worstLaws 91 = .ok (.getfield 15, 3) := by decide +kernel
theorem dX0_worstLaws_94 : decode cX0_worstLaws 94 = .ok (.iload 4, 2) := by decide +kernel
theorem dX0_worstLaws_96 : decode cX0_worstLaws 96 = .ok (.iaload, 1) := by decide +kernel
theorem dX0_worstLaws_97 : decode cX0_worstLaws 97 = .ok (.aload_n 0, 1) := by decide +kernel
theorem dX0_worstLaws_98 : decode cX0_worstLaws 98 = .ok (.getfield 15, 3) := by decide +kernel
theorem dX0_worstLaws_101 : decode cX0_worstLaws 101 = .ok (.iload 6, 2) := by decide +kernel
theorem dX0_worstLaws_103 : decode cX0_worstLaws 103 = .ok (.iaload, 1) := by decide +kernel
theorem dX0_worstLaws_104 : decode cX0_worstLaws 104 = .ok (.if_icmp .ne 6, 3) := by decide +kernel
theorem dX0_worstLaws_107 : decode cX0_worstLaws 107 = .ok (.iinc 5 1, 3) := by decide +kernel
theorem dX0_worstLaws_110 : decode cX0_worstLaws 110 = .ok (.iinc 6 1, 3) := by decide +kernel
theorem dX0_worstLaws_113 : decode cX0_worstLaws 113 = .ok (.goto (-47), 3) := by decide +kernel
theorem dX0_worstLaws_116 : decode cX0_worstLaws 116 = .ok (.iload_n 3, 1) := by decide +kernel
theorem dX0_worstLaws_117 : decode cX0_worstLaws 117 = .ok (.iload 5, 2) := by decide +kernel
theorem dX0_worstLaws_119 : decode cX0_worstLaws 119 = .ok (.invokestatic 89, 3) := by decide +kernel
theorem dX0_worstLaws_122 : decode cX0_worstLaws 122 = .ok (.istore_n 3, 1) := by decide +kernel
theorem dX0_worstLaws_123 : decode cX0_worstLaws 123 = .ok (.iinc 4 1, 3) := by decide +kernel
theorem dX0_worstLaws_126 : decode cX0_worstLaws 126 = .ok (.goto (-72), 3) := by decide +kernel
theorem dX0_worstLaws_129 : decode cX0_worstLaws 129 = .ok (.iload_n 3, 1) := by decide +kernel
theorem dX0_worstLaws_130 : decode cX0_worstLaws 130 = .ok (.ireturn, 1) := by decide +kernel
theorem dX0_worstLeft_0 : decode cX0_worstLeft 0 = .ok (.aload_n 0, 1) := by decide +kernel
theorem dX0_worstLeft_1 : decode cX0_worstLeft 1 = .ok (.iload_n 2, 1) := by decide +kernel
theorem dX0_worstLeft_2 : decode cX0_worstLeft 2 = .ok (.invokevirtual 116, 3) := by decide +kernel
theorem dX0_worstLeft_5 : decode cX0_worstLeft 5 = .ok (.istore_n 3, 1) := by decide +kernel
theorem dX0_worstLeft_6 : decode cX0_worstLeft 6 = .ok (.iload_n 3, 1) := by decide +kernel
theorem dX0_worstLeft_7 : decode cX0_worstLeft 7 = .ok (.iload_n 1, 1) := by decide +kernel
theorem dX0_worstLeft_8 : decode cX0_worstLeft 8 = .ok (.iload_n 3, 1) := by decide +kernel
theorem dX0_worstLeft_9 : decode cX0_worstLeft 9 = .ok (.isub, 1) := by decide +kernel
theorem dX0_worstLeft_10 : decode cX0_worstLeft 10 = .ok (.invokestatic 89, 3) := by decide +kernel
theorem dX0_worstLeft_13 : decode cX0_worstLeft 13 = .ok (.ireturn, 1) := by decide +kernel
theorem dX4_borneBy_0 : decode cX4_borneBy 0 = .ok (.iconst 0, 1) := by decide +kernel
theorem dX4_borneBy_1 : decode cX4_borneBy 1 = .ok (.istore_n 2, 1) := by decide +kernel
theorem dX4_borneBy_2 : decode cX4_borneBy 2 = .ok (.iconst 0, 1) := by decide +kernel
theorem dX4_borneBy_3 : decode cX4_borneBy 3 = .ok (.istore_n 3, 1) := by decide +kernel
theorem dX4_borneBy_4 : decode cX4_borneBy 4 = .ok (.iload_n 3, 1) := by decide +kernel
theorem dX4_borneBy_5 : decode cX4_borneBy 5 = .ok (.aload_n 0, 1) := by decide +kernel
theorem dX4_borneBy_6 : decode cX4_borneBy 6 = .ok (.getfield 18, 3) := by decide +kernel
theorem dX4_borneBy_9 : decode cX4_borneBy 9 = .ok (.invokevirtual 96, 3) := by decide +kernel
theorem dX4_borneBy_12 : decode cX4_borneBy 12 = .ok (.if_icmp .gt 69, 3) := by decide +kernel
theorem dX4_borneBy_15 : decode cX4_borneBy 15 = .ok (.iload_n 3, 1) := by decide +kernel
theorem dX4_borneBy_16 : decode cX4_borneBy 16 = .ok (.iload_n 1, 1) := by decide +kernel
theorem dX4_borneBy_17 : decode cX4_borneBy 17 = .ok (.invokestatic 99, 3) := by decide +kernel
theorem dX4_borneBy_20 : decode cX4_borneBy 20 = .ok (.ifCond .ne 55, 3) := by decide +kernel
theorem dX4_borneBy_23 : decode cX4_borneBy 23 = .ok (.iload_n 3, 1) := by decide +kernel
theorem dX4_borneBy_24 : decode cX4_borneBy 24 = .ok (.invokestatic 79, 3) := by decide +kernel
theorem dX4_borneBy_27 : decode cX4_borneBy 27 = .ok (.istore 4, 2) := by decide +kernel
theorem dX4_borneBy_29 : decode cX4_borneBy 29 = .ok (.aload_n 0, 1) := by decide +kernel
theorem dX4_borneBy_30 : decode cX4_borneBy 30 = .ok (.iload_n 3, 1) := by decide +kernel
theorem dX4_borneBy_31 : decode cX4_borneBy 31 = .ok (.iconst 1, 1) := by decide +kernel
theorem dX4_borneBy_32 : decode cX4_borneBy 32 = .ok (.iload_n 1, 1) := by decide +kernel
theorem dX4_borneBy_33 : decode cX4_borneBy 33 = .ok (.ishl, 1) := by decide +kernel
theorem dX4_borneBy_34 : decode cX4_borneBy 34 = .ok (.ior, 1) := by decide +kernel
theorem dX4_borneBy_35 : decode cX4_borneBy 35 = .ok (.invokevirtual 102, 3) := by decide +kernel
theorem dX4_borneBy_38 : decode cX4_borneBy 38 = .ok (.aload_n 0, 1) := by decide +kernel
theorem dX4_borneBy_39 : decode cX4_borneBy 39 = .ok (.iload_n 3, 1) := by decide +kernel
theorem dX4_borneBy_40 : decode cX4_borneBy 40 = .ok (.invokevirtual 102, 3) := by decide +kernel
theorem dX4_borneBy_43 : decode cX4_borneBy 43 = .ok (.isub, 1) := by decide +kernel
theorem dX4_borneBy_44 : decode cX4_borneBy 44 = .ok (.istore 5, 2) := by decide +kernel
theorem dX4_borneBy_46 : decode cX4_borneBy 46 = .ok (.iload_n 2, 1) := by decide +kernel
theorem dX4_borneBy_47 : decode cX4_borneBy 47 = .ok (.iload 5, 2) := by decide +kernel
theorem dX4_borneBy_49 : decode cX4_borneBy 49 = .ok (.getstatic 90, 3) := by decide +kernel
theorem dX4_borneBy_52 : decode cX4_borneBy 52 = .ok (.iload 4, 2) := by decide +kernel
theorem dX4_borneBy_54 : decode cX4_borneBy 54 = .ok (.iaload, 1) := by decide +kernel
theorem dX4_borneBy_55 : decode cX4_borneBy 55 = .ok (.imul, 1) := by decide +kernel
theorem dX4_borneBy_56 : decode cX4_borneBy 56 = .ok (.getstatic 90, 3) := by decide +kernel
theorem dX4_borneBy_59 : decode cX4_borneBy 59 = .ok (.aload_n 0, 1) := by decide +kernel
theorem dX4_borneBy_60 : decode cX4_borneBy 60 = .ok (.getfield 18, 3) := by decide +kernel
theorem dX4_borneBy_63 : decode cX4_borneBy 63 = .ok (.getfield 93, 3) := by decide +kernel
theorem dX4_borneBy_66 : decode cX4_borneBy 66 = .ok (.iconst 1, 1) := by decide +kernel
theorem dX4_borneBy_67 : decode cX4_borneBy 67 = .ok (.isub, 1) := by decide +kernel
theorem dX4_borneBy_68 : decode cX4_borneBy 68 = .ok (.iload 4, 2) := by decide +kernel
theorem dX4_borneBy_70 : decode cX4_borneBy 70 = .ok (.isub, 1) := by decide +kernel
theorem dX4_borneBy_71 : decode cX4_borneBy 71 = .ok (.iaload, 1) := by decide +kernel
theorem dX4_borneBy_72 : decode cX4_borneBy 72 = .ok (.imul, 1) := by decide +kernel
theorem dX4_borneBy_73 : decode cX4_borneBy 73 = .ok (.iadd, 1) := by decide +kernel
theorem dX4_borneBy_74 : decode cX4_borneBy 74 = .ok (.istore_n 2, 1) := by decide +kernel
theorem dX4_borneBy_75 : decode cX4_borneBy 75 = .ok (.iinc 3 1, 3) := by decide +kernel
theorem dX4_borneBy_78 : decode cX4_borneBy 78 = .ok (.goto (-74), 3) := by decide +kernel
theorem dX4_borneBy_81 : decode cX4_borneBy 81 = .ok (.iload_n 2, 1) := by decide +kernel
theorem dX4_borneBy_82 : decode cX4_borneBy 82 = .ok (.ireturn, 1) := by decide +kernel
theorem dX4_cheapest_0 : decode cX4_cheapest 0 = .ok (.iconst (-1), 1) := by decide +kernel
theorem dX4_cheapest_1 : decode cX4_cheapest 1 = .ok (.istore_n 2, 1) := by decide +kernel
theorem dX4_cheapest_2 : decode cX4_cheapest 2 = .ok (.iconst 0, 1) := by decide +kernel
theorem dX4_cheapest_3 : decode cX4_cheapest 3 = .ok (.istore_n 3, 1) := by decide +kernel
theorem dX4_cheapest_4 : decode cX4_cheapest 4 = .ok (.iload_n 3, 1) := by decide +kernel
theorem dX4_cheapest_5 : decode cX4_cheapest 5 = .ok (.bipush 64, 2) := by decide +kernel
theorem dX4_cheapest_7 : decode cX4_cheapest 7 = .ok (.if_icmp .ge 55, 3) := by decide +kernel
theorem dX4_cheapest_10 : decode cX4_cheapest 10 = .ok (.aload_n 0, 1) := by decide +kernel
theorem dX4_cheapest_11 : decode cX4_cheapest 11 = .ok (.getfield 11, 3) := by decide +kernel
theorem dX4_cheapest_14 : decode cX4_cheapest 14 = .ok (.iload_n 3, 1) := by decide +kernel
theorem dX4_cheapest_15 : decode cX4_cheapest 15 = .ok (.iaload, 1) := by decide +kernel
theorem dX4_cheapest_16 : decode cX4_cheapest 16 = .ok (.bipush 99, 2) := by decide +kernel
theorem dX4_cheapest_18 : decode cX4_cheapest 18 = .ok (.if_icmp .eq 14, 3) := by decide +kernel
theorem dX4_cheapest_21 : decode cX4_cheapest 21 = .ok (.iload_n 3, 1) := by decide +kernel
theorem dX4_cheapest_22 : decode cX4_cheapest 22 = .ok (.iload_n 1, 1) := by decide +kernel
theorem dX4_cheapest_23 : decode cX4_cheapest 23 = .ok (.iand, 1) := by decide +kernel
theorem dX4_cheapest_24 : decode cX4_cheapest 24 = .ok (.iload_n 1, 1) := by decide +kernel
theorem dX4_cheapest_25 : decode cX4_cheapest 25 = .ok (.if_icmp .ne 7, 3) := by decide +kernel
theorem dX4_cheapest_28 : decode cX4_cheapest 28 = .ok (.iconst 1, 1) := by decide +kernel
theorem dX4_cheapest_29 : decode cX4_cheapest 29 = .ok (.goto 4, 3) := by decide +kernel
theorem dX4_cheapest_32 : decode cX4_cheapest 32 = .ok (.iconst 0, 1) := by decide +kernel
theorem dX4_cheapest_33 : decode cX4_cheapest 33 = .ok (.istore 4, 2) := by decide +kernel
theorem dX4_cheapest_35 : decode cX4_cheapest 35 = .ok (.iload 4, 2) := by decide +kernel
theorem dX4_cheapest_37 : decode cX4_cheapest 37 = .ok (.ifCond .eq 19, 3) := by decide +kernel
theorem dX4_cheapest_40 : decode cX4_cheapest 40 = .ok (.iload_n 2, 1) := by decide +kernel
theorem dX4_cheapest_41 : decode cX4_cheapest 41 = .ok (.iconst (-1), 1) := by decide +kernel
theorem dX4_cheapest_42 : decode cX4_cheapest 42 = .ok (.if_icmp .eq 12, 3) := by decide +kernel
theorem dX4_cheapest_45 : decode cX4_cheapest 45 = .ok (.aload_n 0, 1) := by decide +kernel
theorem dX4_cheapest_46 : decode cX4_cheapest 46 = .ok (.iload_n 3, 1) := by decide +kernel
theorem dX4_cheapest_47 : decode cX4_cheapest 47 = .ok (.iload_n 2, 1) := by decide +kernel
theorem dX4_cheapest_48 : decode cX4_cheapest 48 = .ok (.invokevirtual 62, 3) := by decide +kernel
theorem dX4_cheapest_51 : decode cX4_cheapest 51 = .ok (.ifCond .eq 5, 3) := by decide +kernel
theorem dX4_cheapest_54 : decode cX4_cheapest 54 = .ok (.iload_n 3, 1) := by decide +kernel
theorem dX4_cheapest_55 : decode cX4_cheapest 55 = .ok (.istore_n 2, 1) := by decide +kernel
theorem dX4_cheapest_56 : decode cX4_cheapest 56 = .ok (.iinc 3 1, 3) := by decide +kernel
theorem dX4_cheapest_59 : decode cX4_cheapest 59 = .ok (.goto (-55), 3) := by decide +kernel
theorem dX4_cheapest_62 : decode cX4_cheapest 62 = .ok (.iload_n 2, 1) := by decide +kernel
theorem dX4_cheapest_63 : decode cX4_cheapest 63 = .ok (.ireturn, 1) := by decide +kernel
theorem dX4_costOf_0 : decode cX4_costOf 0 = .ok (.aload_n 0, 1) := by decide +kernel
theorem dX4_costOf_1 : decode cX4_costOf 1 = .ok (.iload_n 1, 1) := by decide +kernel
theorem dX4_costOf_2 : decode cX4_costOf 2 = .ok (.aload_n 0, 1) := by decide +kernel
theorem dX4_costOf_3 : decode cX4_costOf 3 = .ok (.getfield 18, 3) := by decide +kernel
theorem dX4_costOf_6 : decode cX4_costOf 6 = .ok (.invokevirtual 84, 3) := by decide +kernel
theorem dX4_costOf_9 : decode cX4_costOf 9 = .ok (.iand, 1) := by decide +kernel
theorem dX4_costOf_10 : decode cX4_costOf 10 = .ok (.invokevirtual 87, 3) := by decide +kernel
theorem dX4_costOf_13 : decode cX4_costOf 13 = .ok (.istore_n 2, 1) := by decide +kernel
theorem dX4_costOf_14 : decode cX4_costOf 14 = .ok (.iload_n 2, 1) := by decide +kernel
theorem dX4_costOf_15 : decode cX4_costOf 15 = .ok (.iconst (-1), 1) := by decide +kernel
theorem dX4_costOf_16 : decode cX4_costOf 16 = .ok (.if_icmp .ne 7, 3) := by decide +kernel
theorem dX4_costOf_19 : decode cX4_costOf 19 = .ok (.iconst (-1), 1) := by decide +kernel
theorem dX4_costOf_20 : decode cX4_costOf 20 = .ok (.goto 9, 3) := by decide +kernel
theorem dX4_costOf_23 : decode cX4_costOf 23 = .ok (.aload_n 0, 1) := by decide +kernel
theorem dX4_costOf_24 : decode cX4_costOf 24 = .ok (.getfield 11, 3) := by decide +kernel
theorem dX4_costOf_27 : decode cX4_costOf 27 = .ok (.iload_n 2, 1) := by decide +kernel
theorem dX4_costOf_28 : decode cX4_costOf 28 = .ok (.iaload, 1) := by decide +kernel
theorem dX4_costOf_29 : decode cX4_costOf 29 = .ok (.ireturn, 1) := by decide +kernel
theorem dX4_forget_0 : decode cX4_forget 0 = .ok (.aload_n 0, 1) := by decide +kernel
theorem dX4_forget_1 : decode cX4_forget 1 = .ok (.iconst 0, 1) := by decide +kernel
theorem dX4_forget_2 : decode cX4_forget 2 = .ok (.putfield 26, 3) := by decide +kernel
theorem dX4_forget_5 : decode cX4_forget 5 = .ok (.return_, 1) := by decide +kernel
theorem dX4_isCheaper_0 : decode cX4_isCheaper 0 = .ok (.aload_n 0, 1) := by decide +kernel
theorem dX4_isCheaper_1 : decode cX4_isCheaper 1 = .ok (.getfield 11, 3) := by decide +kernel
theorem dX4_isCheaper_4 : decode cX4_isCheaper 4 = .ok (.iload_n 1, 1) := by decide +kernel
theorem dX4_isCheaper_5 : decode cX4_isCheaper 5 = .ok (.iaload, 1) := by decide +kernel
theorem dX4_isCheaper_6 : decode cX4_isCheaper 6 = .ok (.aload_n 0, 1) := by decide +kernel
theorem dX4_isCheaper_7 : decode cX4_isCheaper 7 = .ok (.getfield 11, 3) := by decide +kernel
theorem dX4_isCheaper_10 : decode cX4_isCheaper 10 = .ok (.iload_n 2, 1) := by decide +kernel
theorem dX4_isCheaper_11 : decode cX4_isCheaper 11 = .ok (.iaload, 1) := by decide +kernel
theorem dX4_isCheaper_12 : decode cX4_isCheaper 12 = .ok (.if_icmp .lt 33, 3) := by decide +kernel
theorem dX4_isCheaper_15 : decode cX4_isCheaper 15 = .ok (.aload_n 0, 1) := by decide +kernel
theorem dX4_isCheaper_16 : decode cX4_isCheaper 16 = .ok (.getfield 11, 3) := by decide +kernel
theorem dX4_isCheaper_19 : decode cX4_isCheaper 19 = .ok (.iload_n 1, 1) := by decide +kernel
theorem dX4_isCheaper_20 : decode cX4_isCheaper 20 = .ok (.iaload, 1) := by decide +kernel
theorem dX4_isCheaper_21 : decode cX4_isCheaper 21 = .ok (.aload_n 0, 1) := by decide +kernel
theorem dX4_isCheaper_22 : decode cX4_isCheaper 22 = .ok (.getfield 11, 3) := by decide +kernel
theorem dX4_isCheaper_25 : decode cX4_isCheaper 25 = .ok (.iload_n 2, 1) := by decide +kernel
theorem dX4_isCheaper_26 : decode cX4_isCheaper 26 = .ok (.iaload, 1) := by decide +kernel
theorem dX4_isCheaper_27 : decode cX4_isCheaper 27 = .ok (.if_icmp .ne 22, 3) := by decide +kernel
theorem dX4_isCheaper_30 : decode cX4_isCheaper 30 = .ok (.aload_n 0, 1) := by decide +kernel
theorem dX4_isCheaper_31 : decode cX4_isCheaper 31 = .ok (.getfield 15, 3) := by decide +kernel
theorem dX4_isCheaper_34 : decode cX4_isCheaper 34 = .ok (.iload_n 1, 1) := by decide +kernel
theorem dX4_isCheaper_35 : decode cX4_isCheaper 35 = .ok (.iaload, 1) := by decide +kernel
theorem dX4_isCheaper_36 : decode cX4_isCheaper 36 = .ok (.aload_n 0, 1) := by decide +kernel
theorem dX4_isCheaper_37 : decode cX4_isCheaper 37 = .ok (.getfield 15, 3) := by decide +kernel
theorem dX4_isCheaper_40 : decode cX4_isCheaper 40 = .ok (.iload_n 2, 1) := by decide +kernel
theorem dX4_isCheaper_41 : decode cX4_isCheaper 41 = .ok (.iaload, 1) := by decide +kernel
theorem dX4_isCheaper_42 : decode cX4_isCheaper 42 = .ok (.if_icmp .ge 7, 3) := by decide +kernel
theorem dX4_isCheaper_45 : decode cX4_isCheaper 45 = .ok (.iconst 1, 1) := by decide +kernel
theorem dX4_isCheaper_46 : decode cX4_isCheaper 46 = .ok (.goto 4, 3) := by decide +kernel
theorem dX4_isCheaper_49 : decode cX4_isCheaper 49 = .ok (.iconst 0, 1) := by decide +kernel
theorem dX4_isCheaper_50 : decode cX4_isCheaper 50 = .ok (.ireturn, 1) := by decide +kernel
theorem dX4_isRicher_0 : decode cX4_isRicher 0 = .ok (.aload_n 0, 1) := by decide +kernel
theorem dX4_isRicher_1 : decode cX4_isRicher 1 = .ok (.getfield 18, 3) := by decide +kernel
theorem dX4_isRicher_4 : decode cX4_isRicher 4 = .ok (.iload_n 1, 1) := by decide +kernel
theorem dX4_isRicher_5 : decode cX4_isRicher 5 = .ok (.invokevirtual 75, 3) := by decide +kernel
theorem dX4_isRicher_8 : decode cX4_isRicher 8 = .ok (.aload_n 0, 1) := by decide +kernel
theorem dX4_isRicher_9 : decode cX4_isRicher 9 = .ok (.getfield 18, 3) := by decide +kernel
theorem dX4_isRicher_12 : decode cX4_isRicher 12 = .ok (.iload_n 2, 1) := by decide +kernel
theorem dX4_isRicher_13 : decode cX4_isRicher 13 = .ok (.invokevirtual 75, 3) := by decide +kernel
theorem dX4_isRicher_16 : decode cX4_isRicher 16 = .ok (.isub, 1) := by decide +kernel
theorem dX4_isRicher_17 : decode cX4_isRicher 17 = .ok (.istore_n 3, 1) := by decide +kernel
theorem dX4_isRicher_18 : decode cX4_isRicher 18 = .ok (.iload_n 3, 1) := by decide +kernel
theorem dX4_isRicher_19 : decode cX4_isRicher 19 = .ok (.ifCond .gt 16, 3) := by decide +kernel
theorem dX4_isRicher_22 : decode cX4_isRicher 22 = .ok (.iload_n 3, 1) := by decide +kernel
theorem dX4_isRicher_23 : decode cX4_isRicher 23 = .ok (.ifCond .ne 16, 3) := by decide +kernel
theorem dX4_isRicher_26 : decode cX4_isRicher 26 = .ok (.aload_n 0, 1) := by decide +kernel
theorem dX4_isRicher_27 : decode cX4_isRicher 27 = .ok (.iload_n 1, 1) := by decide +kernel
theorem dX4_isRicher_28 : decode cX4_isRicher 28 = .ok (.iload_n 2, 1) := by decide +kernel
theorem dX4_isRicher_29 : decode cX4_isRicher 29 = .ok (.invokevirtual 62, 3) := by decide +kernel
theorem dX4_isRicher_32 : decode cX4_isRicher 32 = .ok (.ifCond .eq 7, 3) := by decide +kernel
theorem dX4_isRicher_35 : decode cX4_isRicher 35 = .ok (.iconst 1, 1) := by decide +kernel
theorem dX4_isRicher_36 : decode cX4_isRicher 36 = .ok (.goto 4, 3) := by decide +kernel
theorem dX4_isRicher_39 : decode cX4_isRicher 39 = .ok (.iconst 0, 1) := by decide +kernel
theorem dX4_isRicher_40 : decode cX4_isRicher 40 = .ok (.ireturn, 1) := by decide +kernel
theorem dX4_learn_0 : decode cX4_learn 0 = .ok (.aload_n 0, 1) := by decide +kernel
theorem dX4_learn_1 : decode cX4_learn 1 = .ok (.getfield 26, 3) := by decide +kernel
theorem dX4_learn_4 : decode cX4_learn 4 = .ok (.ifCond .eq 4, 3) := by decide +kernel
theorem dX4_learn_7 : decode cX4_learn 7 = .ok (.return_, 1) := by decide +kernel
theorem dX4_learn_8 : decode cX4_learn 8 = .ok (.aload_n 0, 1) := by decide +kernel
theorem dX4_learn_9 : decode cX4_learn 9 = .ok (.getfield 11, 3) := by decide +kernel
theorem dX4_learn_12 : decode cX4_learn 12 = .ok (.bipush 99, 2) := by decide +kernel
theorem dX4_learn_14 : decode cX4_learn 14 = .ok (.invokestatic 30, 3) := by decide +kernel
theorem dX4_learn_17 : decode cX4_learn 17 = .ok (.aload_n 0, 1) := by decide +kernel
theorem dX4_learn_18 : decode cX4_learn 18 = .ok (.iconst 0, 1) := by decide +kernel
theorem dX4_learn_19 : decode cX4_learn 19 = .ok (.iconst 0, 1) := by decide +kernel
theorem dX4_learn_20 : decode cX4_learn 20 = .ok (.invokevirtual 36, 3) := by decide +kernel
theorem dX4_learn_23 : decode cX4_learn 23 = .ok (.iconst 0, 1) := by decide +kernel
theorem dX4_learn_24 : decode cX4_learn 24 = .ok (.istore_n 1, 1) := by decide +kernel
theorem dX4_learn_25 : decode cX4_learn 25 = .ok (.iload_n 1, 1) := by decide +kernel
theorem dX4_learn_26 : decode cX4_learn 26 = .ok (.aload_n 0, 1) := by decide +kernel
theorem dX4_learn_27 : decode cX4_learn 27 = .ok (.getfield 18, 3) := by decide +kernel
theorem dX4_learn_30 : decode cX4_learn 30 = .ok (.invokevirtual 40, 3) := by decide +kernel
theorem dX4_learn_33 : decode cX4_learn 33 = .ok (.if_icmp .ge 71, 3) := by decide +kernel
theorem dX4_learn_36 : decode cX4_learn 36 = .ok (.aload_n 0, 1) := by decide +kernel
theorem dX4_learn_37 : decode cX4_learn 37 = .ok (.iconst 1, 1) := by decide +kernel
theorem dX4_learn_38 : decode cX4_learn 38 = .ok (.iload_n 1, 1) := by decide +kernel
theorem dX4_learn_39 : decode cX4_learn 39 = .ok (.ishl, 1) := by decide +kernel
theorem dX4_learn_40 : decode cX4_learn 40 = .ok (.iconst 1, 1) := by decide +kernel
theorem dX4_learn_41 : decode cX4_learn 41 = .ok (.invokevirtual 36, 3) := by decide +kernel
theorem dX4_learn_44 : decode cX4_learn 44 = .ok (.iconst 0, 1) := by decide +kernel
theorem dX4_learn_45 : decode cX4_learn 45 = .ok (.istore_n 2, 1) := by decide +kernel
theorem dX4_learn_46 : decode cX4_learn 46 = .ok (.iload_n 2, 1) := by decide +kernel
theorem dX4_learn_47 : decode cX4_learn 47 = .ok (.iload_n 1, 1) := by decide +kernel
theorem dX4_learn_48 : decode cX4_learn 48 = .ok (.if_icmp .ge 50, 3) := by decide +kernel
theorem dX4_learn_51 : decode cX4_learn 51 = .ok (.aload_n 0, 1) := by decide +kernel
theorem dX4_learn_52 : decode cX4_learn 52 = .ok (.iconst 1, 1) := by decide +kernel
theorem dX4_learn_53 : decode cX4_learn 53 = .ok (.iload_n 1, 1) := by decide +kernel
theorem dX4_learn_54 : decode cX4_learn 54 = .ok (.ishl, 1) := by decide +kernel
theorem dX4_learn_55 : decode cX4_learn 55 = .ok (.iconst 1, 1) := by decide +kernel
theorem dX4_learn_56 : decode cX4_learn 56 = .ok (.iload_n 2, 1) := by decide +kernel
theorem dX4_learn_57 : decode cX4_learn 57 = .ok (.ishl, 1) := by decide +kernel
theorem dX4_learn_58 : decode cX4_learn 58 = .ok (.ior, 1) := by decide +kernel
theorem dX4_learn_59 : decode cX4_learn 59 = .ok (.iconst 2, 1) := by decide +kernel
theorem dX4_learn_60 : decode cX4_learn 60 = .ok (.invokevirtual 36, 3) := by decide +kernel
theorem dX4_learn_63 : decode cX4_learn 63 = .ok (.iconst 0, 1) := by decide +kernel
theorem dX4_learn_64 : decode cX4_learn 64 = .ok (.istore_n 3, 1) := by decide +kernel
theorem dX4_learn_65 : decode cX4_learn 65 = .ok (.iload_n 3, 1) := by decide +kernel
theorem dX4_learn_66 : decode cX4_learn 66 = .ok (.iload_n 2, 1) := by decide +kernel
theorem dX4_learn_67 : decode cX4_learn 67 = .ok (.if_icmp .ge 25, 3) := by decide +kernel
theorem dX4_learn_70 : decode cX4_learn 70 = .ok (.aload_n 0, 1) := by decide +kernel
theorem dX4_learn_71 : decode cX4_learn 71 = .ok (.iconst 1, 1) := by decide +kernel
theorem dX4_learn_72 : decode cX4_learn 72 = .ok (.iload_n 1, 1) := by decide +kernel
theorem dX4_learn_73 : decode cX4_learn 73 = .ok (.ishl, 1) := by decide +kernel
theorem dX4_learn_74 : decode cX4_learn 74 = .ok (.iconst 1, 1) := by decide +kernel
theorem dX4_learn_75 : decode cX4_learn 75 = .ok (.iload_n 2, 1) := by decide +kernel
theorem dX4_learn_76 : decode cX4_learn 76 = .ok (.ishl, 1) := by decide +kernel
theorem dX4_learn_77 : decode cX4_learn 77 = .ok (.ior, 1) := by decide +kernel
theorem dX4_learn_78 : decode cX4_learn 78 = .ok (.iconst 1, 1) := by decide +kernel
theorem dX4_learn_79 : decode cX4_learn 79 = .ok (.iload_n 3, 1) := by decide +kernel
theorem dX4_learn_80 : decode cX4_learn 80 = .ok (.ishl, 1) := by decide +kernel
theorem dX4_learn_81 : decode cX4_learn 81 = .ok (.ior, 1) := by decide +kernel
theorem dX4_learn_82 : decode cX4_learn 82 = .ok (.iconst 3, 1) := by decide +kernel
theorem dX4_learn_83 : decode cX4_learn 83 = .ok (.invokevirtual 36, 3) := by decide +kernel
theorem dX4_learn_86 : decode cX4_learn 86 = .ok (.iinc 3 1, 3) := by decide +kernel
theorem dX4_learn_89 : decode cX4_learn 89 = .ok (.goto (-24), 3) := by decide +kernel
theorem dX4_learn_92 : decode cX4_learn 92 = .ok (.iinc 2 1, 3) := by decide +kernel
theorem dX4_learn_95 : decode cX4_learn 95 = .ok (.goto (-49), 3) := by decide +kernel
theorem dX4_learn_98 : decode cX4_learn 98 = .ok (.iinc 1 1, 3) := by decide +kernel
theorem dX4_learn_101 : decode cX4_learn 101 = .ok (.goto (-76), 3) := by decide +kernel
theorem dX4_learn_104 : decode cX4_learn 104 = .ok (.aload_n 0, 1) := by decide +kernel
theorem dX4_learn_105 : decode cX4_learn 105 = .ok (.iconst 1, 1) := by decide +kernel
theorem dX4_learn_106 : decode cX4_learn 106 = .ok (.putfield 26, 3) := by decide +kernel
theorem dX4_learn_109 : decode cX4_learn 109 = .ok (.return_, 1) := by decide +kernel
theorem dX4_mostServed_0 : decode cX4_mostServed 0 = .ok (.iconst 0, 1) := by decide +kernel
theorem dX4_mostServed_1 : decode cX4_mostServed 1 = .ok (.istore_n 2, 1) := by decide +kernel
theorem dX4_mostServed_2 : decode cX4_mostServed 2 = .ok (.iconst 0, 1) := by decide +kernel
theorem dX4_mostServed_3 : decode cX4_mostServed 3 = .ok (.istore_n 3, 1) := by decide +kernel
theorem dX4_mostServed_4 : decode cX4_mostServed 4 = .ok (.iload_n 3, 1) := by decide +kernel
theorem dX4_mostServed_5 : decode cX4_mostServed 5 = .ok (.bipush 64, 2) := by decide +kernel
theorem dX4_mostServed_7 : decode cX4_mostServed 7 = .ok (.if_icmp .ge 28, 3) := by decide +kernel
theorem dX4_mostServed_10 : decode cX4_mostServed 10 = .ok (.aload_n 0, 1) := by decide +kernel
theorem dX4_mostServed_11 : decode cX4_mostServed 11 = .ok (.getfield 11, 3) := by decide +kernel
theorem dX4_mostServed_14 : decode cX4_mostServed 14 = .ok (.iload_n 3, 1) := by decide +kernel
theorem dX4_mostServed_15 : decode cX4_mostServed 15 = .ok (.iaload, 1) := by decide +kernel
theorem dX4_mostServed_16 : decode cX4_mostServed 16 = .ok (.iload_n 1, 1) := by decide +kernel
theorem dX4_mostServed_17 : decode cX4_mostServed 17 = .ok (.if_icmp .gt 12, 3) := by decide +kernel
theorem dX4_mostServed_20 : decode cX4_mostServed 20 = .ok (.iload_n 2, 1) := by decide +kernel
theorem dX4_mostServed_21 : decode cX4_mostServed 21 = .ok (.iload_n 3, 1) := by decide +kernel
theorem dX4_mostServed_22 : decode cX4_mostServed 22 = .ok (.invokestatic 79, 3) := by decide +kernel
theorem dX4_mostServed_25 : decode cX4_mostServed 25 = .ok (.invokestatic 69, 3) := by decide +kernel
theorem dX4_mostServed_28 : decode cX4_mostServed 28 = .ok (.istore_n 2, 1) := by decide +kernel
theorem dX4_mostServed_29 : decode cX4_mostServed 29 = .ok (.iinc 3 1, 3) := by decide +kernel
theorem dX4_mostServed_32 : decode cX4_mostServed 32 = .ok (.goto (-28), 3) := by decide +kernel
theorem dX4_mostServed_35 : decode cX4_mostServed 35 = .ok (.iload_n 2, 1) := by decide +kernel
theorem dX4_mostServed_36 : decode cX4_mostServed 36 = .ok (.ireturn, 1) := by decide +kernel
theorem dX4_orders_0 : decode cX4_orders 0 = .ok (.getstatic 90, 3) := by decide +kernel
theorem dX4_orders_3 : decode cX4_orders 3 = .ok (.aload_n 0, 1) := by decide +kernel
theorem dX4_orders_4 : decode cX4_orders 4 = .ok (.getfield 18, 3) := by decide +kernel
theorem dX4_orders_7 : decode cX4_orders 7 = .ok (.getfield 93, 3) := by decide +kernel
theorem dX4_orders_10 : decode cX4_orders 10 = .ok (.iaload, 1) := by decide +kernel
theorem dX4_orders_11 : decode cX4_orders 11 = .ok (.ireturn, 1) := by decide +kernel
theorem dX4_richest_0 : decode cX4_richest 0 = .ok (.iconst (-1), 1) := by decide +kernel
theorem dX4_richest_1 : decode cX4_richest 1 = .ok (.istore_n 2, 1) := by decide +kernel
theorem dX4_richest_2 : decode cX4_richest 2 = .ok (.iconst 0, 1) := by decide +kernel
theorem dX4_richest_3 : decode cX4_richest 3 = .ok (.istore_n 3, 1) := by decide +kernel
theorem dX4_richest_4 : decode cX4_richest 4 = .ok (.iload_n 3, 1) := by decide +kernel
theorem dX4_richest_5 : decode cX4_richest 5 = .ok (.bipush 64, 2) := by decide +kernel
theorem dX4_richest_7 : decode cX4_richest 7 = .ok (.if_icmp .ge 35, 3) := by decide +kernel
theorem dX4_richest_10 : decode cX4_richest 10 = .ok (.aload_n 0, 1) := by decide +kernel
theorem dX4_richest_11 : decode cX4_richest 11 = .ok (.getfield 11, 3) := by decide +kernel
theorem dX4_richest_14 : decode cX4_richest 14 = .ok (.iload_n 3, 1) := by decide +kernel
theorem dX4_richest_15 : decode cX4_richest 15 = .ok (.iaload, 1) := by decide +kernel
theorem dX4_richest_16 : decode cX4_richest 16 = .ok (.iload_n 1, 1) := by decide +kernel
theorem dX4_richest_17 : decode cX4_richest 17 = .ok (.if_icmp .gt 19, 3) := by decide +kernel
theorem dX4_richest_20 : decode cX4_richest 20 = .ok (.iload_n 2, 1) := by decide +kernel
theorem dX4_richest_21 : decode cX4_richest 21 = .ok (.iconst (-1), 1) := by decide +kernel
theorem dX4_richest_22 : decode cX4_richest 22 = .ok (.if_icmp .eq 12, 3) := by decide +kernel
theorem dX4_richest_25 : decode cX4_richest 25 = .ok (.aload_n 0, 1) := by decide +kernel
theorem dX4_richest_26 : decode cX4_richest 26 = .ok (.iload_n 3, 1) := by decide +kernel
theorem dX4_richest_27 : decode cX4_richest 27 = .ok (.iload_n 2, 1) := by decide +kernel
theorem dX4_richest_28 : decode cX4_richest 28 = .ok (.invokevirtual 66, 3) := by decide +kernel
theorem dX4_richest_31 : decode cX4_richest 31 = .ok (.ifCond .eq 5, 3) := by decide +kernel
theorem dX4_richest_34 : decode cX4_richest 34 = .ok (.iload_n 3, 1) := by decide +kernel
theorem dX4_richest_35 : decode cX4_richest 35 = .ok (.istore_n 2, 1) := by decide +kernel
theorem dX4_richest_36 : decode cX4_richest 36 = .ok (.iinc 3 1, 3) := by decide +kernel
theorem dX4_richest_39 : decode cX4_richest 39 = .ok (.goto (-35), 3) := by decide +kernel
theorem dX4_richest_42 : decode cX4_richest 42 = .ok (.iconst 0, 1) := by decide +kernel
theorem dX4_richest_43 : decode cX4_richest 43 = .ok (.iload_n 2, 1) := by decide +kernel
theorem dX4_richest_44 : decode cX4_richest 44 = .ok (.invokestatic 69, 3) := by decide +kernel
theorem dX4_richest_47 : decode cX4_richest 47 = .ok (.ireturn, 1) := by decide +kernel
theorem dX4_tryLamps_0 : decode cX4_tryLamps 0 = .ok (.aload_n 0, 1) := by decide +kernel
theorem dX4_tryLamps_1 : decode cX4_tryLamps 1 = .ok (.getfield 22, 3) := by decide +kernel
theorem dX4_tryLamps_4 : decode cX4_tryLamps 4 = .ok (.iload_n 1, 1) := by decide +kernel
theorem dX4_tryLamps_5 : decode cX4_tryLamps 5 = .ok (.aload_n 0, 1) := by decide +kernel
theorem dX4_tryLamps_6 : decode cX4_tryLamps 6 = .ok (.getfield 18, 3) := by decide +kernel
theorem dX4_tryLamps_9 : decode cX4_tryLamps 9 = .ok (.getfield 46, 3) := by decide +kernel
theorem dX4_tryLamps_12 : decode cX4_tryLamps 12 = .ok (.invokevirtual 50, 3) := by decide +kernel
theorem dX4_tryLamps_15 : decode cX4_tryLamps 15 = .ok (.aload_n 0, 1) := by decide +kernel
theorem dX4_tryLamps_16 : decode cX4_tryLamps 16 = .ok (.getfield 22, 3) := by decide +kernel
theorem dX4_tryLamps_19 : decode cX4_tryLamps 19 = .ok (.bipush 15, 2) := by decide +kernel
theorem dX4_tryLamps_21 : decode cX4_tryLamps 21 = .ok (.invokevirtual 55, 3) := by decide +kernel
theorem dX4_tryLamps_24 : decode cX4_tryLamps 24 = .ok (.aload_n 0, 1) := by decide +kernel
theorem dX4_tryLamps_25 : decode cX4_tryLamps 25 = .ok (.getfield 22, 3) := by decide +kernel
theorem dX4_tryLamps_28 : decode cX4_tryLamps 28 = .ok (.invokevirtual 59, 3) := by decide +kernel
theorem dX4_tryLamps_31 : decode cX4_tryLamps 31 = .ok (.istore_n 3, 1) := by decide +kernel
theorem dX4_tryLamps_32 : decode cX4_tryLamps 32 = .ok (.iload_n 2, 1) := by decide +kernel
theorem dX4_tryLamps_33 : decode cX4_tryLamps 33 = .ok (.aload_n 0, 1) := by decide +kernel
theorem dX4_tryLamps_34 : decode cX4_tryLamps 34 = .ok (.getfield 11, 3) := by decide +kernel
theorem dX4_tryLamps_37 : decode cX4_tryLamps 37 = .ok (.iload_n 3, 1) := by decide +kernel
theorem dX4_tryLamps_38 : decode cX4_tryLamps 38 = .ok (.iaload, 1) := by decide +kernel
theorem dX4_tryLamps_39 : decode cX4_tryLamps 39 = .ok (.if_icmp .lt 23, 3) := by decide +kernel
theorem dX4_tryLamps_42 : decode cX4_tryLamps 42 = .ok (.iload_n 2, 1) := by decide +kernel
theorem dX4_tryLamps_43 : decode cX4_tryLamps 43 = .ok (.aload_n 0, 1) := by decide +kernel
theorem dX4_tryLamps_44 : decode cX4_tryLamps 44 = .ok (.getfield 11, 3) := by decide +kernel
theorem dX4_tryLamps_47 : decode cX4_tryLamps 47 = .ok (.iload_n 3, 1) := by decide +kernel
theorem dX4_tryLamps_48 : decode cX4_tryLamps 48 = .ok (.iaload, 1) := by decide +kernel
theorem dX4_tryLamps_49 : decode cX4_tryLamps 49 = .ok (.if_icmp .ne 27, 3) := by decide +kernel
theorem dX4_tryLamps_52 : decode cX4_tryLamps 52 = .ok (.iload_n 1, 1) := by decide +kernel
theorem dX4_tryLamps_53 : decode cX4_tryLamps 53 = .ok (.aload_n 0, 1) := by decide +kernel
theorem dX4_tryLamps_54 : decode cX4_tryLamps 54 = .ok (.getfield 15, 3) := by decide +kernel
theorem dX4_tryLamps_57 : decode cX4_tryLamps 57 = .ok (.iload_n 3, 1) := by decide +kernel
theorem dX4_tryLamps_58 : decode cX4_tryLamps 58 = .ok (.iaload, 1) := by decide +kernel
theorem dX4_tryLamps_59 : decode cX4_tryLamps 59 = .ok (.if_icmp .ge 17, 3) := by decide +kernel
theorem dX4_tryLamps_62 : decode cX4_tryLamps 62 = .ok (.aload_n 0, 1) := by decide +kernel
theorem dX4_tryLamps_63 : decode cX4_tryLamps 63 = .ok (.getfield 11, 3) := by decide +kernel
theorem dX4_tryLamps_66 : decode cX4_tryLamps 66 = .ok (.iload_n 3, 1) := by decide +kernel
theorem dX4_tryLamps_67 : decode cX4_tryLamps 67 = .ok (.iload_n 2, 1) := by decide +kernel
theorem dX4_tryLamps_68 : decode cX4_tryLamps 68 = .ok (.iastore, 1) := by decide +kernel
theorem dX4_tryLamps_69 : decode cX4_tryLamps 69 = .ok (.aload_n 0, 1) := by decide +kernel
theorem dX4_tryLamps_70 : decode cX4_tryLamps 70 = .ok (.getfield 15, 3) := by decide +kernel
theorem dX4_tryLamps_73 : decode cX4_tryLamps 73 = .ok (.iload_n 3, 1) := by decide +kernel
theorem dX4_tryLamps_74 : decode cX4_tryLamps 74 = .ok (.iload_n 1, 1) := by decide +kernel
theorem dX4_tryLamps_75 : decode cX4_tryLamps 75 = .ok (.iastore, 1) := by decide +kernel
theorem dX4_tryLamps_76 : decode cX4_tryLamps 76 = .ok (.return_, 1) := by decide +kernel
theorem wd197 : Cond.fieldLink RX0 18 "GooseShares$Clues" "land" "LGooseShares$Land;" ∈ gW := gm (tm_2 30 (by decide +kernel)) rfl
theorem wd198 : Cond.methodLink RX0 45 yX3_cells ∈ gW := gm (tm_4 193 (by decide +kernel)) rfl
theorem wd199 : Cond.fieldLink RX0 49 "GooseShares$Land" "members" "I" ∈ gW := gm (tm_1 82 (by decide +kernel)) rfl
theorem wd200 : Cond.instanceMethod yX3_earshot ∈ gW := gm (tm_3 171 (by decide +kernel)) rfl
theorem wd201 : Cond.selects RX3 yX3_earshot yX3_earshot ∈ gW := gm (tm_3 172 (by decide +kernel)) rfl
theorem wd202 : Cond.code yX3_earshot cX3_earshot 2 (some .int) ∈ gW := gm (tm_3 173 (by decide +kernel)) rfl
theorem wd203 : Cond.methodLink RX0 113 yX3_earshot ∈ gW := gm (tm_5 7 (by decide +kernel)) rfl
theorem wd204 : Cond.instanceMethod yX0_pairs ∈ gW := gm (tm_4 238 (by decide +kernel)) rfl
theorem wd205 : Cond.selects RX0 yX0_pairs yX0_pairs ∈ gW := gm (tm_4 239 (by decide +kernel)) rfl
theorem wd206 : Cond.initialized RX0 ∈ gW := gm (tm_1 7 (by decide +kernel)) rfl
theorem wd207 : Cond.code yX0_pairs cX0_pairs 1 (some .int) ∈ gW := gm (tm_5 0 (by decide +kernel)) rfl
theorem wd208 : Cond.methodLink RX0 97 yX0_pairs ∈ gW := gm (tm_4 237 (by decide +kernel)) rfl
theorem wd209 : Cond.fieldLink RX0 11 "GooseShares$Clues" "hearers" "[I" ∈ gW := gm (tm_2 32 (by decide +kernel)) rfl
theorem wd210 : Cond.instanceMethod yX0_heardOf ∈ gW := gm (tm_5 33 (by decide +kernel)) rfl
theorem wd211 : Cond.selects RX0 yX0_heardOf yX0_heardOf ∈ gW := gm (tm_5 34 (by decide +kernel)) rfl
theorem wd212 : Cond.code yX0_heardOf cX0_heardOf 4 (some .int) ∈ gW := gm (tm_5 35 (by decide +kernel)) rfl
theorem wd213 : Cond.methodLink RX0 116 yX0_heardOf ∈ gW := gm (tm_5 32 (by decide +kernel)) rfl
theorem wd214 : Cond.methodLink RX0 89 Lib.Math.max.name ∈ gW := gm (tm_4 220 (by decide +kernel)) rfl
theorem wd215 : Cond.instanceMethod yX0_worstLeft ∈ gW := gm (tm_5 29 (by decide +kernel)) rfl
theorem wd216 : Cond.selects RX0 yX0_worstLeft yX0_worstLeft ∈ gW := gm (tm_5 30 (by decide +kernel)) rfl
theorem wd217 : Cond.code yX0_worstLeft cX0_worstLeft 4 (some .int) ∈ gW := gm (tm_5 31 (by decide +kernel)) rfl
theorem wd218 : Cond.methodLink RX0 119 yX0_worstLeft ∈ gW := gm (tm_5 28 (by decide +kernel)) rfl
theorem wd219 : Cond.fieldLink RX0 26 "GooseShares$Row" "length" "I" ∈ gW := gm (tm_2 86 (by decide +kernel)) rfl
theorem wd220 : Cond.fieldLink RX0 32 "GooseShares$Row" "numbers" "[J" ∈ gW := gm (tm_2 82 (by decide +kernel)) rfl
theorem wd221 : Cond.static yX0_isWithin ∈ gW := gm (tm_4 191 (by decide +kernel)) rfl
theorem wd222 : Cond.code yX0_isWithin cX0_isWithin 4 (some .boolean) ∈ gW := gm (tm_4 192 (by decide +kernel)) rfl
theorem wd223 : Cond.methodLink RX0 41 yX0_isWithin ∈ gW := gm (tm_4 190 (by decide +kernel)) rfl
theorem wd224 : Cond.fieldLink RX0 36 "GooseShares$Land" "flights" "I" ∈ gW := gm (tm_1 76 (by decide +kernel)) rfl
theorem wd225 : Cond.fieldLink RX0 22 "GooseShares$Clues" "sky" "LGooseShares$Sky;" ∈ gW := gm (tm_2 31 (by decide +kernel)) rfl
theorem wd226 : Cond.instanceMethod yX7_follow ∈ gW := gm (tm_3 99 (by decide +kernel)) rfl
theorem wd227 : Cond.selects RX7 yX7_follow yX7_follow ∈ gW := gm (tm_3 100 (by decide +kernel)) rfl
theorem wd228 : Cond.code yX7_follow cX7_follow 2 none ∈ gW := gm (tm_3 101 (by decide +kernel)) rfl
theorem wd229 : Cond.methodLink RX0 65 yX7_follow ∈ gW := gm (tm_4 203 (by decide +kernel)) rfl
theorem wd230 : Cond.instanceMethod yX7_cellAt ∈ gW := gm (tm_3 114 (by decide +kernel)) rfl
theorem wd231 : Cond.selects RX7 yX7_cellAt yX7_cellAt ∈ gW := gm (tm_3 115 (by decide +kernel)) rfl
theorem wd232 : Cond.code yX7_cellAt cX7_cellAt 2 (some .int) ∈ gW := gm (tm_3 116 (by decide +kernel)) rfl
theorem wd233 : Cond.methodLink RX0 69 yX7_cellAt ∈ gW := gm (tm_4 204 (by decide +kernel)) rfl
theorem wd234 : Cond.fieldLink RX0 52 "GooseShares$Land" "lit" "I" ∈ gW := gm (tm_1 91 (by decide +kernel)) rfl
theorem wd235 : Cond.methodLink RX0 55 yX7_under ∈ gW := gm (tm_4 198 (by decide +kernel)) rfl
theorem wd236 : Cond.instanceMethod yX0_allSeen ∈ gW := gm (tm_4 200 (by decide +kernel)) rfl
theorem wd237 : Cond.selects RX0 yX0_allSeen yX0_allSeen ∈ gW := gm (tm_4 201 (by decide +kernel)) rfl
theorem wd238 : Cond.code yX0_allSeen cX0_allSeen 3 (some .boolean) ∈ gW := gm (tm_4 202 (by decide +kernel)) rfl
theorem wd239 : Cond.methodLink RX0 61 yX0_allSeen ∈ gW := gm (tm_4 199 (by decide +kernel)) rfl
theorem wd240 : Cond.fieldLink RX0 15 "GooseShares$Clues" "outs" "[I" ∈ gW := gm (tm_2 33 (by decide +kernel)) rfl
theorem wd241 : Cond.instanceMethod yX7_outStep ∈ gW := gm (tm_3 130 (by decide +kernel)) rfl
theorem wd242 : Cond.selects RX7 yX7_outStep yX7_outStep ∈ gW := gm (tm_3 131 (by decide +kernel)) rfl
theorem wd243 : Cond.code yX7_outStep cX7_outStep 1 (some .int) ∈ gW := gm (tm_3 132 (by decide +kernel)) rfl
theorem wd244 : Cond.methodLink RX0 82 yX7_outStep ∈ gW := gm (tm_4 218 (by decide +kernel)) rfl
theorem wd245 : Cond.instanceMethod yX0_worstLaws ∈ gW := gm (tm_4 215 (by decide +kernel)) rfl
theorem wd246 : Cond.selects RX0 yX0_worstLaws yX0_worstLaws ∈ gW := gm (tm_4 216 (by decide +kernel)) rfl
theorem wd247 : Cond.code yX0_worstLaws cX0_worstLaws 7 (some .int) ∈ gW := gm (tm_4 217 (by decide +kernel)) rfl
theorem wd248 : Cond.methodLink RX0 78 yX0_worstLaws ∈ gW := gm (tm_4 214 (by decide +kernel)) rfl
theorem wd249 : Cond.methodLink RX0 73 yJ6_bitCount_0f7a4 ∈ gW := gm (tm_4 213 (by decide +kernel)) rfl
theorem wd250 : Cond.methodLink RX0 100 yX7_trace ∈ gW := gm (tm_5 1 (by decide +kernel)) rfl
theorem wd251 : Cond.instanceMethod yX7_wayBits ∈ gW := gm (tm_3 142 (by decide +kernel)) rfl
theorem wd252 : Cond.selects RX7 yX7_wayBits yX7_wayBits ∈ gW := gm (tm_3 143 (by decide +kernel)) rfl
theorem wd253 : Cond.code yX7_wayBits cX7_wayBits 3 (some .int) ∈ gW := gm (tm_3 144 (by decide +kernel)) rfl
theorem wd254 : Cond.methodLink RX0 103 yX7_wayBits ∈ gW := gm (tm_5 2 (by decide +kernel)) rfl
theorem wd255 : Cond.instanceMethod yX0_hearersOf ∈ gW := gm (tm_5 4 (by decide +kernel)) rfl
theorem wd256 : Cond.selects RX0 yX0_hearersOf yX0_hearersOf ∈ gW := gm (tm_5 5 (by decide +kernel)) rfl
theorem wd257 : Cond.code yX0_hearersOf cX0_hearersOf 4 (some .int) ∈ gW := gm (tm_5 6 (by decide +kernel)) rfl
theorem wd258 : Cond.methodLink RX0 106 yX0_hearersOf ∈ gW := gm (tm_5 3 (by decide +kernel)) rfl
theorem wd259 : Cond.instanceMethod yX0_allReported ∈ gW := gm (tm_5 9 (by decide +kernel)) rfl
theorem wd260 : Cond.selects RX0 yX0_allReported yX0_allReported ∈ gW := gm (tm_5 10 (by decide +kernel)) rfl
theorem wd261 : Cond.code yX0_allReported cX0_allReported 4 (some .boolean) ∈ gW := gm (tm_5 11 (by decide +kernel)) rfl
theorem wd262 : Cond.methodLink RX0 109 yX0_allReported ∈ gW := gm (tm_5 8 (by decide +kernel)) rfl
theorem wd263 : Cond.fieldLink RX0 94 "GooseShares$Land" "law" "I" ∈ gW := gm (tm_1 65 (by decide +kernel)) rfl
theorem wd264 : Cond.fieldLink RX4 26 "GooseShares$Lanterns" "known" "Z" ∈ gW := gm (tm_2 12 (by decide +kernel)) rfl
theorem wd265 : Cond.fieldLink RX4 11 "GooseShares$Lanterns" "fewestFor" "[I" ∈ gW := gm (tm_2 8 (by decide +kernel)) rfl
theorem wd266 : Cond.fieldLink RX4 15 "GooseShares$Lanterns" "leastFor" "[I" ∈ gW := gm (tm_2 10 (by decide +kernel)) rfl
theorem wd267 : Cond.fieldLink RX4 22 "GooseShares$Lanterns" "sky" "LGooseShares$Sky;" ∈ gW := gm (tm_2 7 (by decide +kernel)) rfl
theorem wd268 : Cond.fieldLink RX4 18 "GooseShares$Lanterns" "land" "LGooseShares$Land;" ∈ gW := gm (tm_2 6 (by decide +kernel)) rfl
theorem wd269 : Cond.fieldLink RX4 46 "GooseShares$Land" "law" "I" ∈ gW := gm (tm_1 62 (by decide +kernel)) rfl
theorem wd270 : Cond.methodLink RX4 50 yX7_under ∈ gW := gm (tm_4 94 (by decide +kernel)) rfl
theorem wd271 : Cond.methodLink RX4 55 yX7_pass ∈ gW := gm (tm_4 95 (by decide +kernel)) rfl
theorem wd272 : Cond.methodLink RX4 59 yX7_servedBits ∈ gW := gm (tm_4 96 (by decide +kernel)) rfl
theorem wd273 : Cond.instanceMethod yX4_tryLamps ∈ gW := gm (tm_4 91 (by decide +kernel)) rfl
theorem wd274 : Cond.selects RX4 yX4_tryLamps yX4_tryLamps ∈ gW := gm (tm_4 92 (by decide +kernel)) rfl
theorem wd275 : Cond.initialized RX4 ∈ gW := gm (tm_1 6 (by decide +kernel)) rfl
theorem wd276 : Cond.code yX4_tryLamps cX4_tryLamps 4 none ∈ gW := gm (tm_4 93 (by decide +kernel)) rfl
theorem wd277 : Cond.methodLink RX4 36 yX4_tryLamps ∈ gW := gm (tm_4 90 (by decide +kernel)) rfl
theorem wd278 : Cond.methodLink RX4 40 yX3_cells ∈ gW := gm (tm_4 97 (by decide +kernel)) rfl
theorem wd279 : Cond.methodLink RX4 30 yJ7_fill_53178 ∈ gW := gm (tm_4 89 (by decide +kernel)) rfl
theorem wd280 : Cond.instanceMethod yX4_isCheaper ∈ gW := gm (tm_4 103 (by decide +kernel)) rfl
theorem wd281 : Cond.selects RX4 yX4_isCheaper yX4_isCheaper ∈ gW := gm (tm_4 104 (by decide +kernel)) rfl
theorem wd282 : Cond.code yX4_isCheaper cX4_isCheaper 3 (some .boolean) ∈ gW := gm (tm_4 105 (by decide +kernel)) rfl
theorem wd283 : Cond.methodLink RX4 62 yX4_isCheaper ∈ gW := gm (tm_4 102 (by decide +kernel)) rfl
theorem wd284 : Cond.methodLink RX4 75 yX3_paidBy ∈ gW := gm (tm_4 125 (by decide +kernel)) rfl
theorem wd285 : Cond.methodLink RX4 69 Lib.Math.max.name ∈ gW := gm (tm_4 126 (by decide +kernel)) rfl
theorem wd286 : Cond.instanceMethod yX4_isRicher ∈ gW := gm (tm_4 122 (by decide +kernel)) rfl
theorem wd287 : Cond.selects RX4 yX4_isRicher yX4_isRicher ∈ gW := gm (tm_4 123 (by decide +kernel)) rfl
theorem wd288 : Cond.code yX4_isRicher cX4_isRicher 4 (some .boolean) ∈ gW := gm (tm_4 124 (by decide +kernel)) rfl
theorem wd289 : Cond.methodLink RX4 66 yX4_isRicher ∈ gW := gm (tm_4 121 (by decide +kernel)) rfl
theorem wd290 : Cond.methodLink RX4 79 yJ6_bitCount_0f7a4 ∈ gW := gm (tm_4 141 (by decide +kernel)) rfl
theorem wd291 : Cond.instanceMethod yX3_wanters ∈ gW := gm (tm_4 18 (by decide +kernel)) rfl
theorem wd292 : Cond.selects RX3 yX3_wanters yX3_wanters ∈ gW := gm (tm_4 19 (by decide +kernel)) rfl
theorem wd293 : Cond.code yX3_wanters cX3_wanters 3 (some .int) ∈ gW := gm (tm_4 20 (by decide +kernel)) rfl
theorem wd294 : Cond.methodLink RX4 84 yX3_wanters ∈ gW := gm (tm_5 131 (by decide +kernel)) rfl
theorem wd295 : Cond.instanceMethod yX4_cheapest ∈ gW := gm (tm_4 99 (by decide +kernel)) rfl
theorem wd296 : Cond.selects RX4 yX4_cheapest yX4_cheapest ∈ gW := gm (tm_4 100 (by decide +kernel)) rfl
theorem wd297 : Cond.code yX4_cheapest cX4_cheapest 5 (some .int) ∈ gW := gm (tm_4 101 (by decide +kernel)) rfl
theorem wd298 : Cond.methodLink RX4 87 yX4_cheapest ∈ gW := gm (tm_5 132 (by decide +kernel)) rfl
theorem wd299 : Cond.fieldLink RX4 90 "GooseShares$Lanterns" "FACTORIALS" "[I" ∈ gW := gm (tm_5 140 (by decide +kernel)) rfl
theorem wd300 : Cond.fieldLink RX4 93 "GooseShares$Land" "members" "I" ∈ gW := gm (tm_1 84 (by decide +kernel)) rfl
theorem wd301 : Cond.methodLink RX4 96 yX3_allMembers ∈ gW := gm (tm_5 137 (by decide +kernel)) rfl
theorem wd302 : Cond.instanceMethod yX4_costOf ∈ gW := gm (tm_5 128 (by decide +kernel)) rfl
theorem wd303 : Cond.selects RX4 yX4_costOf yX4_costOf ∈ gW := gm (tm_5 129 (by decide +kernel)) rfl
theorem wd304 : Cond.code yX4_costOf cX4_costOf 3 (some .int) ∈ gW := gm (tm_5 130 (by decide +kernel)) rfl
theorem wd305 : Cond.methodLink RX4 102 yX4_costOf ∈ gW := gm (tm_5 139 (by decide +kernel)) rfl
theorem my_X3_earshot : gWV RX3 yX3_earshot cX3_earshot 2 (some .int) 1 := ⟨⟨wd200, wd201, wd19, wd202⟩, ⟨rfl, by decide +kernel, by decide +kernel, by decide +kernel⟩⟩
theorem my_X0_pairs : gWV RX0 yX0_pairs cX0_pairs 1 (some .int) 0 := ⟨⟨wd204, wd205, wd206, wd207⟩, ⟨rfl, by decide +kernel, by decide +kernel, by decide +kernel⟩⟩
theorem my_X0_heardOf : gWV RX0 yX0_heardOf cX0_heardOf 4 (some .int) 1 := ⟨⟨wd210, wd211, wd206, wd212⟩, ⟨rfl, by decide +kernel, by decide +kernel, by decide +kernel⟩⟩
theorem my_X0_worstLeft : gWV RX0 yX0_worstLeft cX0_worstLeft 4 (some .int) 2 := ⟨⟨wd215, wd216, wd206, wd217⟩, ⟨rfl, by decide +kernel, by decide +kernel, by decide +kernel⟩⟩
theorem my_X0_isWithin : gWS RX0 yX0_isWithin cX0_isWithin 4 (some .boolean) 3 := ⟨⟨wd221, wd206, wd222⟩, ⟨rfl, by decide +kernel, by decide +kernel, by decide +kernel⟩⟩
theorem my_X7_follow : gWV RX7 yX7_follow cX7_follow 2 none 1 := ⟨⟨wd226, wd227, wd75, wd228⟩, ⟨rfl, by decide +kernel, by decide +kernel, by decide +kernel⟩⟩
theorem my_X7_cellAt : gWV RX7 yX7_cellAt cX7_cellAt 2 (some .int) 1 := ⟨⟨wd230, wd231, wd75, wd232⟩, ⟨rfl, by decide +kernel, by decide +kernel, by decide +kernel⟩⟩
theorem my_X0_allSeen : gWV RX0 yX0_allSeen cX0_allSeen 3 (some .boolean) 1 := ⟨⟨wd236, wd237, wd206, wd238⟩, ⟨rfl, by decide +kernel, by decide +kernel, by decide +kernel⟩⟩
theorem my_X7_outStep : gWV RX7 yX7_outStep cX7_outStep 1 (some .int) 0 := ⟨⟨wd241, wd242, wd75, wd243⟩, ⟨rfl, by decide +kernel, by decide +kernel, by decide +kernel⟩⟩
theorem my_X0_worstLaws : gWV RX0 yX0_worstLaws cX0_worstLaws 7 (some .int) 2 := ⟨⟨wd245, wd246, wd206, wd247⟩, ⟨rfl, by decide +kernel, by decide +kernel, by decide +kernel⟩⟩
theorem my_X7_wayBits : gWV RX7 yX7_wayBits cX7_wayBits 3 (some .int) 0 := ⟨⟨wd251, wd252, wd75, wd253⟩, ⟨rfl, by decide +kernel, by decide +kernel, by decide +kernel⟩⟩
theorem my_X0_hearersOf : gWV RX0 yX0_hearersOf cX0_hearersOf 4 (some .int) 1 := ⟨⟨wd255, wd256, wd206, wd257⟩, ⟨rfl, by decide +kernel, by decide +kernel, by decide +kernel⟩⟩
theorem my_X0_allReported : gWV RX0 yX0_allReported cX0_allReported 4 (some .boolean) 2 := ⟨⟨wd259, wd260, wd206, wd261⟩, ⟨rfl, by decide +kernel, by decide +kernel, by decide +kernel⟩⟩
theorem my_X4_tryLamps : gWV RX4 yX4_tryLamps cX4_tryLamps 4 none 2 := ⟨⟨wd273, wd274, wd275, wd276⟩, ⟨rfl, by decide +kernel, by decide +kernel, by decide +kernel⟩⟩
theorem my_X4_isCheaper : gWV RX4 yX4_isCheaper cX4_isCheaper 3 (some .boolean) 2 := ⟨⟨wd280, wd281, wd275, wd282⟩, ⟨rfl, by decide +kernel, by decide +kernel, by decide +kernel⟩⟩
theorem my_X4_isRicher : gWV RX4 yX4_isRicher cX4_isRicher 4 (some .boolean) 2 := ⟨⟨wd286, wd287, wd275, wd288⟩, ⟨rfl, by decide +kernel, by decide +kernel, by decide +kernel⟩⟩
theorem my_X3_wanters : gWV RX3 yX3_wanters cX3_wanters 3 (some .int) 0 := ⟨⟨wd291, wd292, wd19, wd293⟩, ⟨rfl, by decide +kernel, by decide +kernel, by decide +kernel⟩⟩
theorem my_X4_cheapest : gWV RX4 yX4_cheapest cX4_cheapest 5 (some .int) 1 := ⟨⟨wd295, wd296, wd275, wd297⟩, ⟨rfl, by decide +kernel, by decide +kernel, by decide +kernel⟩⟩
theorem my_X4_costOf : gWV RX4 yX4_costOf cX4_costOf 3 (some .int) 1 := ⟨⟨wd302, wd303, wd275, wd304⟩, ⟨rfl, by decide +kernel, by decide +kernel, by decide +kernel⟩⟩
theorem tl_40 : (40 : Int32).toInt = 40 := by decide
theorem rl_40 : rg (40 : Int32) 40 40 := ⟨by rw [tl_40]; exact Int.le_refl _, by rw [tl_40]; exact Int.le_refl _⟩
theorem tl_99 : (99 : Int32).toInt = 99 := by decide
theorem rl_99 : rg (99 : Int32) 99 99 := ⟨by rw [tl_99]; exact Int.le_refl _, by rw [tl_99]; exact Int.le_refl _⟩
