theorem dX10_ask_0 : decode cX10_ask 0 = .ok (.aload_n 0, 1) := by decide +kernel
theorem dX10_ask_1 : decode cX10_ask 1 = .ok (.iconst 0, 1) := by decide +kernel
theorem dX10_ask_2 : decode cX10_ask 2 = .ok (.putfield 92, 3) := by decide +kernel
theorem dX10_ask_5 : decode cX10_ask 5 = .ok (.aload_n 0, 1) := by decide +kernel
theorem dX10_ask_6 : decode cX10_ask 6 = .ok (.iload_n 1, 1) := by decide +kernel
theorem dX10_ask_7 : decode cX10_ask 7 = .ok (.invokevirtual 386, 3) := by decide +kernel
theorem dX10_ask_10 : decode cX10_ask 10 = .ok (.istore_n 2, 1) := by decide +kernel
theorem dX10_ask_11 : decode cX10_ask 11 = .ok (.iload_n 2, 1) := by decide +kernel
theorem dX10_ask_12 : decode cX10_ask 12 = .ok (.ifCond .eq 5, 3) := by decide +kernel
theorem dX10_ask_15 : decode cX10_ask 15 = .ok (.iload_n 2, 1) := by decide +kernel
theorem dX10_ask_16 : decode cX10_ask 16 = .ok (.ireturn, 1) := by decide +kernel
theorem dX10_ask_17 : decode cX10_ask 17 = .ok (.aload_n 0, 1) := by decide +kernel
theorem dX10_ask_18 : decode cX10_ask 18 = .ok (.iload_n 1, 1) := by decide +kernel
theorem dX10_ask_19 : decode cX10_ask 19 = .ok (.invokevirtual 389, 3) := by decide +kernel
theorem dX10_ask_22 : decode cX10_ask 22 = .ok (.istore_n 3, 1) := by decide +kernel
theorem dX10_ask_23 : decode cX10_ask 23 = .ok (.iconst (-1), 1) := by decide +kernel
theorem dX10_ask_24 : decode cX10_ask 24 = .ok (.istore 4, 2) := by decide +kernel
theorem dX10_ask_26 : decode cX10_ask 26 = .ok (.iload_n 3, 1) := by decide +kernel
theorem dX10_ask_27 : decode cX10_ask 27 = .ok (.invokestatic 355, 3) := by decide +kernel
theorem dX10_ask_30 : decode cX10_ask 30 = .ok (.istore 5, 2) := by decide +kernel
theorem dX10_ask_32 : decode cX10_ask 32 = .ok (.iconst 0, 1) := by decide +kernel
theorem dX10_ask_33 : decode cX10_ask 33 = .ok (.istore 6, 2) := by decide +kernel
theorem dX10_ask_35 : decode cX10_ask 35 = .ok (.iload 6, 2) := by decide +kernel
theorem dX10_ask_37 : decode cX10_ask 37 = .ok (.aload_n 0, 1) := by decide +kernel
theorem dX10_ask_38 : decode cX10_ask 38 = .ok (.invokevirtual 259, 3) := by decide +kernel
theorem dX10_ask_41 : decode cX10_ask 41 = .ok (.if_icmp .ge 135, 3) := by decide +kernel
theorem dX10_ask_44 : decode cX10_ask 44 = .ok (.iconst 0, 1) := by decide +kernel
theorem dX10_ask_45 : decode cX10_ask 45 = .ok (.istore 7, 2) := by decide +kernel
theorem dX10_ask_47 : decode cX10_ask 47 = .ok (.iload 7, 2) := by decide +kernel
theorem dX10_ask_49 : decode cX10_ask 49 = .ok (.bipush 42, 2) := by decide +kernel
theorem dX10_ask_51 : decode cX10_ask 51 = .ok (.if_icmp .ge 17, 3) := by decide +kernel
theorem dX10_ask_54 : decode cX10_ask 54 = .ok (.aload_n 0, 1) := by decide +kernel
theorem dX10_ask_55 : decode cX10_ask 55 = .ok (.getfield 80, 3) := by decide +kernel
theorem dX10_ask_58 : decode cX10_ask 58 = .ok (.iload 7, 2) := by decide +kernel
theorem dX10_ask_60 : decode cX10_ask 60 = .ok (.iconst 0, 1) := by decide +kernel
theorem dX10_ask_61 : decode cX10_ask 61 = .ok (.iastore, 1) := by decide +kernel
theorem dX10_ask_62 : decode cX10_ask 62 = .ok (.iinc 7 1, 3) := by decide +kernel
theorem dX10_ask_65 : decode cX10_ask 65 = .ok (.goto (-18), 3) := by decide +kernel
theorem dX10_ask_68 : decode cX10_ask 68 = .ok (.iconst 0, 1) := by decide +kernel
theorem dX10_ask_69 : decode cX10_ask 69 = .ok (.istore 7, 2) := by decide +kernel
theorem dX10_ask_71 : decode cX10_ask 71 = .ok (.iconst 0, 1) := by decide +kernel
theorem dX10_ask_72 : decode cX10_ask 72 = .ok (.istore 8, 2) := by decide +kernel
theorem dX10_ask_74 : decode cX10_ask 74 = .ok (.iload 8, 2) := by decide +kernel
theorem dX10_ask_76 : decode cX10_ask 76 = .ok (.iconst 4, 1) := by decide +kernel
theorem dX10_ask_77 : decode cX10_ask 77 = .ok (.if_icmp .ge 75, 3) := by decide +kernel
theorem dX10_ask_80 : decode cX10_ask 80 = .ok (.iload_n 3, 1) := by decide +kernel
theorem dX10_ask_81 : decode cX10_ask 81 = .ok (.iload 8, 2) := by decide +kernel
theorem dX10_ask_83 : decode cX10_ask 83 = .ok (.invokestatic 282, 3) := by decide +kernel
theorem dX10_ask_86 : decode cX10_ask 86 = .ok (.ifCond .ne 6, 3) := by decide +kernel
theorem dX10_ask_89 : decode cX10_ask 89 = .ok (.goto 57, 3) := by decide +kernel
theorem dX10_ask_92 : decode cX10_ask 92 = .ok (.aload_n 0, 1) := by decide +kernel
theorem dX10_ask_93 : decode cX10_ask 93 = .ok (.iload 8, 2) := by decide +kernel
theorem dX10_ask_95 : decode cX10_ask 95 = .ok (.invokevirtual 380, 3) := by decide +kernel
theorem dX10_ask_98 : decode cX10_ask 98 = .ok (.pop, 1) := by decide +kernel
theorem dX10_ask_99 : decode cX10_ask 99 = .ok (.iconst 1, 1) := by decide +kernel
theorem dX10_ask_100 : decode cX10_ask 100 = .ok (.aload_n 0, 1) := by decide +kernel
theorem dX10_ask_101 : decode cX10_ask 101 = .ok (.iload 6, 2) := by decide +kernel
theorem dX10_ask_103 : decode cX10_ask 103 = .ok (.invokevirtual 334, 3) := by decide +kernel
theorem dX10_ask_106 : decode cX10_ask 106 = .ok (.iadd, 1) := by decide +kernel
theorem dX10_ask_107 : decode cX10_ask 107 = .ok (.istore 9, 2) := by decide +kernel
theorem dX10_ask_109 : decode cX10_ask 109 = .ok (.aload_n 0, 1) := by decide +kernel
theorem dX10_ask_110 : decode cX10_ask 110 = .ok (.getfield 80, 3) := by decide +kernel
theorem dX10_ask_113 : decode cX10_ask 113 = .ok (.iload 9, 2) := by decide +kernel
theorem dX10_ask_115 : decode cX10_ask 115 = .ok (.dup2, 1) := by decide +kernel
theorem dX10_ask_116 : decode cX10_ask 116 = .ok (.iaload, 1) := by decide +kernel
theorem dX10_ask_117 : decode cX10_ask 117 = .ok (.iconst 1, 1) := by decide +kernel
theorem dX10_ask_118 : decode cX10_ask 118 = .ok (.iadd, 1) := by decide +kernel
theorem dX10_ask_119 : decode cX10_ask 119 = .ok (.iastore, 1) := by decide +kernel
theorem dX10_ask_120 : decode cX10_ask 120 = .ok (.aload_n 0, 1) := by decide +kernel
theorem dX10_ask_121 : decode cX10_ask 121 = .ok (.getfield 80, 3) := by decide +kernel
theorem dX10_ask_124 : decode cX10_ask 124 = .ok (.iload 9, 2) := by decide +kernel
theorem dX10_ask_126 : decode cX10_ask 126 = .ok (.iaload, 1) := by decide +kernel
theorem dX10_ask_127 : decode cX10_ask 127 = .ok (.iload 7, 2) := by decide +kernel
theorem dX10_ask_129 : decode cX10_ask 129 = .ok (.if_icmp .le 13, 3) := by decide +kernel
theorem dX10_ask_132 : decode cX10_ask 132 = .ok (.aload_n 0, 1) := by decide +kernel
theorem dX10_ask_133 : decode cX10_ask 133 = .ok (.getfield 80, 3) := by decide +kernel
theorem dX10_ask_136 : decode cX10_ask 136 = .ok (.iload 9, 2) := by decide +kernel
theorem dX10_ask_138 : decode cX10_ask 138 = .ok (.iaload, 1) := by decide +kernel
theorem dX10_ask_139 : decode cX10_ask 139 = .ok (.goto 5, 3) := by decide +kernel
theorem dX10_ask_142 : decode cX10_ask 142 = .ok (.iload 7, 2) := by decide +kernel
theorem dX10_ask_144 : decode cX10_ask 144 = .ok (.istore 7, 2) := by decide +kernel
theorem dX10_ask_146 : decode cX10_ask 146 = .ok (.iinc 8 1, 3) := by decide +kernel
theorem dX10_ask_149 : decode cX10_ask 149 = .ok (.goto (-75), 3) := by decide +kernel
theorem dX10_ask_152 : decode cX10_ask 152 = .ok (.iload 7, 2) := by decide +kernel
theorem dX10_ask_154 : decode cX10_ask 154 = .ok (.iload 5, 2) := by decide +kernel
theorem dX10_ask_156 : decode cX10_ask 156 = .ok (.if_icmp .lt 6, 3) := by decide +kernel
theorem dX10_ask_159 : decode cX10_ask 159 = .ok (.goto 11, 3) := by decide +kernel
theorem dX10_ask_162 : decode cX10_ask 162 = .ok (.iload 6, 2) := by decide +kernel
theorem dX10_ask_164 : decode cX10_ask 164 = .ok (.istore 4, 2) := by decide +kernel
theorem dX10_ask_166 : decode cX10_ask 166 = .ok (.iload 7, 2) := by decide +kernel
theorem dX10_ask_168 : decode cX10_ask 168 = .ok (.istore 5, 2) := by decide +kernel
theorem dX10_ask_170 : decode cX10_ask 170 = .ok (.iinc 6 1, 3) := by decide +kernel
theorem dX10_ask_173 : decode cX10_ask 173 = .ok (.goto (-138), 3) := by decide +kernel
theorem dX10_ask_176 : decode cX10_ask 176 = .ok (.iload 4, 2) := by decide +kernel
theorem dX10_ask_178 : decode cX10_ask 178 = .ok (.ireturn, 1) := by decide +kernel
theorem dX10_began_0 : decode cX10_began 0 = .ok (.aload_n 0, 1) := by decide +kernel
theorem dX10_began_1 : decode cX10_began 1 = .ok (.iconst 0, 1) := by decide +kernel
theorem dX10_began_2 : decode cX10_began 2 = .ok (.putfield 92, 3) := by decide +kernel
theorem dX10_began_5 : decode cX10_began 5 = .ok (.aload_n 0, 1) := by decide +kernel
theorem dX10_began_6 : decode cX10_began 6 = .ok (.iload_n 1, 1) := by decide +kernel
theorem dX10_began_7 : decode cX10_began 7 = .ok (.invokevirtual 401, 3) := by decide +kernel
theorem dX10_began_10 : decode cX10_began 10 = .ok (.istore_n 2, 1) := by decide +kernel
theorem dX10_began_11 : decode cX10_began 11 = .ok (.iload_n 2, 1) := by decide +kernel
theorem dX10_began_12 : decode cX10_began 12 = .ok (.ifCond .eq 5, 3) := by decide +kernel
theorem dX10_began_15 : decode cX10_began 15 = .ok (.iload_n 2, 1) := by decide +kernel
theorem dX10_began_16 : decode cX10_began 16 = .ok (.ireturn, 1) := by decide +kernel
theorem dX10_began_17 : decode cX10_began 17 = .ok (.aload_n 0, 1) := by decide +kernel
theorem dX10_began_18 : decode cX10_began 18 = .ok (.iload_n 1, 1) := by decide +kernel
theorem dX10_began_19 : decode cX10_began 19 = .ok (.invokevirtual 404, 3) := by decide +kernel
theorem dX10_began_22 : decode cX10_began 22 = .ok (.aload_n 0, 1) := by decide +kernel
theorem dX10_began_23 : decode cX10_began 23 = .ok (.getfield 392, 3) := by decide +kernel
theorem dX10_began_26 : decode cX10_began 26 = .ok (.ireturn, 1) := by decide +kernel
theorem dX10_home_0 : decode cX10_home 0 = .ok (.aload_n 0, 1) := by decide +kernel
theorem dX10_home_1 : decode cX10_home 1 = .ok (.iconst 0, 1) := by decide +kernel
theorem dX10_home_2 : decode cX10_home 2 = .ok (.putfield 92, 3) := by decide +kernel
theorem dX10_home_5 : decode cX10_home 5 = .ok (.aload_n 0, 1) := by decide +kernel
theorem dX10_home_6 : decode cX10_home 6 = .ok (.iload_n 1, 1) := by decide +kernel
theorem dX10_home_7 : decode cX10_home 7 = .ok (.i2l, 1) := by decide +kernel
theorem dX10_home_8 : decode cX10_home 8 = .ok (.invokevirtual 265, 3) := by decide +kernel
theorem dX10_home_11 : decode cX10_home 11 = .ok (.ifCond .ne 6, 3) := by decide +kernel
theorem dX10_home_14 : decode cX10_home 14 = .ok (.bipush (-2), 2) := by decide +kernel
theorem dX10_home_16 : decode cX10_home 16 = .ok (.ireturn, 1) := by decide +kernel
theorem dX10_home_17 : decode cX10_home 17 = .ok (.aload_n 0, 1) := by decide +kernel
theorem dX10_home_18 : decode cX10_home 18 = .ok (.invokevirtual 435, 3) := by decide +kernel
theorem dX10_home_21 : decode cX10_home 21 = .ok (.aload_n 0, 1) := by decide +kernel
theorem dX10_home_22 : decode cX10_home 22 = .ok (.getfield 89, 3) := by decide +kernel
theorem dX10_home_25 : decode cX10_home 25 = .ok (.iload_n 1, 1) := by decide +kernel
theorem dX10_home_26 : decode cX10_home 26 = .ok (.iaload, 1) := by decide +kernel
theorem dX10_home_27 : decode cX10_home 27 = .ok (.ireturn, 1) := by decide +kernel
theorem dX10_homes_0 : decode cX10_homes 0 = .ok (.aload_n 0, 1) := by decide +kernel
theorem dX10_homes_1 : decode cX10_homes 1 = .ok (.iconst 0, 1) := by decide +kernel
theorem dX10_homes_2 : decode cX10_homes 2 = .ok (.putfield 92, 3) := by decide +kernel
theorem dX10_homes_5 : decode cX10_homes 5 = .ok (.aload_n 0, 1) := by decide +kernel
theorem dX10_homes_6 : decode cX10_homes 6 = .ok (.invokevirtual 270, 3) := by decide +kernel
theorem dX10_homes_9 : decode cX10_homes 9 = .ok (.ifCond .ne 6, 3) := by decide +kernel
theorem dX10_homes_12 : decode cX10_homes 12 = .ok (.bipush (-2), 2) := by decide +kernel
theorem dX10_homes_14 : decode cX10_homes 14 = .ok (.ireturn, 1) := by decide +kernel
theorem dX10_homes_15 : decode cX10_homes 15 = .ok (.aload_n 0, 1) := by decide +kernel
theorem dX10_homes_16 : decode cX10_homes 16 = .ok (.invokevirtual 435, 3) := by decide +kernel
theorem dX10_homes_19 : decode cX10_homes 19 = .ok (.aload_n 0, 1) := by decide +kernel
theorem dX10_homes_20 : decode cX10_homes 20 = .ok (.getfield 426, 3) := by decide +kernel
theorem dX10_homes_23 : decode cX10_homes 23 = .ok (.ireturn, 1) := by decide +kernel
theorem dX10_homesFrom_0 : decode cX10_homesFrom 0 = .ok (.iload_n 1, 1) := by decide +kernel
theorem dX10_homesFrom_1 : decode cX10_homesFrom 1 = .ok (.aload_n 0, 1) := by decide +kernel
theorem dX10_homesFrom_2 : decode cX10_homesFrom 2 = .ok (.invokevirtual 262, 3) := by decide +kernel
theorem dX10_homesFrom_5 : decode cX10_homesFrom 5 = .ok (.if_icmp .ne 62, 3) := by decide +kernel
theorem dX10_homesFrom_8 : decode cX10_homesFrom 8 = .ok (.iload_n 3, 1) := by decide +kernel
theorem dX10_homesFrom_9 : decode cX10_homesFrom 9 = .ok (.aload_n 0, 1) := by decide +kernel
theorem dX10_homesFrom_10 : decode cX10_homesFrom 10 = .ok (.getfield 426, 3) := by decide +kernel
theorem dX10_homesFrom_13 : decode cX10_homesFrom 13 = .ok (.if_icmp .lt 18, 3) := by decide +kernel
theorem dX10_homesFrom_16 : decode cX10_homesFrom 16 = .ok (.iload_n 3, 1) := by decide +kernel
theorem dX10_homesFrom_17 : decode cX10_homesFrom 17 = .ok (.aload_n 0, 1) := by decide +kernel
theorem dX10_homesFrom_18 : decode cX10_homesFrom 18 = .ok (.getfield 426, 3) := by decide +kernel
theorem dX10_homesFrom_21 : decode cX10_homesFrom 21 = .ok (.if_icmp .ne 11, 3) := by decide +kernel
theorem dX10_homesFrom_24 : decode cX10_homesFrom 24 = .ok (.aload_n 0, 1) := by decide +kernel
theorem dX10_homesFrom_25 : decode cX10_homesFrom 25 = .ok (.invokevirtual 429, 3) := by decide +kernel
theorem dX10_homesFrom_28 : decode cX10_homesFrom 28 = .ok (.ifCond .ne 4, 3) := by decide +kernel
theorem dX10_homesFrom_31 : decode cX10_homesFrom 31 = .ok (.return_, 1) := by decide +kernel
theorem dX10_homesFrom_32 : decode cX10_homesFrom 32 = .ok (.aload_n 0, 1) := by decide +kernel
theorem dX10_homesFrom_33 : decode cX10_homesFrom 33 = .ok (.iload_n 3, 1) := by decide +kernel
theorem dX10_homesFrom_34 : decode cX10_homesFrom 34 = .ok (.putfield 426, 3) := by decide +kernel
theorem dX10_homesFrom_37 : decode cX10_homesFrom 37 = .ok (.iconst 0, 1) := by decide +kernel
theorem dX10_homesFrom_38 : decode cX10_homesFrom 38 = .ok (.istore 4, 2) := by decide +kernel
theorem dX10_homesFrom_40 : decode cX10_homesFrom 40 = .ok (.iload 4, 2) := by decide +kernel
theorem dX10_homesFrom_42 : decode cX10_homesFrom 42 = .ok (.iload_n 1, 1) := by decide +kernel
theorem dX10_homesFrom_43 : decode cX10_homesFrom 43 = .ok (.if_icmp .ge 23, 3) := by decide +kernel
theorem dX10_homesFrom_46 : decode cX10_homesFrom 46 = .ok (.aload_n 0, 1) := by decide +kernel
theorem dX10_homesFrom_47 : decode cX10_homesFrom 47 = .ok (.getfield 89, 3) := by decide +kernel
theorem dX10_homesFrom_50 : decode cX10_homesFrom 50 = .ok (.iload 4, 2) := by decide +kernel
theorem dX10_homesFrom_52 : decode cX10_homesFrom 52 = .ok (.aload_n 0, 1) := by decide +kernel
theorem dX10_homesFrom_53 : decode cX10_homesFrom 53 = .ok (.getfield 86, 3) := by decide +kernel
theorem dX10_homesFrom_56 : decode cX10_homesFrom 56 = .ok (.iload 4, 2) := by decide +kernel
theorem dX10_homesFrom_58 : decode cX10_homesFrom 58 = .ok (.iaload, 1) := by decide +kernel
theorem dX10_homesFrom_59 : decode cX10_homesFrom 59 = .ok (.iastore, 1) := by decide +kernel
theorem dX10_homesFrom_60 : decode cX10_homesFrom 60 = .ok (.iinc 4 1, 3) := by decide +kernel
theorem dX10_homesFrom_63 : decode cX10_homesFrom 63 = .ok (.goto (-23), 3) := by decide +kernel
theorem dX10_homesFrom_66 : decode cX10_homesFrom 66 = .ok (.return_, 1) := by decide +kernel
theorem dX10_homesFrom_67 : decode cX10_homesFrom 67 = .ok (.iconst 0, 1) := by decide +kernel
theorem dX10_homesFrom_68 : decode cX10_homesFrom 68 = .ok (.istore 4, 2) := by decide +kernel
theorem dX10_homesFrom_70 : decode cX10_homesFrom 70 = .ok (.iload 4, 2) := by decide +kernel
theorem dX10_homesFrom_72 : decode cX10_homesFrom 72 = .ok (.aload_n 0, 1) := by decide +kernel
theorem dX10_homesFrom_73 : decode cX10_homesFrom 73 = .ok (.invokevirtual 262, 3) := by decide +kernel
theorem dX10_homesFrom_76 : decode cX10_homesFrom 76 = .ok (.if_icmp .ge 74, 3) := by decide +kernel
theorem dX10_homesFrom_79 : decode cX10_homesFrom 79 = .ok (.iload_n 2, 1) := by decide +kernel
theorem dX10_homesFrom_80 : decode cX10_homesFrom 80 = .ok (.iload 4, 2) := by decide +kernel
theorem dX10_homesFrom_82 : decode cX10_homesFrom 82 = .ok (.invokestatic 282, 3) := by decide +kernel
theorem dX10_homesFrom_85 : decode cX10_homesFrom 85 = .ok (.ifCond .eq 6, 3) := by decide +kernel
theorem dX10_homesFrom_88 : decode cX10_homesFrom 88 = .ok (.goto 56, 3) := by decide +kernel
theorem dX10_homesFrom_91 : decode cX10_homesFrom 91 = .ok (.aload_n 0, 1) := by decide +kernel
theorem dX10_homesFrom_92 : decode cX10_homesFrom 92 = .ok (.getfield 86, 3) := by decide +kernel
theorem dX10_homesFrom_95 : decode cX10_homesFrom 95 = .ok (.iload_n 1, 1) := by decide +kernel
theorem dX10_homesFrom_96 : decode cX10_homesFrom 96 = .ok (.aload_n 0, 1) := by decide +kernel
theorem dX10_homesFrom_97 : decode cX10_homesFrom 97 = .ok (.getfield 40, 3) := by decide +kernel
theorem dX10_homesFrom_100 : decode cX10_homesFrom 100 = .ok (.iconst 3, 1) := by decide +kernel
theorem dX10_homesFrom_101 : decode cX10_homesFrom 101 = .ok (.iload 4, 2) := by decide +kernel
theorem dX10_homesFrom_103 : decode cX10_homesFrom 103 = .ok (.imul, 1) := by decide +kernel
theorem dX10_homesFrom_104 : decode cX10_homesFrom 104 = .ok (.iaload, 1) := by decide +kernel
theorem dX10_homesFrom_105 : decode cX10_homesFrom 105 = .ok (.iastore, 1) := by decide +kernel
theorem dX10_homesFrom_106 : decode cX10_homesFrom 106 = .ok (.aload_n 0, 1) := by decide +kernel
theorem dX10_homesFrom_107 : decode cX10_homesFrom 107 = .ok (.iload_n 1, 1) := by decide +kernel
theorem dX10_homesFrom_108 : decode cX10_homesFrom 108 = .ok (.iconst 1, 1) := by decide +kernel
theorem dX10_homesFrom_109 : decode cX10_homesFrom 109 = .ok (.iadd, 1) := by decide +kernel
theorem dX10_homesFrom_110 : decode cX10_homesFrom 110 = .ok (.iload_n 2, 1) := by decide +kernel
theorem dX10_homesFrom_111 : decode cX10_homesFrom 111 = .ok (.iconst 1, 1) := by decide +kernel
theorem dX10_homesFrom_112 : decode cX10_homesFrom 112 = .ok (.iload 4, 2) := by decide +kernel
theorem dX10_homesFrom_114 : decode cX10_homesFrom 114 = .ok (.ishl, 1) := by decide +kernel
theorem dX10_homesFrom_115 : decode cX10_homesFrom 115 = .ok (.ior, 1) := by decide +kernel
theorem dX10_homesFrom_116 : decode cX10_homesFrom 116 = .ok (.iload_n 3, 1) := by decide +kernel
theorem dX10_homesFrom_117 : decode cX10_homesFrom 117 = .ok (.aload_n 0, 1) := by decide +kernel
theorem dX10_homesFrom_118 : decode cX10_homesFrom 118 = .ok (.iload_n 1, 1) := by decide +kernel
theorem dX10_homesFrom_119 : decode cX10_homesFrom 119 = .ok (.aload_n 0, 1) := by decide +kernel
theorem dX10_homesFrom_120 : decode cX10_homesFrom 120 = .ok (.getfield 86, 3) := by decide +kernel
theorem dX10_homesFrom_123 : decode cX10_homesFrom 123 = .ok (.iload_n 1, 1) := by decide +kernel
theorem dX10_homesFrom_124 : decode cX10_homesFrom 124 = .ok (.iaload, 1) := by decide +kernel
theorem dX10_homesFrom_125 : decode cX10_homesFrom 125 = .ok (.invokevirtual 317, 3) := by decide +kernel
theorem dX10_homesFrom_128 : decode cX10_homesFrom 128 = .ok (.ifCond .eq 11, 3) := by decide +kernel
theorem dX10_homesFrom_131 : decode cX10_homesFrom 131 = .ok (.aload_n 0, 1) := by decide +kernel
theorem dX10_homesFrom_132 : decode cX10_homesFrom 132 = .ok (.iload_n 1, 1) := by decide +kernel
theorem dX10_homesFrom_133 : decode cX10_homesFrom 133 = .ok (.invokevirtual 320, 3) := by decide +kernel
theorem dX10_homesFrom_136 : decode cX10_homesFrom 136 = .ok (.goto 4, 3) := by decide +kernel
theorem dX10_homesFrom_139 : decode cX10_homesFrom 139 = .ok (.iconst 0, 1) := by decide +kernel
theorem dX10_homesFrom_140 : decode cX10_homesFrom 140 = .ok (.iadd, 1) := by decide +kernel
theorem dX10_homesFrom_141 : decode cX10_homesFrom 141 = .ok (.invokevirtual 432, 3) := by decide +kernel
theorem dX10_homesFrom_144 : decode cX10_homesFrom 144 = .ok (.iinc 4 1, 3) := by decide +kernel
theorem dX10_homesFrom_147 : decode cX10_homesFrom 147 = .ok (.goto (-77), 3) := by decide +kernel
theorem dX10_homesFrom_150 : decode cX10_homesFrom 150 = .ok (.return_, 1) := by decide +kernel
theorem dX10_isByLaw_0 : decode cX10_isByLaw 0 = .ok (.aload_n 0, 1) := by decide +kernel
theorem dX10_isByLaw_1 : decode cX10_isByLaw 1 = .ok (.iload_n 2, 1) := by decide +kernel
theorem dX10_isByLaw_2 : decode cX10_isByLaw 2 = .ok (.invokevirtual 380, 3) := by decide +kernel
theorem dX10_isByLaw_5 : decode cX10_isByLaw 5 = .ok (.pop, 1) := by decide +kernel
theorem dX10_isByLaw_6 : decode cX10_isByLaw 6 = .ok (.iconst 0, 1) := by decide +kernel
theorem dX10_isByLaw_7 : decode cX10_isByLaw 7 = .ok (.istore_n 3, 1) := by decide +kernel
theorem dX10_isByLaw_8 : decode cX10_isByLaw 8 = .ok (.iload_n 3, 1) := by decide +kernel
theorem dX10_isByLaw_9 : decode cX10_isByLaw 9 = .ok (.aload_n 0, 1) := by decide +kernel
theorem dX10_isByLaw_10 : decode cX10_isByLaw 10 = .ok (.getfield 13, 3) := by decide +kernel
theorem dX10_isByLaw_13 : decode cX10_isByLaw 13 = .ok (.iload_n 1, 1) := by decide +kernel
theorem dX10_isByLaw_14 : decode cX10_isByLaw 14 = .ok (.iaload, 1) := by decide +kernel
theorem dX10_isByLaw_15 : decode cX10_isByLaw 15 = .ok (.if_icmp .ge 60, 3) := by decide +kernel
theorem dX10_isByLaw_18 : decode cX10_isByLaw 18 = .ok (.bipush 60, 2) := by decide +kernel
theorem dX10_isByLaw_20 : decode cX10_isByLaw 20 = .ok (.iload_n 1, 1) := by decide +kernel
theorem dX10_isByLaw_21 : decode cX10_isByLaw 21 = .ok (.imul, 1) := by decide +kernel
theorem dX10_isByLaw_22 : decode cX10_isByLaw 22 = .ok (.iload_n 3, 1) := by decide +kernel
theorem dX10_isByLaw_23 : decode cX10_isByLaw 23 = .ok (.iadd, 1) := by decide +kernel
theorem dX10_isByLaw_24 : decode cX10_isByLaw 24 = .ok (.istore 4, 2) := by decide +kernel
theorem dX10_isByLaw_26 : decode cX10_isByLaw 26 = .ok (.aload_n 0, 1) := by decide +kernel
theorem dX10_isByLaw_27 : decode cX10_isByLaw 27 = .ok (.getfield 53, 3) := by decide +kernel
theorem dX10_isByLaw_30 : decode cX10_isByLaw 30 = .ok (.bipush 41, 2) := by decide +kernel
theorem dX10_isByLaw_32 : decode cX10_isByLaw 32 = .ok (.aload_n 0, 1) := by decide +kernel
theorem dX10_isByLaw_33 : decode cX10_isByLaw 33 = .ok (.getfield 16, 3) := by decide +kernel
theorem dX10_isByLaw_36 : decode cX10_isByLaw 36 = .ok (.iload 4, 2) := by decide +kernel
theorem dX10_isByLaw_38 : decode cX10_isByLaw 38 = .ok (.laload, 1) := by decide +kernel
theorem dX10_isByLaw_39 : decode cX10_isByLaw 39 = .ok (.l2i, 1) := by decide +kernel
theorem dX10_isByLaw_40 : decode cX10_isByLaw 40 = .ok (.imul, 1) := by decide +kernel
theorem dX10_isByLaw_41 : decode cX10_isByLaw 41 = .ok (.aload_n 0, 1) := by decide +kernel
theorem dX10_isByLaw_42 : decode cX10_isByLaw 42 = .ok (.getfield 16, 3) := by decide +kernel
theorem dX10_isByLaw_45 : decode cX10_isByLaw 45 = .ok (.iload 4, 2) := by decide +kernel
theorem dX10_isByLaw_47 : decode cX10_isByLaw 47 = .ok (.iconst 1, 1) := by decide +kernel
theorem dX10_isByLaw_48 : decode cX10_isByLaw 48 = .ok (.iadd, 1) := by decide +kernel
theorem dX10_isByLaw_49 : decode cX10_isByLaw 49 = .ok (.laload, 1) := by decide +kernel
theorem dX10_isByLaw_50 : decode cX10_isByLaw 50 = .ok (.l2i, 1) := by decide +kernel
theorem dX10_isByLaw_51 : decode cX10_isByLaw 51 = .ok (.iadd, 1) := by decide +kernel
theorem dX10_isByLaw_52 : decode cX10_isByLaw 52 = .ok (.iaload, 1) := by decide +kernel
theorem dX10_isByLaw_53 : decode cX10_isByLaw 53 = .ok (.i2l, 1) := by decide +kernel
theorem dX10_isByLaw_54 : decode cX10_isByLaw 54 = .ok (.aload_n 0, 1) := by decide +kernel
theorem dX10_isByLaw_55 : decode cX10_isByLaw 55 = .ok (.getfield 16, 3) := by decide +kernel
theorem dX10_isByLaw_58 : decode cX10_isByLaw 58 = .ok (.iload 4, 2) := by decide +kernel
theorem dX10_isByLaw_60 : decode cX10_isByLaw 60 = .ok (.iconst 2, 1) := by decide +kernel
theorem dX10_isByLaw_61 : decode cX10_isByLaw 61 = .ok (.iadd, 1) := by decide +kernel
theorem dX10_isByLaw_62 : decode cX10_isByLaw 62 = .ok (.laload, 1) := by decide +kernel
theorem dX10_isByLaw_63 : decode cX10_isByLaw 63 = .ok (.lcmp, 1) := by decide +kernel
theorem dX10_isByLaw_64 : decode cX10_isByLaw 64 = .ok (.ifCond .eq 5, 3) := by decide +kernel
theorem dX10_isByLaw_67 : decode cX10_isByLaw 67 = .ok (.iconst 0, 1) := by decide +kernel
theorem dX10_isByLaw_68 : decode cX10_isByLaw 68 = .ok (.ireturn, 1) := by decide +kernel
theorem dX10_isByLaw_69 : decode cX10_isByLaw 69 = .ok (.iinc 3 3, 3) := by decide +kernel
theorem dX10_isByLaw_72 : decode cX10_isByLaw 72 = .ok (.goto (-64), 3) := by decide +kernel
theorem dX10_isByLaw_75 : decode cX10_isByLaw 75 = .ok (.iconst 1, 1) := by decide +kernel
theorem dX10_isByLaw_76 : decode cX10_isByLaw 76 = .ok (.ireturn, 1) := by decide +kernel
theorem dX10_laws_0 : decode cX10_laws 0 = .ok (.aload_n 0, 1) := by decide +kernel
theorem dX10_laws_1 : decode cX10_laws 1 = .ok (.iconst 0, 1) := by decide +kernel
theorem dX10_laws_2 : decode cX10_laws 2 = .ok (.putfield 92, 3) := by decide +kernel
theorem dX10_laws_5 : decode cX10_laws 5 = .ok (.aload_n 0, 1) := by decide +kernel
theorem dX10_laws_6 : decode cX10_laws 6 = .ok (.iload_n 1, 1) := by decide +kernel
theorem dX10_laws_7 : decode cX10_laws 7 = .ok (.invokevirtual 386, 3) := by decide +kernel
theorem dX10_laws_10 : decode cX10_laws 10 = .ok (.istore_n 2, 1) := by decide +kernel
theorem dX10_laws_11 : decode cX10_laws 11 = .ok (.iload_n 2, 1) := by decide +kernel
theorem dX10_laws_12 : decode cX10_laws 12 = .ok (.ifCond .eq 7, 3) := by decide +kernel
theorem dX10_laws_15 : decode cX10_laws 15 = .ok (.iload_n 2, 1) := by decide +kernel
theorem dX10_laws_16 : decode cX10_laws 16 = .ok (.goto 8, 3) := by decide +kernel
theorem dX10_laws_19 : decode cX10_laws 19 = .ok (.aload_n 0, 1) := by decide +kernel
theorem dX10_laws_20 : decode cX10_laws 20 = .ok (.iload_n 1, 1) := by decide +kernel
theorem dX10_laws_21 : decode cX10_laws 21 = .ok (.invokevirtual 389, 3) := by decide +kernel
theorem dX10_laws_24 : decode cX10_laws 24 = .ok (.ireturn, 1) := by decide +kernel
theorem dX10_lawsOf_0 : decode cX10_lawsOf 0 = .ok (.iconst 0, 1) := by decide +kernel
theorem dX10_lawsOf_1 : decode cX10_lawsOf 1 = .ok (.istore_n 2, 1) := by decide +kernel
theorem dX10_lawsOf_2 : decode cX10_lawsOf 2 = .ok (.iconst 0, 1) := by decide +kernel
theorem dX10_lawsOf_3 : decode cX10_lawsOf 3 = .ok (.istore_n 3, 1) := by decide +kernel
theorem dX10_lawsOf_4 : decode cX10_lawsOf 4 = .ok (.iload_n 3, 1) := by decide +kernel
theorem dX10_lawsOf_5 : decode cX10_lawsOf 5 = .ok (.iconst 4, 1) := by decide +kernel
theorem dX10_lawsOf_6 : decode cX10_lawsOf 6 = .ok (.if_icmp .ge 28, 3) := by decide +kernel
theorem dX10_lawsOf_9 : decode cX10_lawsOf 9 = .ok (.iload_n 2, 1) := by decide +kernel
theorem dX10_lawsOf_10 : decode cX10_lawsOf 10 = .ok (.aload_n 0, 1) := by decide +kernel
theorem dX10_lawsOf_11 : decode cX10_lawsOf 11 = .ok (.iload_n 1, 1) := by decide +kernel
theorem dX10_lawsOf_12 : decode cX10_lawsOf 12 = .ok (.iload_n 3, 1) := by decide +kernel
theorem dX10_lawsOf_13 : decode cX10_lawsOf 13 = .ok (.invokevirtual 383, 3) := by decide +kernel
theorem dX10_lawsOf_16 : decode cX10_lawsOf 16 = .ok (.ifCond .eq 9, 3) := by decide +kernel
theorem dX10_lawsOf_19 : decode cX10_lawsOf 19 = .ok (.iconst 1, 1) := by decide +kernel
theorem dX10_lawsOf_20 : decode cX10_lawsOf 20 = .ok (.iload_n 3, 1) := by decide +kernel
theorem dX10_lawsOf_21 : decode cX10_lawsOf 21 = .ok (.ishl, 1) := by decide +kernel
theorem dX10_lawsOf_22 : decode cX10_lawsOf 22 = .ok (.goto 4, 3) := by decide +kernel
theorem dX10_lawsOf_25 : decode cX10_lawsOf 25 = .ok (.iconst 0, 1) := by decide +kernel
theorem dX10_lawsOf_26 : decode cX10_lawsOf 26 = .ok (.ior, 1) := by decide +kernel
theorem dX10_lawsOf_27 : decode cX10_lawsOf 27 = .ok (.istore_n 2, 1) := by decide +kernel
theorem dX10_lawsOf_28 : decode cX10_lawsOf 28 = .ok (.iinc 3 1, 3) := by decide +kernel
theorem dX10_lawsOf_31 : decode cX10_lawsOf 31 = .ok (.goto (-27), 3) := by decide +kernel
theorem dX10_lawsOf_34 : decode cX10_lawsOf 34 = .ok (.iload_n 2, 1) := by decide +kernel
theorem dX10_lawsOf_35 : decode cX10_lawsOf 35 = .ok (.ireturn, 1) := by decide +kernel
theorem dX10_laysBegan_0 : decode cX10_laysBegan 0 = .ok (.aload_n 0, 1) := by decide +kernel
theorem dX10_laysBegan_1 : decode cX10_laysBegan 1 = .ok (.invokevirtual 308, 3) := by decide +kernel
theorem dX10_laysBegan_4 : decode cX10_laysBegan 4 = .ok (.aload_n 0, 1) := by decide +kernel
theorem dX10_laysBegan_5 : decode cX10_laysBegan 5 = .ok (.iconst 0, 1) := by decide +kernel
theorem dX10_laysBegan_6 : decode cX10_laysBegan 6 = .ok (.putfield 392, 3) := by decide +kernel
theorem dX10_laysBegan_9 : decode cX10_laysBegan 9 = .ok (.aload_n 0, 1) := by decide +kernel
theorem dX10_laysBegan_10 : decode cX10_laysBegan 10 = .ok (.iconst 0, 1) := by decide +kernel
theorem dX10_laysBegan_11 : decode cX10_laysBegan 11 = .ok (.putfield 395, 3) := by decide +kernel
theorem dX10_laysBegan_14 : decode cX10_laysBegan 14 = .ok (.iconst 0, 1) := by decide +kernel
theorem dX10_laysBegan_15 : decode cX10_laysBegan 15 = .ok (.istore_n 2, 1) := by decide +kernel
theorem dX10_laysBegan_16 : decode cX10_laysBegan 16 = .ok (.iload_n 2, 1) := by decide +kernel
theorem dX10_laysBegan_17 : decode cX10_laysBegan 17 = .ok (.bipush 6, 2) := by decide +kernel
theorem dX10_laysBegan_19 : decode cX10_laysBegan 19 = .ok (.if_icmp .ge 16, 3) := by decide +kernel
theorem dX10_laysBegan_22 : decode cX10_laysBegan 22 = .ok (.aload_n 0, 1) := by decide +kernel
theorem dX10_laysBegan_23 : decode cX10_laysBegan 23 = .ok (.getfield 83, 3) := by decide +kernel
theorem dX10_laysBegan_26 : decode cX10_laysBegan 26 = .ok (.iload_n 2, 1) := by decide +kernel
theorem dX10_laysBegan_27 : decode cX10_laysBegan 27 = .ok (.iconst 0, 1) := by decide +kernel
theorem dX10_laysBegan_28 : decode cX10_laysBegan 28 = .ok (.iastore, 1) := by decide +kernel
theorem dX10_laysBegan_29 : decode cX10_laysBegan 29 = .ok (.iinc 2 1, 3) := by decide +kernel
theorem dX10_laysBegan_32 : decode cX10_laysBegan 32 = .ok (.goto (-16), 3) := by decide +kernel
theorem dX10_laysBegan_35 : decode cX10_laysBegan 35 = .ok (.iconst 0, 1) := by decide +kernel
theorem dX10_laysBegan_36 : decode cX10_laysBegan 36 = .ok (.istore_n 2, 1) := by decide +kernel
theorem dX10_laysBegan_37 : decode cX10_laysBegan 37 = .ok (.iload_n 2, 1) := by decide +kernel
theorem dX10_laysBegan_38 : decode cX10_laysBegan 38 = .ok (.iconst 4, 1) := by decide +kernel
theorem dX10_laysBegan_39 : decode cX10_laysBegan 39 = .ok (.aload_n 0, 1) := by decide +kernel
theorem dX10_laysBegan_40 : decode cX10_laysBegan 40 = .ok (.invokevirtual 256, 3) := by decide +kernel
theorem dX10_laysBegan_43 : decode cX10_laysBegan 43 = .ok (.imul, 1) := by decide +kernel
theorem dX10_laysBegan_44 : decode cX10_laysBegan 44 = .ok (.if_icmp .ge 167, 3) := by decide +kernel
theorem dX10_laysBegan_47 : decode cX10_laysBegan 47 = .ok (.aload_n 0, 1) := by decide +kernel
theorem dX10_laysBegan_48 : decode cX10_laysBegan 48 = .ok (.iconst 4, 1) := by decide +kernel
theorem dX10_laysBegan_49 : decode cX10_laysBegan 49 = .ok (.iload_n 2, 1) := by decide +kernel
theorem dX10_laysBegan_50 : decode cX10_laysBegan 50 = .ok (.iconst 4, 1) := by decide +kernel
theorem dX10_laysBegan_51 : decode cX10_laysBegan 51 = .ok (.idiv, 1) := by decide +kernel
theorem dX10_laysBegan_52 : decode cX10_laysBegan 52 = .ok (.iload_n 2, 1) := by decide +kernel
theorem dX10_laysBegan_53 : decode cX10_laysBegan 53 = .ok (.iconst 4, 1) := by decide +kernel
theorem dX10_laysBegan_54 : decode cX10_laysBegan 54 = .ok (.irem, 1) := by decide +kernel
theorem dX10_laysBegan_55 : decode cX10_laysBegan 55 = .ok (.invokevirtual 298, 3) := by decide +kernel
theorem dX10_laysBegan_58 : decode cX10_laysBegan 58 = .ok (.iconst 1, 1) := by decide +kernel
theorem dX10_laysBegan_59 : decode cX10_laysBegan 59 = .ok (.istore_n 3, 1) := by decide +kernel
theorem dX10_laysBegan_60 : decode cX10_laysBegan 60 = .ok (.iconst 0, 1) := by decide +kernel
theorem dX10_laysBegan_61 : decode cX10_laysBegan 61 = .ok (.istore 4, 2) := by decide +kernel
theorem dX10_laysBegan_63 : decode cX10_laysBegan 63 = .ok (.iload 4, 2) := by decide +kernel
theorem dX10_laysBegan_65 : decode cX10_laysBegan 65 = .ok (.aload_n 0, 1) := by decide +kernel
theorem dX10_laysBegan_66 : decode cX10_laysBegan 66 = .ok (.getfield 13, 3) := by decide +kernel
theorem dX10_laysBegan_69 : decode cX10_laysBegan 69 = .ok (.iload_n 1, 1) := by decide +kernel
theorem dX10_laysBegan_70 : decode cX10_laysBegan 70 = .ok (.iaload, 1) := by decide +kernel
theorem dX10_laysBegan_71 : decode cX10_laysBegan 71 = .ok (.if_icmp .ge 61, 3) := by decide +kernel
theorem dX10_laysBegan_74 : decode cX10_laysBegan 74 = .ok (.iload_n 3, 1) := by decide +kernel
theorem dX10_laysBegan_75 : decode cX10_laysBegan 75 = .ok (.aload_n 0, 1) := by decide +kernel
theorem dX10_laysBegan_76 : decode cX10_laysBegan 76 = .ok (.aload_n 0, 1) := by decide +kernel
theorem dX10_laysBegan_77 : decode cX10_laysBegan 77 = .ok (.getfield 16, 3) := by decide +kernel
theorem dX10_laysBegan_80 : decode cX10_laysBegan 80 = .ok (.bipush 60, 2) := by decide +kernel
theorem dX10_laysBegan_82 : decode cX10_laysBegan 82 = .ok (.iload_n 1, 1) := by decide +kernel
theorem dX10_laysBegan_83 : decode cX10_laysBegan 83 = .ok (.imul, 1) := by decide +kernel
theorem dX10_laysBegan_84 : decode cX10_laysBegan 84 = .ok (.iload 4, 2) := by decide +kernel
theorem dX10_laysBegan_86 : decode cX10_laysBegan 86 = .ok (.iadd, 1) := by decide +kernel
theorem dX10_laysBegan_87 : decode cX10_laysBegan 87 = .ok (.laload, 1) := by decide +kernel
theorem dX10_laysBegan_88 : decode cX10_laysBegan 88 = .ok (.l2i, 1) := by decide +kernel
theorem dX10_laysBegan_89 : decode cX10_laysBegan 89 = .ok (.invokevirtual 398, 3) := by decide +kernel
theorem dX10_laysBegan_92 : decode cX10_laysBegan 92 = .ok (.aload_n 0, 1) := by decide +kernel
theorem dX10_laysBegan_93 : decode cX10_laysBegan 93 = .ok (.getfield 16, 3) := by decide +kernel
theorem dX10_laysBegan_96 : decode cX10_laysBegan 96 = .ok (.bipush 60, 2) := by decide +kernel
theorem dX10_laysBegan_98 : decode cX10_laysBegan 98 = .ok (.iload_n 1, 1) := by decide +kernel
theorem dX10_laysBegan_99 : decode cX10_laysBegan 99 = .ok (.imul, 1) := by decide +kernel
theorem dX10_laysBegan_100 : decode cX10_laysBegan 100 = .ok (.iload 4, 2) := by decide +kernel
theorem dX10_laysBegan_102 : decode cX10_laysBegan 102 = .ok (.iadd, 1) := by decide +kernel
theorem dX10_laysBegan_103 : decode cX10_laysBegan 103 = .ok (.iconst 1, 1) := by decide +kernel
theorem dX10_laysBegan_104 : decode cX10_laysBegan 104 = .ok (.iadd, 1) := by decide +kernel
theorem dX10_laysBegan_105 : decode cX10_laysBegan 105 = .ok (.laload, 1) := by decide +kernel
theorem dX10_laysBegan_106 : decode cX10_laysBegan 106 = .ok (.lconst 1, 1) := by decide +kernel
theorem dX10_laysBegan_107 : decode cX10_laysBegan 107 = .ok (.lcmp, 1) := by decide +kernel
theorem dX10_laysBegan_108 : decode cX10_laysBegan 108 = .ok (.ifCond .ne 7, 3) := by decide +kernel
theorem dX10_laysBegan_111 : decode cX10_laysBegan 111 = .ok (.iconst 1, 1) := by decide +kernel
theorem dX10_laysBegan_112 : decode cX10_laysBegan 112 = .ok (.goto 4, 3) := by decide +kernel
theorem dX10_laysBegan_115 : decode cX10_laysBegan 115 = .ok (.iconst 0, 1) := by decide +kernel
theorem dX10_laysBegan_116 : decode cX10_laysBegan 116 = .ok (.if_icmp .ne 7, 3) := by decide +kernel
theorem dX10_laysBegan_119 : decode cX10_laysBegan 119 = .ok (.iconst 1, 1) := by decide +kernel
theorem dX10_laysBegan_120 : decode cX10_laysBegan 120 = .ok (.goto 4, 3) := by decide +kernel
theorem dX10_laysBegan_123 : decode cX10_laysBegan 123 = .ok (.iconst 0, 1) := by decide +kernel
theorem dX10_laysBegan_124 : decode cX10_laysBegan 124 = .ok (.iand, 1) := by decide +kernel
theorem dX10_laysBegan_125 : decode cX10_laysBegan 125 = .ok (.istore_n 3, 1) := by decide +kernel
theorem dX10_laysBegan_126 : decode cX10_laysBegan 126 = .ok (.iinc 4 2, 3) := by decide +kernel
theorem dX10_laysBegan_129 : decode cX10_laysBegan 129 = .ok (.goto (-66), 3) := by decide +kernel
theorem dX10_laysBegan_132 : decode cX10_laysBegan 132 = .ok (.iload_n 3, 1) := by decide +kernel
theorem dX10_laysBegan_133 : decode cX10_laysBegan 133 = .ok (.ifCond .ne 6, 3) := by decide +kernel
theorem dX10_laysBegan_136 : decode cX10_laysBegan 136 = .ok (.goto 69, 3) := by decide +kernel
theorem dX10_laysBegan_139 : decode cX10_laysBegan 139 = .ok (.aload_n 0, 1) := by decide +kernel
theorem dX10_laysBegan_140 : decode cX10_laysBegan 140 = .ok (.dup, 1) := by decide +kernel
theorem dX10_laysBegan_141 : decode cX10_laysBegan 141 = .ok (.getfield 392, 3) := by decide +kernel
theorem dX10_laysBegan_144 : decode cX10_laysBegan 144 = .ok (.iconst 1, 1) := by decide +kernel
theorem dX10_laysBegan_145 : decode cX10_laysBegan 145 = .ok (.iadd, 1) := by decide +kernel
theorem dX10_laysBegan_146 : decode cX10_laysBegan 146 = .ok (.putfield 392, 3) := by decide +kernel
theorem dX10_laysBegan_149 : decode cX10_laysBegan 149 = .ok (.aload_n 0, 1) := by decide +kernel
theorem dX10_laysBegan_150 : decode cX10_laysBegan 150 = .ok (.dup, 1) := by decide +kernel
theorem dX10_laysBegan_151 : decode cX10_laysBegan 151 = .ok (.getfield 395, 3) := by decide +kernel
theorem dX10_laysBegan_154 : decode cX10_laysBegan 154 = .ok (.iconst 1, 1) := by decide +kernel
theorem dX10_laysBegan_155 : decode cX10_laysBegan 155 = .ok (.iload_n 2, 1) := by decide +kernel
theorem dX10_laysBegan_156 : decode cX10_laysBegan 156 = .ok (.iconst 4, 1) := by decide +kernel
theorem dX10_laysBegan_157 : decode cX10_laysBegan 157 = .ok (.idiv, 1) := by decide +kernel
theorem dX10_laysBegan_158 : decode cX10_laysBegan 158 = .ok (.ishl, 1) := by decide +kernel
theorem dX10_laysBegan_159 : decode cX10_laysBegan 159 = .ok (.ior, 1) := by decide +kernel
theorem dX10_laysBegan_160 : decode cX10_laysBegan 160 = .ok (.putfield 395, 3) := by decide +kernel
theorem dX10_laysBegan_163 : decode cX10_laysBegan 163 = .ok (.iconst 0, 1) := by decide +kernel
theorem dX10_laysBegan_164 : decode cX10_laysBegan 164 = .ok (.istore 4, 2) := by decide +kernel
theorem dX10_laysBegan_166 : decode cX10_laysBegan 166 = .ok (.iload 4, 2) := by decide +kernel
theorem dX10_laysBegan_168 : decode cX10_laysBegan 168 = .ok (.aload_n 0, 1) := by decide +kernel
theorem dX10_laysBegan_169 : decode cX10_laysBegan 169 = .ok (.invokevirtual 262, 3) := by decide +kernel
theorem dX10_laysBegan_172 : decode cX10_laysBegan 172 = .ok (.if_icmp .ge 33, 3) := by decide +kernel
theorem dX10_laysBegan_175 : decode cX10_laysBegan 175 = .ok (.aload_n 0, 1) := by decide +kernel
theorem dX10_laysBegan_176 : decode cX10_laysBegan 176 = .ok (.getfield 83, 3) := by decide +kernel
theorem dX10_laysBegan_179 : decode cX10_laysBegan 179 = .ok (.iload 4, 2) := by decide +kernel
theorem dX10_laysBegan_181 : decode cX10_laysBegan 181 = .ok (.dup2, 1) := by decide +kernel
theorem dX10_laysBegan_182 : decode cX10_laysBegan 182 = .ok (.iaload, 1) := by decide +kernel
theorem dX10_laysBegan_183 : decode cX10_laysBegan 183 = .ok (.aload_n 0, 1) := by decide +kernel
theorem dX10_laysBegan_184 : decode cX10_laysBegan 184 = .ok (.iload 4, 2) := by decide +kernel
theorem dX10_laysBegan_186 : decode cX10_laysBegan 186 = .ok (.invokevirtual 398, 3) := by decide +kernel
theorem dX10_laysBegan_189 : decode cX10_laysBegan 189 = .ok (.ifCond .eq 7, 3) := by decide +kernel
theorem dX10_laysBegan_192 : decode cX10_laysBegan 192 = .ok (.iconst 1, 1) := by decide +kernel
theorem dX10_laysBegan_193 : decode cX10_laysBegan 193 = .ok (.goto 4, 3) := by decide +kernel
theorem dX10_laysBegan_196 : decode cX10_laysBegan 196 = .ok (.iconst 0, 1) := by decide +kernel
theorem dX10_laysBegan_197 : decode cX10_laysBegan 197 = .ok (.iadd, 1) := by decide +kernel
theorem dX10_laysBegan_198 : decode cX10_laysBegan 198 = .ok (.iastore, 1) := by decide +kernel
theorem dX10_laysBegan_199 : decode cX10_laysBegan 199 = .ok (.iinc 4 1, 3) := by decide +kernel
theorem dX10_laysBegan_202 : decode cX10_laysBegan 202 = .ok (.goto (-36), 3) := by decide +kernel
theorem dX10_laysBegan_205 : decode cX10_laysBegan 205 = .ok (.iinc 2 1, 3) := by decide +kernel
theorem dX10_laysBegan_208 : decode cX10_laysBegan 208 = .ok (.goto (-171), 3) := by decide +kernel
theorem dX10_laysBegan_211 : decode cX10_laysBegan 211 = .ok (.return_, 1) := by decide +kernel
theorem dX10_laysHomes_0 : decode cX10_laysHomes 0 = .ok (.aload_n 0, 1) := by decide +kernel
theorem dX10_laysHomes_1 : decode cX10_laysHomes 1 = .ok (.invokevirtual 331, 3) := by decide +kernel
theorem dX10_laysHomes_4 : decode cX10_laysHomes 4 = .ok (.aload_n 0, 1) := by decide +kernel
theorem dX10_laysHomes_5 : decode cX10_laysHomes 5 = .ok (.iconst (-1), 1) := by decide +kernel
theorem dX10_laysHomes_6 : decode cX10_laysHomes 6 = .ok (.putfield 426, 3) := by decide +kernel
theorem dX10_laysHomes_9 : decode cX10_laysHomes 9 = .ok (.aload_n 0, 1) := by decide +kernel
theorem dX10_laysHomes_10 : decode cX10_laysHomes 10 = .ok (.iconst 0, 1) := by decide +kernel
theorem dX10_laysHomes_11 : decode cX10_laysHomes 11 = .ok (.iconst 0, 1) := by decide +kernel
theorem dX10_laysHomes_12 : decode cX10_laysHomes 12 = .ok (.iconst 0, 1) := by decide +kernel
theorem dX10_laysHomes_13 : decode cX10_laysHomes 13 = .ok (.invokevirtual 432, 3) := by decide +kernel
theorem dX10_laysHomes_16 : decode cX10_laysHomes 16 = .ok (.return_, 1) := by decide +kernel
theorem dX10_laysWho_0 : decode cX10_laysWho 0 = .ok (.aload_n 0, 1) := by decide +kernel
theorem dX10_laysWho_1 : decode cX10_laysWho 1 = .ok (.iload_n 1, 1) := by decide +kernel
theorem dX10_laysWho_2 : decode cX10_laysWho 2 = .ok (.invokevirtual 404, 3) := by decide +kernel
theorem dX10_laysWho_5 : decode cX10_laysWho 5 = .ok (.aload_n 0, 1) := by decide +kernel
theorem dX10_laysWho_6 : decode cX10_laysWho 6 = .ok (.iconst (-1), 1) := by decide +kernel
theorem dX10_laysWho_7 : decode cX10_laysWho 7 = .ok (.putfield 407, 3) := by decide +kernel
theorem dX10_laysWho_10 : decode cX10_laysWho 10 = .ok (.aload_n 0, 1) := by decide +kernel
theorem dX10_laysWho_11 : decode cX10_laysWho 11 = .ok (.aload_n 0, 1) := by decide +kernel
theorem dX10_laysWho_12 : decode cX10_laysWho 12 = .ok (.getfield 392, 3) := by decide +kernel
theorem dX10_laysWho_15 : decode cX10_laysWho 15 = .ok (.putfield 410, 3) := by decide +kernel
theorem dX10_laysWho_18 : decode cX10_laysWho 18 = .ok (.iconst 0, 1) := by decide +kernel
theorem dX10_laysWho_19 : decode cX10_laysWho 19 = .ok (.istore_n 2, 1) := by decide +kernel
theorem dX10_laysWho_20 : decode cX10_laysWho 20 = .ok (.iload_n 2, 1) := by decide +kernel
theorem dX10_laysWho_21 : decode cX10_laysWho 21 = .ok (.aload_n 0, 1) := by decide +kernel
theorem dX10_laysWho_22 : decode cX10_laysWho 22 = .ok (.invokevirtual 262, 3) := by decide +kernel
theorem dX10_laysWho_25 : decode cX10_laysWho 25 = .ok (.if_icmp .ge 71, 3) := by decide +kernel
theorem dX10_laysWho_28 : decode cX10_laysWho 28 = .ok (.aload_n 0, 1) := by decide +kernel
theorem dX10_laysWho_29 : decode cX10_laysWho 29 = .ok (.getfield 83, 3) := by decide +kernel
theorem dX10_laysWho_32 : decode cX10_laysWho 32 = .ok (.iload_n 2, 1) := by decide +kernel
theorem dX10_laysWho_33 : decode cX10_laysWho 33 = .ok (.iaload, 1) := by decide +kernel
theorem dX10_laysWho_34 : decode cX10_laysWho 34 = .ok (.aload_n 0, 1) := by decide +kernel
theorem dX10_laysWho_35 : decode cX10_laysWho 35 = .ok (.getfield 392, 3) := by decide +kernel
theorem dX10_laysWho_38 : decode cX10_laysWho 38 = .ok (.aload_n 0, 1) := by decide +kernel
theorem dX10_laysWho_39 : decode cX10_laysWho 39 = .ok (.getfield 83, 3) := by decide +kernel
theorem dX10_laysWho_42 : decode cX10_laysWho 42 = .ok (.iload_n 2, 1) := by decide +kernel
theorem dX10_laysWho_43 : decode cX10_laysWho 43 = .ok (.iaload, 1) := by decide +kernel
theorem dX10_laysWho_44 : decode cX10_laysWho 44 = .ok (.isub, 1) := by decide +kernel
theorem dX10_laysWho_45 : decode cX10_laysWho 45 = .ok (.if_icmp .le 12, 3) := by decide +kernel
theorem dX10_laysWho_48 : decode cX10_laysWho 48 = .ok (.aload_n 0, 1) := by decide +kernel
theorem dX10_laysWho_49 : decode cX10_laysWho 49 = .ok (.getfield 83, 3) := by decide +kernel
theorem dX10_laysWho_52 : decode cX10_laysWho 52 = .ok (.iload_n 2, 1) := by decide +kernel
theorem dX10_laysWho_53 : decode cX10_laysWho 53 = .ok (.iaload, 1) := by decide +kernel
theorem dX10_laysWho_54 : decode cX10_laysWho 54 = .ok (.goto 14, 3) := by decide +kernel
theorem dX10_laysWho_57 : decode cX10_laysWho 57 = .ok (.aload_n 0, 1) := by decide +kernel
theorem dX10_laysWho_58 : decode cX10_laysWho 58 = .ok (.getfield 392, 3) := by decide +kernel
theorem dX10_laysWho_61 : decode cX10_laysWho 61 = .ok (.aload_n 0, 1) := by decide +kernel
theorem dX10_laysWho_62 : decode cX10_laysWho 62 = .ok (.getfield 83, 3) := by decide +kernel
theorem dX10_laysWho_65 : decode cX10_laysWho 65 = .ok (.iload_n 2, 1) := by decide +kernel
theorem dX10_laysWho_66 : decode cX10_laysWho 66 = .ok (.iaload, 1) := by decide +kernel
theorem dX10_laysWho_67 : decode cX10_laysWho 67 = .ok (.isub, 1) := by decide +kernel
theorem dX10_laysWho_68 : decode cX10_laysWho 68 = .ok (.istore_n 3, 1) := by decide +kernel
theorem dX10_laysWho_69 : decode cX10_laysWho 69 = .ok (.iload_n 3, 1) := by decide +kernel
theorem dX10_laysWho_70 : decode cX10_laysWho 70 = .ok (.aload_n 0, 1) := by decide +kernel
theorem dX10_laysWho_71 : decode cX10_laysWho 71 = .ok (.getfield 410, 3) := by decide +kernel
theorem dX10_laysWho_74 : decode cX10_laysWho 74 = .ok (.if_icmp .lt 6, 3) := by decide +kernel
theorem dX10_laysWho_77 : decode cX10_laysWho 77 = .ok (.goto 13, 3) := by decide +kernel
theorem dX10_laysWho_80 : decode cX10_laysWho 80 = .ok (.aload_n 0, 1) := by decide +kernel
theorem dX10_laysWho_81 : decode cX10_laysWho 81 = .ok (.iload_n 2, 1) := by decide +kernel
theorem dX10_laysWho_82 : decode cX10_laysWho 82 = .ok (.putfield 407, 3) := by decide +kernel
theorem dX10_laysWho_85 : decode cX10_laysWho 85 = .ok (.aload_n 0, 1) := by decide +kernel
theorem dX10_laysWho_86 : decode cX10_laysWho 86 = .ok (.iload_n 3, 1) := by decide +kernel
theorem dX10_laysWho_87 : decode cX10_laysWho 87 = .ok (.putfield 410, 3) := by decide +kernel
theorem dX10_laysWho_90 : decode cX10_laysWho 90 = .ok (.iinc 2 1, 3) := by decide +kernel
theorem dX10_laysWho_93 : decode cX10_laysWho 93 = .ok (.goto (-73), 3) := by decide +kernel
theorem dX10_laysWho_96 : decode cX10_laysWho 96 = .ok (.return_, 1) := by decide +kernel
theorem dX10_leaves_0 : decode cX10_leaves 0 = .ok (.aload_n 0, 1) := by decide +kernel
theorem dX10_leaves_1 : decode cX10_leaves 1 = .ok (.iconst 0, 1) := by decide +kernel
theorem dX10_leaves_2 : decode cX10_leaves 2 = .ok (.putfield 92, 3) := by decide +kernel
theorem dX10_leaves_5 : decode cX10_leaves 5 = .ok (.aload_n 0, 1) := by decide +kernel
theorem dX10_leaves_6 : decode cX10_leaves 6 = .ok (.iload_n 1, 1) := by decide +kernel
theorem dX10_leaves_7 : decode cX10_leaves 7 = .ok (.invokevirtual 401, 3) := by decide +kernel
theorem dX10_leaves_10 : decode cX10_leaves 10 = .ok (.istore_n 2, 1) := by decide +kernel
theorem dX10_leaves_11 : decode cX10_leaves 11 = .ok (.iload_n 2, 1) := by decide +kernel
theorem dX10_leaves_12 : decode cX10_leaves 12 = .ok (.ifCond .eq 5, 3) := by decide +kernel
theorem dX10_leaves_15 : decode cX10_leaves 15 = .ok (.iload_n 2, 1) := by decide +kernel
theorem dX10_leaves_16 : decode cX10_leaves 16 = .ok (.ireturn, 1) := by decide +kernel
theorem dX10_leaves_17 : decode cX10_leaves 17 = .ok (.aload_n 0, 1) := by decide +kernel
theorem dX10_leaves_18 : decode cX10_leaves 18 = .ok (.iload_n 1, 1) := by decide +kernel
theorem dX10_leaves_19 : decode cX10_leaves 19 = .ok (.invokevirtual 413, 3) := by decide +kernel
theorem dX10_leaves_22 : decode cX10_leaves 22 = .ok (.aload_n 0, 1) := by decide +kernel
theorem dX10_leaves_23 : decode cX10_leaves 23 = .ok (.getfield 410, 3) := by decide +kernel
theorem dX10_leaves_26 : decode cX10_leaves 26 = .ok (.ireturn, 1) := by decide +kernel
theorem dX10_odds_0 : decode cX10_odds 0 = .ok (.aload_n 0, 1) := by decide +kernel
theorem dX10_odds_1 : decode cX10_odds 1 = .ok (.iconst 0, 1) := by decide +kernel
theorem dX10_odds_2 : decode cX10_odds 2 = .ok (.putfield 92, 3) := by decide +kernel
theorem dX10_odds_5 : decode cX10_odds 5 = .ok (.aload_n 0, 1) := by decide +kernel
theorem dX10_odds_6 : decode cX10_odds 6 = .ok (.iload_n 2, 1) := by decide +kernel
theorem dX10_odds_7 : decode cX10_odds 7 = .ok (.i2l, 1) := by decide +kernel
theorem dX10_odds_8 : decode cX10_odds 8 = .ok (.invokevirtual 265, 3) := by decide +kernel
theorem dX10_odds_11 : decode cX10_odds 11 = .ok (.ifCond .eq 18, 3) := by decide +kernel
theorem dX10_odds_14 : decode cX10_odds 14 = .ok (.iload_n 3, 1) := by decide +kernel
theorem dX10_odds_15 : decode cX10_odds 15 = .ok (.invokestatic 419, 3) := by decide +kernel
theorem dX10_odds_18 : decode cX10_odds 18 = .ok (.ifCond .eq 11, 3) := by decide +kernel
theorem dX10_odds_21 : decode cX10_odds 21 = .ok (.aload_n 0, 1) := by decide +kernel
theorem dX10_odds_22 : decode cX10_odds 22 = .ok (.iload_n 1, 1) := by decide +kernel
theorem dX10_odds_23 : decode cX10_odds 23 = .ok (.invokevirtual 401, 3) := by decide +kernel
theorem dX10_odds_26 : decode cX10_odds 26 = .ok (.goto 5, 3) := by decide +kernel
theorem dX10_odds_29 : decode cX10_odds 29 = .ok (.bipush (-2), 2) := by decide +kernel
theorem dX10_odds_31 : decode cX10_odds 31 = .ok (.istore 4, 2) := by decide +kernel
theorem dX10_odds_33 : decode cX10_odds 33 = .ok (.iload 4, 2) := by decide +kernel
theorem dX10_odds_35 : decode cX10_odds 35 = .ok (.ifCond .eq 6, 3) := by decide +kernel
theorem dX10_odds_38 : decode cX10_odds 38 = .ok (.iload 4, 2) := by decide +kernel
theorem dX10_odds_40 : decode cX10_odds 40 = .ok (.ireturn, 1) := by decide +kernel
theorem dX10_odds_41 : decode cX10_odds 41 = .ok (.aload_n 0, 1) := by decide +kernel
theorem dX10_odds_42 : decode cX10_odds 42 = .ok (.iload_n 1, 1) := by decide +kernel
theorem dX10_odds_43 : decode cX10_odds 43 = .ok (.invokevirtual 404, 3) := by decide +kernel
theorem dX10_odds_46 : decode cX10_odds 46 = .ok (.aload_n 0, 1) := by decide +kernel
theorem dX10_odds_47 : decode cX10_odds 47 = .ok (.getfield 392, 3) := by decide +kernel
theorem dX10_odds_50 : decode cX10_odds 50 = .ok (.ifCond .ne 7, 3) := by decide +kernel
theorem dX10_odds_53 : decode cX10_odds 53 = .ok (.iconst (-1), 1) := by decide +kernel
theorem dX10_odds_54 : decode cX10_odds 54 = .ok (.goto 17, 3) := by decide +kernel
theorem dX10_odds_57 : decode cX10_odds 57 = .ok (.aload_n 0, 1) := by decide +kernel
theorem dX10_odds_58 : decode cX10_odds 58 = .ok (.getfield 83, 3) := by decide +kernel
theorem dX10_odds_61 : decode cX10_odds 61 = .ok (.iload_n 2, 1) := by decide +kernel
theorem dX10_odds_62 : decode cX10_odds 62 = .ok (.iaload, 1) := by decide +kernel
theorem dX10_odds_63 : decode cX10_odds 63 = .ok (.aload_n 0, 1) := by decide +kernel
theorem dX10_odds_64 : decode cX10_odds 64 = .ok (.getfield 392, 3) := by decide +kernel
theorem dX10_odds_67 : decode cX10_odds 67 = .ok (.iload_n 3, 1) := by decide +kernel
theorem dX10_odds_68 : decode cX10_odds 68 = .ok (.invokestatic 422, 3) := by decide +kernel
theorem dX10_odds_71 : decode cX10_odds 71 = .ok (.ireturn, 1) := by decide +kernel
theorem dX10_spots_0 : decode cX10_spots 0 = .ok (.aload_n 0, 1) := by decide +kernel
theorem dX10_spots_1 : decode cX10_spots 1 = .ok (.iconst 0, 1) := by decide +kernel
theorem dX10_spots_2 : decode cX10_spots 2 = .ok (.putfield 92, 3) := by decide +kernel
theorem dX10_spots_5 : decode cX10_spots 5 = .ok (.aload_n 0, 1) := by decide +kernel
theorem dX10_spots_6 : decode cX10_spots 6 = .ok (.iload_n 1, 1) := by decide +kernel
theorem dX10_spots_7 : decode cX10_spots 7 = .ok (.invokevirtual 401, 3) := by decide +kernel
theorem dX10_spots_10 : decode cX10_spots 10 = .ok (.istore_n 2, 1) := by decide +kernel
theorem dX10_spots_11 : decode cX10_spots 11 = .ok (.iload_n 2, 1) := by decide +kernel
theorem dX10_spots_12 : decode cX10_spots 12 = .ok (.ifCond .eq 5, 3) := by decide +kernel
theorem dX10_spots_15 : decode cX10_spots 15 = .ok (.iload_n 2, 1) := by decide +kernel
theorem dX10_spots_16 : decode cX10_spots 16 = .ok (.ireturn, 1) := by decide +kernel
theorem dX10_spots_17 : decode cX10_spots 17 = .ok (.aload_n 0, 1) := by decide +kernel
theorem dX10_spots_18 : decode cX10_spots 18 = .ok (.iload_n 1, 1) := by decide +kernel
theorem dX10_spots_19 : decode cX10_spots 19 = .ok (.invokevirtual 404, 3) := by decide +kernel
theorem dX10_spots_22 : decode cX10_spots 22 = .ok (.aload_n 0, 1) := by decide +kernel
theorem dX10_spots_23 : decode cX10_spots 23 = .ok (.getfield 395, 3) := by decide +kernel
theorem dX10_spots_26 : decode cX10_spots 26 = .ok (.ireturn, 1) := by decide +kernel
theorem dX10_who_0 : decode cX10_who 0 = .ok (.aload_n 0, 1) := by decide +kernel
theorem dX10_who_1 : decode cX10_who 1 = .ok (.iconst 0, 1) := by decide +kernel
theorem dX10_who_2 : decode cX10_who 2 = .ok (.putfield 92, 3) := by decide +kernel
theorem dX10_who_5 : decode cX10_who 5 = .ok (.aload_n 0, 1) := by decide +kernel
theorem dX10_who_6 : decode cX10_who 6 = .ok (.iload_n 1, 1) := by decide +kernel
theorem dX10_who_7 : decode cX10_who 7 = .ok (.invokevirtual 401, 3) := by decide +kernel
theorem dX10_who_10 : decode cX10_who 10 = .ok (.istore_n 2, 1) := by decide +kernel
theorem dX10_who_11 : decode cX10_who 11 = .ok (.iload_n 2, 1) := by decide +kernel
theorem dX10_who_12 : decode cX10_who 12 = .ok (.ifCond .eq 5, 3) := by decide +kernel
theorem dX10_who_15 : decode cX10_who 15 = .ok (.iload_n 2, 1) := by decide +kernel
theorem dX10_who_16 : decode cX10_who 16 = .ok (.ireturn, 1) := by decide +kernel
theorem dX10_who_17 : decode cX10_who 17 = .ok (.aload_n 0, 1) := by decide +kernel
theorem dX10_who_18 : decode cX10_who 18 = .ok (.iload_n 1, 1) := by decide +kernel
theorem dX10_who_19 : decode cX10_who 19 = .ok (.invokevirtual 413, 3) := by decide +kernel
theorem dX10_who_22 : decode cX10_who 22 = .ok (.aload_n 0, 1) := by decide +kernel
theorem dX10_who_23 : decode cX10_who 23 = .ok (.getfield 407, 3) := by decide +kernel
theorem dX10_who_26 : decode cX10_who 26 = .ok (.ireturn, 1) := by decide +kernel
theorem dX10_whyNotBegan_0 : decode cX10_whyNotBegan 0 = .ok (.iload_n 1, 1) := by decide +kernel
theorem dX10_whyNotBegan_1 : decode cX10_whyNotBegan 1 = .ok (.invokestatic 101, 3) := by decide +kernel
theorem dX10_whyNotBegan_4 : decode cX10_whyNotBegan 4 = .ok (.ifCond .eq 10, 3) := by decide +kernel
theorem dX10_whyNotBegan_7 : decode cX10_whyNotBegan 7 = .ok (.aload_n 0, 1) := by decide +kernel
theorem dX10_whyNotBegan_8 : decode cX10_whyNotBegan 8 = .ok (.invokevirtual 270, 3) := by decide +kernel
theorem dX10_whyNotBegan_11 : decode cX10_whyNotBegan 11 = .ok (.ifCond .ne 6, 3) := by decide +kernel
theorem dX10_whyNotBegan_14 : decode cX10_whyNotBegan 14 = .ok (.bipush (-2), 2) := by decide +kernel
theorem dX10_whyNotBegan_16 : decode cX10_whyNotBegan 16 = .ok (.ireturn, 1) := by decide +kernel
theorem dX10_whyNotBegan_17 : decode cX10_whyNotBegan 17 = .ok (.aload_n 0, 1) := by decide +kernel
theorem dX10_whyNotBegan_18 : decode cX10_whyNotBegan 18 = .ok (.getfield 7, 3) := by decide +kernel
theorem dX10_whyNotBegan_21 : decode cX10_whyNotBegan 21 = .ok (.iload_n 1, 1) := by decide +kernel
theorem dX10_whyNotBegan_22 : decode cX10_whyNotBegan 22 = .ok (.iaload, 1) := by decide +kernel
theorem dX10_whyNotBegan_23 : decode cX10_whyNotBegan 23 = .ok (.iconst (-1), 1) := by decide +kernel
theorem dX10_whyNotBegan_24 : decode cX10_whyNotBegan 24 = .ok (.if_icmp .ne 6, 3) := by decide +kernel
theorem dX10_whyNotBegan_27 : decode cX10_whyNotBegan 27 = .ok (.bipush (-6), 2) := by decide +kernel
theorem dX10_whyNotBegan_29 : decode cX10_whyNotBegan 29 = .ok (.ireturn, 1) := by decide +kernel
theorem dX10_whyNotBegan_30 : decode cX10_whyNotBegan 30 = .ok (.aload_n 0, 1) := by decide +kernel
theorem dX10_whyNotBegan_31 : decode cX10_whyNotBegan 31 = .ok (.getfield 13, 3) := by decide +kernel
theorem dX10_whyNotBegan_34 : decode cX10_whyNotBegan 34 = .ok (.iload_n 1, 1) := by decide +kernel
theorem dX10_whyNotBegan_35 : decode cX10_whyNotBegan 35 = .ok (.iaload, 1) := by decide +kernel
theorem dX10_whyNotBegan_36 : decode cX10_whyNotBegan 36 = .ok (.iconst 2, 1) := by decide +kernel
theorem dX10_whyNotBegan_37 : decode cX10_whyNotBegan 37 = .ok (.irem, 1) := by decide +kernel
theorem dX10_whyNotBegan_38 : decode cX10_whyNotBegan 38 = .ok (.ifCond .eq 6, 3) := by decide +kernel
theorem dX10_whyNotBegan_41 : decode cX10_whyNotBegan 41 = .ok (.bipush (-2), 2) := by decide +kernel
theorem dX10_whyNotBegan_43 : decode cX10_whyNotBegan 43 = .ok (.ireturn, 1) := by decide +kernel
theorem dX10_whyNotBegan_44 : decode cX10_whyNotBegan 44 = .ok (.iconst 0, 1) := by decide +kernel
theorem dX10_whyNotBegan_45 : decode cX10_whyNotBegan 45 = .ok (.istore_n 2, 1) := by decide +kernel
theorem dX10_whyNotBegan_46 : decode cX10_whyNotBegan 46 = .ok (.iload_n 2, 1) := by decide +kernel
theorem dX10_whyNotBegan_47 : decode cX10_whyNotBegan 47 = .ok (.aload_n 0, 1) := by decide +kernel
theorem dX10_whyNotBegan_48 : decode cX10_whyNotBegan 48 = .ok (.getfield 13, 3) := by decide +kernel
theorem dX10_whyNotBegan_51 : decode cX10_whyNotBegan 51 = .ok (.iload_n 1, 1) := by decide +kernel
theorem dX10_whyNotBegan_52 : decode cX10_whyNotBegan 52 = .ok (.iaload, 1) := by decide +kernel
theorem dX10_whyNotBegan_53 : decode cX10_whyNotBegan 53 = .ok (.if_icmp .ge 51, 3) := by decide +kernel
theorem dX10_whyNotBegan_56 : decode cX10_whyNotBegan 56 = .ok (.aload_n 0, 1) := by decide +kernel
theorem dX10_whyNotBegan_57 : decode cX10_whyNotBegan 57 = .ok (.aload_n 0, 1) := by decide +kernel
theorem dX10_whyNotBegan_58 : decode cX10_whyNotBegan 58 = .ok (.getfield 16, 3) := by decide +kernel
theorem dX10_whyNotBegan_61 : decode cX10_whyNotBegan 61 = .ok (.bipush 60, 2) := by decide +kernel
theorem dX10_whyNotBegan_63 : decode cX10_whyNotBegan 63 = .ok (.iload_n 1, 1) := by decide +kernel
theorem dX10_whyNotBegan_64 : decode cX10_whyNotBegan 64 = .ok (.imul, 1) := by decide +kernel
theorem dX10_whyNotBegan_65 : decode cX10_whyNotBegan 65 = .ok (.iload_n 2, 1) := by decide +kernel
theorem dX10_whyNotBegan_66 : decode cX10_whyNotBegan 66 = .ok (.iadd, 1) := by decide +kernel
theorem dX10_whyNotBegan_67 : decode cX10_whyNotBegan 67 = .ok (.laload, 1) := by decide +kernel
theorem dX10_whyNotBegan_68 : decode cX10_whyNotBegan 68 = .ok (.invokevirtual 265, 3) := by decide +kernel
theorem dX10_whyNotBegan_71 : decode cX10_whyNotBegan 71 = .ok (.ifCond .eq 24, 3) := by decide +kernel
theorem dX10_whyNotBegan_74 : decode cX10_whyNotBegan 74 = .ok (.aload_n 0, 1) := by decide +kernel
theorem dX10_whyNotBegan_75 : decode cX10_whyNotBegan 75 = .ok (.getfield 16, 3) := by decide +kernel
theorem dX10_whyNotBegan_78 : decode cX10_whyNotBegan 78 = .ok (.bipush 60, 2) := by decide +kernel
theorem dX10_whyNotBegan_80 : decode cX10_whyNotBegan 80 = .ok (.iload_n 1, 1) := by decide +kernel
theorem dX10_whyNotBegan_81 : decode cX10_whyNotBegan 81 = .ok (.imul, 1) := by decide +kernel
theorem dX10_whyNotBegan_82 : decode cX10_whyNotBegan 82 = .ok (.iload_n 2, 1) := by decide +kernel
theorem dX10_whyNotBegan_83 : decode cX10_whyNotBegan 83 = .ok (.iadd, 1) := by decide +kernel
theorem dX10_whyNotBegan_84 : decode cX10_whyNotBegan 84 = .ok (.iconst 1, 1) := by decide +kernel
theorem dX10_whyNotBegan_85 : decode cX10_whyNotBegan 85 = .ok (.iadd, 1) := by decide +kernel
theorem dX10_whyNotBegan_86 : decode cX10_whyNotBegan 86 = .ok (.laload, 1) := by decide +kernel
theorem dX10_whyNotBegan_87 : decode cX10_whyNotBegan 87 = .ok (.lconst 0, 1) := by decide +kernel
theorem dX10_whyNotBegan_88 : decode cX10_whyNotBegan 88 = .ok (.lconst 1, 1) := by decide +kernel
theorem dX10_whyNotBegan_89 : decode cX10_whyNotBegan 89 = .ok (.invokestatic 97, 3) := by decide +kernel
theorem dX10_whyNotBegan_92 : decode cX10_whyNotBegan 92 = .ok (.ifCond .ne 6, 3) := by decide +kernel
theorem dX10_whyNotBegan_95 : decode cX10_whyNotBegan 95 = .ok (.bipush (-2), 2) := by decide +kernel
theorem dX10_whyNotBegan_97 : decode cX10_whyNotBegan 97 = .ok (.ireturn, 1) := by decide +kernel
theorem dX10_whyNotBegan_98 : decode cX10_whyNotBegan 98 = .ok (.iinc 2 2, 3) := by decide +kernel
theorem dX10_whyNotBegan_101 : decode cX10_whyNotBegan 101 = .ok (.goto (-55), 3) := by decide +kernel
theorem dX10_whyNotBegan_104 : decode cX10_whyNotBegan 104 = .ok (.iconst 0, 1) := by decide +kernel
theorem dX10_whyNotBegan_105 : decode cX10_whyNotBegan 105 = .ok (.ireturn, 1) := by decide +kernel
theorem dX10_whyNotLaws_0 : decode cX10_whyNotLaws 0 = .ok (.iload_n 1, 1) := by decide +kernel
theorem dX10_whyNotLaws_1 : decode cX10_whyNotLaws 1 = .ok (.invokestatic 101, 3) := by decide +kernel
theorem dX10_whyNotLaws_4 : decode cX10_whyNotLaws 4 = .ok (.ifCond .eq 10, 3) := by decide +kernel
theorem dX10_whyNotLaws_7 : decode cX10_whyNotLaws 7 = .ok (.aload_n 0, 1) := by decide +kernel
theorem dX10_whyNotLaws_8 : decode cX10_whyNotLaws 8 = .ok (.invokevirtual 270, 3) := by decide +kernel
theorem dX10_whyNotLaws_11 : decode cX10_whyNotLaws 11 = .ok (.ifCond .ne 6, 3) := by decide +kernel
theorem dX10_whyNotLaws_14 : decode cX10_whyNotLaws 14 = .ok (.bipush (-2), 2) := by decide +kernel
theorem dX10_whyNotLaws_16 : decode cX10_whyNotLaws 16 = .ok (.ireturn, 1) := by decide +kernel
theorem dX10_whyNotLaws_17 : decode cX10_whyNotLaws 17 = .ok (.aload_n 0, 1) := by decide +kernel
theorem dX10_whyNotLaws_18 : decode cX10_whyNotLaws 18 = .ok (.getfield 7, 3) := by decide +kernel
theorem dX10_whyNotLaws_21 : decode cX10_whyNotLaws 21 = .ok (.iload_n 1, 1) := by decide +kernel
theorem dX10_whyNotLaws_22 : decode cX10_whyNotLaws 22 = .ok (.iaload, 1) := by decide +kernel
theorem dX10_whyNotLaws_23 : decode cX10_whyNotLaws 23 = .ok (.iconst (-1), 1) := by decide +kernel
theorem dX10_whyNotLaws_24 : decode cX10_whyNotLaws 24 = .ok (.if_icmp .ne 6, 3) := by decide +kernel
theorem dX10_whyNotLaws_27 : decode cX10_whyNotLaws 27 = .ok (.bipush (-6), 2) := by decide +kernel
theorem dX10_whyNotLaws_29 : decode cX10_whyNotLaws 29 = .ok (.ireturn, 1) := by decide +kernel
theorem dX10_whyNotLaws_30 : decode cX10_whyNotLaws 30 = .ok (.aload_n 0, 1) := by decide +kernel
theorem dX10_whyNotLaws_31 : decode cX10_whyNotLaws 31 = .ok (.getfield 13, 3) := by decide +kernel
theorem dX10_whyNotLaws_34 : decode cX10_whyNotLaws 34 = .ok (.iload_n 1, 1) := by decide +kernel
theorem dX10_whyNotLaws_35 : decode cX10_whyNotLaws 35 = .ok (.iaload, 1) := by decide +kernel
theorem dX10_whyNotLaws_36 : decode cX10_whyNotLaws 36 = .ok (.iconst 3, 1) := by decide +kernel
theorem dX10_whyNotLaws_37 : decode cX10_whyNotLaws 37 = .ok (.irem, 1) := by decide +kernel
theorem dX10_whyNotLaws_38 : decode cX10_whyNotLaws 38 = .ok (.ifCond .eq 6, 3) := by decide +kernel
theorem dX10_whyNotLaws_41 : decode cX10_whyNotLaws 41 = .ok (.bipush (-2), 2) := by decide +kernel
theorem dX10_whyNotLaws_43 : decode cX10_whyNotLaws 43 = .ok (.ireturn, 1) := by decide +kernel
theorem dX10_whyNotLaws_44 : decode cX10_whyNotLaws 44 = .ok (.iconst 0, 1) := by decide +kernel
theorem dX10_whyNotLaws_45 : decode cX10_whyNotLaws 45 = .ok (.istore_n 2, 1) := by decide +kernel
theorem dX10_whyNotLaws_46 : decode cX10_whyNotLaws 46 = .ok (.iload_n 2, 1) := by decide +kernel
theorem dX10_whyNotLaws_47 : decode cX10_whyNotLaws 47 = .ok (.aload_n 0, 1) := by decide +kernel
theorem dX10_whyNotLaws_48 : decode cX10_whyNotLaws 48 = .ok (.getfield 13, 3) := by decide +kernel
theorem dX10_whyNotLaws_51 : decode cX10_whyNotLaws 51 = .ok (.iload_n 1, 1) := by decide +kernel
theorem dX10_whyNotLaws_52 : decode cX10_whyNotLaws 52 = .ok (.iaload, 1) := by decide +kernel
theorem dX10_whyNotLaws_53 : decode cX10_whyNotLaws 53 = .ok (.if_icmp .ge 74, 3) := by decide +kernel
theorem dX10_whyNotLaws_56 : decode cX10_whyNotLaws 56 = .ok (.bipush 60, 2) := by decide +kernel
theorem dX10_whyNotLaws_58 : decode cX10_whyNotLaws 58 = .ok (.iload_n 1, 1) := by decide +kernel
theorem dX10_whyNotLaws_59 : decode cX10_whyNotLaws 59 = .ok (.imul, 1) := by decide +kernel
theorem dX10_whyNotLaws_60 : decode cX10_whyNotLaws 60 = .ok (.iload_n 2, 1) := by decide +kernel
theorem dX10_whyNotLaws_61 : decode cX10_whyNotLaws 61 = .ok (.iadd, 1) := by decide +kernel
theorem dX10_whyNotLaws_62 : decode cX10_whyNotLaws 62 = .ok (.istore_n 3, 1) := by decide +kernel
theorem dX10_whyNotLaws_63 : decode cX10_whyNotLaws 63 = .ok (.aload_n 0, 1) := by decide +kernel
theorem dX10_whyNotLaws_64 : decode cX10_whyNotLaws 64 = .ok (.aload_n 0, 1) := by decide +kernel
theorem dX10_whyNotLaws_65 : decode cX10_whyNotLaws 65 = .ok (.getfield 16, 3) := by decide +kernel
theorem dX10_whyNotLaws_68 : decode cX10_whyNotLaws 68 = .ok (.iload_n 3, 1) := by decide +kernel
theorem dX10_whyNotLaws_69 : decode cX10_whyNotLaws 69 = .ok (.laload, 1) := by decide +kernel
theorem dX10_whyNotLaws_70 : decode cX10_whyNotLaws 70 = .ok (.invokevirtual 323, 3) := by decide +kernel
theorem dX10_whyNotLaws_73 : decode cX10_whyNotLaws 73 = .ok (.ifCond .eq 45, 3) := by decide +kernel
theorem dX10_whyNotLaws_76 : decode cX10_whyNotLaws 76 = .ok (.aload_n 0, 1) := by decide +kernel
theorem dX10_whyNotLaws_77 : decode cX10_whyNotLaws 77 = .ok (.getfield 16, 3) := by decide +kernel
theorem dX10_whyNotLaws_80 : decode cX10_whyNotLaws 80 = .ok (.iload_n 3, 1) := by decide +kernel
theorem dX10_whyNotLaws_81 : decode cX10_whyNotLaws 81 = .ok (.iconst 1, 1) := by decide +kernel
theorem dX10_whyNotLaws_82 : decode cX10_whyNotLaws 82 = .ok (.iadd, 1) := by decide +kernel
theorem dX10_whyNotLaws_83 : decode cX10_whyNotLaws 83 = .ok (.laload, 1) := by decide +kernel
theorem dX10_whyNotLaws_84 : decode cX10_whyNotLaws 84 = .ok (.lconst 0, 1) := by decide +kernel
theorem dX10_whyNotLaws_85 : decode cX10_whyNotLaws 85 = .ok (.ldc2_w 268, 3) := by decide +kernel
theorem dX10_whyNotLaws_88 : decode cX10_whyNotLaws 88 = .ok (.invokestatic 97, 3) := by decide +kernel
theorem dX10_whyNotLaws_91 : decode cX10_whyNotLaws 91 = .ok (.ifCond .eq 27, 3) := by decide +kernel
theorem dX10_whyNotLaws_94 : decode cX10_whyNotLaws 94 = .ok (.aload_n 0, 1) := by decide +kernel
theorem dX10_whyNotLaws_95 : decode cX10_whyNotLaws 95 = .ok (.getfield 16, 3) := by decide +kernel
theorem dX10_whyNotLaws_98 : decode cX10_whyNotLaws 98 = .ok (.iload_n 3, 1) := by decide +kernel
theorem dX10_whyNotLaws_99 : decode cX10_whyNotLaws 99 = .ok (.iconst 2, 1) := by decide +kernel
theorem dX10_whyNotLaws_100 : decode cX10_whyNotLaws 100 = .ok (.iadd, 1) := by decide +kernel
theorem dX10_whyNotLaws_101 : decode cX10_whyNotLaws 101 = .ok (.laload, 1) := by decide +kernel
theorem dX10_whyNotLaws_102 : decode cX10_whyNotLaws 102 = .ok (.ldc2_w 136, 3) := by decide +kernel
theorem dX10_whyNotLaws_105 : decode cX10_whyNotLaws 105 = .ok (.aload_n 0, 1) := by decide +kernel
theorem dX10_whyNotLaws_106 : decode cX10_whyNotLaws 106 = .ok (.invokevirtual 256, 3) := by decide +kernel
theorem dX10_whyNotLaws_109 : decode cX10_whyNotLaws 109 = .ok (.i2l, 1) := by decide +kernel
theorem dX10_whyNotLaws_110 : decode cX10_whyNotLaws 110 = .ok (.lconst 1, 1) := by decide +kernel
theorem dX10_whyNotLaws_111 : decode cX10_whyNotLaws 111 = .ok (.lsub, 1) := by decide +kernel
theorem dX10_whyNotLaws_112 : decode cX10_whyNotLaws 112 = .ok (.invokestatic 97, 3) := by decide +kernel
theorem dX10_whyNotLaws_115 : decode cX10_whyNotLaws 115 = .ok (.ifCond .ne 6, 3) := by decide +kernel
theorem dX10_whyNotLaws_118 : decode cX10_whyNotLaws 118 = .ok (.bipush (-2), 2) := by decide +kernel
theorem dX10_whyNotLaws_120 : decode cX10_whyNotLaws 120 = .ok (.ireturn, 1) := by decide +kernel
theorem dX10_whyNotLaws_121 : decode cX10_whyNotLaws 121 = .ok (.iinc 2 3, 3) := by decide +kernel
theorem dX10_whyNotLaws_124 : decode cX10_whyNotLaws 124 = .ok (.goto (-78), 3) := by decide +kernel
theorem dX10_whyNotLaws_127 : decode cX10_whyNotLaws 127 = .ok (.iconst 0, 1) := by decide +kernel
theorem dX10_whyNotLaws_128 : decode cX10_whyNotLaws 128 = .ok (.ireturn, 1) := by decide +kernel
theorem wd975 : Cond.instanceMethod yX10_homesFrom ∈ gW := gm (tm_9 22 (by decide +kernel)) rfl
theorem wd976 : Cond.selects RX10 yX10_homesFrom yX10_homesFrom ∈ gW := gm (gmP 81 (by decide +kernel)) rfl
theorem wd977 : Cond.code yX10_homesFrom cX10_homesFrom 5 none ∈ gW := gm (tm_9 23 (by decide +kernel)) rfl
theorem wd978 : Cond.methodLink RX10 432 yX10_homesFrom ∈ gW := gm (tm_9 20 (by decide +kernel)) rfl
theorem wd979 : Cond.fieldLink RX10 426 "GooseSharesModel" "homesMost" "I" ∈ gW := gm (tm_6 126 (by decide +kernel)) rfl
theorem wd980 : Cond.instanceMethod yX10_isLess ∈ gW := gm (tm_9 26 (by decide +kernel)) rfl
theorem wd981 : Cond.selects RX10 yX10_isLess yX10_isLess ∈ gW := gm (gmP 82 (by decide +kernel)) rfl
theorem wd982 : Cond.code yX10_isLess cX10_isLess 2 (some .boolean) ∈ gW := gm (tm_9 27 (by decide +kernel)) rfl
theorem wd983 : Cond.methodLink RX10 429 yX10_isLess ∈ gW := gm (tm_9 24 (by decide +kernel)) rfl
theorem wd984 : Cond.instanceMethod yX10_laysHomes ∈ gW := gm (tm_9 18 (by decide +kernel)) rfl
theorem wd985 : Cond.selects RX10 yX10_laysHomes yX10_laysHomes ∈ gW := gm (gmP 80 (by decide +kernel)) rfl
theorem wd986 : Cond.code yX10_laysHomes cX10_laysHomes 1 none ∈ gW := gm (tm_9 19 (by decide +kernel)) rfl
theorem wd987 : Cond.methodLink RX10 435 yX10_laysHomes ∈ gW := gm (tm_9 16 (by decide +kernel)) rfl
theorem wd988 : Cond.fieldLink RX10 13 "GooseSharesModel" "many" "[I" ∈ gW := gm (tm_6 85 (by decide +kernel)) rfl
theorem wd989 : Cond.fieldLink RX10 16 "GooseSharesModel" "cells" "[J" ∈ gW := gm (tm_6 86 (by decide +kernel)) rfl
theorem wd990 : Cond.constantLong RX10 136 (-1 : Int64) ∈ gW := gm (tm_7 50 (by decide +kernel)) rfl
theorem wd991 : Cond.static yX10_isSlot ∈ gW := gm (tm_6 233 (by decide +kernel)) rfl
theorem wd992 : Cond.code yX10_isSlot cX10_isSlot 1 (some .boolean) ∈ gW := gm (tm_6 234 (by decide +kernel)) rfl
theorem wd993 : Cond.methodLink RX10 101 yX10_isSlot ∈ gW := gm (tm_6 232 (by decide +kernel)) rfl
theorem wd994 : Cond.fieldLink RX10 7 "GooseSharesModel" "width" "[I" ∈ gW := gm (tm_6 84 (by decide +kernel)) rfl
theorem wd995 : Cond.instanceMethod yX10_isByLaw ∈ gW := gm (tm_8 201 (by decide +kernel)) rfl
theorem wd996 : Cond.selects RX10 yX10_isByLaw yX10_isByLaw ∈ gW := gm (gmP 75 (by decide +kernel)) rfl
theorem wd997 : Cond.code yX10_isByLaw cX10_isByLaw 5 (some .boolean) ∈ gW := gm (tm_8 202 (by decide +kernel)) rfl
theorem wd998 : Cond.methodLink RX10 383 yX10_isByLaw ∈ gW := gm (tm_8 199 (by decide +kernel)) rfl
theorem wd999 : Cond.fieldLink RX10 83 "GooseSharesModel" "beganHeard" "[I" ∈ gW := gm (tm_6 121 (by decide +kernel)) rfl
theorem wd1000 : Cond.instanceMethod yX10_hasHeard ∈ gW := gm (tm_8 221 (by decide +kernel)) rfl
theorem wd1001 : Cond.selects RX10 yX10_hasHeard yX10_hasHeard ∈ gW := gm (gmP 78 (by decide +kernel)) rfl
theorem wd1002 : Cond.code yX10_hasHeard cX10_hasHeard 2 (some .boolean) ∈ gW := gm (tm_8 222 (by decide +kernel)) rfl
theorem wd1003 : Cond.methodLink RX10 398 yX10_hasHeard ∈ gW := gm (tm_8 219 (by decide +kernel)) rfl
theorem wd1004 : Cond.fieldLink RX10 392 "GooseSharesModel" "beganMany" "I" ∈ gW := gm (tm_6 119 (by decide +kernel)) rfl
theorem wd1005 : Cond.fieldLink RX10 395 "GooseSharesModel" "beganCells" "I" ∈ gW := gm (tm_6 120 (by decide +kernel)) rfl
theorem wd1006 : Cond.fieldLink RX10 410 "GooseSharesModel" "whoLeaves" "I" ∈ gW := gm (tm_6 123 (by decide +kernel)) rfl
theorem wd1007 : Cond.fieldLink RX10 407 "GooseSharesModel" "whoBest" "I" ∈ gW := gm (tm_6 122 (by decide +kernel)) rfl
theorem wd1008 : Cond.instanceMethod yX10_laysBegan ∈ gW := gm (tm_8 217 (by decide +kernel)) rfl
theorem wd1009 : Cond.selects RX10 yX10_laysBegan yX10_laysBegan ∈ gW := gm (gmP 77 (by decide +kernel)) rfl
theorem wd1010 : Cond.code yX10_laysBegan cX10_laysBegan 5 none ∈ gW := gm (tm_8 218 (by decide +kernel)) rfl
theorem wd1011 : Cond.methodLink RX10 404 yX10_laysBegan ∈ gW := gm (tm_8 215 (by decide +kernel)) rfl
theorem wd1012 : Cond.instanceMethod yX10_whyNotLaws ∈ gW := gm (tm_8 193 (by decide +kernel)) rfl
theorem wd1013 : Cond.selects RX10 yX10_whyNotLaws yX10_whyNotLaws ∈ gW := gm (gmP 73 (by decide +kernel)) rfl
theorem wd1014 : Cond.code yX10_whyNotLaws cX10_whyNotLaws 4 (some .int) ∈ gW := gm (tm_8 194 (by decide +kernel)) rfl
theorem wd1015 : Cond.methodLink RX10 386 yX10_whyNotLaws ∈ gW := gm (tm_8 191 (by decide +kernel)) rfl
theorem wd1016 : Cond.instanceMethod yX10_lawsOf ∈ gW := gm (tm_8 197 (by decide +kernel)) rfl
theorem wd1017 : Cond.selects RX10 yX10_lawsOf yX10_lawsOf ∈ gW := gm (gmP 74 (by decide +kernel)) rfl
theorem wd1018 : Cond.code yX10_lawsOf cX10_lawsOf 4 (some .int) ∈ gW := gm (tm_8 198 (by decide +kernel)) rfl
theorem wd1019 : Cond.methodLink RX10 389 yX10_lawsOf ∈ gW := gm (tm_8 195 (by decide +kernel)) rfl
theorem wd1020 : Cond.instanceMethod yX10_whyNotBegan ∈ gW := gm (tm_8 213 (by decide +kernel)) rfl
theorem wd1021 : Cond.selects RX10 yX10_whyNotBegan yX10_whyNotBegan ∈ gW := gm (gmP 76 (by decide +kernel)) rfl
theorem wd1022 : Cond.code yX10_whyNotBegan cX10_whyNotBegan 3 (some .int) ∈ gW := gm (tm_8 214 (by decide +kernel)) rfl
theorem wd1023 : Cond.methodLink RX10 401 yX10_whyNotBegan ∈ gW := gm (tm_8 211 (by decide +kernel)) rfl
theorem wd1024 : Cond.instanceMethod yX10_laysWho ∈ gW := gm (tm_8 233 (by decide +kernel)) rfl
theorem wd1025 : Cond.selects RX10 yX10_laysWho yX10_laysWho ∈ gW := gm (gmP 79 (by decide +kernel)) rfl
theorem wd1026 : Cond.code yX10_laysWho cX10_laysWho 4 none ∈ gW := gm (tm_8 234 (by decide +kernel)) rfl
theorem wd1027 : Cond.methodLink RX10 413 yX10_laysWho ∈ gW := gm (tm_8 231 (by decide +kernel)) rfl
theorem wd1028 : Cond.fieldLink RX10 80 "GooseSharesModel" "often" "[I" ∈ gW := gm (tm_6 118 (by decide +kernel)) rfl
theorem my_X10_homesFrom : gWV RX10 yX10_homesFrom cX10_homesFrom 5 none 3 := ⟨⟨wd975, wd976, wd742, wd977⟩, ⟨rfl, by decide +kernel, by decide +kernel, by decide +kernel⟩⟩
theorem my_X10_isLess : gWV RX10 yX10_isLess cX10_isLess 2 (some .boolean) 0 := ⟨⟨wd980, wd981, wd742, wd982⟩, ⟨rfl, by decide +kernel, by decide +kernel, by decide +kernel⟩⟩
theorem my_X10_laysHomes : gWV RX10 yX10_laysHomes cX10_laysHomes 1 none 0 := ⟨⟨wd984, wd985, wd742, wd986⟩, ⟨rfl, by decide +kernel, by decide +kernel, by decide +kernel⟩⟩
theorem my_X10_isSlot : gWS RX10 yX10_isSlot cX10_isSlot 1 (some .boolean) 1 := ⟨⟨wd991, wd742, wd992⟩, ⟨rfl, by decide +kernel, by decide +kernel, by decide +kernel⟩⟩
theorem my_X10_isByLaw : gWV RX10 yX10_isByLaw cX10_isByLaw 5 (some .boolean) 2 := ⟨⟨wd995, wd996, wd742, wd997⟩, ⟨rfl, by decide +kernel, by decide +kernel, by decide +kernel⟩⟩
theorem my_X10_hasHeard : gWV RX10 yX10_hasHeard cX10_hasHeard 2 (some .boolean) 1 := ⟨⟨wd1000, wd1001, wd742, wd1002⟩, ⟨rfl, by decide +kernel, by decide +kernel, by decide +kernel⟩⟩
theorem my_X10_laysBegan : gWV RX10 yX10_laysBegan cX10_laysBegan 5 none 1 := ⟨⟨wd1008, wd1009, wd742, wd1010⟩, ⟨rfl, by decide +kernel, by decide +kernel, by decide +kernel⟩⟩
theorem my_X10_whyNotLaws : gWV RX10 yX10_whyNotLaws cX10_whyNotLaws 4 (some .int) 1 := ⟨⟨wd1012, wd1013, wd742, wd1014⟩, ⟨rfl, by decide +kernel, by decide +kernel, by decide +kernel⟩⟩
theorem my_X10_lawsOf : gWV RX10 yX10_lawsOf cX10_lawsOf 4 (some .int) 1 := ⟨⟨wd1016, wd1017, wd742, wd1018⟩, ⟨rfl, by decide +kernel, by decide +kernel, by decide +kernel⟩⟩
theorem my_X10_whyNotBegan : gWV RX10 yX10_whyNotBegan cX10_whyNotBegan 3 (some .int) 1 := ⟨⟨wd1020, wd1021, wd742, wd1022⟩, ⟨rfl, by decide +kernel, by decide +kernel, by decide +kernel⟩⟩
theorem my_X10_laysWho : gWV RX10 yX10_laysWho cX10_laysWho 4 none 1 := ⟨⟨wd1024, wd1025, wd742, wd1026⟩, ⟨rfl, by decide +kernel, by decide +kernel, by decide +kernel⟩⟩
theorem tl_42 : (42 : Int32).toInt = 42 := by decide
theorem rl_42 : rg (42 : Int32) 42 42 := ⟨by rw [tl_42]; exact Int.le_refl _, by rw [tl_42]; exact Int.le_refl _⟩
