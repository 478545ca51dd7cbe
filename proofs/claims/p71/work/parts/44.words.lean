theorem dX10_lampsAre_0 : decode cX10_lampsAre 0 = .ok (.aload_n 0, 1) := by decide +kernel
theorem dX10_lampsAre_1 : decode cX10_lampsAre 1 = .ok (.iload_n 1, 1) := by decide +kernel
theorem dX10_lampsAre_2 : decode cX10_lampsAre 2 = .ok (.putfield 273, 3) := by decide +kernel
theorem dX10_lampsAre_5 : decode cX10_lampsAre 5 = .ok (.aload_n 0, 1) := by decide +kernel
theorem dX10_lampsAre_6 : decode cX10_lampsAre 6 = .ok (.invokevirtual 311, 3) := by decide +kernel
theorem dX10_lampsAre_9 : decode cX10_lampsAre 9 = .ok (.aload_n 0, 1) := by decide +kernel
theorem dX10_lampsAre_10 : decode cX10_lampsAre 10 = .ok (.invokevirtual 346, 3) := by decide +kernel
theorem dX10_lampsAre_13 : decode cX10_lampsAre 13 = .ok (.istore_n 2, 1) := by decide +kernel
theorem dX10_lampsAre_14 : decode cX10_lampsAre 14 = .ok (.iload_n 1, 1) := by decide +kernel
theorem dX10_lampsAre_15 : decode cX10_lampsAre 15 = .ok (.invokestatic 355, 3) := by decide +kernel
theorem dX10_lampsAre_18 : decode cX10_lampsAre 18 = .ok (.istore_n 3, 1) := by decide +kernel
theorem dX10_lampsAre_19 : decode cX10_lampsAre 19 = .ok (.iconst 0, 1) := by decide +kernel
theorem dX10_lampsAre_20 : decode cX10_lampsAre 20 = .ok (.istore 4, 2) := by decide +kernel
theorem dX10_lampsAre_22 : decode cX10_lampsAre 22 = .ok (.iload 4, 2) := by decide +kernel
theorem dX10_lampsAre_24 : decode cX10_lampsAre 24 = .ok (.iconst 1, 1) := by decide +kernel
theorem dX10_lampsAre_25 : decode cX10_lampsAre 25 = .ok (.aload_n 0, 1) := by decide +kernel
theorem dX10_lampsAre_26 : decode cX10_lampsAre 26 = .ok (.invokevirtual 262, 3) := by decide +kernel
theorem dX10_lampsAre_29 : decode cX10_lampsAre 29 = .ok (.ishl, 1) := by decide +kernel
theorem dX10_lampsAre_30 : decode cX10_lampsAre 30 = .ok (.if_icmp .ge 70, 3) := by decide +kernel
theorem dX10_lampsAre_33 : decode cX10_lampsAre 33 = .ok (.iload 4, 2) := by decide +kernel
theorem dX10_lampsAre_35 : decode cX10_lampsAre 35 = .ok (.iload_n 2, 1) := by decide +kernel
theorem dX10_lampsAre_36 : decode cX10_lampsAre 36 = .ok (.iconst (-1), 1) := by decide +kernel
theorem dX10_lampsAre_37 : decode cX10_lampsAre 37 = .ok (.ixor, 1) := by decide +kernel
theorem dX10_lampsAre_38 : decode cX10_lampsAre 38 = .ok (.iand, 1) := by decide +kernel
theorem dX10_lampsAre_39 : decode cX10_lampsAre 39 = .ok (.ifCond .ne 55, 3) := by decide +kernel
theorem dX10_lampsAre_42 : decode cX10_lampsAre 42 = .ok (.iload_n 3, 1) := by decide +kernel
theorem dX10_lampsAre_43 : decode cX10_lampsAre 43 = .ok (.aload_n 0, 1) := by decide +kernel
theorem dX10_lampsAre_44 : decode cX10_lampsAre 44 = .ok (.getfield 65, 3) := by decide +kernel
theorem dX10_lampsAre_47 : decode cX10_lampsAre 47 = .ok (.iload 4, 2) := by decide +kernel
theorem dX10_lampsAre_49 : decode cX10_lampsAre 49 = .ok (.iaload, 1) := by decide +kernel
theorem dX10_lampsAre_50 : decode cX10_lampsAre 50 = .ok (.if_icmp .gt 44, 3) := by decide +kernel
theorem dX10_lampsAre_53 : decode cX10_lampsAre 53 = .ok (.iload_n 3, 1) := by decide +kernel
theorem dX10_lampsAre_54 : decode cX10_lampsAre 54 = .ok (.aload_n 0, 1) := by decide +kernel
theorem dX10_lampsAre_55 : decode cX10_lampsAre 55 = .ok (.getfield 65, 3) := by decide +kernel
theorem dX10_lampsAre_58 : decode cX10_lampsAre 58 = .ok (.iload 4, 2) := by decide +kernel
theorem dX10_lampsAre_60 : decode cX10_lampsAre 60 = .ok (.iaload, 1) := by decide +kernel
theorem dX10_lampsAre_61 : decode cX10_lampsAre 61 = .ok (.if_icmp .ne 17, 3) := by decide +kernel
theorem dX10_lampsAre_64 : decode cX10_lampsAre 64 = .ok (.iload_n 1, 1) := by decide +kernel
theorem dX10_lampsAre_65 : decode cX10_lampsAre 65 = .ok (.aload_n 0, 1) := by decide +kernel
theorem dX10_lampsAre_66 : decode cX10_lampsAre 66 = .ok (.getfield 68, 3) := by decide +kernel
theorem dX10_lampsAre_69 : decode cX10_lampsAre 69 = .ok (.iload 4, 2) := by decide +kernel
theorem dX10_lampsAre_71 : decode cX10_lampsAre 71 = .ok (.iaload, 1) := by decide +kernel
theorem dX10_lampsAre_72 : decode cX10_lampsAre 72 = .ok (.if_icmp .le 6, 3) := by decide +kernel
theorem dX10_lampsAre_75 : decode cX10_lampsAre 75 = .ok (.goto 19, 3) := by decide +kernel
theorem dX10_lampsAre_78 : decode cX10_lampsAre 78 = .ok (.aload_n 0, 1) := by decide +kernel
theorem dX10_lampsAre_79 : decode cX10_lampsAre 79 = .ok (.getfield 65, 3) := by decide +kernel
theorem dX10_lampsAre_82 : decode cX10_lampsAre 82 = .ok (.iload 4, 2) := by decide +kernel
theorem dX10_lampsAre_84 : decode cX10_lampsAre 84 = .ok (.iload_n 3, 1) := by decide +kernel
theorem dX10_lampsAre_85 : decode cX10_lampsAre 85 = .ok (.iastore, 1) := by decide +kernel
theorem dX10_lampsAre_86 : decode cX10_lampsAre 86 = .ok (.aload_n 0, 1) := by decide +kernel
theorem dX10_lampsAre_87 : decode cX10_lampsAre 87 = .ok (.getfield 68, 3) := by decide +kernel
theorem dX10_lampsAre_90 : decode cX10_lampsAre 90 = .ok (.iload 4, 2) := by decide +kernel
theorem dX10_lampsAre_92 : decode cX10_lampsAre 92 = .ok (.iload_n 1, 1) := by decide +kernel
theorem dX10_lampsAre_93 : decode cX10_lampsAre 93 = .ok (.iastore, 1) := by decide +kernel
theorem dX10_lampsAre_94 : decode cX10_lampsAre 94 = .ok (.iinc 4 1, 3) := by decide +kernel
theorem dX10_lampsAre_97 : decode cX10_lampsAre 97 = .ok (.goto (-75), 3) := by decide +kernel
theorem dX10_lampsAre_100 : decode cX10_lampsAre 100 = .ok (.aload_n 0, 1) := by decide +kernel
theorem dX10_lampsAre_101 : decode cX10_lampsAre 101 = .ok (.invokevirtual 349, 3) := by decide +kernel
theorem dX10_lampsAre_104 : decode cX10_lampsAre 104 = .ok (.istore 4, 2) := by decide +kernel
theorem dX10_lampsAre_106 : decode cX10_lampsAre 106 = .ok (.iload_n 3, 1) := by decide +kernel
theorem dX10_lampsAre_107 : decode cX10_lampsAre 107 = .ok (.istore 5, 2) := by decide +kernel
theorem dX10_lampsAre_109 : decode cX10_lampsAre 109 = .ok (.iload 5, 2) := by decide +kernel
theorem dX10_lampsAre_111 : decode cX10_lampsAre 111 = .ok (.iconst 3, 1) := by decide +kernel
theorem dX10_lampsAre_112 : decode cX10_lampsAre 112 = .ok (.if_icmp .gt 136, 3) := by decide +kernel
theorem dX10_lampsAre_115 : decode cX10_lampsAre 115 = .ok (.iload 4, 2) := by decide +kernel
theorem dX10_lampsAre_117 : decode cX10_lampsAre 117 = .ok (.aload_n 0, 1) := by decide +kernel
theorem dX10_lampsAre_118 : decode cX10_lampsAre 118 = .ok (.getfield 71, 3) := by decide +kernel
theorem dX10_lampsAre_121 : decode cX10_lampsAre 121 = .ok (.iload 5, 2) := by decide +kernel
theorem dX10_lampsAre_123 : decode cX10_lampsAre 123 = .ok (.iaload, 1) := by decide +kernel
theorem dX10_lampsAre_124 : decode cX10_lampsAre 124 = .ok (.if_icmp .gt 54, 3) := by decide +kernel
theorem dX10_lampsAre_127 : decode cX10_lampsAre 127 = .ok (.iload 4, 2) := by decide +kernel
theorem dX10_lampsAre_129 : decode cX10_lampsAre 129 = .ok (.aload_n 0, 1) := by decide +kernel
theorem dX10_lampsAre_130 : decode cX10_lampsAre 130 = .ok (.getfield 71, 3) := by decide +kernel
theorem dX10_lampsAre_133 : decode cX10_lampsAre 133 = .ok (.iload 5, 2) := by decide +kernel
theorem dX10_lampsAre_135 : decode cX10_lampsAre 135 = .ok (.iaload, 1) := by decide +kernel
theorem dX10_lampsAre_136 : decode cX10_lampsAre 136 = .ok (.if_icmp .ne 46, 3) := by decide +kernel
theorem dX10_lampsAre_139 : decode cX10_lampsAre 139 = .ok (.iload_n 3, 1) := by decide +kernel
theorem dX10_lampsAre_140 : decode cX10_lampsAre 140 = .ok (.aload_n 0, 1) := by decide +kernel
theorem dX10_lampsAre_141 : decode cX10_lampsAre 141 = .ok (.getfield 74, 3) := by decide +kernel
theorem dX10_lampsAre_144 : decode cX10_lampsAre 144 = .ok (.iload 5, 2) := by decide +kernel
theorem dX10_lampsAre_146 : decode cX10_lampsAre 146 = .ok (.iaload, 1) := by decide +kernel
theorem dX10_lampsAre_147 : decode cX10_lampsAre 147 = .ok (.invokestatic 355, 3) := by decide +kernel
theorem dX10_lampsAre_150 : decode cX10_lampsAre 150 = .ok (.if_icmp .lt 28, 3) := by decide +kernel
theorem dX10_lampsAre_153 : decode cX10_lampsAre 153 = .ok (.iload_n 3, 1) := by decide +kernel
theorem dX10_lampsAre_154 : decode cX10_lampsAre 154 = .ok (.aload_n 0, 1) := by decide +kernel
theorem dX10_lampsAre_155 : decode cX10_lampsAre 155 = .ok (.getfield 74, 3) := by decide +kernel
theorem dX10_lampsAre_158 : decode cX10_lampsAre 158 = .ok (.iload 5, 2) := by decide +kernel
theorem dX10_lampsAre_160 : decode cX10_lampsAre 160 = .ok (.iaload, 1) := by decide +kernel
theorem dX10_lampsAre_161 : decode cX10_lampsAre 161 = .ok (.invokestatic 355, 3) := by decide +kernel
theorem dX10_lampsAre_164 : decode cX10_lampsAre 164 = .ok (.if_icmp .ne 18, 3) := by decide +kernel
theorem dX10_lampsAre_167 : decode cX10_lampsAre 167 = .ok (.iload_n 1, 1) := by decide +kernel
theorem dX10_lampsAre_168 : decode cX10_lampsAre 168 = .ok (.aload_n 0, 1) := by decide +kernel
theorem dX10_lampsAre_169 : decode cX10_lampsAre 169 = .ok (.getfield 74, 3) := by decide +kernel
theorem dX10_lampsAre_172 : decode cX10_lampsAre 172 = .ok (.iload 5, 2) := by decide +kernel
theorem dX10_lampsAre_174 : decode cX10_lampsAre 174 = .ok (.iaload, 1) := by decide +kernel
theorem dX10_lampsAre_175 : decode cX10_lampsAre 175 = .ok (.if_icmp .ge 7, 3) := by decide +kernel
theorem dX10_lampsAre_178 : decode cX10_lampsAre 178 = .ok (.iconst 1, 1) := by decide +kernel
theorem dX10_lampsAre_179 : decode cX10_lampsAre 179 = .ok (.goto 4, 3) := by decide +kernel
theorem dX10_lampsAre_182 : decode cX10_lampsAre 182 = .ok (.iconst 0, 1) := by decide +kernel
theorem dX10_lampsAre_183 : decode cX10_lampsAre 183 = .ok (.istore 6, 2) := by decide +kernel
theorem dX10_lampsAre_185 : decode cX10_lampsAre 185 = .ok (.iload 6, 2) := by decide +kernel
theorem dX10_lampsAre_187 : decode cX10_lampsAre 187 = .ok (.ifCond .eq 20, 3) := by decide +kernel
theorem dX10_lampsAre_190 : decode cX10_lampsAre 190 = .ok (.aload_n 0, 1) := by decide +kernel
theorem dX10_lampsAre_191 : decode cX10_lampsAre 191 = .ok (.getfield 71, 3) := by decide +kernel
theorem dX10_lampsAre_194 : decode cX10_lampsAre 194 = .ok (.iload 5, 2) := by decide +kernel
theorem dX10_lampsAre_196 : decode cX10_lampsAre 196 = .ok (.iload 4, 2) := by decide +kernel
theorem dX10_lampsAre_198 : decode cX10_lampsAre 198 = .ok (.iastore, 1) := by decide +kernel
theorem dX10_lampsAre_199 : decode cX10_lampsAre 199 = .ok (.aload_n 0, 1) := by decide +kernel
theorem dX10_lampsAre_200 : decode cX10_lampsAre 200 = .ok (.getfield 74, 3) := by decide +kernel
theorem dX10_lampsAre_203 : decode cX10_lampsAre 203 = .ok (.iload 5, 2) := by decide +kernel
theorem dX10_lampsAre_205 : decode cX10_lampsAre 205 = .ok (.iload_n 1, 1) := by decide +kernel
theorem dX10_lampsAre_206 : decode cX10_lampsAre 206 = .ok (.iastore, 1) := by decide +kernel
theorem dX10_lampsAre_207 : decode cX10_lampsAre 207 = .ok (.aload_n 0, 1) := by decide +kernel
theorem dX10_lampsAre_208 : decode cX10_lampsAre 208 = .ok (.getfield 77, 3) := by decide +kernel
theorem dX10_lampsAre_211 : decode cX10_lampsAre 211 = .ok (.iload 5, 2) := by decide +kernel
theorem dX10_lampsAre_213 : decode cX10_lampsAre 213 = .ok (.iload_n 2, 1) := by decide +kernel
theorem dX10_lampsAre_214 : decode cX10_lampsAre 214 = .ok (.invokestatic 355, 3) := by decide +kernel
theorem dX10_lampsAre_217 : decode cX10_lampsAre 217 = .ok (.aload_n 0, 1) := by decide +kernel
theorem dX10_lampsAre_218 : decode cX10_lampsAre 218 = .ok (.getfield 77, 3) := by decide +kernel
theorem dX10_lampsAre_221 : decode cX10_lampsAre 221 = .ok (.iload 5, 2) := by decide +kernel
theorem dX10_lampsAre_223 : decode cX10_lampsAre 223 = .ok (.iaload, 1) := by decide +kernel
theorem dX10_lampsAre_224 : decode cX10_lampsAre 224 = .ok (.if_icmp .le 10, 3) := by decide +kernel
theorem dX10_lampsAre_227 : decode cX10_lampsAre 227 = .ok (.iload_n 2, 1) := by decide +kernel
theorem dX10_lampsAre_228 : decode cX10_lampsAre 228 = .ok (.invokestatic 355, 3) := by decide +kernel
theorem dX10_lampsAre_231 : decode cX10_lampsAre 231 = .ok (.goto 10, 3) := by decide +kernel
theorem dX10_lampsAre_234 : decode cX10_lampsAre 234 = .ok (.aload_n 0, 1) := by decide +kernel
theorem dX10_lampsAre_235 : decode cX10_lampsAre 235 = .ok (.getfield 77, 3) := by decide +kernel
theorem dX10_lampsAre_238 : decode cX10_lampsAre 238 = .ok (.iload 5, 2) := by decide +kernel
theorem dX10_lampsAre_240 : decode cX10_lampsAre 240 = .ok (.iaload, 1) := by decide +kernel
theorem dX10_lampsAre_241 : decode cX10_lampsAre 241 = .ok (.iastore, 1) := by decide +kernel
theorem dX10_lampsAre_242 : decode cX10_lampsAre 242 = .ok (.iinc 5 1, 3) := by decide +kernel
theorem dX10_lampsAre_245 : decode cX10_lampsAre 245 = .ok (.goto (-136), 3) := by decide +kernel
theorem dX10_lampsAre_248 : decode cX10_lampsAre 248 = .ok (.return_, 1) := by decide +kernel
theorem dX10_lampsFrom_0 : decode cX10_lampsFrom 0 = .ok (.aload_n 0, 1) := by decide +kernel
theorem dX10_lampsFrom_1 : decode cX10_lampsFrom 1 = .ok (.iload_n 2, 1) := by decide +kernel
theorem dX10_lampsFrom_2 : decode cX10_lampsFrom 2 = .ok (.invokevirtual 358, 3) := by decide +kernel
theorem dX10_lampsFrom_5 : decode cX10_lampsFrom 5 = .ok (.iload_n 2, 1) := by decide +kernel
theorem dX10_lampsFrom_6 : decode cX10_lampsFrom 6 = .ok (.invokestatic 355, 3) := by decide +kernel
theorem dX10_lampsFrom_9 : decode cX10_lampsFrom 9 = .ok (.iconst 3, 1) := by decide +kernel
theorem dX10_lampsFrom_10 : decode cX10_lampsFrom 10 = .ok (.if_icmp .ne 4, 3) := by decide +kernel
theorem dX10_lampsFrom_13 : decode cX10_lampsFrom 13 = .ok (.return_, 1) := by decide +kernel
theorem dX10_lampsFrom_14 : decode cX10_lampsFrom 14 = .ok (.iload_n 1, 1) := by decide +kernel
theorem dX10_lampsFrom_15 : decode cX10_lampsFrom 15 = .ok (.istore_n 3, 1) := by decide +kernel
theorem dX10_lampsFrom_16 : decode cX10_lampsFrom 16 = .ok (.iload_n 3, 1) := by decide +kernel
theorem dX10_lampsFrom_17 : decode cX10_lampsFrom 17 = .ok (.aload_n 0, 1) := by decide +kernel
theorem dX10_lampsFrom_18 : decode cX10_lampsFrom 18 = .ok (.invokevirtual 256, 3) := by decide +kernel
theorem dX10_lampsFrom_21 : decode cX10_lampsFrom 21 = .ok (.if_icmp .ge 21, 3) := by decide +kernel
theorem dX10_lampsFrom_24 : decode cX10_lampsFrom 24 = .ok (.aload_n 0, 1) := by decide +kernel
theorem dX10_lampsFrom_25 : decode cX10_lampsFrom 25 = .ok (.iload_n 3, 1) := by decide +kernel
theorem dX10_lampsFrom_26 : decode cX10_lampsFrom 26 = .ok (.iconst 1, 1) := by decide +kernel
theorem dX10_lampsFrom_27 : decode cX10_lampsFrom 27 = .ok (.iadd, 1) := by decide +kernel
theorem dX10_lampsFrom_28 : decode cX10_lampsFrom 28 = .ok (.iload_n 2, 1) := by decide +kernel
theorem dX10_lampsFrom_29 : decode cX10_lampsFrom 29 = .ok (.iconst 1, 1) := by decide +kernel
theorem dX10_lampsFrom_30 : decode cX10_lampsFrom 30 = .ok (.iload_n 3, 1) := by decide +kernel
theorem dX10_lampsFrom_31 : decode cX10_lampsFrom 31 = .ok (.ishl, 1) := by decide +kernel
theorem dX10_lampsFrom_32 : decode cX10_lampsFrom 32 = .ok (.ior, 1) := by decide +kernel
theorem dX10_lampsFrom_33 : decode cX10_lampsFrom 33 = .ok (.invokevirtual 361, 3) := by decide +kernel
theorem dX10_lampsFrom_36 : decode cX10_lampsFrom 36 = .ok (.iinc 3 1, 3) := by decide +kernel
theorem dX10_lampsFrom_39 : decode cX10_lampsFrom 39 = .ok (.goto (-23), 3) := by decide +kernel
theorem dX10_lampsFrom_42 : decode cX10_lampsFrom 42 = .ok (.return_, 1) := by decide +kernel
theorem dX10_laysLamps_0 : decode cX10_laysLamps 0 = .ok (.aload_n 0, 1) := by decide +kernel
theorem dX10_laysLamps_1 : decode cX10_laysLamps 1 = .ok (.invokevirtual 308, 3) := by decide +kernel
theorem dX10_laysLamps_4 : decode cX10_laysLamps 4 = .ok (.iconst 0, 1) := by decide +kernel
theorem dX10_laysLamps_5 : decode cX10_laysLamps 5 = .ok (.istore_n 1, 1) := by decide +kernel
theorem dX10_laysLamps_6 : decode cX10_laysLamps 6 = .ok (.iload_n 1, 1) := by decide +kernel
theorem dX10_laysLamps_7 : decode cX10_laysLamps 7 = .ok (.bipush 64, 2) := by decide +kernel
theorem dX10_laysLamps_9 : decode cX10_laysLamps 9 = .ok (.if_icmp .ge 17, 3) := by decide +kernel
theorem dX10_laysLamps_12 : decode cX10_laysLamps 12 = .ok (.aload_n 0, 1) := by decide +kernel
theorem dX10_laysLamps_13 : decode cX10_laysLamps 13 = .ok (.getfield 65, 3) := by decide +kernel
theorem dX10_laysLamps_16 : decode cX10_laysLamps 16 = .ok (.iload_n 1, 1) := by decide +kernel
theorem dX10_laysLamps_17 : decode cX10_laysLamps 17 = .ok (.ldc 142, 2) := by decide +kernel
theorem dX10_laysLamps_19 : decode cX10_laysLamps 19 = .ok (.iastore, 1) := by decide +kernel
theorem dX10_laysLamps_20 : decode cX10_laysLamps 20 = .ok (.iinc 1 1, 3) := by decide +kernel
theorem dX10_laysLamps_23 : decode cX10_laysLamps 23 = .ok (.goto (-17), 3) := by decide +kernel
theorem dX10_laysLamps_26 : decode cX10_laysLamps 26 = .ok (.iconst 0, 1) := by decide +kernel
theorem dX10_laysLamps_27 : decode cX10_laysLamps 27 = .ok (.istore_n 1, 1) := by decide +kernel
theorem dX10_laysLamps_28 : decode cX10_laysLamps 28 = .ok (.iload_n 1, 1) := by decide +kernel
theorem dX10_laysLamps_29 : decode cX10_laysLamps 29 = .ok (.iconst 3, 1) := by decide +kernel
theorem dX10_laysLamps_30 : decode cX10_laysLamps 30 = .ok (.if_icmp .gt 30, 3) := by decide +kernel
theorem dX10_laysLamps_33 : decode cX10_laysLamps 33 = .ok (.aload_n 0, 1) := by decide +kernel
theorem dX10_laysLamps_34 : decode cX10_laysLamps 34 = .ok (.getfield 71, 3) := by decide +kernel
theorem dX10_laysLamps_37 : decode cX10_laysLamps 37 = .ok (.iload_n 1, 1) := by decide +kernel
theorem dX10_laysLamps_38 : decode cX10_laysLamps 38 = .ok (.iconst (-1), 1) := by decide +kernel
theorem dX10_laysLamps_39 : decode cX10_laysLamps 39 = .ok (.iastore, 1) := by decide +kernel
theorem dX10_laysLamps_40 : decode cX10_laysLamps 40 = .ok (.aload_n 0, 1) := by decide +kernel
theorem dX10_laysLamps_41 : decode cX10_laysLamps 41 = .ok (.getfield 74, 3) := by decide +kernel
theorem dX10_laysLamps_44 : decode cX10_laysLamps 44 = .ok (.iload_n 1, 1) := by decide +kernel
theorem dX10_laysLamps_45 : decode cX10_laysLamps 45 = .ok (.iconst 0, 1) := by decide +kernel
theorem dX10_laysLamps_46 : decode cX10_laysLamps 46 = .ok (.iastore, 1) := by decide +kernel
theorem dX10_laysLamps_47 : decode cX10_laysLamps 47 = .ok (.aload_n 0, 1) := by decide +kernel
theorem dX10_laysLamps_48 : decode cX10_laysLamps 48 = .ok (.getfield 77, 3) := by decide +kernel
theorem dX10_laysLamps_51 : decode cX10_laysLamps 51 = .ok (.iload_n 1, 1) := by decide +kernel
theorem dX10_laysLamps_52 : decode cX10_laysLamps 52 = .ok (.iconst 0, 1) := by decide +kernel
theorem dX10_laysLamps_53 : decode cX10_laysLamps 53 = .ok (.iastore, 1) := by decide +kernel
theorem dX10_laysLamps_54 : decode cX10_laysLamps 54 = .ok (.iinc 1 1, 3) := by decide +kernel
theorem dX10_laysLamps_57 : decode cX10_laysLamps 57 = .ok (.goto (-29), 3) := by decide +kernel
theorem dX10_laysLamps_60 : decode cX10_laysLamps 60 = .ok (.aload_n 0, 1) := by decide +kernel
theorem dX10_laysLamps_61 : decode cX10_laysLamps 61 = .ok (.iconst 0, 1) := by decide +kernel
theorem dX10_laysLamps_62 : decode cX10_laysLamps 62 = .ok (.iconst 0, 1) := by decide +kernel
theorem dX10_laysLamps_63 : decode cX10_laysLamps 63 = .ok (.invokevirtual 361, 3) := by decide +kernel
theorem dX10_laysLamps_66 : decode cX10_laysLamps 66 = .ok (.return_, 1) := by decide +kernel
theorem dX10_sizeOf_0 : decode cX10_sizeOf 0 = .ok (.iconst 0, 1) := by decide +kernel
theorem dX10_sizeOf_1 : decode cX10_sizeOf 1 = .ok (.istore_n 1, 1) := by decide +kernel
theorem dX10_sizeOf_2 : decode cX10_sizeOf 2 = .ok (.iload_n 0, 1) := by decide +kernel
theorem dX10_sizeOf_3 : decode cX10_sizeOf 3 = .ok (.istore_n 2, 1) := by decide +kernel
theorem dX10_sizeOf_4 : decode cX10_sizeOf 4 = .ok (.iload_n 2, 1) := by decide +kernel
theorem dX10_sizeOf_5 : decode cX10_sizeOf 5 = .ok (.ifCond .eq 15, 3) := by decide +kernel
theorem dX10_sizeOf_8 : decode cX10_sizeOf 8 = .ok (.iinc 1 1, 3) := by decide +kernel
theorem dX10_sizeOf_11 : decode cX10_sizeOf 11 = .ok (.iload_n 2, 1) := by decide +kernel
theorem dX10_sizeOf_12 : decode cX10_sizeOf 12 = .ok (.iload_n 2, 1) := by decide +kernel
theorem dX10_sizeOf_13 : decode cX10_sizeOf 13 = .ok (.iconst 1, 1) := by decide +kernel
theorem dX10_sizeOf_14 : decode cX10_sizeOf 14 = .ok (.isub, 1) := by decide +kernel
theorem dX10_sizeOf_15 : decode cX10_sizeOf 15 = .ok (.iand, 1) := by decide +kernel
theorem dX10_sizeOf_16 : decode cX10_sizeOf 16 = .ok (.istore_n 2, 1) := by decide +kernel
theorem dX10_sizeOf_17 : decode cX10_sizeOf 17 = .ok (.goto (-13), 3) := by decide +kernel
theorem dX10_sizeOf_20 : decode cX10_sizeOf 20 = .ok (.iload_n 1, 1) := by decide +kernel
theorem dX10_sizeOf_21 : decode cX10_sizeOf 21 = .ok (.ireturn, 1) := by decide +kernel
theorem wd922 : Cond.fieldLink RX10 65 "GooseSharesModel" "fewest" "[I" ∈ gW := gm (tm_6 113 (by decide +kernel)) rfl
theorem wd923 : Cond.fieldLink RX10 68 "GooseSharesModel" "fewestSet" "[I" ∈ gW := gm (tm_6 114 (by decide +kernel)) rfl
theorem wd924 : Cond.fieldLink RX10 77 "GooseSharesModel" "most" "[I" ∈ gW := gm (tm_6 117 (by decide +kernel)) rfl
theorem wd925 : Cond.static yX10_sizeOf ∈ gW := gm (tm_8 137 (by decide +kernel)) rfl
theorem wd926 : Cond.code yX10_sizeOf cX10_sizeOf 3 (some .int) ∈ gW := gm (tm_8 138 (by decide +kernel)) rfl
theorem wd927 : Cond.methodLink RX10 355 yX10_sizeOf ∈ gW := gm (tm_8 136 (by decide +kernel)) rfl
theorem wd928 : Cond.fieldLink RX10 71 "GooseSharesModel" "income" "[I" ∈ gW := gm (tm_6 115 (by decide +kernel)) rfl
theorem wd929 : Cond.fieldLink RX10 74 "GooseSharesModel" "incomeSet" "[I" ∈ gW := gm (tm_6 116 (by decide +kernel)) rfl
theorem wd930 : Cond.instanceMethod yX10_lampsFrom ∈ gW := gm (tm_8 130 (by decide +kernel)) rfl
theorem wd931 : Cond.selects RX10 yX10_lampsFrom yX10_lampsFrom ∈ gW := gm (gmP 67 (by decide +kernel)) rfl
theorem wd932 : Cond.code yX10_lampsFrom cX10_lampsFrom 4 none ∈ gW := gm (tm_8 131 (by decide +kernel)) rfl
theorem wd933 : Cond.methodLink RX10 361 yX10_lampsFrom ∈ gW := gm (tm_8 128 (by decide +kernel)) rfl
theorem wd934 : Cond.instanceMethod yX10_lampsAre ∈ gW := gm (tm_8 134 (by decide +kernel)) rfl
theorem wd935 : Cond.selects RX10 yX10_lampsAre yX10_lampsAre ∈ gW := gm (gmP 68 (by decide +kernel)) rfl
theorem wd936 : Cond.code yX10_lampsAre cX10_lampsAre 7 none ∈ gW := gm (tm_8 135 (by decide +kernel)) rfl
theorem wd937 : Cond.methodLink RX10 358 yX10_lampsAre ∈ gW := gm (tm_8 132 (by decide +kernel)) rfl
theorem wd938 : Cond.constant RX10 142 (100000 : Int32) ∈ gW := gm (tm_7 53 (by decide +kernel)) rfl
theorem my_X10_sizeOf : gWS RX10 yX10_sizeOf cX10_sizeOf 3 (some .int) 1 := ⟨⟨wd925, wd742, wd926⟩, ⟨rfl, by decide +kernel, by decide +kernel, by decide +kernel⟩⟩
theorem my_X10_lampsFrom : gWV RX10 yX10_lampsFrom cX10_lampsFrom 4 none 2 := ⟨⟨wd930, wd931, wd742, wd932⟩, ⟨rfl, by decide +kernel, by decide +kernel, by decide +kernel⟩⟩
theorem my_X10_lampsAre : gWV RX10 yX10_lampsAre cX10_lampsAre 7 none 1 := ⟨⟨wd934, wd935, wd742, wd936⟩, ⟨rfl, by decide +kernel, by decide +kernel, by decide +kernel⟩⟩
