theorem dJ7_fill_d0a16_0 : decode cJ7_fill_d0a16 0 = .ok (.iconst 0, 1) := by decide +kernel
theorem dJ7_fill_d0a16_1 : decode cJ7_fill_d0a16 1 = .ok (.istore_n 3, 1) := by decide +kernel
theorem dJ7_fill_d0a16_2 : decode cJ7_fill_d0a16 2 = .ok (.aload_n 0, 1) := by decide +kernel
theorem dJ7_fill_d0a16_3 : decode cJ7_fill_d0a16 3 = .ok (.arraylength, 1) := by decide +kernel
theorem dJ7_fill_d0a16_4 : decode cJ7_fill_d0a16 4 = .ok (.istore 4, 2) := by decide +kernel
theorem dJ7_fill_d0a16_6 : decode cJ7_fill_d0a16 6 = .ok (.iload_n 3, 1) := by decide +kernel
theorem dJ7_fill_d0a16_7 : decode cJ7_fill_d0a16 7 = .ok (.iload 4, 2) := by decide +kernel
theorem dJ7_fill_d0a16_9 : decode cJ7_fill_d0a16 9 = .ok (.if_icmp .ge 13, 3) := by decide +kernel
theorem dJ7_fill_d0a16_12 : decode cJ7_fill_d0a16 12 = .ok (.aload_n 0, 1) := by decide +kernel
theorem dJ7_fill_d0a16_13 : decode cJ7_fill_d0a16 13 = .ok (.iload_n 3, 1) := by decide +kernel
theorem dJ7_fill_d0a16_14 : decode cJ7_fill_d0a16 14 = .ok (.lload_n 1, 1) := by decide +kernel
theorem dJ7_fill_d0a16_15 : decode cJ7_fill_d0a16 15 = .ok (.lastore, 1) := by decide +kernel
theorem dJ7_fill_d0a16_16 : decode cJ7_fill_d0a16 16 = .ok (.iinc 3 1, 3) := by decide +kernel
theorem dJ7_fill_d0a16_19 : decode cJ7_fill_d0a16 19 = .ok (.goto (-13), 3) := by decide +kernel
theorem dJ7_fill_d0a16_22 : decode cJ7_fill_d0a16 22 = .ok (.return_, 1) := by decide +kernel
theorem dX3_become_0 : decode cX3_become 0 = .ok (.aload_n 0, 1) := by decide +kernel
theorem dX3_become_1 : decode cX3_become 1 = .ok (.aload_n 1, 1) := by decide +kernel
theorem dX3_become_2 : decode cX3_become 2 = .ok (.getfield 42, 3) := by decide +kernel
theorem dX3_become_5 : decode cX3_become 5 = .ok (.putfield 42, 3) := by decide +kernel
theorem dX3_become_8 : decode cX3_become 8 = .ok (.aload_n 0, 1) := by decide +kernel
theorem dX3_become_9 : decode cX3_become 9 = .ok (.aload_n 1, 1) := by decide +kernel
theorem dX3_become_10 : decode cX3_become 10 = .ok (.getfield 46, 3) := by decide +kernel
theorem dX3_become_13 : decode cX3_become 13 = .ok (.putfield 46, 3) := by decide +kernel
theorem dX3_become_16 : decode cX3_become 16 = .ok (.aload_n 0, 1) := by decide +kernel
theorem dX3_become_17 : decode cX3_become 17 = .ok (.aload_n 1, 1) := by decide +kernel
theorem dX3_become_18 : decode cX3_become 18 = .ok (.getfield 49, 3) := by decide +kernel
theorem dX3_become_21 : decode cX3_become 21 = .ok (.putfield 49, 3) := by decide +kernel
theorem dX3_become_24 : decode cX3_become 24 = .ok (.aload_n 0, 1) := by decide +kernel
theorem dX3_become_25 : decode cX3_become 25 = .ok (.aload_n 1, 1) := by decide +kernel
theorem dX3_become_26 : decode cX3_become 26 = .ok (.getfield 52, 3) := by decide +kernel
theorem dX3_become_29 : decode cX3_become 29 = .ok (.putfield 52, 3) := by decide +kernel
theorem dX3_become_32 : decode cX3_become 32 = .ok (.aload_n 0, 1) := by decide +kernel
theorem dX3_become_33 : decode cX3_become 33 = .ok (.aload_n 1, 1) := by decide +kernel
theorem dX3_become_34 : decode cX3_become 34 = .ok (.getfield 55, 3) := by decide +kernel
theorem dX3_become_37 : decode cX3_become 37 = .ok (.putfield 55, 3) := by decide +kernel
theorem dX3_become_40 : decode cX3_become 40 = .ok (.aload_n 0, 1) := by decide +kernel
theorem dX3_become_41 : decode cX3_become 41 = .ok (.aload_n 1, 1) := by decide +kernel
theorem dX3_become_42 : decode cX3_become 42 = .ok (.getfield 58, 3) := by decide +kernel
theorem dX3_become_45 : decode cX3_become 45 = .ok (.putfield 58, 3) := by decide +kernel
theorem dX3_become_48 : decode cX3_become 48 = .ok (.aload_n 0, 1) := by decide +kernel
theorem dX3_become_49 : decode cX3_become 49 = .ok (.aload_n 1, 1) := by decide +kernel
theorem dX3_become_50 : decode cX3_become 50 = .ok (.getfield 61, 3) := by decide +kernel
theorem dX3_become_53 : decode cX3_become 53 = .ok (.putfield 61, 3) := by decide +kernel
theorem dX3_become_56 : decode cX3_become 56 = .ok (.aload_n 0, 1) := by decide +kernel
theorem dX3_become_57 : decode cX3_become 57 = .ok (.aload_n 1, 1) := by decide +kernel
theorem dX3_become_58 : decode cX3_become 58 = .ok (.getfield 64, 3) := by decide +kernel
theorem dX3_become_61 : decode cX3_become 61 = .ok (.putfield 64, 3) := by decide +kernel
theorem dX3_become_64 : decode cX3_become 64 = .ok (.aload_n 0, 1) := by decide +kernel
theorem dX3_become_65 : decode cX3_become 65 = .ok (.aload_n 1, 1) := by decide +kernel
theorem dX3_become_66 : decode cX3_become 66 = .ok (.getfield 67, 3) := by decide +kernel
theorem dX3_become_69 : decode cX3_become 69 = .ok (.putfield 67, 3) := by decide +kernel
theorem dX3_become_72 : decode cX3_become 72 = .ok (.aload_n 0, 1) := by decide +kernel
theorem dX3_become_73 : decode cX3_become 73 = .ok (.aload_n 1, 1) := by decide +kernel
theorem dX3_become_74 : decode cX3_become 74 = .ok (.getfield 70, 3) := by decide +kernel
theorem dX3_become_77 : decode cX3_become 77 = .ok (.putfield 70, 3) := by decide +kernel
theorem dX3_become_80 : decode cX3_become 80 = .ok (.aload_n 1, 1) := by decide +kernel
theorem dX3_become_81 : decode cX3_become 81 = .ok (.getfield 9, 3) := by decide +kernel
theorem dX3_become_84 : decode cX3_become 84 = .ok (.iconst 0, 1) := by decide +kernel
theorem dX3_become_85 : decode cX3_become 85 = .ok (.aload_n 0, 1) := by decide +kernel
theorem dX3_become_86 : decode cX3_become 86 = .ok (.getfield 9, 3) := by decide +kernel
theorem dX3_become_89 : decode cX3_become 89 = .ok (.iconst 0, 1) := by decide +kernel
theorem dX3_become_90 : decode cX3_become 90 = .ok (.iconst 4, 1) := by decide +kernel
theorem dX3_become_91 : decode cX3_become 91 = .ok (.invokestatic 73, 3) := by decide +kernel
theorem dX3_become_94 : decode cX3_become 94 = .ok (.aload_n 1, 1) := by decide +kernel
theorem dX3_become_95 : decode cX3_become 95 = .ok (.getfield 15, 3) := by decide +kernel
theorem dX3_become_98 : decode cX3_become 98 = .ok (.iconst 0, 1) := by decide +kernel
theorem dX3_become_99 : decode cX3_become 99 = .ok (.aload_n 0, 1) := by decide +kernel
theorem dX3_become_100 : decode cX3_become 100 = .ok (.getfield 15, 3) := by decide +kernel
theorem dX3_become_103 : decode cX3_become 103 = .ok (.iconst 0, 1) := by decide +kernel
theorem dX3_become_104 : decode cX3_become 104 = .ok (.iconst 4, 1) := by decide +kernel
theorem dX3_become_105 : decode cX3_become 105 = .ok (.invokestatic 73, 3) := by decide +kernel
theorem dX3_become_108 : decode cX3_become 108 = .ok (.aload_n 1, 1) := by decide +kernel
theorem dX3_become_109 : decode cX3_become 109 = .ok (.getfield 18, 3) := by decide +kernel
theorem dX3_become_112 : decode cX3_become 112 = .ok (.iconst 0, 1) := by decide +kernel
theorem dX3_become_113 : decode cX3_become 113 = .ok (.aload_n 0, 1) := by decide +kernel
theorem dX3_become_114 : decode cX3_become 114 = .ok (.getfield 18, 3) := by decide +kernel
theorem dX3_become_117 : decode cX3_become 117 = .ok (.iconst 0, 1) := by decide +kernel
theorem dX3_become_118 : decode cX3_become 118 = .ok (.iconst 4, 1) := by decide +kernel
theorem dX3_become_119 : decode cX3_become 119 = .ok (.invokestatic 73, 3) := by decide +kernel
theorem dX3_become_122 : decode cX3_become 122 = .ok (.aload_n 1, 1) := by decide +kernel
theorem dX3_become_123 : decode cX3_become 123 = .ok (.getfield 21, 3) := by decide +kernel
theorem dX3_become_126 : decode cX3_become 126 = .ok (.iconst 0, 1) := by decide +kernel
theorem dX3_become_127 : decode cX3_become 127 = .ok (.aload_n 0, 1) := by decide +kernel
theorem dX3_become_128 : decode cX3_become 128 = .ok (.getfield 21, 3) := by decide +kernel
theorem dX3_become_131 : decode cX3_become 131 = .ok (.iconst 0, 1) := by decide +kernel
theorem dX3_become_132 : decode cX3_become 132 = .ok (.bipush 6, 2) := by decide +kernel
theorem dX3_become_134 : decode cX3_become 134 = .ok (.invokestatic 73, 3) := by decide +kernel
theorem dX3_become_137 : decode cX3_become 137 = .ok (.aload_n 1, 1) := by decide +kernel
theorem dX3_become_138 : decode cX3_become 138 = .ok (.getfield 24, 3) := by decide +kernel
theorem dX3_become_141 : decode cX3_become 141 = .ok (.iconst 0, 1) := by decide +kernel
theorem dX3_become_142 : decode cX3_become 142 = .ok (.aload_n 0, 1) := by decide +kernel
theorem dX3_become_143 : decode cX3_become 143 = .ok (.getfield 24, 3) := by decide +kernel
theorem dX3_become_146 : decode cX3_become 146 = .ok (.iconst 0, 1) := by decide +kernel
theorem dX3_become_147 : decode cX3_become 147 = .ok (.bipush 6, 2) := by decide +kernel
theorem dX3_become_149 : decode cX3_become 149 = .ok (.invokestatic 73, 3) := by decide +kernel
theorem dX3_become_152 : decode cX3_become 152 = .ok (.aload_n 1, 1) := by decide +kernel
theorem dX3_become_153 : decode cX3_become 153 = .ok (.getfield 27, 3) := by decide +kernel
theorem dX3_become_156 : decode cX3_become 156 = .ok (.iconst 0, 1) := by decide +kernel
theorem dX3_become_157 : decode cX3_become 157 = .ok (.aload_n 0, 1) := by decide +kernel
theorem dX3_become_158 : decode cX3_become 158 = .ok (.getfield 27, 3) := by decide +kernel
theorem dX3_become_161 : decode cX3_become 161 = .ok (.iconst 0, 1) := by decide +kernel
theorem dX3_become_162 : decode cX3_become 162 = .ok (.bipush 6, 2) := by decide +kernel
theorem dX3_become_164 : decode cX3_become 164 = .ok (.invokestatic 73, 3) := by decide +kernel
theorem dX3_become_167 : decode cX3_become 167 = .ok (.aload_n 1, 1) := by decide +kernel
theorem dX3_become_168 : decode cX3_become 168 = .ok (.getfield 30, 3) := by decide +kernel
theorem dX3_become_171 : decode cX3_become 171 = .ok (.iconst 0, 1) := by decide +kernel
theorem dX3_become_172 : decode cX3_become 172 = .ok (.aload_n 0, 1) := by decide +kernel
theorem dX3_become_173 : decode cX3_become 173 = .ok (.getfield 30, 3) := by decide +kernel
theorem dX3_become_176 : decode cX3_become 176 = .ok (.iconst 0, 1) := by decide +kernel
theorem dX3_become_177 : decode cX3_become 177 = .ok (.bipush 40, 2) := by decide +kernel
theorem dX3_become_179 : decode cX3_become 179 = .ok (.invokestatic 73, 3) := by decide +kernel
theorem dX3_become_182 : decode cX3_become 182 = .ok (.aload_n 1, 1) := by decide +kernel
theorem dX3_become_183 : decode cX3_become 183 = .ok (.getfield 33, 3) := by decide +kernel
theorem dX3_become_186 : decode cX3_become 186 = .ok (.iconst 0, 1) := by decide +kernel
theorem dX3_become_187 : decode cX3_become 187 = .ok (.aload_n 0, 1) := by decide +kernel
theorem dX3_become_188 : decode cX3_become 188 = .ok (.getfield 33, 3) := by decide +kernel
theorem dX3_become_191 : decode cX3_become 191 = .ok (.iconst 0, 1) := by decide +kernel
theorem dX3_become_192 : decode cX3_become 192 = .ok (.bipush 40, 2) := by decide +kernel
theorem dX3_become_194 : decode cX3_become 194 = .ok (.invokestatic 73, 3) := by decide +kernel
theorem dX3_become_197 : decode cX3_become 197 = .ok (.aload_n 1, 1) := by decide +kernel
theorem dX3_become_198 : decode cX3_become 198 = .ok (.getfield 36, 3) := by decide +kernel
theorem dX3_become_201 : decode cX3_become 201 = .ok (.iconst 0, 1) := by decide +kernel
theorem dX3_become_202 : decode cX3_become 202 = .ok (.aload_n 0, 1) := by decide +kernel
theorem dX3_become_203 : decode cX3_become 203 = .ok (.getfield 36, 3) := by decide +kernel
theorem dX3_become_206 : decode cX3_become 206 = .ok (.iconst 0, 1) := by decide +kernel
theorem dX3_become_207 : decode cX3_become 207 = .ok (.bipush 20, 2) := by decide +kernel
theorem dX3_become_209 : decode cX3_become 209 = .ok (.invokestatic 73, 3) := by decide +kernel
theorem dX3_become_212 : decode cX3_become 212 = .ok (.aload_n 1, 1) := by decide +kernel
theorem dX3_become_213 : decode cX3_become 213 = .ok (.getfield 39, 3) := by decide +kernel
theorem dX3_become_216 : decode cX3_become 216 = .ok (.iconst 0, 1) := by decide +kernel
theorem dX3_become_217 : decode cX3_become 217 = .ok (.aload_n 0, 1) := by decide +kernel
theorem dX3_become_218 : decode cX3_become 218 = .ok (.getfield 39, 3) := by decide +kernel
theorem dX3_become_221 : decode cX3_become 221 = .ok (.iconst 0, 1) := by decide +kernel
theorem dX3_become_222 : decode cX3_become 222 = .ok (.bipush 80, 2) := by decide +kernel
theorem dX3_become_224 : decode cX3_become 224 = .ok (.invokestatic 73, 3) := by decide +kernel
theorem dX3_become_227 : decode cX3_become 227 = .ok (.return_, 1) := by decide +kernel
theorem dX3_clear_0 : decode cX3_clear 0 = .ok (.aload_n 0, 1) := by decide +kernel
theorem dX3_clear_1 : decode cX3_clear 1 = .ok (.iconst 0, 1) := by decide +kernel
theorem dX3_clear_2 : decode cX3_clear 2 = .ok (.putfield 42, 3) := by decide +kernel
theorem dX3_clear_5 : decode cX3_clear 5 = .ok (.aload_n 0, 1) := by decide +kernel
theorem dX3_clear_6 : decode cX3_clear 6 = .ok (.iconst 0, 1) := by decide +kernel
theorem dX3_clear_7 : decode cX3_clear 7 = .ok (.putfield 46, 3) := by decide +kernel
theorem dX3_clear_10 : decode cX3_clear 10 = .ok (.aload_n 0, 1) := by decide +kernel
theorem dX3_clear_11 : decode cX3_clear 11 = .ok (.iconst 0, 1) := by decide +kernel
theorem dX3_clear_12 : decode cX3_clear 12 = .ok (.putfield 49, 3) := by decide +kernel
theorem dX3_clear_15 : decode cX3_clear 15 = .ok (.aload_n 0, 1) := by decide +kernel
theorem dX3_clear_16 : decode cX3_clear 16 = .ok (.iconst 0, 1) := by decide +kernel
theorem dX3_clear_17 : decode cX3_clear 17 = .ok (.putfield 52, 3) := by decide +kernel
theorem dX3_clear_20 : decode cX3_clear 20 = .ok (.aload_n 0, 1) := by decide +kernel
theorem dX3_clear_21 : decode cX3_clear 21 = .ok (.iconst 0, 1) := by decide +kernel
theorem dX3_clear_22 : decode cX3_clear 22 = .ok (.putfield 55, 3) := by decide +kernel
theorem dX3_clear_25 : decode cX3_clear 25 = .ok (.aload_n 0, 1) := by decide +kernel
theorem dX3_clear_26 : decode cX3_clear 26 = .ok (.iconst 0, 1) := by decide +kernel
theorem dX3_clear_27 : decode cX3_clear 27 = .ok (.putfield 58, 3) := by decide +kernel
theorem dX3_clear_30 : decode cX3_clear 30 = .ok (.aload_n 0, 1) := by decide +kernel
theorem dX3_clear_31 : decode cX3_clear 31 = .ok (.iconst 0, 1) := by decide +kernel
theorem dX3_clear_32 : decode cX3_clear 32 = .ok (.putfield 61, 3) := by decide +kernel
theorem dX3_clear_35 : decode cX3_clear 35 = .ok (.aload_n 0, 1) := by decide +kernel
theorem dX3_clear_36 : decode cX3_clear 36 = .ok (.iconst 0, 1) := by decide +kernel
theorem dX3_clear_37 : decode cX3_clear 37 = .ok (.putfield 64, 3) := by decide +kernel
theorem dX3_clear_40 : decode cX3_clear 40 = .ok (.aload_n 0, 1) := by decide +kernel
theorem dX3_clear_41 : decode cX3_clear 41 = .ok (.iconst 0, 1) := by decide +kernel
theorem dX3_clear_42 : decode cX3_clear 42 = .ok (.putfield 67, 3) := by decide +kernel
theorem dX3_clear_45 : decode cX3_clear 45 = .ok (.aload_n 0, 1) := by decide +kernel
theorem dX3_clear_46 : decode cX3_clear 46 = .ok (.iconst 0, 1) := by decide +kernel
theorem dX3_clear_47 : decode cX3_clear 47 = .ok (.putfield 70, 3) := by decide +kernel
theorem dX3_clear_50 : decode cX3_clear 50 = .ok (.return_, 1) := by decide +kernel
theorem dX3_survey_0 : decode cX3_survey 0 = .ok (.iconst 0, 1) := by decide +kernel
theorem dX3_survey_1 : decode cX3_survey 1 = .ok (.istore_n 1, 1) := by decide +kernel
theorem dX3_survey_2 : decode cX3_survey 2 = .ok (.iload_n 1, 1) := by decide +kernel
theorem dX3_survey_3 : decode cX3_survey 3 = .ok (.aload_n 0, 1) := by decide +kernel
theorem dX3_survey_4 : decode cX3_survey 4 = .ok (.invokevirtual 79, 3) := by decide +kernel
theorem dX3_survey_7 : decode cX3_survey 7 = .ok (.if_icmp .ge 86, 3) := by decide +kernel
theorem dX3_survey_93 : decode cX3_survey 93 = .ok (.return_, 1) := by decide +kernel
theorem dX4_forget_0 : decode cX4_forget 0 = .ok (.aload_n 0, 1) := by decide +kernel
theorem dX4_forget_1 : decode cX4_forget 1 = .ok (.iconst 0, 1) := by decide +kernel
theorem dX4_forget_2 : decode cX4_forget 2 = .ok (.putfield 26, 3) := by decide +kernel
theorem dX4_forget_5 : decode cX4_forget 5 = .ok (.return_, 1) := by decide +kernel
theorem dX5_advance_0 : decode cX5_advance 0 = .ok (.aload_n 0, 1) := by decide +kernel
theorem dX5_advance_1 : decode cX5_advance 1 = .ok (.aload_n 0, 1) := by decide +kernel
theorem dX5_advance_2 : decode cX5_advance 2 = .ok (.getfield 31, 3) := by decide +kernel
theorem dX5_advance_5 : decode cX5_advance 5 = .ok (.putfield 141, 3) := by decide +kernel
theorem dX5_advance_8 : decode cX5_advance 8 = .ok (.aload_n 0, 1) := by decide +kernel
theorem dX5_advance_9 : decode cX5_advance 9 = .ok (.getfield 141, 3) := by decide +kernel
theorem dX5_advance_12 : decode cX5_advance 12 = .ok (.aload_n 0, 1) := by decide +kernel
theorem dX5_advance_13 : decode cX5_advance 13 = .ok (.getfield 15, 3) := by decide +kernel
theorem dX5_advance_16 : decode cX5_advance 16 = .ok (.getfield 144, 3) := by decide +kernel
theorem dX5_advance_19 : decode cX5_advance 19 = .ok (.if_icmp .ge 35, 3) := by decide +kernel
theorem dX5_advance_54 : decode cX5_advance 54 = .ok (.aload_n 0, 1) := by decide +kernel
theorem dX5_advance_55 : decode cX5_advance 55 = .ok (.aload_n 0, 1) := by decide +kernel
theorem dX5_advance_56 : decode cX5_advance 56 = .ok (.getfield 141, 3) := by decide +kernel
theorem dX5_advance_59 : decode cX5_advance 59 = .ok (.putfield 31, 3) := by decide +kernel
theorem dX5_advance_62 : decode cX5_advance 62 = .ok (.aload_n 0, 1) := by decide +kernel
theorem dX5_advance_63 : decode cX5_advance 63 = .ok (.getfield 141, 3) := by decide +kernel
theorem dX5_advance_66 : decode cX5_advance 66 = .ok (.aload_n 0, 1) := by decide +kernel
theorem dX5_advance_67 : decode cX5_advance 67 = .ok (.getfield 15, 3) := by decide +kernel
theorem dX5_advance_70 : decode cX5_advance 70 = .ok (.getfield 144, 3) := by decide +kernel
theorem dX5_advance_73 : decode cX5_advance 73 = .ok (.if_icmp .lt 9, 3) := by decide +kernel
theorem dX5_advance_76 : decode cX5_advance 76 = .ok (.aload_n 0, 1) := by decide +kernel
theorem dX5_advance_77 : decode cX5_advance 77 = .ok (.iconst 0, 1) := by decide +kernel
theorem dX5_advance_78 : decode cX5_advance 78 = .ok (.putfield 37, 3) := by decide +kernel
theorem dX5_advance_81 : decode cX5_advance 81 = .ok (.return_, 1) := by decide +kernel
theorem dX5_readTape_0 : decode cX5_readTape 0 = .ok (.aload_n 0, 1) := by decide +kernel
theorem dX5_readTape_1 : decode cX5_readTape 1 = .ok (.getfield 19, 3) := by decide +kernel
theorem dX5_readTape_4 : decode cX5_readTape 4 = .ok (.invokevirtual 23, 3) := by decide +kernel
theorem dX5_readTape_7 : decode cX5_readTape 7 = .ok (.aload_n 0, 1) := by decide +kernel
theorem dX5_readTape_8 : decode cX5_readTape 8 = .ok (.iconst 0, 1) := by decide +kernel
theorem dX5_readTape_9 : decode cX5_readTape 9 = .ok (.putfield 28, 3) := by decide +kernel
theorem dX5_readTape_12 : decode cX5_readTape 12 = .ok (.aload_n 0, 1) := by decide +kernel
theorem dX5_readTape_13 : decode cX5_readTape 13 = .ok (.iconst (-1), 1) := by decide +kernel
theorem dX5_readTape_14 : decode cX5_readTape 14 = .ok (.putfield 9, 3) := by decide +kernel
theorem dX5_readTape_17 : decode cX5_readTape 17 = .ok (.aload_n 0, 1) := by decide +kernel
theorem dX5_readTape_18 : decode cX5_readTape 18 = .ok (.iconst 0, 1) := by decide +kernel
theorem dX5_readTape_19 : decode cX5_readTape 19 = .ok (.putfield 31, 3) := by decide +kernel
theorem dX5_readTape_22 : decode cX5_readTape 22 = .ok (.aload_n 0, 1) := by decide +kernel
theorem dX5_readTape_23 : decode cX5_readTape 23 = .ok (.invokevirtual 34, 3) := by decide +kernel
theorem dX5_readTape_26 : decode cX5_readTape 26 = .ok (.iconst 0, 1) := by decide +kernel
theorem dX5_readTape_27 : decode cX5_readTape 27 = .ok (.istore_n 1, 1) := by decide +kernel
theorem dX5_readTape_28 : decode cX5_readTape 28 = .ok (.iload_n 1, 1) := by decide +kernel
theorem dX5_readTape_29 : decode cX5_readTape 29 = .ok (.sipush 800, 3) := by decide +kernel
theorem dX5_readTape_32 : decode cX5_readTape 32 = .ok (.if_icmp .ge 27, 3) := by decide +kernel
theorem dX5_readTape_35 : decode cX5_readTape 35 = .ok (.aload_n 0, 1) := by decide +kernel
theorem dX5_readTape_36 : decode cX5_readTape 36 = .ok (.getfield 37, 3) := by decide +kernel
theorem dX5_readTape_39 : decode cX5_readTape 39 = .ok (.ifCond .eq 20, 3) := by decide +kernel
theorem dX5_readTape_59 : decode cX5_readTape 59 = .ok (.aload_n 0, 1) := by decide +kernel
theorem dX5_readTape_60 : decode cX5_readTape 60 = .ok (.getfield 19, 3) := by decide +kernel
theorem dX5_readTape_63 : decode cX5_readTape 63 = .ok (.invokevirtual 43, 3) := by decide +kernel
theorem dX5_readTape_66 : decode cX5_readTape 66 = .ok (.aload_n 0, 1) := by decide +kernel
theorem dX5_readTape_67 : decode cX5_readTape 67 = .ok (.getfield 28, 3) := by decide +kernel
theorem dX5_readTape_70 : decode cX5_readTape 70 = .ok (.ifCond .ne 7, 3) := by decide +kernel
theorem dX5_readTape_73 : decode cX5_readTape 73 = .ok (.iconst 1, 1) := by decide +kernel
theorem dX5_readTape_74 : decode cX5_readTape 74 = .ok (.goto 4, 3) := by decide +kernel
theorem dX5_readTape_78 : decode cX5_readTape 78 = .ok (.ireturn, 1) := by decide +kernel
theorem dX6_begin_0 : decode cX6_begin 0 = .ok (.aload_n 0, 1) := by decide +kernel
theorem dX6_begin_1 : decode cX6_begin 1 = .ok (.iload_n 1, 1) := by decide +kernel
theorem dX6_begin_2 : decode cX6_begin 2 = .ok (.putfield 15, 3) := by decide +kernel
theorem dX6_begin_5 : decode cX6_begin 5 = .ok (.aload_n 0, 1) := by decide +kernel
theorem dX6_begin_6 : decode cX6_begin 6 = .ok (.iload_n 2, 1) := by decide +kernel
theorem dX6_begin_7 : decode cX6_begin 7 = .ok (.putfield 19, 3) := by decide +kernel
theorem dX6_begin_10 : decode cX6_begin 10 = .ok (.aload_n 0, 1) := by decide +kernel
theorem dX6_begin_11 : decode cX6_begin 11 = .ok (.getfield 9, 3) := by decide +kernel
theorem dX6_begin_14 : decode cX6_begin 14 = .ok (.lconst 0, 1) := by decide +kernel
theorem dX6_begin_15 : decode cX6_begin 15 = .ok (.invokestatic 22, 3) := by decide +kernel
theorem dX6_begin_18 : decode cX6_begin 18 = .ok (.return_, 1) := by decide +kernel
theorem dX9_back_0 : decode cX9_back 0 = .ok (.iload_n 1, 1) := by decide +kernel
theorem dX9_back_1 : decode cX9_back 1 = .ok (.ifCond .lt 8, 3) := by decide +kernel
theorem dX9_back_4 : decode cX9_back 4 = .ok (.iload_n 1, 1) := by decide +kernel
theorem dX9_back_5 : decode cX9_back 5 = .ok (.iconst 3, 1) := by decide +kernel
theorem dX9_back_6 : decode cX9_back 6 = .ok (.if_icmp .lt 6, 3) := by decide +kernel
theorem dX9_back_9 : decode cX9_back 9 = .ok (.bipush (-2), 2) := by decide +kernel
theorem dX9_back_11 : decode cX9_back 11 = .ok (.ireturn, 1) := by decide +kernel
theorem dX9_back_12 : decode cX9_back 12 = .ok (.aload_n 0, 1) := by decide +kernel
theorem dX9_back_13 : decode cX9_back 13 = .ok (.getfield 81, 3) := by decide +kernel
theorem dX9_back_16 : decode cX9_back 16 = .ok (.iload_n 1, 1) := by decide +kernel
theorem dX9_back_17 : decode cX9_back 17 = .ok (.baload, 1) := by decide +kernel
theorem dX9_back_18 : decode cX9_back 18 = .ok (.ifCond .ne 6, 3) := by decide +kernel
theorem dX9_back_21 : decode cX9_back 21 = .ok (.bipush (-6), 2) := by decide +kernel
theorem dX9_back_23 : decode cX9_back 23 = .ok (.ireturn, 1) := by decide +kernel
theorem dX9_image_0 : decode cX9_image 0 = .ok (.iload_n 1, 1) := by decide +kernel
theorem dX9_image_1 : decode cX9_image 1 = .ok (.ifCond .lt 8, 3) := by decide +kernel
theorem dX9_image_4 : decode cX9_image 4 = .ok (.iload_n 1, 1) := by decide +kernel
theorem dX9_image_5 : decode cX9_image 5 = .ok (.iconst 3, 1) := by decide +kernel
theorem dX9_image_6 : decode cX9_image 6 = .ok (.if_icmp .lt 6, 3) := by decide +kernel
theorem dX9_image_9 : decode cX9_image 9 = .ok (.bipush (-2), 2) := by decide +kernel
theorem dX9_image_11 : decode cX9_image 11 = .ok (.ireturn, 1) := by decide +kernel
theorem dX9_image_12 : decode cX9_image 12 = .ok (.aload_n 0, 1) := by decide +kernel
theorem dX9_image_13 : decode cX9_image 13 = .ok (.getfield 32, 3) := by decide +kernel
theorem dX9_image_16 : decode cX9_image 16 = .ok (.iload_n 1, 1) := by decide +kernel
theorem dX9_image_17 : decode cX9_image 17 = .ok (.aaload, 1) := by decide +kernel
theorem dX9_image_18 : decode cX9_image 18 = .ok (.aload_n 0, 1) := by decide +kernel
theorem dX9_image_19 : decode cX9_image 19 = .ok (.getfield 19, 3) := by decide +kernel
theorem dX9_image_22 : decode cX9_image 22 = .ok (.invokevirtual 101, 3) := by decide +kernel
theorem dX9_image_25 : decode cX9_image 25 = .ok (.aload_n 0, 1) := by decide +kernel
theorem dX9_image_26 : decode cX9_image 26 = .ok (.getfield 81, 3) := by decide +kernel
theorem dX9_image_29 : decode cX9_image 29 = .ok (.iload_n 1, 1) := by decide +kernel
theorem dX9_image_30 : decode cX9_image 30 = .ok (.iconst 1, 1) := by decide +kernel
theorem dX9_image_31 : decode cX9_image 31 = .ok (.bastore, 1) := by decide +kernel
theorem dX9_image_32 : decode cX9_image 32 = .ok (.iconst 0, 1) := by decide +kernel
theorem dX9_image_33 : decode cX9_image 33 = .ok (.ireturn, 1) := by decide +kernel
theorem dX9_land_0 : decode cX9_land 0 = .ok (.aload_n 0, 1) := by decide +kernel
theorem dX9_land_1 : decode cX9_land 1 = .ok (.getfield 28, 3) := by decide +kernel
theorem dX9_land_4 : decode cX9_land 4 = .ok (.invokevirtual 94, 3) := by decide +kernel
theorem dX9_land_7 : decode cX9_land 7 = .ok (.ifCond .ne 6, 3) := by decide +kernel
theorem dX9_land_13 : decode cX9_land 13 = .ok (.aload_n 0, 1) := by decide +kernel
theorem dX9_land_14 : decode cX9_land 14 = .ok (.getfield 10, 3) := by decide +kernel
theorem dX9_land_17 : decode cX9_land 17 = .ok (.iconst 0, 1) := by decide +kernel
theorem dX9_land_18 : decode cX9_land 18 = .ok (.putfield 86, 3) := by decide +kernel
theorem dX9_land_21 : decode cX9_land 21 = .ok (.aload_n 0, 1) := by decide +kernel
theorem dX9_land_22 : decode cX9_land 22 = .ok (.getfield 19, 3) := by decide +kernel
theorem dX9_land_25 : decode cX9_land 25 = .ok (.aload_n 0, 1) := by decide +kernel
theorem dX9_land_26 : decode cX9_land 26 = .ok (.getfield 28, 3) := by decide +kernel
theorem dX9_land_29 : decode cX9_land 29 = .ok (.getfield 98, 3) := by decide +kernel
theorem dX9_land_32 : decode cX9_land 32 = .ok (.invokevirtual 101, 3) := by decide +kernel
theorem dX9_land_35 : decode cX9_land 35 = .ok (.aload_n 0, 1) := by decide +kernel
theorem dX9_land_36 : decode cX9_land 36 = .ok (.getfield 56, 3) := by decide +kernel
theorem dX9_land_39 : decode cX9_land 39 = .ok (.invokevirtual 104, 3) := by decide +kernel
theorem dX9_land_42 : decode cX9_land 42 = .ok (.aload_n 0, 1) := by decide +kernel
theorem dX9_land_43 : decode cX9_land 43 = .ok (.getfield 19, 3) := by decide +kernel
theorem dX9_land_46 : decode cX9_land 46 = .ok (.getfield 107, 3) := by decide +kernel
theorem dX9_land_49 : decode cX9_land 49 = .ok (.ireturn, 1) := by decide +kernel
theorem dX9_row_0 : decode cX9_row 0 = .ok (.iload_n 1, 1) := by decide +kernel
theorem dX9_row_1 : decode cX9_row 1 = .ok (.invokestatic 395, 3) := by decide +kernel
theorem dX9_row_4 : decode cX9_row 4 = .ok (.ifCond .eq 18, 3) := by decide +kernel
theorem dX9_row_7 : decode cX9_row 7 = .ok (.iload_n 2, 1) := by decide +kernel
theorem dX9_row_8 : decode cX9_row 8 = .ok (.ifCond .lt 14, 3) := by decide +kernel
theorem dX9_row_11 : decode cX9_row 11 = .ok (.iload_n 2, 1) := by decide +kernel
theorem dX9_row_12 : decode cX9_row 12 = .ok (.iconst 4, 1) := by decide +kernel
theorem dX9_row_13 : decode cX9_row 13 = .ok (.if_icmp .ge 9, 3) := by decide +kernel
theorem dX9_row_16 : decode cX9_row 16 = .ok (.iload_n 3, 1) := by decide +kernel
theorem dX9_row_17 : decode cX9_row 17 = .ok (.bipush 60, 2) := by decide +kernel
theorem dX9_row_19 : decode cX9_row 19 = .ok (.if_icmp .le 6, 3) := by decide +kernel
theorem dX9_row_22 : decode cX9_row 22 = .ok (.bipush (-2), 2) := by decide +kernel
theorem dX9_row_24 : decode cX9_row 24 = .ok (.ireturn, 1) := by decide +kernel
theorem dX9_row_25 : decode cX9_row 25 = .ok (.iload_n 3, 1) := by decide +kernel
theorem dX9_row_26 : decode cX9_row 26 = .ok (.ifCond .ge 6, 3) := by decide +kernel
theorem dX9_row_29 : decode cX9_row 29 = .ok (.bipush (-3), 2) := by decide +kernel
theorem dX9_row_31 : decode cX9_row 31 = .ok (.ireturn, 1) := by decide +kernel
theorem dX9_row_32 : decode cX9_row 32 = .ok (.aload_n 0, 1) := by decide +kernel
theorem dX9_row_33 : decode cX9_row 33 = .ok (.getfield 38, 3) := by decide +kernel
theorem dX9_row_36 : decode cX9_row 36 = .ok (.iload_n 1, 1) := by decide +kernel
theorem dX9_row_37 : decode cX9_row 37 = .ok (.aaload, 1) := by decide +kernel
theorem dX9_row_38 : decode cX9_row 38 = .ok (.iload_n 2, 1) := by decide +kernel
theorem dX9_row_39 : decode cX9_row 39 = .ok (.iload_n 3, 1) := by decide +kernel
theorem dX9_row_40 : decode cX9_row 40 = .ok (.invokevirtual 398, 3) := by decide +kernel
theorem dX9_row_43 : decode cX9_row 43 = .ok (.iconst 0, 1) := by decide +kernel
theorem dX9_row_44 : decode cX9_row 44 = .ok (.ireturn, 1) := by decide +kernel
theorem wd85 : Cond.fieldLink RX6 19 "GooseShares$Row" "length" "I" ∈ gW := gm (tm_2 87 (by decide +kernel)) rfl
theorem wd86 : Cond.fieldLink RX6 9 "GooseShares$Row" "numbers" "[J" ∈ gW := gm (tm_2 81 (by decide +kernel)) rfl
theorem wd87 : Cond.static yJ7_fill_d0a16 ∈ gW := gm (tm_6 58 (by decide +kernel)) rfl
theorem wd88 : Cond.initialized "java/util/Arrays" ∈ gW := gm (tm_1 18 (by decide +kernel)) rfl
theorem wd89 : Cond.code yJ7_fill_d0a16 cJ7_fill_d0a16 5 none ∈ gW := gm (tm_6 59 (by decide +kernel)) rfl
theorem wd90 : Cond.methodLink RX6 22 yJ7_fill_d0a16 ∈ gW := gm (tm_6 57 (by decide +kernel)) rfl
theorem wd91 : Cond.instanceMethod yX6_begin ∈ gW := gm (tm_6 54 (by decide +kernel)) rfl
theorem wd92 : Cond.selects RX6 yX6_begin yX6_begin ∈ gW := gm (tm_6 55 (by decide +kernel)) rfl
theorem wd93 : Cond.code yX6_begin cX6_begin 3 none ∈ gW := gm (tm_6 56 (by decide +kernel)) rfl
theorem wd94 : Cond.methodLink RX9 398 yX6_begin ∈ gW := gm (tm_6 53 (by decide +kernel)) rfl
theorem wd95 : Cond.fieldLink RX3 52 "GooseShares$Land" "law" "I" ∈ gW := gm (tm_1 61 (by decide +kernel)) rfl
theorem wd96 : Cond.fieldLink RX3 55 "GooseShares$Land" "ear" "I" ∈ gW := gm (tm_1 67 (by decide +kernel)) rfl
theorem wd97 : Cond.fieldLink RX3 58 "GooseShares$Land" "odds" "I" ∈ gW := gm (tm_1 70 (by decide +kernel)) rfl
theorem wd98 : Cond.fieldLink RX3 67 "GooseShares$Land" "lit" "I" ∈ gW := gm (tm_1 88 (by decide +kernel)) rfl
theorem wd99 : Cond.fieldLink RX3 70 "GooseShares$Land" "acts" "I" ∈ gW := gm (tm_1 93 (by decide +kernel)) rfl
theorem wd100 : Cond.fieldLink RX3 9 "GooseShares$Land" "starts" "[I" ∈ gW := gm (tm_1 95 (by decide +kernel)) rfl
theorem wd101 : Cond.initialized "java/lang/System" ∈ gW := gm (tm_1 17 (by decide +kernel)) rfl
theorem wd102 : Cond.methodLink RX3 73 arraycopyName ∈ gW := gm (tm_3 48 (by decide +kernel)) rfl
theorem wd103 : Cond.native arraycopyName ∈ gW := gm (tm_3 50 (by decide +kernel)) rfl
theorem wd104 : Cond.static arraycopyName ∈ gW := gm (tm_3 49 (by decide +kernel)) rfl
theorem wd105 : Cond.fieldLink RX3 15 "GooseShares$Land" "headings" "[I" ∈ gW := gm (tm_1 99 (by decide +kernel)) rfl
theorem wd106 : Cond.fieldLink RX3 18 "GooseShares$Land" "flocks" "[I" ∈ gW := gm (tm_1 103 (by decide +kernel)) rfl
theorem wd107 : Cond.fieldLink RX3 21 "GooseShares$Land" "houses" "[I" ∈ gW := gm (tm_1 107 (by decide +kernel)) rfl
theorem wd108 : Cond.fieldLink RX3 24 "GooseShares$Land" "wants" "[I" ∈ gW := gm (tm_1 112 (by decide +kernel)) rfl
theorem wd109 : Cond.fieldLink RX3 27 "GooseShares$Land" "pays" "[I" ∈ gW := gm (tm_1 116 (by decide +kernel)) rfl
theorem wd110 : Cond.fieldLink RX3 30 "GooseShares$Land" "actPlaces" "[I" ∈ gW := gm (tm_1 120 (by decide +kernel)) rfl
theorem wd111 : Cond.fieldLink RX3 33 "GooseShares$Land" "actWere" "[I" ∈ gW := gm (tm_1 121 (by decide +kernel)) rfl
theorem wd112 : Cond.fieldLink RX3 36 "GooseShares$Land" "within" "[I" ∈ gW := gm (tm_1 122 (by decide +kernel)) rfl
theorem wd113 : Cond.fieldLink RX3 39 "GooseShares$Land" "beside" "[I" ∈ gW := gm (tm_1 124 (by decide +kernel)) rfl
theorem wd114 : Cond.fieldLink RX9 32 "GooseShares" "images" "[LGooseShares$Land;" ∈ gW := gm (tm_2 101 (by decide +kernel)) rfl
theorem wd115 : Cond.instanceMethod yX3_become ∈ gW := gm (tm_3 45 (by decide +kernel)) rfl
theorem wd116 : Cond.selects RX3 yX3_become yX3_become ∈ gW := gm (tm_3 46 (by decide +kernel)) rfl
theorem wd117 : Cond.code yX3_become cX3_become 2 none ∈ gW := gm (tm_3 47 (by decide +kernel)) rfl
theorem wd118 : Cond.methodLink RX9 101 yX3_become ∈ gW := gm (tm_3 44 (by decide +kernel)) rfl
theorem wd119 : Cond.fieldLink RX9 81 "GooseShares" "imaged" "[Z" ∈ gW := gm (tm_2 108 (by decide +kernel)) rfl
theorem wd120 : Cond.fieldLink RX5 31 "GooseShares$Reader" "stop" "I" ∈ gW := gm (tm_1 179 (by decide +kernel)) rfl
theorem wd121 : Cond.fieldLink RX5 141 "GooseShares$Reader" "start" "I" ∈ gW := gm (tm_1 178 (by decide +kernel)) rfl
theorem wd122 : Cond.fieldLink RX5 15 "GooseShares$Reader" "tape" "LGooseShares$Tape;" ∈ gW := gm (tm_1 174 (by decide +kernel)) rfl
theorem wd123 : Cond.fieldLink RX5 144 "GooseShares$Tape" "length" "I" ∈ gW := gm (tm_1 38 (by decide +kernel)) rfl
theorem wd124 : Cond.fieldLink RX5 37 "GooseShares$Reader" "kind" "I" ∈ gW := gm (tm_1 177 (by decide +kernel)) rfl
theorem wd125 : Cond.fieldLink RX5 19 "GooseShares$Reader" "draft" "LGooseShares$Land;" ∈ gW := gm (tm_1 175 (by decide +kernel)) rfl
theorem wd126 : Cond.instanceMethod yX3_clear ∈ gW := gm (tm_2 153 (by decide +kernel)) rfl
theorem wd127 : Cond.selects RX3 yX3_clear yX3_clear ∈ gW := gm (tm_2 154 (by decide +kernel)) rfl
theorem wd128 : Cond.code yX3_clear cX3_clear 1 none ∈ gW := gm (tm_2 155 (by decide +kernel)) rfl
theorem wd129 : Cond.methodLink RX5 23 yX3_clear ∈ gW := gm (tm_2 152 (by decide +kernel)) rfl
theorem wd130 : Cond.fieldLink RX5 28 "GooseShares$Reader" "trouble" "I" ∈ gW := gm (tm_1 180 (by decide +kernel)) rfl
theorem wd131 : Cond.fieldLink RX5 9 "GooseShares$Reader" "where" "I" ∈ gW := gm (tm_1 182 (by decide +kernel)) rfl
theorem wd132 : Cond.instanceMethod yX5_advance ∈ gW := gm (tm_2 157 (by decide +kernel)) rfl
theorem wd133 : Cond.selects RX5 yX5_advance yX5_advance ∈ gW := gm (tm_2 158 (by decide +kernel)) rfl
theorem wd134 : Cond.initialized RX5 ∈ gW := gm (tm_1 4 (by decide +kernel)) rfl
theorem wd135 : Cond.code yX5_advance cX5_advance 1 none ∈ gW := gm (tm_2 159 (by decide +kernel)) rfl
theorem wd136 : Cond.methodLink RX5 34 yX5_advance ∈ gW := gm (tm_2 156 (by decide +kernel)) rfl
theorem wd137 : Cond.instanceMethod yX3_survey ∈ gW := gm (tm_3 25 (by decide +kernel)) rfl
theorem wd138 : Cond.selects RX3 yX3_survey yX3_survey ∈ gW := gm (tm_3 26 (by decide +kernel)) rfl
theorem wd139 : Cond.code yX3_survey cX3_survey 3 none ∈ gW := gm (tm_3 27 (by decide +kernel)) rfl
theorem wd140 : Cond.methodLink RX5 43 yX3_survey ∈ gW := gm (tm_3 24 (by decide +kernel)) rfl
theorem wd141 : Cond.fieldLink RX4 26 "GooseShares$Lanterns" "known" "Z" ∈ gW := gm (tm_2 12 (by decide +kernel)) rfl
theorem wd142 : Cond.instanceMethod yX5_readTape ∈ gW := gm (tm_2 149 (by decide +kernel)) rfl
theorem wd143 : Cond.selects RX5 yX5_readTape yX5_readTape ∈ gW := gm (tm_2 150 (by decide +kernel)) rfl
theorem wd144 : Cond.code yX5_readTape cX5_readTape 2 (some .boolean) ∈ gW := gm (tm_2 151 (by decide +kernel)) rfl
theorem wd145 : Cond.methodLink RX9 94 yX5_readTape ∈ gW := gm (tm_2 148 (by decide +kernel)) rfl
theorem wd146 : Cond.fieldLink RX9 98 "GooseShares$Reader" "draft" "LGooseShares$Land;" ∈ gW := gm (tm_1 176 (by decide +kernel)) rfl
theorem wd147 : Cond.fieldLink RX9 56 "GooseShares" "lanterns" "LGooseShares$Lanterns;" ∈ gW := gm (tm_2 104 (by decide +kernel)) rfl
theorem wd148 : Cond.instanceMethod yX4_forget ∈ gW := gm (tm_3 52 (by decide +kernel)) rfl
theorem wd149 : Cond.selects RX4 yX4_forget yX4_forget ∈ gW := gm (tm_3 53 (by decide +kernel)) rfl
theorem wd150 : Cond.initialized RX4 ∈ gW := gm (tm_1 6 (by decide +kernel)) rfl
theorem wd151 : Cond.code yX4_forget cX4_forget 1 none ∈ gW := gm (tm_3 54 (by decide +kernel)) rfl
theorem wd152 : Cond.methodLink RX9 104 yX4_forget ∈ gW := gm (tm_3 51 (by decide +kernel)) rfl
theorem my_J7_fill_d0a16 : gWS "java/util/Arrays" yJ7_fill_d0a16 cJ7_fill_d0a16 5 none 2 := ⟨⟨wd87, wd88, wd89⟩, ⟨rfl, by decide +kernel, by decide +kernel, by decide +kernel⟩⟩
theorem my_X6_begin : gWV RX6 yX6_begin cX6_begin 3 none 2 := ⟨⟨wd91, wd92, wd68, wd93⟩, ⟨rfl, by decide +kernel, by decide +kernel, by decide +kernel⟩⟩
theorem my_X3_become : gWV RX3 yX3_become cX3_become 2 none 1 := ⟨⟨wd115, wd116, wd7, wd117⟩, ⟨rfl, by decide +kernel, by decide +kernel, by decide +kernel⟩⟩
theorem my_X3_clear : gWV RX3 yX3_clear cX3_clear 1 none 0 := ⟨⟨wd126, wd127, wd7, wd128⟩, ⟨rfl, by decide +kernel, by decide +kernel, by decide +kernel⟩⟩
theorem my_X5_advance : gWV RX5 yX5_advance cX5_advance 1 none 0 := ⟨⟨wd132, wd133, wd134, wd135⟩, ⟨rfl, by decide +kernel, by decide +kernel, by decide +kernel⟩⟩
theorem my_X3_survey : gWV RX3 yX3_survey cX3_survey 3 none 0 := ⟨⟨wd137, wd138, wd7, wd139⟩, ⟨rfl, by decide +kernel, by decide +kernel, by decide +kernel⟩⟩
theorem my_X5_readTape : gWV RX5 yX5_readTape cX5_readTape 2 (some .boolean) 0 := ⟨⟨wd142, wd143, wd134, wd144⟩, ⟨rfl, by decide +kernel, by decide +kernel, by decide +kernel⟩⟩
theorem my_X4_forget : gWV RX4 yX4_forget cX4_forget 1 none 0 := ⟨⟨wd148, wd149, wd150, wd151⟩, ⟨rfl, by decide +kernel, by decide +kernel, by decide +kernel⟩⟩
theorem ti_3 : (3 : Int32).toInt = 3 := by decide
