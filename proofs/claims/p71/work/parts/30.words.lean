theorem dX3_allCells_0 : decode cX3_allCells 0 = .ok (.iconst 1, 1) := by decide +kernel
theorem dX3_allCells_1 : decode cX3_allCells 1 = .ok (.aload_n 0, 1) := by decide +kernel
theorem dX3_allCells_2 : decode cX3_allCells 2 = .ok (.invokevirtual 79, 3) := by decide +kernel
theorem dX3_allCells_5 : decode cX3_allCells 5 = .ok (.ishl, 1) := by decide +kernel
theorem dX3_allCells_6 : decode cX3_allCells 6 = .ok (.iconst 1, 1) := by decide +kernel
theorem dX3_allCells_7 : decode cX3_allCells 7 = .ok (.isub, 1) := by decide +kernel
theorem dX3_allCells_8 : decode cX3_allCells 8 = .ok (.ireturn, 1) := by decide +kernel
theorem dX3_allMembers_0 : decode cX3_allMembers 0 = .ok (.iconst 1, 1) := by decide +kernel
theorem dX3_allMembers_1 : decode cX3_allMembers 1 = .ok (.aload_n 0, 1) := by decide +kernel
theorem dX3_allMembers_2 : decode cX3_allMembers 2 = .ok (.getfield 64, 3) := by decide +kernel
theorem dX3_allMembers_5 : decode cX3_allMembers 5 = .ok (.ishl, 1) := by decide +kernel
theorem dX3_allMembers_6 : decode cX3_allMembers 6 = .ok (.iconst 1, 1) := by decide +kernel
theorem dX3_allMembers_7 : decode cX3_allMembers 7 = .ok (.isub, 1) := by decide +kernel
theorem dX3_allMembers_8 : decode cX3_allMembers 8 = .ok (.ireturn, 1) := by decide +kernel
theorem dX3_become_0 : decode cX3_become 0 = .ok (.aload_n 0, 1) := by decide +kernel
theorem dX3_become_1 : decode cX3_become 1 = .ok (.aload_n 1, 1) := by decide +kernel
theorem dX3_become_2 : decode cX3_become 2 = .ok (.getfield 42, 3) := by decide +kernel
theorem dX3_become_5 : decode cX3_become 5 = .ok (.putfield 42, 3) := by decide +kernel
theorem dX3_become_8 : decode cX3_become 8 = .ok (.aload_n 0, 1) := by decide +kernel
theorem dX3_become_9 : decode cX3_become 9 = .ok (.aload_n 1, 1) := by decide +kernel
theorem dX3_become_10 : decode cX3_become 10 = .ok (.getfield 46, 3) := by decide +kernel
theorem dX3_become_13 : decode cX3_become 13 = .ok (.putfield 46, 3) := by decide +kernel
theorem dX3_become_16 : decode cX3_become 16 = .ok (.aload_n 0, 1) := by decide +kernel
theorem dX3_become_17 : decode cX3_become 17 = .ok (.aload_n 1, 1) := by decide +kernel
theorem dX3_become_18 : decode cX3_become 18 = .ok (.getfield 49, 3) := by decide +kernel
theorem dX3_become_21 : decode cX3_become 21 = .ok (.putfield 49, 3) := by decide +kernel
theorem dX3_become_24 : decode cX3_become 24 = .ok (.aload_n 0, 1) := by decide +kernel
theorem dX3_become_25 : decode cX3_become 25 = .ok (.aload_n 1, 1) := by decide +kernel
theorem dX3_become_26 : decode cX3_become 26 = .ok (.getfield 52, 3) := by decide +kernel
theorem dX3_become_29 : decode cX3_become 29 = .ok (.putfield 52, 3) := by decide +kernel
theorem dX3_become_32 : decode cX3_become 32 = .ok (.aload_n 0, 1) := by decide +kernel
theorem dX3_become_33 : decode cX3_become 33 = .ok (.aload_n 1, 1) := by decide +kernel
theorem dX3_become_34 : decode cX3_become 34 = .ok (.getfield 55, 3) := by decide +kernel
theorem dX3_become_37 : decode cX3_become 37 = .ok (.putfield 55, 3) := by decide +kernel
theorem dX3_become_40 : decode cX3_become 40 = .ok (.aload_n 0, 1) := by decide +kernel
theorem dX3_become_41 : decode cX3_become 41 = .ok (.aload_n 1, 1) := by decide +kernel
theorem dX3_become_42 : decode cX3_become 42 = .ok (.getfield 58, 3) := by decide +kernel
theorem dX3_become_45 : decode cX3_become 45 = .ok (.putfield 58, 3) := by decide +kernel
theorem dX3_become_48 : decode cX3_become 48 = .ok (.aload_n 0, 1) := by decide +kernel
theorem dX3_become_49 : decode cX3_become 49 = .ok (.aload_n 1, 1) := by decide +kernel
theorem dX3_become_50 : decode cX3_become 50 = .ok (.getfield 61, 3) := by decide +kernel
theorem dX3_become_53 : decode cX3_become 53 = .ok (.putfield 61, 3) := by decide +kernel
theorem dX3_become_56 : decode cX3_become 56 = .ok (.aload_n 0, 1) := by decide +kernel
theorem dX3_become_57 : decode cX3_become 57 = .ok (.aload_n 1, 1) := by decide +kernel
theorem dX3_become_58 : decode cX3_become 58 = .ok (.getfield 64, 3) := by decide +kernel
theorem dX3_become_61 : decode cX3_become 61 = .ok (.putfield 64, 3) := by decide +kernel
theorem dX3_become_64 : decode cX3_become 64 = .ok (.aload_n 0, 1) := by decide +kernel
theorem dX3_become_65 : decode cX3_become 65 = .ok (.aload_n 1, 1) := by decide +kernel
theorem dX3_become_66 : decode cX3_become 66 = .ok (.getfield 67, 3) := by decide +kernel
theorem dX3_become_69 : decode cX3_become 69 = .ok (.putfield 67, 3) := by decide +kernel
theorem dX3_become_72 : decode cX3_become 72 = .ok (.aload_n 0, 1) := by decide +kernel
theorem dX3_become_73 : decode cX3_become 73 = .ok (.aload_n 1, 1) := by decide +kernel
theorem dX3_become_74 : decode cX3_become 74 = .ok (.getfield 70, 3) := by decide +kernel
theorem dX3_become_77 : decode cX3_become 77 = .ok (.putfield 70, 3) := by decide +kernel
theorem dX3_become_80 : decode cX3_become 80 = .ok (.aload_n 1, 1) := by decide +kernel
theorem dX3_become_81 : decode cX3_become 81 = .ok (.getfield 9, 3) := by decide +kernel
theorem dX3_become_84 : decode cX3_become 84 = .ok (.iconst 0, 1) := by decide +kernel
theorem dX3_become_85 : decode cX3_become 85 = .ok (.aload_n 0, 1) := by decide +kernel
theorem dX3_become_86 : decode cX3_become 86 = .ok (.getfield 9, 3) := by decide +kernel
theorem dX3_become_89 : decode cX3_become 89 = .ok (.iconst 0, 1) := by decide +kernel
theorem dX3_become_90 : decode cX3_become 90 = .ok (.iconst 4, 1) := by decide +kernel
theorem dX3_become_91 : decode cX3_become 91 = .ok (.invokestatic 73, 3) := by decide +kernel
theorem dX3_become_94 : decode cX3_become 94 = .ok (.aload_n 1, 1) := by decide +kernel
theorem dX3_become_95 : decode cX3_become 95 = .ok (.getfield 15, 3) := by decide +kernel
theorem dX3_become_98 : decode cX3_become 98 = .ok (.iconst 0, 1) := by decide +kernel
theorem dX3_become_99 : decode cX3_become 99 = .ok (.aload_n 0, 1) := by decide +kernel
theorem dX3_become_100 : decode cX3_become 100 = .ok (.getfield 15, 3) := by decide +kernel
theorem dX3_become_103 : decode cX3_become 103 = .ok (.iconst 0, 1) := by decide +kernel
theorem dX3_become_104 : decode cX3_become 104 = .ok (.iconst 4, 1) := by decide +kernel
theorem dX3_become_105 : decode cX3_become 105 = .ok (.invokestatic 73, 3) := by decide +kernel
theorem dX3_become_108 : decode cX3_become 108 = .ok (.aload_n 1, 1) := by decide +kernel
theorem dX3_become_109 : decode cX3_become 109 = .ok (.getfield 18, 3) := by decide +kernel
theorem dX3_become_112 : decode cX3_become 112 = .ok (.iconst 0, 1) := by decide +kernel
theorem dX3_become_113 : decode cX3_become 113 = .ok (.aload_n 0, 1) := by decide +kernel
theorem dX3_become_114 : decode cX3_become 114 = .ok (.getfield 18, 3) := by decide +kernel
theorem dX3_become_117 : decode cX3_become 117 = .ok (.iconst 0, 1) := by decide +kernel
theorem dX3_become_118 : decode cX3_become 118 = .ok (.iconst 4, 1) := by decide +kernel
theorem dX3_become_119 : decode cX3_become 119 = .ok (.invokestatic 73, 3) := by decide +kernel
theorem dX3_become_122 : decode cX3_become 122 = .ok (.aload_n 1, 1) := by decide +kernel
theorem dX3_become_123 : decode cX3_become 123 = .ok (.getfield 21, 3) := by decide +kernel
theorem dX3_become_126 : decode cX3_become 126 = .ok (.iconst 0, 1) := by decide +kernel
theorem dX3_become_127 : decode cX3_become 127 = .ok (.aload_n 0, 1) := by decide +kernel
theorem dX3_become_128 : decode cX3_become 128 = .ok (.getfield 21, 3) := by decide +kernel
theorem dX3_become_131 : decode cX3_become 131 = .ok (.iconst 0, 1) := by decide +kernel
theorem dX3_become_132 : decode cX3_become 132 = .ok (.bipush 6, 2) := by decide +kernel
theorem dX3_become_134 : decode cX3_become 134 = .ok (.invokestatic 73, 3) := by decide +kernel
theorem dX3_become_137 : decode cX3_become 137 = .ok (.aload_n 1, 1) := by decide +kernel
theorem dX3_become_138 : decode cX3_become 138 = .ok (.getfield 24, 3) := by decide +kernel
theorem dX3_become_141 : decode cX3_become 141 = .ok (.iconst 0, 1) := by decide +kernel
theorem dX3_become_142 : decode cX3_become 142 = .ok (.aload_n 0, 1) := by decide +kernel
theorem dX3_become_143 : decode cX3_become 143 = .ok (.getfield 24, 3) := by decide +kernel
theorem dX3_become_146 : decode cX3_become 146 = .ok (.iconst 0, 1) := by decide +kernel
theorem dX3_become_147 : decode cX3_become 147 = .ok (.bipush 6, 2) := by decide +kernel
theorem dX3_become_149 : decode cX3_become 149 = .ok (.invokestatic 73, 3) := by decide +kernel
theorem dX3_become_152 : decode cX3_become 152 = .ok (.aload_n 1, 1) := by decide +kernel
theorem dX3_become_153 : decode cX3_become 153 = .ok (.getfield 27, 3) := by decide +kernel
theorem dX3_become_156 : decode cX3_become 156 = .ok (.iconst 0, 1) := by decide +kernel
theorem dX3_become_157 : decode cX3_become 157 = .ok (.aload_n 0, 1) := by decide +kernel
theorem dX3_become_158 : decode cX3_become 158 = .ok (.getfield 27, 3) := by decide +kernel
theorem dX3_become_161 : decode cX3_become 161 = .ok (.iconst 0, 1) := by decide +kernel
theorem dX3_become_162 : decode cX3_become 162 = .ok (.bipush 6, 2) := by decide +kernel
theorem dX3_become_164 : decode cX3_become 164 = .ok (.invokestatic 73, 3) := by decide +kernel
theorem dX3_become_167 : decode cX3_become 167 = .ok (.aload_n 1, 1) := by decide +kernel
theorem dX3_become_168 : decode cX3_become 168 = .ok (.getfield 30, 3) := by decide +kernel
theorem dX3_become_171 : decode cX3_become 171 = .ok (.iconst 0, 1) := by decide +kernel
theorem dX3_become_172 : decode cX3_become 172 = .ok (.aload_n 0, 1) := by decide +kernel
theorem dX3_become_173 : decode cX3_become 173 = .ok (.getfield 30, 3) := by decide +kernel
theorem dX3_become_176 : decode cX3_become 176 = .ok (.iconst 0, 1) := by decide +kernel
theorem dX3_become_177 : decode cX3_become 177 = .ok (.bipush 40, 2) := by decide +kernel
theorem dX3_become_179 : decode cX3_become 179 = .ok (.invokestatic 73, 3) := by decide +kernel
theorem dX3_become_182 : decode cX3_become 182 = .ok (.aload_n 1, 1) := by decide +kernel
theorem dX3_become_183 : decode cX3_become 183 = .ok (.getfield 33, 3) := by decide +kernel
theorem dX3_become_186 : decode cX3_become 186 = .ok (.iconst 0, 1) := by decide +kernel
theorem dX3_become_187 : decode cX3_become 187 = .ok (.aload_n 0, 1) := by decide +kernel
theorem dX3_become_188 : decode cX3_become 188 = .ok (.getfield 33, 3) := by decide +kernel
theorem dX3_become_191 : decode cX3_become 191 = .ok (.iconst 0, 1) := by decide +kernel
theorem dX3_become_192 : decode cX3_become 192 = .ok (.bipush 40, 2) := by decide +kernel
theorem dX3_become_194 : decode cX3_become 194 = .ok (.invokestatic 73, 3) := by decide +kernel
theorem dX3_become_197 : decode cX3_become 197 = .ok (.aload_n 1, 1) := by decide +kernel
theorem dX3_become_198 : decode cX3_become 198 = .ok (.getfield 36, 3) := by decide +kernel
theorem dX3_become_201 : decode cX3_become 201 = .ok (.iconst 0, 1) := by decide +kernel
theorem dX3_become_202 : decode cX3_become 202 = .ok (.aload_n 0, 1) := by decide +kernel
theorem dX3_become_203 : decode cX3_become 203 = .ok (.getfield 36, 3) := by decide +kernel
theorem dX3_become_206 : decode cX3_become 206 = .ok (.iconst 0, 1) := by decide +kernel
theorem dX3_become_207 : decode cX3_become 207 = .ok (.bipush 20, 2) := by decide +kernel
theorem dX3_become_209 : decode cX3_become 209 = .ok (.invokestatic 73, 3) := by decide +kernel
theorem dX3_become_212 : decode cX3_become 212 = .ok (.aload_n 1, 1) := by decide +kernel
theorem dX3_become_213 : decode cX3_become 213 = .ok (.getfield 39, 3) := by decide +kernel
theorem dX3_become_216 : decode cX3_become 216 = .ok (.iconst 0, 1) := by decide +kernel
theorem dX3_become_217 : decode cX3_become 217 = .ok (.aload_n 0, 1) := by decide +kernel
theorem dX3_become_218 : decode cX3_become 218 = .ok (.getfield 39, 3) := by decide +kernel
theorem dX3_become_221 : decode cX3_become 221 = .ok (.iconst 0, 1) := by decide +kernel
theorem dX3_become_222 : decode cX3_become 222 = .ok (.bipush 80, 2) := by decide +kernel
theorem dX3_become_224 : decode cX3_become 224 = .ok (.invokestatic 73, 3) := by decide +kernel
theorem dX3_become_227 : decode cX3_become 227 = .ok (.return_, 1) := by decide +kernel
theorem dX3_cells_0 : decode cX3_cells 0 = .ok (.aload_n 0, 1) := by decide +kernel
theorem dX3_cells_1 : decode cX3_cells 1 = .ok (.getfield 46, 3) := by decide +kernel
theorem dX3_cells_4 : decode cX3_cells 4 = .ok (.aload_n 0, 1) := by decide +kernel
theorem dX3_cells_5 : decode cX3_cells 5 = .ok (.getfield 49, 3) := by decide +kernel
theorem dX3_cells_8 : decode cX3_cells 8 = .ok (.imul, 1) := by decide +kernel
theorem dX3_cells_9 : decode cX3_cells 9 = .ok (.ireturn, 1) := by decide +kernel
theorem dX3_clear_0 : decode cX3_clear 0 = .ok (.aload_n 0, 1) := by decide +kernel
theorem dX3_clear_1 : decode cX3_clear 1 = .ok (.iconst 0, 1) := by decide +kernel
theorem dX3_clear_2 : decode cX3_clear 2 = .ok (.putfield 42, 3) := by decide +kernel
theorem dX3_clear_5 : decode cX3_clear 5 = .ok (.aload_n 0, 1) := by decide +kernel
theorem dX3_clear_6 : decode cX3_clear 6 = .ok (.iconst 0, 1) := by decide +kernel
theorem dX3_clear_7 : decode cX3_clear 7 = .ok (.putfield 46, 3) := by decide +kernel
theorem dX3_clear_10 : decode cX3_clear 10 = .ok (.aload_n 0, 1) := by decide +kernel
theorem dX3_clear_11 : decode cX3_clear 11 = .ok (.iconst 0, 1) := by decide +kernel
theorem dX3_clear_12 : decode cX3_clear 12 = .ok (.putfield 49, 3) := by decide +kernel
theorem dX3_clear_15 : decode cX3_clear 15 = .ok (.aload_n 0, 1) := by decide +kernel
theorem dX3_clear_16 : decode cX3_clear 16 = .ok (.iconst 0, 1) := by decide +kernel
theorem dX3_clear_17 : decode cX3_clear 17 = .ok (.putfield 52, 3) := by decide +kernel
theorem dX3_clear_20 : decode cX3_clear 20 = .ok (.aload_n 0, 1) := by decide +kernel
theorem dX3_clear_21 : decode cX3_clear 21 = .ok (.iconst 0, 1) := by decide +kernel
theorem dX3_clear_22 : decode cX3_clear 22 = .ok (.putfield 55, 3) := by decide +kernel
theorem dX3_clear_25 : decode cX3_clear 25 = .ok (.aload_n 0, 1) := by decide +kernel
theorem dX3_clear_26 : decode cX3_clear 26 = .ok (.iconst 0, 1) := by decide +kernel
theorem dX3_clear_27 : decode cX3_clear 27 = .ok (.putfield 58, 3) := by decide +kernel
theorem dX3_clear_30 : decode cX3_clear 30 = .ok (.aload_n 0, 1) := by decide +kernel
theorem dX3_clear_31 : decode cX3_clear 31 = .ok (.iconst 0, 1) := by decide +kernel
theorem dX3_clear_32 : decode cX3_clear 32 = .ok (.putfield 61, 3) := by decide +kernel
theorem dX3_clear_35 : decode cX3_clear 35 = .ok (.aload_n 0, 1) := by decide +kernel
theorem dX3_clear_36 : decode cX3_clear 36 = .ok (.iconst 0, 1) := by decide +kernel
theorem dX3_clear_37 : decode cX3_clear 37 = .ok (.putfield 64, 3) := by decide +kernel
theorem dX3_clear_40 : decode cX3_clear 40 = .ok (.aload_n 0, 1) := by decide +kernel
theorem dX3_clear_41 : decode cX3_clear 41 = .ok (.iconst 0, 1) := by decide +kernel
theorem dX3_clear_42 : decode cX3_clear 42 = .ok (.putfield 67, 3) := by decide +kernel
theorem dX3_clear_45 : decode cX3_clear 45 = .ok (.aload_n 0, 1) := by decide +kernel
theorem dX3_clear_46 : decode cX3_clear 46 = .ok (.iconst 0, 1) := by decide +kernel
theorem dX3_clear_47 : decode cX3_clear 47 = .ok (.putfield 70, 3) := by decide +kernel
theorem dX3_clear_50 : decode cX3_clear 50 = .ok (.return_, 1) := by decide +kernel
theorem dX3_distance_0 : decode cX3_distance 0 = .ok (.aload_n 0, 1) := by decide +kernel
theorem dX3_distance_1 : decode cX3_distance 1 = .ok (.iload_n 1, 1) := by decide +kernel
theorem dX3_distance_2 : decode cX3_distance 2 = .ok (.invokevirtual 90, 3) := by decide +kernel
theorem dX3_distance_5 : decode cX3_distance 5 = .ok (.istore_n 3, 1) := by decide +kernel
theorem dX3_distance_6 : decode cX3_distance 6 = .ok (.aload_n 0, 1) := by decide +kernel
theorem dX3_distance_7 : decode cX3_distance 7 = .ok (.iload_n 2, 1) := by decide +kernel
theorem dX3_distance_8 : decode cX3_distance 8 = .ok (.invokevirtual 90, 3) := by decide +kernel
theorem dX3_distance_11 : decode cX3_distance 11 = .ok (.istore 4, 2) := by decide +kernel
theorem dX3_distance_13 : decode cX3_distance 13 = .ok (.iload_n 1, 1) := by decide +kernel
theorem dX3_distance_14 : decode cX3_distance 14 = .ok (.iload_n 3, 1) := by decide +kernel
theorem dX3_distance_15 : decode cX3_distance 15 = .ok (.aload_n 0, 1) := by decide +kernel
theorem dX3_distance_16 : decode cX3_distance 16 = .ok (.getfield 46, 3) := by decide +kernel
theorem dX3_distance_19 : decode cX3_distance 19 = .ok (.imul, 1) := by decide +kernel
theorem dX3_distance_20 : decode cX3_distance 20 = .ok (.isub, 1) := by decide +kernel
theorem dX3_distance_21 : decode cX3_distance 21 = .ok (.iload_n 2, 1) := by decide +kernel
theorem dX3_distance_22 : decode cX3_distance 22 = .ok (.iload 4, 2) := by decide +kernel
theorem dX3_distance_24 : decode cX3_distance 24 = .ok (.aload_n 0, 1) := by decide +kernel
theorem dX3_distance_25 : decode cX3_distance 25 = .ok (.getfield 46, 3) := by decide +kernel
theorem dX3_distance_28 : decode cX3_distance 28 = .ok (.imul, 1) := by decide +kernel
theorem dX3_distance_29 : decode cX3_distance 29 = .ok (.isub, 1) := by decide +kernel
theorem dX3_distance_30 : decode cX3_distance 30 = .ok (.isub, 1) := by decide +kernel
theorem dX3_distance_31 : decode cX3_distance 31 = .ok (.istore 5, 2) := by decide +kernel
theorem dX3_distance_33 : decode cX3_distance 33 = .ok (.iload_n 3, 1) := by decide +kernel
theorem dX3_distance_34 : decode cX3_distance 34 = .ok (.iload 4, 2) := by decide +kernel
theorem dX3_distance_36 : decode cX3_distance 36 = .ok (.isub, 1) := by decide +kernel
theorem dX3_distance_37 : decode cX3_distance 37 = .ok (.invokestatic 94, 3) := by decide +kernel
theorem dX3_distance_40 : decode cX3_distance 40 = .ok (.iload 5, 2) := by decide +kernel
theorem dX3_distance_42 : decode cX3_distance 42 = .ok (.invokestatic 94, 3) := by decide +kernel
theorem dX3_distance_45 : decode cX3_distance 45 = .ok (.iadd, 1) := by decide +kernel
theorem dX3_distance_46 : decode cX3_distance 46 = .ok (.ireturn, 1) := by decide +kernel
theorem dX3_earshot_0 : decode cX3_earshot 0 = .ok (.aload_n 0, 1) := by decide +kernel
theorem dX3_earshot_1 : decode cX3_earshot 1 = .ok (.getfield 36, 3) := by decide +kernel
theorem dX3_earshot_4 : decode cX3_earshot 4 = .ok (.aload_n 0, 1) := by decide +kernel
theorem dX3_earshot_5 : decode cX3_earshot 5 = .ok (.getfield 21, 3) := by decide +kernel
theorem dX3_earshot_8 : decode cX3_earshot 8 = .ok (.iload_n 1, 1) := by decide +kernel
theorem dX3_earshot_9 : decode cX3_earshot 9 = .ok (.iaload, 1) := by decide +kernel
theorem dX3_earshot_10 : decode cX3_earshot 10 = .ok (.iaload, 1) := by decide +kernel
theorem dX3_earshot_11 : decode cX3_earshot 11 = .ok (.ireturn, 1) := by decide +kernel
theorem dX3_hasCell_0 : decode cX3_hasCell 0 = .ok (.iload_n 1, 1) := by decide +kernel
theorem dX3_hasCell_1 : decode cX3_hasCell 1 = .ok (.ifCond .lt 15, 3) := by decide +kernel
theorem dX3_hasCell_4 : decode cX3_hasCell 4 = .ok (.iload_n 1, 1) := by decide +kernel
theorem dX3_hasCell_5 : decode cX3_hasCell 5 = .ok (.aload_n 0, 1) := by decide +kernel
theorem dX3_hasCell_6 : decode cX3_hasCell 6 = .ok (.invokevirtual 79, 3) := by decide +kernel
theorem dX3_hasCell_9 : decode cX3_hasCell 9 = .ok (.if_icmp .ge 7, 3) := by decide +kernel
theorem dX3_hasCell_12 : decode cX3_hasCell 12 = .ok (.iconst 1, 1) := by decide +kernel
theorem dX3_hasCell_13 : decode cX3_hasCell 13 = .ok (.goto 4, 3) := by decide +kernel
theorem dX3_hasCell_16 : decode cX3_hasCell 16 = .ok (.iconst 0, 1) := by decide +kernel
theorem dX3_hasCell_17 : decode cX3_hasCell 17 = .ok (.ireturn, 1) := by decide +kernel
theorem dX3_hasFlight_0 : decode cX3_hasFlight 0 = .ok (.iload_n 1, 1) := by decide +kernel
theorem dX3_hasFlight_1 : decode cX3_hasFlight 1 = .ok (.ifCond .lt 15, 3) := by decide +kernel
theorem dX3_hasFlight_4 : decode cX3_hasFlight 4 = .ok (.iload_n 1, 1) := by decide +kernel
theorem dX3_hasFlight_5 : decode cX3_hasFlight 5 = .ok (.aload_n 0, 1) := by decide +kernel
theorem dX3_hasFlight_6 : decode cX3_hasFlight 6 = .ok (.getfield 61, 3) := by decide +kernel
theorem dX3_hasFlight_9 : decode cX3_hasFlight 9 = .ok (.if_icmp .ge 7, 3) := by decide +kernel
theorem dX3_hasFlight_12 : decode cX3_hasFlight 12 = .ok (.iconst 1, 1) := by decide +kernel
theorem dX3_hasFlight_13 : decode cX3_hasFlight 13 = .ok (.goto 4, 3) := by decide +kernel
theorem dX3_hasFlight_16 : decode cX3_hasFlight 16 = .ok (.iconst 0, 1) := by decide +kernel
theorem dX3_hasFlight_17 : decode cX3_hasFlight 17 = .ok (.ireturn, 1) := by decide +kernel
theorem dX3_hasMember_0 : decode cX3_hasMember 0 = .ok (.iload_n 1, 1) := by decide +kernel
theorem dX3_hasMember_1 : decode cX3_hasMember 1 = .ok (.ifCond .lt 15, 3) := by decide +kernel
theorem dX3_hasMember_4 : decode cX3_hasMember 4 = .ok (.iload_n 1, 1) := by decide +kernel
theorem dX3_hasMember_5 : decode cX3_hasMember 5 = .ok (.aload_n 0, 1) := by decide +kernel
theorem dX3_hasMember_6 : decode cX3_hasMember 6 = .ok (.getfield 64, 3) := by decide +kernel
theorem dX3_hasMember_9 : decode cX3_hasMember 9 = .ok (.if_icmp .ge 7, 3) := by decide +kernel
theorem dX3_hasMember_12 : decode cX3_hasMember 12 = .ok (.iconst 1, 1) := by decide +kernel
theorem dX3_hasMember_13 : decode cX3_hasMember 13 = .ok (.goto 4, 3) := by decide +kernel
theorem dX3_hasMember_16 : decode cX3_hasMember 16 = .ok (.iconst 0, 1) := by decide +kernel
theorem dX3_hasMember_17 : decode cX3_hasMember 17 = .ok (.ireturn, 1) := by decide +kernel
theorem dX3_hasSet_0 : decode cX3_hasSet 0 = .ok (.aload_n 0, 1) := by decide +kernel
theorem dX3_hasSet_1 : decode cX3_hasSet 1 = .ok (.invokevirtual 99, 3) := by decide +kernel
theorem dX3_hasSet_4 : decode cX3_hasSet 4 = .ok (.ifCond .ne 19, 3) := by decide +kernel
theorem dX3_hasSet_7 : decode cX3_hasSet 7 = .ok (.iload_n 1, 1) := by decide +kernel
theorem dX3_hasSet_8 : decode cX3_hasSet 8 = .ok (.ifCond .lt 15, 3) := by decide +kernel
theorem dX3_hasSet_11 : decode cX3_hasSet 11 = .ok (.iload_n 1, 1) := by decide +kernel
theorem dX3_hasSet_12 : decode cX3_hasSet 12 = .ok (.aload_n 0, 1) := by decide +kernel
theorem dX3_hasSet_13 : decode cX3_hasSet 13 = .ok (.invokevirtual 103, 3) := by decide +kernel
theorem dX3_hasSet_16 : decode cX3_hasSet 16 = .ok (.if_icmp .gt 7, 3) := by decide +kernel
theorem dX3_hasSet_19 : decode cX3_hasSet 19 = .ok (.iconst 1, 1) := by decide +kernel
theorem dX3_hasSet_20 : decode cX3_hasSet 20 = .ok (.goto 4, 3) := by decide +kernel
theorem dX3_hasSet_23 : decode cX3_hasSet 23 = .ok (.iconst 0, 1) := by decide +kernel
theorem dX3_hasSet_24 : decode cX3_hasSet 24 = .ok (.ireturn, 1) := by decide +kernel
theorem dX3_isNone_0 : decode cX3_isNone 0 = .ok (.aload_n 0, 1) := by decide +kernel
theorem dX3_isNone_1 : decode cX3_isNone 1 = .ok (.getfield 42, 3) := by decide +kernel
theorem dX3_isNone_4 : decode cX3_isNone 4 = .ok (.ifCond .ne 7, 3) := by decide +kernel
theorem dX3_isNone_7 : decode cX3_isNone 7 = .ok (.iconst 1, 1) := by decide +kernel
theorem dX3_isNone_8 : decode cX3_isNone 8 = .ok (.goto 4, 3) := by decide +kernel
theorem dX3_isNone_11 : decode cX3_isNone 11 = .ok (.iconst 0, 1) := by decide +kernel
theorem dX3_isNone_12 : decode cX3_isNone 12 = .ok (.ireturn, 1) := by decide +kernel
theorem dX3_paidBy_0 : decode cX3_paidBy 0 = .ok (.iconst 0, 1) := by decide +kernel
theorem dX3_paidBy_1 : decode cX3_paidBy 1 = .ok (.istore_n 2, 1) := by decide +kernel
theorem dX3_paidBy_2 : decode cX3_paidBy 2 = .ok (.iconst 0, 1) := by decide +kernel
theorem dX3_paidBy_3 : decode cX3_paidBy 3 = .ok (.istore_n 3, 1) := by decide +kernel
theorem dX3_paidBy_4 : decode cX3_paidBy 4 = .ok (.iload_n 3, 1) := by decide +kernel
theorem dX3_paidBy_5 : decode cX3_paidBy 5 = .ok (.aload_n 0, 1) := by decide +kernel
theorem dX3_paidBy_6 : decode cX3_paidBy 6 = .ok (.getfield 64, 3) := by decide +kernel
theorem dX3_paidBy_9 : decode cX3_paidBy 9 = .ok (.if_icmp .ge 26, 3) := by decide +kernel
theorem dX3_paidBy_12 : decode cX3_paidBy 12 = .ok (.iload_n 1, 1) := by decide +kernel
theorem dX3_paidBy_13 : decode cX3_paidBy 13 = .ok (.iload_n 3, 1) := by decide +kernel
theorem dX3_paidBy_14 : decode cX3_paidBy 14 = .ok (.invokestatic 106, 3) := by decide +kernel
theorem dX3_paidBy_17 : decode cX3_paidBy 17 = .ok (.ifCond .eq 12, 3) := by decide +kernel
theorem dX3_paidBy_20 : decode cX3_paidBy 20 = .ok (.iload_n 2, 1) := by decide +kernel
theorem dX3_paidBy_21 : decode cX3_paidBy 21 = .ok (.aload_n 0, 1) := by decide +kernel
theorem dX3_paidBy_22 : decode cX3_paidBy 22 = .ok (.getfield 27, 3) := by decide +kernel
theorem dX3_paidBy_25 : decode cX3_paidBy 25 = .ok (.iload_n 3, 1) := by decide +kernel
theorem dX3_paidBy_26 : decode cX3_paidBy 26 = .ok (.iaload, 1) := by decide +kernel
theorem dX3_paidBy_27 : decode cX3_paidBy 27 = .ok (.iadd, 1) := by decide +kernel
theorem dX3_paidBy_28 : decode cX3_paidBy 28 = .ok (.istore_n 2, 1) := by decide +kernel
theorem dX3_paidBy_29 : decode cX3_paidBy 29 = .ok (.iinc 3 1, 3) := by decide +kernel
theorem dX3_paidBy_32 : decode cX3_paidBy 32 = .ok (.goto (-28), 3) := by decide +kernel
theorem dX3_paidBy_35 : decode cX3_paidBy 35 = .ok (.iload_n 2, 1) := by decide +kernel
theorem dX3_paidBy_36 : decode cX3_paidBy 36 = .ok (.ireturn, 1) := by decide +kernel
theorem dX3_rowOf_0 : decode cX3_rowOf 0 = .ok (.aload_n 0, 1) := by decide +kernel
theorem dX3_rowOf_1 : decode cX3_rowOf 1 = .ok (.getfield 46, 3) := by decide +kernel
theorem dX3_rowOf_4 : decode cX3_rowOf 4 = .ok (.iconst 1, 1) := by decide +kernel
theorem dX3_rowOf_5 : decode cX3_rowOf 5 = .ok (.if_icmp .ge 7, 3) := by decide +kernel
theorem dX3_rowOf_8 : decode cX3_rowOf 8 = .ok (.iconst 0, 1) := by decide +kernel
theorem dX3_rowOf_9 : decode cX3_rowOf 9 = .ok (.goto 9, 3) := by decide +kernel
theorem dX3_rowOf_12 : decode cX3_rowOf 12 = .ok (.iload_n 1, 1) := by decide +kernel
theorem dX3_rowOf_13 : decode cX3_rowOf 13 = .ok (.aload_n 0, 1) := by decide +kernel
theorem dX3_rowOf_14 : decode cX3_rowOf 14 = .ok (.getfield 46, 3) := by decide +kernel
theorem dX3_rowOf_17 : decode cX3_rowOf 17 = .ok (.idiv, 1) := by decide +kernel
theorem dX3_rowOf_18 : decode cX3_rowOf 18 = .ok (.ireturn, 1) := by decide +kernel
theorem dX3_setLamp_0 : decode cX3_setLamp 0 = .ok (.aload_n 0, 1) := by decide +kernel
theorem dX3_setLamp_1 : decode cX3_setLamp 1 = .ok (.iload_n 2, 1) := by decide +kernel
theorem dX3_setLamp_2 : decode cX3_setLamp 2 = .ok (.iconst 1, 1) := by decide +kernel
theorem dX3_setLamp_3 : decode cX3_setLamp 3 = .ok (.if_icmp .ne 14, 3) := by decide +kernel
theorem dX3_setLamp_6 : decode cX3_setLamp 6 = .ok (.aload_n 0, 1) := by decide +kernel
theorem dX3_setLamp_7 : decode cX3_setLamp 7 = .ok (.getfield 67, 3) := by decide +kernel
theorem dX3_setLamp_10 : decode cX3_setLamp 10 = .ok (.iconst 1, 1) := by decide +kernel
theorem dX3_setLamp_11 : decode cX3_setLamp 11 = .ok (.iload_n 1, 1) := by decide +kernel
theorem dX3_setLamp_12 : decode cX3_setLamp 12 = .ok (.ishl, 1) := by decide +kernel
theorem dX3_setLamp_13 : decode cX3_setLamp 13 = .ok (.ior, 1) := by decide +kernel
theorem dX3_setLamp_14 : decode cX3_setLamp 14 = .ok (.goto 13, 3) := by decide +kernel
theorem dX3_setLamp_17 : decode cX3_setLamp 17 = .ok (.aload_n 0, 1) := by decide +kernel
theorem dX3_setLamp_18 : decode cX3_setLamp 18 = .ok (.getfield 67, 3) := by decide +kernel
theorem dX3_setLamp_21 : decode cX3_setLamp 21 = .ok (.iconst 1, 1) := by decide +kernel
theorem dX3_setLamp_22 : decode cX3_setLamp 22 = .ok (.iload_n 1, 1) := by decide +kernel
theorem dX3_setLamp_23 : decode cX3_setLamp 23 = .ok (.ishl, 1) := by decide +kernel
theorem dX3_setLamp_24 : decode cX3_setLamp 24 = .ok (.iconst (-1), 1) := by decide +kernel
theorem dX3_setLamp_25 : decode cX3_setLamp 25 = .ok (.ixor, 1) := by decide +kernel
theorem dX3_setLamp_26 : decode cX3_setLamp 26 = .ok (.iand, 1) := by decide +kernel
theorem dX3_setLamp_27 : decode cX3_setLamp 27 = .ok (.putfield 67, 3) := by decide +kernel
theorem dX3_setLamp_30 : decode cX3_setLamp 30 = .ok (.return_, 1) := by decide +kernel
theorem dX3_takeBack_0 : decode cX3_takeBack 0 = .ok (.aload_n 0, 1) := by decide +kernel
theorem dX3_takeBack_1 : decode cX3_takeBack 1 = .ok (.getfield 70, 3) := by decide +kernel
theorem dX3_takeBack_4 : decode cX3_takeBack 4 = .ok (.iconst 1, 1) := by decide +kernel
theorem dX3_takeBack_5 : decode cX3_takeBack 5 = .ok (.if_icmp .ge 4, 3) := by decide +kernel
theorem dX3_takeBack_8 : decode cX3_takeBack 8 = .ok (.return_, 1) := by decide +kernel
theorem dX3_takeBack_9 : decode cX3_takeBack 9 = .ok (.aload_n 0, 1) := by decide +kernel
theorem dX3_takeBack_10 : decode cX3_takeBack 10 = .ok (.dup, 1) := by decide +kernel
theorem dX3_takeBack_11 : decode cX3_takeBack 11 = .ok (.getfield 70, 3) := by decide +kernel
theorem dX3_takeBack_14 : decode cX3_takeBack 14 = .ok (.iconst 1, 1) := by decide +kernel
theorem dX3_takeBack_15 : decode cX3_takeBack 15 = .ok (.isub, 1) := by decide +kernel
theorem dX3_takeBack_16 : decode cX3_takeBack 16 = .ok (.putfield 70, 3) := by decide +kernel
theorem dX3_takeBack_19 : decode cX3_takeBack 19 = .ok (.aload_n 0, 1) := by decide +kernel
theorem dX3_takeBack_20 : decode cX3_takeBack 20 = .ok (.getfield 30, 3) := by decide +kernel
theorem dX3_takeBack_23 : decode cX3_takeBack 23 = .ok (.aload_n 0, 1) := by decide +kernel
theorem dX3_takeBack_24 : decode cX3_takeBack 24 = .ok (.getfield 70, 3) := by decide +kernel
theorem dX3_takeBack_27 : decode cX3_takeBack 27 = .ok (.iaload, 1) := by decide +kernel
theorem dX3_takeBack_28 : decode cX3_takeBack 28 = .ok (.istore_n 1, 1) := by decide +kernel
theorem dX3_takeBack_29 : decode cX3_takeBack 29 = .ok (.iload_n 1, 1) := by decide +kernel
theorem dX3_takeBack_30 : decode cX3_takeBack 30 = .ok (.bipush 20, 2) := by decide +kernel
theorem dX3_takeBack_32 : decode cX3_takeBack 32 = .ok (.if_icmp .ge 20, 3) := by decide +kernel
theorem dX3_takeBack_35 : decode cX3_takeBack 35 = .ok (.aload_n 0, 1) := by decide +kernel
theorem dX3_takeBack_36 : decode cX3_takeBack 36 = .ok (.iload_n 1, 1) := by decide +kernel
theorem dX3_takeBack_37 : decode cX3_takeBack 37 = .ok (.aload_n 0, 1) := by decide +kernel
theorem dX3_takeBack_38 : decode cX3_takeBack 38 = .ok (.getfield 33, 3) := by decide +kernel
theorem dX3_takeBack_41 : decode cX3_takeBack 41 = .ok (.aload_n 0, 1) := by decide +kernel
theorem dX3_takeBack_42 : decode cX3_takeBack 42 = .ok (.getfield 70, 3) := by decide +kernel
theorem dX3_takeBack_45 : decode cX3_takeBack 45 = .ok (.iaload, 1) := by decide +kernel
theorem dX3_takeBack_46 : decode cX3_takeBack 46 = .ok (.invokevirtual 114, 3) := by decide +kernel
theorem dX3_takeBack_49 : decode cX3_takeBack 49 = .ok (.goto 21, 3) := by decide +kernel
theorem dX3_takeBack_52 : decode cX3_takeBack 52 = .ok (.aload_n 0, 1) := by decide +kernel
theorem dX3_takeBack_53 : decode cX3_takeBack 53 = .ok (.getfield 15, 3) := by decide +kernel
theorem dX3_takeBack_56 : decode cX3_takeBack 56 = .ok (.iload_n 1, 1) := by decide +kernel
theorem dX3_takeBack_57 : decode cX3_takeBack 57 = .ok (.bipush 20, 2) := by decide +kernel
theorem dX3_takeBack_59 : decode cX3_takeBack 59 = .ok (.isub, 1) := by decide +kernel
theorem dX3_takeBack_60 : decode cX3_takeBack 60 = .ok (.aload_n 0, 1) := by decide +kernel
theorem dX3_takeBack_61 : decode cX3_takeBack 61 = .ok (.getfield 33, 3) := by decide +kernel
theorem dX3_takeBack_64 : decode cX3_takeBack 64 = .ok (.aload_n 0, 1) := by decide +kernel
theorem dX3_takeBack_65 : decode cX3_takeBack 65 = .ok (.getfield 70, 3) := by decide +kernel
theorem dX3_takeBack_68 : decode cX3_takeBack 68 = .ok (.iaload, 1) := by decide +kernel
theorem dX3_takeBack_69 : decode cX3_takeBack 69 = .ok (.iastore, 1) := by decide +kernel
theorem dX3_takeBack_70 : decode cX3_takeBack 70 = .ok (.return_, 1) := by decide +kernel
theorem dX3_wantedAt_0 : decode cX3_wantedAt 0 = .ok (.iconst 0, 1) := by decide +kernel
theorem dX3_wantedAt_1 : decode cX3_wantedAt 1 = .ok (.istore_n 2, 1) := by decide +kernel
theorem dX3_wantedAt_2 : decode cX3_wantedAt 2 = .ok (.iconst 0, 1) := by decide +kernel
theorem dX3_wantedAt_3 : decode cX3_wantedAt 3 = .ok (.istore_n 3, 1) := by decide +kernel
theorem dX3_wantedAt_4 : decode cX3_wantedAt 4 = .ok (.iload_n 3, 1) := by decide +kernel
theorem dX3_wantedAt_5 : decode cX3_wantedAt 5 = .ok (.aload_n 0, 1) := by decide +kernel
theorem dX3_wantedAt_6 : decode cX3_wantedAt 6 = .ok (.getfield 64, 3) := by decide +kernel
theorem dX3_wantedAt_9 : decode cX3_wantedAt 9 = .ok (.if_icmp .ge 35, 3) := by decide +kernel
theorem dX3_wantedAt_12 : decode cX3_wantedAt 12 = .ok (.aload_n 0, 1) := by decide +kernel
theorem dX3_wantedAt_13 : decode cX3_wantedAt 13 = .ok (.getfield 27, 3) := by decide +kernel
theorem dX3_wantedAt_16 : decode cX3_wantedAt 16 = .ok (.iload_n 3, 1) := by decide +kernel
theorem dX3_wantedAt_17 : decode cX3_wantedAt 17 = .ok (.iaload, 1) := by decide +kernel
theorem dX3_wantedAt_18 : decode cX3_wantedAt 18 = .ok (.iload_n 1, 1) := by decide +kernel
theorem dX3_wantedAt_19 : decode cX3_wantedAt 19 = .ok (.aload_n 0, 1) := by decide +kernel
theorem dX3_wantedAt_20 : decode cX3_wantedAt 20 = .ok (.getfield 24, 3) := by decide +kernel
theorem dX3_wantedAt_23 : decode cX3_wantedAt 23 = .ok (.iload_n 3, 1) := by decide +kernel
theorem dX3_wantedAt_24 : decode cX3_wantedAt 24 = .ok (.iaload, 1) := by decide +kernel
theorem dX3_wantedAt_25 : decode cX3_wantedAt 25 = .ok (.imul, 1) := by decide +kernel
theorem dX3_wantedAt_26 : decode cX3_wantedAt 26 = .ok (.if_icmp .lt 12, 3) := by decide +kernel
theorem dX3_wantedAt_29 : decode cX3_wantedAt 29 = .ok (.iload_n 2, 1) := by decide +kernel
theorem dX3_wantedAt_30 : decode cX3_wantedAt 30 = .ok (.aload_n 0, 1) := by decide +kernel
theorem dX3_wantedAt_31 : decode cX3_wantedAt 31 = .ok (.getfield 24, 3) := by decide +kernel
theorem dX3_wantedAt_34 : decode cX3_wantedAt 34 = .ok (.iload_n 3, 1) := by decide +kernel
theorem dX3_wantedAt_35 : decode cX3_wantedAt 35 = .ok (.iaload, 1) := by decide +kernel
theorem dX3_wantedAt_36 : decode cX3_wantedAt 36 = .ok (.iadd, 1) := by decide +kernel
theorem dX3_wantedAt_37 : decode cX3_wantedAt 37 = .ok (.istore_n 2, 1) := by decide +kernel
theorem dX3_wantedAt_38 : decode cX3_wantedAt 38 = .ok (.iinc 3 1, 3) := by decide +kernel
theorem dX3_wantedAt_41 : decode cX3_wantedAt 41 = .ok (.goto (-37), 3) := by decide +kernel
theorem dX3_wantedAt_44 : decode cX3_wantedAt 44 = .ok (.iload_n 2, 1) := by decide +kernel
theorem dX3_wantedAt_45 : decode cX3_wantedAt 45 = .ok (.ireturn, 1) := by decide +kernel
theorem dX3_wanters_0 : decode cX3_wanters 0 = .ok (.iconst 0, 1) := by decide +kernel
theorem dX3_wanters_1 : decode cX3_wanters 1 = .ok (.istore_n 1, 1) := by decide +kernel
theorem dX3_wanters_2 : decode cX3_wanters 2 = .ok (.iconst 0, 1) := by decide +kernel
theorem dX3_wanters_3 : decode cX3_wanters 3 = .ok (.istore_n 2, 1) := by decide +kernel
theorem dX3_wanters_4 : decode cX3_wanters 4 = .ok (.iload_n 2, 1) := by decide +kernel
theorem dX3_wanters_5 : decode cX3_wanters 5 = .ok (.aload_n 0, 1) := by decide +kernel
theorem dX3_wanters_6 : decode cX3_wanters 6 = .ok (.getfield 64, 3) := by decide +kernel
theorem dX3_wanters_9 : decode cX3_wanters 9 = .ok (.if_icmp .ge 24, 3) := by decide +kernel
theorem dX3_wanters_12 : decode cX3_wanters 12 = .ok (.aload_n 0, 1) := by decide +kernel
theorem dX3_wanters_13 : decode cX3_wanters 13 = .ok (.getfield 24, 3) := by decide +kernel
theorem dX3_wanters_16 : decode cX3_wanters 16 = .ok (.iload_n 2, 1) := by decide +kernel
theorem dX3_wanters_17 : decode cX3_wanters 17 = .ok (.iaload, 1) := by decide +kernel
theorem dX3_wanters_18 : decode cX3_wanters 18 = .ok (.ifCond .le 9, 3) := by decide +kernel
theorem dX3_wanters_21 : decode cX3_wanters 21 = .ok (.iload_n 1, 1) := by decide +kernel
theorem dX3_wanters_22 : decode cX3_wanters 22 = .ok (.iconst 1, 1) := by decide +kernel
theorem dX3_wanters_23 : decode cX3_wanters 23 = .ok (.iload_n 2, 1) := by decide +kernel
theorem dX3_wanters_24 : decode cX3_wanters 24 = .ok (.ishl, 1) := by decide +kernel
theorem dX3_wanters_25 : decode cX3_wanters 25 = .ok (.ior, 1) := by decide +kernel
theorem dX3_wanters_26 : decode cX3_wanters 26 = .ok (.istore_n 1, 1) := by decide +kernel
theorem dX3_wanters_27 : decode cX3_wanters 27 = .ok (.iinc 2 1, 3) := by decide +kernel
theorem dX3_wanters_30 : decode cX3_wanters 30 = .ok (.goto (-26), 3) := by decide +kernel
theorem dX3_wanters_33 : decode cX3_wanters 33 = .ok (.iload_n 1, 1) := by decide +kernel
theorem dX3_wanters_34 : decode cX3_wanters 34 = .ok (.ireturn, 1) := by decide +kernel
theorem dX6_isNothing_0 : decode cX6_isNothing 0 = .ok (.aload_n 0, 1) := by decide +kernel
theorem dX6_isNothing_1 : decode cX6_isNothing 1 = .ok (.getfield 15, 3) := by decide +kernel
theorem dX6_isNothing_4 : decode cX6_isNothing 4 = .ok (.iconst (-1), 1) := by decide +kernel
theorem dX6_isNothing_5 : decode cX6_isNothing 5 = .ok (.if_icmp .ne 7, 3) := by decide +kernel
theorem dX6_isNothing_8 : decode cX6_isNothing 8 = .ok (.iconst 1, 1) := by decide +kernel
theorem dX6_isNothing_9 : decode cX6_isNothing 9 = .ok (.goto 4, 3) := by decide +kernel
theorem dX6_isNothing_12 : decode cX6_isNothing 12 = .ok (.iconst 0, 1) := by decide +kernel
theorem dX6_isNothing_13 : decode cX6_isNothing 13 = .ok (.ireturn, 1) := by decide +kernel
theorem dX6_put_0 : decode cX6_put 0 = .ok (.aload_n 0, 1) := by decide +kernel
theorem dX6_put_1 : decode cX6_put 1 = .ok (.getfield 15, 3) := by decide +kernel
theorem dX6_put_4 : decode cX6_put 4 = .ok (.tableswitch 66 0 2 #[28, 41, 54], 28) := by decide +kernel
theorem dX6_put_32 : decode cX6_put 32 = .ok (.aload_n 0, 1) := by decide +kernel
theorem dX6_put_33 : decode cX6_put 33 = .ok (.getfield 9, 3) := by decide +kernel
theorem dX6_put_36 : decode cX6_put 36 = .ok (.iload_n 1, 1) := by decide +kernel
theorem dX6_put_37 : decode cX6_put 37 = .ok (.lload_n 2, 1) := by decide +kernel
theorem dX6_put_38 : decode cX6_put 38 = .ok (.l2i, 1) := by decide +kernel
theorem dX6_put_39 : decode cX6_put 39 = .ok (.i2b, 1) := by decide +kernel
theorem dX6_put_40 : decode cX6_put 40 = .ok (.i2l, 1) := by decide +kernel
theorem dX6_put_41 : decode cX6_put 41 = .ok (.lastore, 1) := by decide +kernel
theorem dX6_put_42 : decode cX6_put 42 = .ok (.goto 35, 3) := by decide +kernel
theorem dX6_put_45 : decode cX6_put 45 = .ok (.aload_n 0, 1) := by decide +kernel
theorem dX6_put_46 : decode cX6_put 46 = .ok (.getfield 9, 3) := by decide +kernel
theorem dX6_put_49 : decode cX6_put 49 = .ok (.iload_n 1, 1) := by decide +kernel
theorem dX6_put_50 : decode cX6_put 50 = .ok (.lload_n 2, 1) := by decide +kernel
theorem dX6_put_51 : decode cX6_put 51 = .ok (.l2i, 1) := by decide +kernel
theorem dX6_put_52 : decode cX6_put 52 = .ok (.i2s, 1) := by decide +kernel
theorem dX6_put_53 : decode cX6_put 53 = .ok (.i2l, 1) := by decide +kernel
theorem dX6_put_54 : decode cX6_put 54 = .ok (.lastore, 1) := by decide +kernel
theorem dX6_put_55 : decode cX6_put 55 = .ok (.goto 22, 3) := by decide +kernel
theorem dX6_put_58 : decode cX6_put 58 = .ok (.aload_n 0, 1) := by decide +kernel
theorem dX6_put_59 : decode cX6_put 59 = .ok (.getfield 9, 3) := by decide +kernel
theorem dX6_put_62 : decode cX6_put 62 = .ok (.iload_n 1, 1) := by decide +kernel
theorem dX6_put_63 : decode cX6_put 63 = .ok (.lload_n 2, 1) := by decide +kernel
theorem dX6_put_64 : decode cX6_put 64 = .ok (.l2i, 1) := by decide +kernel
theorem dX6_put_65 : decode cX6_put 65 = .ok (.i2l, 1) := by decide +kernel
theorem dX6_put_66 : decode cX6_put 66 = .ok (.lastore, 1) := by decide +kernel
theorem dX6_put_67 : decode cX6_put 67 = .ok (.goto 10, 3) := by decide +kernel
theorem dX6_put_70 : decode cX6_put 70 = .ok (.aload_n 0, 1) := by decide +kernel
theorem dX6_put_71 : decode cX6_put 71 = .ok (.getfield 9, 3) := by decide +kernel
theorem dX6_put_74 : decode cX6_put 74 = .ok (.iload_n 1, 1) := by decide +kernel
theorem dX6_put_75 : decode cX6_put 75 = .ok (.lload_n 2, 1) := by decide +kernel
theorem dX6_put_76 : decode cX6_put 76 = .ok (.lastore, 1) := by decide +kernel
theorem dX6_put_77 : decode cX6_put 77 = .ok (.return_, 1) := by decide +kernel
theorem dX6_reaches_0 : decode cX6_reaches 0 = .ok (.iload_n 1, 1) := by decide +kernel
theorem dX6_reaches_1 : decode cX6_reaches 1 = .ok (.ifCond .lt 29, 3) := by decide +kernel
theorem dX6_reaches_4 : decode cX6_reaches 4 = .ok (.iload_n 2, 1) := by decide +kernel
theorem dX6_reaches_5 : decode cX6_reaches 5 = .ok (.ifCond .lt 25, 3) := by decide +kernel
theorem dX6_reaches_8 : decode cX6_reaches 8 = .ok (.iload_n 2, 1) := by decide +kernel
theorem dX6_reaches_9 : decode cX6_reaches 9 = .ok (.aload_n 0, 1) := by decide +kernel
theorem dX6_reaches_10 : decode cX6_reaches 10 = .ok (.getfield 19, 3) := by decide +kernel
theorem dX6_reaches_13 : decode cX6_reaches 13 = .ok (.if_icmp .gt 17, 3) := by decide +kernel
theorem dX6_reaches_16 : decode cX6_reaches 16 = .ok (.iload_n 1, 1) := by decide +kernel
theorem dX6_reaches_17 : decode cX6_reaches 17 = .ok (.aload_n 0, 1) := by decide +kernel
theorem dX6_reaches_18 : decode cX6_reaches 18 = .ok (.getfield 19, 3) := by decide +kernel
theorem dX6_reaches_21 : decode cX6_reaches 21 = .ok (.iload_n 2, 1) := by decide +kernel
theorem dX6_reaches_22 : decode cX6_reaches 22 = .ok (.isub, 1) := by decide +kernel
theorem dX6_reaches_23 : decode cX6_reaches 23 = .ok (.if_icmp .gt 7, 3) := by decide +kernel
theorem dX6_reaches_26 : decode cX6_reaches 26 = .ok (.iconst 1, 1) := by decide +kernel
theorem dX6_reaches_27 : decode cX6_reaches 27 = .ok (.goto 4, 3) := by decide +kernel
theorem dX6_reaches_30 : decode cX6_reaches 30 = .ok (.iconst 0, 1) := by decide +kernel
theorem dX6_reaches_31 : decode cX6_reaches 31 = .ok (.ireturn, 1) := by decide +kernel
theorem dX7_cellAt_0 : decode cX7_cellAt 0 = .ok (.iload_n 1, 1) := by decide +kernel
theorem dX7_cellAt_1 : decode cX7_cellAt 1 = .ok (.aload_n 0, 1) := by decide +kernel
theorem dX7_cellAt_2 : decode cX7_cellAt 2 = .ok (.getfield 47, 3) := by decide +kernel
theorem dX7_cellAt_5 : decode cX7_cellAt 5 = .ok (.if_icmp .ge 12, 3) := by decide +kernel
theorem dX7_cellAt_8 : decode cX7_cellAt 8 = .ok (.aload_n 0, 1) := by decide +kernel
theorem dX7_cellAt_9 : decode cX7_cellAt 9 = .ok (.getfield 9, 3) := by decide +kernel
theorem dX7_cellAt_12 : decode cX7_cellAt 12 = .ok (.iload_n 1, 1) := by decide +kernel
theorem dX7_cellAt_13 : decode cX7_cellAt 13 = .ok (.iaload, 1) := by decide +kernel
theorem dX7_cellAt_14 : decode cX7_cellAt 14 = .ok (.goto 4, 3) := by decide +kernel
theorem dX7_cellAt_17 : decode cX7_cellAt 17 = .ok (.iconst (-1), 1) := by decide +kernel
theorem dX7_cellAt_18 : decode cX7_cellAt 18 = .ok (.ireturn, 1) := by decide +kernel
theorem dX7_deafBits_0 : decode cX7_deafBits 0 = .ok (.iconst 0, 1) := by decide +kernel
theorem dX7_deafBits_1 : decode cX7_deafBits 1 = .ok (.istore_n 1, 1) := by decide +kernel
theorem dX7_deafBits_2 : decode cX7_deafBits 2 = .ok (.iconst 0, 1) := by decide +kernel
theorem dX7_deafBits_3 : decode cX7_deafBits 3 = .ok (.istore_n 2, 1) := by decide +kernel
theorem dX7_deafBits_4 : decode cX7_deafBits 4 = .ok (.iload_n 2, 1) := by decide +kernel
theorem dX7_deafBits_5 : decode cX7_deafBits 5 = .ok (.aload_n 0, 1) := by decide +kernel
theorem dX7_deafBits_6 : decode cX7_deafBits 6 = .ok (.getfield 24, 3) := by decide +kernel
theorem dX7_deafBits_9 : decode cX7_deafBits 9 = .ok (.getfield 95, 3) := by decide +kernel
theorem dX7_deafBits_12 : decode cX7_deafBits 12 = .ok (.if_icmp .ge 31, 3) := by decide +kernel
theorem dX7_deafBits_15 : decode cX7_deafBits 15 = .ok (.aload_n 0, 1) := by decide +kernel
theorem dX7_deafBits_16 : decode cX7_deafBits 16 = .ok (.aload_n 0, 1) := by decide +kernel
theorem dX7_deafBits_17 : decode cX7_deafBits 17 = .ok (.getfield 24, 3) := by decide +kernel
theorem dX7_deafBits_20 : decode cX7_deafBits 20 = .ok (.getfield 98, 3) := by decide +kernel
theorem dX7_deafBits_23 : decode cX7_deafBits 23 = .ok (.iload_n 2, 1) := by decide +kernel
theorem dX7_deafBits_24 : decode cX7_deafBits 24 = .ok (.iaload, 1) := by decide +kernel
theorem dX7_deafBits_25 : decode cX7_deafBits 25 = .ok (.invokevirtual 101, 3) := by decide +kernel
theorem dX7_deafBits_28 : decode cX7_deafBits 28 = .ok (.ifCond .ne 9, 3) := by decide +kernel
theorem dX7_deafBits_31 : decode cX7_deafBits 31 = .ok (.iload_n 1, 1) := by decide +kernel
theorem dX7_deafBits_32 : decode cX7_deafBits 32 = .ok (.iconst 1, 1) := by decide +kernel
theorem dX7_deafBits_33 : decode cX7_deafBits 33 = .ok (.iload_n 2, 1) := by decide +kernel
theorem dX7_deafBits_34 : decode cX7_deafBits 34 = .ok (.ishl, 1) := by decide +kernel
theorem dX7_deafBits_35 : decode cX7_deafBits 35 = .ok (.ior, 1) := by decide +kernel
theorem dX7_deafBits_36 : decode cX7_deafBits 36 = .ok (.istore_n 1, 1) := by decide +kernel
theorem dX7_deafBits_37 : decode cX7_deafBits 37 = .ok (.iinc 2 1, 3) := by decide +kernel
theorem dX7_deafBits_40 : decode cX7_deafBits 40 = .ok (.goto (-36), 3) := by decide +kernel
theorem dX7_deafBits_43 : decode cX7_deafBits 43 = .ok (.iload_n 1, 1) := by decide +kernel
theorem dX7_deafBits_44 : decode cX7_deafBits 44 = .ok (.ireturn, 1) := by decide +kernel
theorem dX7_firstMeeting_0 : decode cX7_firstMeeting 0 = .ok (.iconst 0, 1) := by decide +kernel
theorem dX7_firstMeeting_1 : decode cX7_firstMeeting 1 = .ok (.istore_n 1, 1) := by decide +kernel
theorem dX7_firstMeeting_2 : decode cX7_firstMeeting 2 = .ok (.iload_n 1, 1) := by decide +kernel
theorem dX7_firstMeeting_3 : decode cX7_firstMeeting 3 = .ok (.aload_n 0, 1) := by decide +kernel
theorem dX7_firstMeeting_4 : decode cX7_firstMeeting 4 = .ok (.getfield 47, 3) := by decide +kernel
theorem dX7_firstMeeting_7 : decode cX7_firstMeeting 7 = .ok (.if_icmp .ge 34, 3) := by decide +kernel
theorem dX7_firstMeeting_10 : decode cX7_firstMeeting 10 = .ok (.iload_n 1, 1) := by decide +kernel
theorem dX7_firstMeeting_11 : decode cX7_firstMeeting 11 = .ok (.aload_n 0, 1) := by decide +kernel
theorem dX7_firstMeeting_12 : decode cX7_firstMeeting 12 = .ok (.getfield 70, 3) := by decide +kernel
theorem dX7_firstMeeting_15 : decode cX7_firstMeeting 15 = .ok (.if_icmp .ge 26, 3) := by decide +kernel
theorem dX7_firstMeeting_18 : decode cX7_firstMeeting 18 = .ok (.aload_n 0, 1) := by decide +kernel
theorem dX7_firstMeeting_19 : decode cX7_firstMeeting 19 = .ok (.getfield 9, 3) := by decide +kernel
theorem dX7_firstMeeting_22 : decode cX7_firstMeeting 22 = .ok (.iload_n 1, 1) := by decide +kernel
theorem dX7_firstMeeting_23 : decode cX7_firstMeeting 23 = .ok (.iaload, 1) := by decide +kernel
theorem dX7_firstMeeting_24 : decode cX7_firstMeeting 24 = .ok (.aload_n 0, 1) := by decide +kernel
theorem dX7_firstMeeting_25 : decode cX7_firstMeeting 25 = .ok (.getfield 18, 3) := by decide +kernel
theorem dX7_firstMeeting_28 : decode cX7_firstMeeting 28 = .ok (.iload_n 1, 1) := by decide +kernel
theorem dX7_firstMeeting_29 : decode cX7_firstMeeting 29 = .ok (.iaload, 1) := by decide +kernel
theorem dX7_firstMeeting_30 : decode cX7_firstMeeting 30 = .ok (.if_icmp .ne 5, 3) := by decide +kernel
theorem dX7_firstMeeting_33 : decode cX7_firstMeeting 33 = .ok (.iload_n 1, 1) := by decide +kernel
theorem dX7_firstMeeting_34 : decode cX7_firstMeeting 34 = .ok (.ireturn, 1) := by decide +kernel
theorem dX7_firstMeeting_35 : decode cX7_firstMeeting 35 = .ok (.iinc 1 1, 3) := by decide +kernel
theorem dX7_firstMeeting_38 : decode cX7_firstMeeting 38 = .ok (.goto (-36), 3) := by decide +kernel
theorem dX7_firstMeeting_41 : decode cX7_firstMeeting 41 = .ok (.iconst (-1), 1) := by decide +kernel
theorem dX7_firstMeeting_42 : decode cX7_firstMeeting 42 = .ok (.ireturn, 1) := by decide +kernel
theorem dX7_firstWithin_0 : decode cX7_firstWithin 0 = .ok (.iconst 0, 1) := by decide +kernel
theorem dX7_firstWithin_1 : decode cX7_firstWithin 1 = .ok (.istore_n 2, 1) := by decide +kernel
theorem dX7_firstWithin_2 : decode cX7_firstWithin 2 = .ok (.iload_n 2, 1) := by decide +kernel
theorem dX7_firstWithin_3 : decode cX7_firstWithin 3 = .ok (.aload_n 0, 1) := by decide +kernel
theorem dX7_firstWithin_4 : decode cX7_firstWithin 4 = .ok (.getfield 47, 3) := by decide +kernel
theorem dX7_firstWithin_7 : decode cX7_firstWithin 7 = .ok (.if_icmp .ge 24, 3) := by decide +kernel
theorem dX7_firstWithin_10 : decode cX7_firstWithin 10 = .ok (.iload_n 1, 1) := by decide +kernel
theorem dX7_firstWithin_11 : decode cX7_firstWithin 11 = .ok (.aload_n 0, 1) := by decide +kernel
theorem dX7_firstWithin_12 : decode cX7_firstWithin 12 = .ok (.getfield 9, 3) := by decide +kernel
theorem dX7_firstWithin_15 : decode cX7_firstWithin 15 = .ok (.iload_n 2, 1) := by decide +kernel
theorem dX7_firstWithin_16 : decode cX7_firstWithin 16 = .ok (.iaload, 1) := by decide +kernel
theorem dX7_firstWithin_17 : decode cX7_firstWithin 17 = .ok (.invokestatic 53, 3) := by decide +kernel
theorem dX7_firstWithin_20 : decode cX7_firstWithin 20 = .ok (.ifCond .eq 5, 3) := by decide +kernel
theorem dX7_firstWithin_23 : decode cX7_firstWithin 23 = .ok (.iload_n 2, 1) := by decide +kernel
theorem dX7_firstWithin_24 : decode cX7_firstWithin 24 = .ok (.ireturn, 1) := by decide +kernel
theorem dX7_firstWithin_25 : decode cX7_firstWithin 25 = .ok (.iinc 2 1, 3) := by decide +kernel
theorem dX7_firstWithin_28 : decode cX7_firstWithin 28 = .ok (.goto (-26), 3) := by decide +kernel
theorem dX7_firstWithin_31 : decode cX7_firstWithin 31 = .ok (.iconst (-1), 1) := by decide +kernel
theorem dX7_firstWithin_32 : decode cX7_firstWithin 32 = .ok (.ireturn, 1) := by decide +kernel
theorem dX7_headingAt_0 : decode cX7_headingAt 0 = .ok (.iload_n 1, 1) := by decide +kernel
theorem dX7_headingAt_1 : decode cX7_headingAt 1 = .ok (.aload_n 0, 1) := by decide +kernel
theorem dX7_headingAt_2 : decode cX7_headingAt 2 = .ok (.getfield 47, 3) := by decide +kernel
theorem dX7_headingAt_5 : decode cX7_headingAt 5 = .ok (.if_icmp .ge 12, 3) := by decide +kernel
theorem dX7_headingAt_8 : decode cX7_headingAt 8 = .ok (.aload_n 0, 1) := by decide +kernel
theorem dX7_headingAt_9 : decode cX7_headingAt 9 = .ok (.getfield 15, 3) := by decide +kernel
theorem dX7_headingAt_12 : decode cX7_headingAt 12 = .ok (.iload_n 1, 1) := by decide +kernel
theorem dX7_headingAt_13 : decode cX7_headingAt 13 = .ok (.iaload, 1) := by decide +kernel
theorem dX7_headingAt_14 : decode cX7_headingAt 14 = .ok (.goto 4, 3) := by decide +kernel
theorem dX7_headingAt_17 : decode cX7_headingAt 17 = .ok (.iconst (-1), 1) := by decide +kernel
theorem dX7_headingAt_18 : decode cX7_headingAt 18 = .ok (.ireturn, 1) := by decide +kernel
theorem dX7_heardIn_0 : decode cX7_heardIn 0 = .ok (.aload_n 0, 1) := by decide +kernel
theorem dX7_heardIn_1 : decode cX7_heardIn 1 = .ok (.getfield 24, 3) := by decide +kernel
theorem dX7_heardIn_4 : decode cX7_heardIn 4 = .ok (.getfield 85, 3) := by decide +kernel
theorem dX7_heardIn_7 : decode cX7_heardIn 7 = .ok (.iload_n 1, 1) := by decide +kernel
theorem dX7_heardIn_8 : decode cX7_heardIn 8 = .ok (.iaload, 1) := by decide +kernel
theorem dX7_heardIn_9 : decode cX7_heardIn 9 = .ok (.istore_n 2, 1) := by decide +kernel
theorem dX7_heardIn_10 : decode cX7_heardIn 10 = .ok (.aload_n 0, 1) := by decide +kernel
theorem dX7_heardIn_11 : decode cX7_heardIn 11 = .ok (.getfield 24, 3) := by decide +kernel
theorem dX7_heardIn_14 : decode cX7_heardIn 14 = .ok (.invokevirtual 88, 3) := by decide +kernel
theorem dX7_heardIn_17 : decode cX7_heardIn 17 = .ok (.istore_n 3, 1) := by decide +kernel
theorem dX7_heardIn_18 : decode cX7_heardIn 18 = .ok (.iconst 0, 1) := by decide +kernel
theorem dX7_heardIn_19 : decode cX7_heardIn 19 = .ok (.istore 4, 2) := by decide +kernel
theorem dX7_heardIn_21 : decode cX7_heardIn 21 = .ok (.iconst 0, 1) := by decide +kernel
theorem dX7_heardIn_22 : decode cX7_heardIn 22 = .ok (.istore 5, 2) := by decide +kernel
theorem dX7_heardIn_24 : decode cX7_heardIn 24 = .ok (.iload 5, 2) := by decide +kernel
theorem dX7_heardIn_26 : decode cX7_heardIn 26 = .ok (.iload_n 3, 1) := by decide +kernel
theorem dX7_heardIn_27 : decode cX7_heardIn 27 = .ok (.if_icmp .ge 28, 3) := by decide +kernel
theorem dX7_heardIn_30 : decode cX7_heardIn 30 = .ok (.iload 4, 2) := by decide +kernel
theorem dX7_heardIn_32 : decode cX7_heardIn 32 = .ok (.iload_n 2, 1) := by decide +kernel
theorem dX7_heardIn_33 : decode cX7_heardIn 33 = .ok (.iload 5, 2) := by decide +kernel
theorem dX7_heardIn_35 : decode cX7_heardIn 35 = .ok (.ishr, 1) := by decide +kernel
theorem dX7_heardIn_36 : decode cX7_heardIn 36 = .ok (.iconst 1, 1) := by decide +kernel
theorem dX7_heardIn_37 : decode cX7_heardIn 37 = .ok (.iand, 1) := by decide +kernel
theorem dX7_heardIn_38 : decode cX7_heardIn 38 = .ok (.aload_n 0, 1) := by decide +kernel
theorem dX7_heardIn_39 : decode cX7_heardIn 39 = .ok (.getfield 21, 3) := by decide +kernel
theorem dX7_heardIn_42 : decode cX7_heardIn 42 = .ok (.iload 5, 2) := by decide +kernel
theorem dX7_heardIn_44 : decode cX7_heardIn 44 = .ok (.iaload, 1) := by decide +kernel
theorem dX7_heardIn_45 : decode cX7_heardIn 45 = .ok (.imul, 1) := by decide +kernel
theorem dX7_heardIn_46 : decode cX7_heardIn 46 = .ok (.iadd, 1) := by decide +kernel
theorem dX7_heardIn_47 : decode cX7_heardIn 47 = .ok (.istore 4, 2) := by decide +kernel
theorem dX7_heardIn_49 : decode cX7_heardIn 49 = .ok (.iinc 5 1, 3) := by decide +kernel
theorem dX7_heardIn_52 : decode cX7_heardIn 52 = .ok (.goto (-28), 3) := by decide +kernel
theorem dX7_heardIn_55 : decode cX7_heardIn 55 = .ok (.iload 4, 2) := by decide +kernel
theorem dX7_heardIn_57 : decode cX7_heardIn 57 = .ok (.ireturn, 1) := by decide +kernel
theorem dX7_keepTrack_0 : decode cX7_keepTrack 0 = .ok (.aload_n 0, 1) := by decide +kernel
theorem dX7_keepTrack_1 : decode cX7_keepTrack 1 = .ok (.getfield 9, 3) := by decide +kernel
theorem dX7_keepTrack_4 : decode cX7_keepTrack 4 = .ok (.iconst 0, 1) := by decide +kernel
theorem dX7_keepTrack_5 : decode cX7_keepTrack 5 = .ok (.aload_n 0, 1) := by decide +kernel
theorem dX7_keepTrack_6 : decode cX7_keepTrack 6 = .ok (.getfield 18, 3) := by decide +kernel
theorem dX7_keepTrack_9 : decode cX7_keepTrack 9 = .ok (.iconst 0, 1) := by decide +kernel
theorem dX7_keepTrack_10 : decode cX7_keepTrack 10 = .ok (.bipush 41, 2) := by decide +kernel
theorem dX7_keepTrack_12 : decode cX7_keepTrack 12 = .ok (.invokestatic 64, 3) := by decide +kernel
theorem dX7_keepTrack_15 : decode cX7_keepTrack 15 = .ok (.aload_n 0, 1) := by decide +kernel
theorem dX7_keepTrack_16 : decode cX7_keepTrack 16 = .ok (.aload_n 0, 1) := by decide +kernel
theorem dX7_keepTrack_17 : decode cX7_keepTrack 17 = .ok (.getfield 47, 3) := by decide +kernel
theorem dX7_keepTrack_20 : decode cX7_keepTrack 20 = .ok (.putfield 70, 3) := by decide +kernel
theorem dX7_keepTrack_23 : decode cX7_keepTrack 23 = .ok (.return_, 1) := by decide +kernel
theorem dX7_outStep_0 : decode cX7_outStep 0 = .ok (.aload_n 0, 1) := by decide +kernel
theorem dX7_outStep_1 : decode cX7_outStep 1 = .ok (.getfield 47, 3) := by decide +kernel
theorem dX7_outStep_4 : decode cX7_outStep 4 = .ok (.bipush 41, 2) := by decide +kernel
theorem dX7_outStep_6 : decode cX7_outStep 6 = .ok (.if_icmp .ge 10, 3) := by decide +kernel
theorem dX7_outStep_9 : decode cX7_outStep 9 = .ok (.aload_n 0, 1) := by decide +kernel
theorem dX7_outStep_10 : decode cX7_outStep 10 = .ok (.getfield 47, 3) := by decide +kernel
theorem dX7_outStep_13 : decode cX7_outStep 13 = .ok (.goto 4, 3) := by decide +kernel
theorem dX7_outStep_16 : decode cX7_outStep 16 = .ok (.iconst (-1), 1) := by decide +kernel
theorem dX7_outStep_17 : decode cX7_outStep 17 = .ok (.ireturn, 1) := by decide +kernel
theorem dX7_servedBits_0 : decode cX7_servedBits 0 = .ok (.iconst 0, 1) := by decide +kernel
theorem dX7_servedBits_1 : decode cX7_servedBits 1 = .ok (.istore_n 1, 1) := by decide +kernel
theorem dX7_servedBits_2 : decode cX7_servedBits 2 = .ok (.iconst 0, 1) := by decide +kernel
theorem dX7_servedBits_3 : decode cX7_servedBits 3 = .ok (.istore_n 2, 1) := by decide +kernel
theorem dX7_servedBits_4 : decode cX7_servedBits 4 = .ok (.iload_n 2, 1) := by decide +kernel
theorem dX7_servedBits_5 : decode cX7_servedBits 5 = .ok (.aload_n 0, 1) := by decide +kernel
theorem dX7_servedBits_6 : decode cX7_servedBits 6 = .ok (.getfield 24, 3) := by decide +kernel
theorem dX7_servedBits_9 : decode cX7_servedBits 9 = .ok (.getfield 95, 3) := by decide +kernel
theorem dX7_servedBits_12 : decode cX7_servedBits 12 = .ok (.if_icmp .ge 36, 3) := by decide +kernel
theorem dX7_servedBits_15 : decode cX7_servedBits 15 = .ok (.aload_n 0, 1) := by decide +kernel
theorem dX7_servedBits_16 : decode cX7_servedBits 16 = .ok (.iload_n 2, 1) := by decide +kernel
theorem dX7_servedBits_17 : decode cX7_servedBits 17 = .ok (.aload_n 0, 1) := by decide +kernel
theorem dX7_servedBits_18 : decode cX7_servedBits 18 = .ok (.aload_n 0, 1) := by decide +kernel
theorem dX7_servedBits_19 : decode cX7_servedBits 19 = .ok (.getfield 24, 3) := by decide +kernel
theorem dX7_servedBits_22 : decode cX7_servedBits 22 = .ok (.getfield 98, 3) := by decide +kernel
theorem dX7_servedBits_25 : decode cX7_servedBits 25 = .ok (.iload_n 2, 1) := by decide +kernel
theorem dX7_servedBits_26 : decode cX7_servedBits 26 = .ok (.iaload, 1) := by decide +kernel
theorem dX7_servedBits_27 : decode cX7_servedBits 27 = .ok (.invokevirtual 101, 3) := by decide +kernel
theorem dX7_servedBits_30 : decode cX7_servedBits 30 = .ok (.invokevirtual 105, 3) := by decide +kernel
theorem dX7_servedBits_33 : decode cX7_servedBits 33 = .ok (.ifCond .eq 9, 3) := by decide +kernel
theorem dX7_servedBits_36 : decode cX7_servedBits 36 = .ok (.iload_n 1, 1) := by decide +kernel
theorem dX7_servedBits_37 : decode cX7_servedBits 37 = .ok (.iconst 1, 1) := by decide +kernel
theorem dX7_servedBits_38 : decode cX7_servedBits 38 = .ok (.iload_n 2, 1) := by decide +kernel
theorem dX7_servedBits_39 : decode cX7_servedBits 39 = .ok (.ishl, 1) := by decide +kernel
theorem dX7_servedBits_40 : decode cX7_servedBits 40 = .ok (.ior, 1) := by decide +kernel
theorem dX7_servedBits_41 : decode cX7_servedBits 41 = .ok (.istore_n 1, 1) := by decide +kernel
theorem dX7_servedBits_42 : decode cX7_servedBits 42 = .ok (.iinc 2 1, 3) := by decide +kernel
theorem dX7_servedBits_45 : decode cX7_servedBits 45 = .ok (.goto (-41), 3) := by decide +kernel
theorem dX7_servedBits_48 : decode cX7_servedBits 48 = .ok (.iload_n 1, 1) := by decide +kernel
theorem dX7_servedBits_49 : decode cX7_servedBits 49 = .ok (.ireturn, 1) := by decide +kernel
theorem dX7_stepsWithin_0 : decode cX7_stepsWithin 0 = .ok (.iconst 0, 1) := by decide +kernel
theorem dX7_stepsWithin_1 : decode cX7_stepsWithin 1 = .ok (.istore_n 2, 1) := by decide +kernel
theorem dX7_stepsWithin_2 : decode cX7_stepsWithin 2 = .ok (.iconst 0, 1) := by decide +kernel
theorem dX7_stepsWithin_3 : decode cX7_stepsWithin 3 = .ok (.istore_n 3, 1) := by decide +kernel
theorem dX7_stepsWithin_4 : decode cX7_stepsWithin 4 = .ok (.iload_n 3, 1) := by decide +kernel
theorem dX7_stepsWithin_5 : decode cX7_stepsWithin 5 = .ok (.aload_n 0, 1) := by decide +kernel
theorem dX7_stepsWithin_6 : decode cX7_stepsWithin 6 = .ok (.getfield 47, 3) := by decide +kernel
theorem dX7_stepsWithin_9 : decode cX7_stepsWithin 9 = .ok (.if_icmp .ge 22, 3) := by decide +kernel
theorem dX7_stepsWithin_12 : decode cX7_stepsWithin 12 = .ok (.iload_n 2, 1) := by decide +kernel
theorem dX7_stepsWithin_13 : decode cX7_stepsWithin 13 = .ok (.iload_n 1, 1) := by decide +kernel
theorem dX7_stepsWithin_14 : decode cX7_stepsWithin 14 = .ok (.aload_n 0, 1) := by decide +kernel
theorem dX7_stepsWithin_15 : decode cX7_stepsWithin 15 = .ok (.getfield 9, 3) := by decide +kernel
theorem dX7_stepsWithin_18 : decode cX7_stepsWithin 18 = .ok (.iload_n 3, 1) := by decide +kernel
theorem dX7_stepsWithin_19 : decode cX7_stepsWithin 19 = .ok (.iaload, 1) := by decide +kernel
theorem dX7_stepsWithin_20 : decode cX7_stepsWithin 20 = .ok (.ishr, 1) := by decide +kernel
theorem dX7_stepsWithin_21 : decode cX7_stepsWithin 21 = .ok (.iconst 1, 1) := by decide +kernel
theorem dX7_stepsWithin_22 : decode cX7_stepsWithin 22 = .ok (.iand, 1) := by decide +kernel
theorem dX7_stepsWithin_23 : decode cX7_stepsWithin 23 = .ok (.iadd, 1) := by decide +kernel
theorem dX7_stepsWithin_24 : decode cX7_stepsWithin 24 = .ok (.istore_n 2, 1) := by decide +kernel
theorem dX7_stepsWithin_25 : decode cX7_stepsWithin 25 = .ok (.iinc 3 1, 3) := by decide +kernel
theorem dX7_stepsWithin_28 : decode cX7_stepsWithin 28 = .ok (.goto (-24), 3) := by decide +kernel
theorem dX7_stepsWithin_31 : decode cX7_stepsWithin 31 = .ok (.iload_n 2, 1) := by decide +kernel
theorem dX7_stepsWithin_32 : decode cX7_stepsWithin 32 = .ok (.ireturn, 1) := by decide +kernel
theorem dX7_turned_0 : decode cX7_turned 0 = .ok (.aload_n 0, 1) := by decide +kernel
theorem dX7_turned_1 : decode cX7_turned 1 = .ok (.getfield 32, 3) := by decide +kernel
theorem dX7_turned_4 : decode cX7_turned 4 = .ok (.tableswitch 46 0 2 #[28, 34, 40], 28) := by decide +kernel
theorem dX7_turned_32 : decode cX7_turned 32 = .ok (.iload_n 1, 1) := by decide +kernel
theorem dX7_turned_33 : decode cX7_turned 33 = .ok (.iconst 1, 1) := by decide +kernel
theorem dX7_turned_34 : decode cX7_turned 34 = .ok (.iadd, 1) := by decide +kernel
theorem dX7_turned_35 : decode cX7_turned 35 = .ok (.iconst 3, 1) := by decide +kernel
theorem dX7_turned_36 : decode cX7_turned 36 = .ok (.iand, 1) := by decide +kernel
theorem dX7_turned_37 : decode cX7_turned 37 = .ok (.ireturn, 1) := by decide +kernel
theorem dX7_turned_38 : decode cX7_turned 38 = .ok (.iload_n 1, 1) := by decide +kernel
theorem dX7_turned_39 : decode cX7_turned 39 = .ok (.iconst 3, 1) := by decide +kernel
theorem dX7_turned_40 : decode cX7_turned 40 = .ok (.iadd, 1) := by decide +kernel
theorem dX7_turned_41 : decode cX7_turned 41 = .ok (.iconst 3, 1) := by decide +kernel
theorem dX7_turned_42 : decode cX7_turned 42 = .ok (.iand, 1) := by decide +kernel
theorem dX7_turned_43 : decode cX7_turned 43 = .ok (.ireturn, 1) := by decide +kernel
theorem dX7_turned_44 : decode cX7_turned 44 = .ok (.iload_n 1, 1) := by decide +kernel
theorem dX7_turned_45 : decode cX7_turned 45 = .ok (.iconst 2, 1) := by decide +kernel
theorem dX7_turned_46 : decode cX7_turned 46 = .ok (.iadd, 1) := by decide +kernel
theorem dX7_turned_47 : decode cX7_turned 47 = .ok (.iconst 3, 1) := by decide +kernel
theorem dX7_turned_48 : decode cX7_turned 48 = .ok (.iand, 1) := by decide +kernel
theorem dX7_turned_49 : decode cX7_turned 49 = .ok (.ireturn, 1) := by decide +kernel
theorem dX7_turned_50 : decode cX7_turned 50 = .ok (.iload_n 2, 1) := by decide +kernel
theorem dX7_turned_51 : decode cX7_turned 51 = .ok (.iconst 2, 1) := by decide +kernel
theorem dX7_turned_52 : decode cX7_turned 52 = .ok (.irem, 1) := by decide +kernel
theorem dX7_turned_53 : decode cX7_turned 53 = .ok (.ifCond .ne 11, 3) := by decide +kernel
theorem dX7_turned_56 : decode cX7_turned 56 = .ok (.iload_n 1, 1) := by decide +kernel
theorem dX7_turned_57 : decode cX7_turned 57 = .ok (.iconst 1, 1) := by decide +kernel
theorem dX7_turned_58 : decode cX7_turned 58 = .ok (.iadd, 1) := by decide +kernel
theorem dX7_turned_59 : decode cX7_turned 59 = .ok (.iconst 3, 1) := by decide +kernel
theorem dX7_turned_60 : decode cX7_turned 60 = .ok (.iand, 1) := by decide +kernel
theorem dX7_turned_61 : decode cX7_turned 61 = .ok (.goto 8, 3) := by decide +kernel
theorem dX7_turned_64 : decode cX7_turned 64 = .ok (.iload_n 1, 1) := by decide +kernel
theorem dX7_turned_65 : decode cX7_turned 65 = .ok (.iconst 3, 1) := by decide +kernel
theorem dX7_turned_66 : decode cX7_turned 66 = .ok (.iadd, 1) := by decide +kernel
theorem dX7_turned_67 : decode cX7_turned 67 = .ok (.iconst 3, 1) := by decide +kernel
theorem dX7_turned_68 : decode cX7_turned 68 = .ok (.iand, 1) := by decide +kernel
theorem dX7_turned_69 : decode cX7_turned 69 = .ok (.ireturn, 1) := by decide +kernel
theorem dX7_under_0 : decode cX7_under 0 = .ok (.aload_n 0, 1) := by decide +kernel
theorem dX7_under_1 : decode cX7_under 1 = .ok (.iload_n 1, 1) := by decide +kernel
theorem dX7_under_2 : decode cX7_under 2 = .ok (.putfield 28, 3) := by decide +kernel
theorem dX7_under_5 : decode cX7_under 5 = .ok (.aload_n 0, 1) := by decide +kernel
theorem dX7_under_6 : decode cX7_under 6 = .ok (.iload_n 2, 1) := by decide +kernel
theorem dX7_under_7 : decode cX7_under 7 = .ok (.putfield 32, 3) := by decide +kernel
theorem dX7_under_10 : decode cX7_under 10 = .ok (.return_, 1) := by decide +kernel
theorem dX7_wayBits_0 : decode cX7_wayBits 0 = .ok (.iconst 0, 1) := by decide +kernel
theorem dX7_wayBits_1 : decode cX7_wayBits 1 = .ok (.istore_n 1, 1) := by decide +kernel
theorem dX7_wayBits_2 : decode cX7_wayBits 2 = .ok (.iconst 0, 1) := by decide +kernel
theorem dX7_wayBits_3 : decode cX7_wayBits 3 = .ok (.istore_n 2, 1) := by decide +kernel
theorem dX7_wayBits_4 : decode cX7_wayBits 4 = .ok (.iload_n 2, 1) := by decide +kernel
theorem dX7_wayBits_5 : decode cX7_wayBits 5 = .ok (.aload_n 0, 1) := by decide +kernel
theorem dX7_wayBits_6 : decode cX7_wayBits 6 = .ok (.getfield 47, 3) := by decide +kernel
theorem dX7_wayBits_9 : decode cX7_wayBits 9 = .ok (.if_icmp .ge 20, 3) := by decide +kernel
theorem dX7_wayBits_12 : decode cX7_wayBits 12 = .ok (.iload_n 1, 1) := by decide +kernel
theorem dX7_wayBits_13 : decode cX7_wayBits 13 = .ok (.iconst 1, 1) := by decide +kernel
theorem dX7_wayBits_14 : decode cX7_wayBits 14 = .ok (.aload_n 0, 1) := by decide +kernel
theorem dX7_wayBits_15 : decode cX7_wayBits 15 = .ok (.getfield 9, 3) := by decide +kernel
theorem dX7_wayBits_18 : decode cX7_wayBits 18 = .ok (.iload_n 2, 1) := by decide +kernel
theorem dX7_wayBits_19 : decode cX7_wayBits 19 = .ok (.iaload, 1) := by decide +kernel
theorem dX7_wayBits_20 : decode cX7_wayBits 20 = .ok (.ishl, 1) := by decide +kernel
theorem dX7_wayBits_21 : decode cX7_wayBits 21 = .ok (.ior, 1) := by decide +kernel
theorem dX7_wayBits_22 : decode cX7_wayBits 22 = .ok (.istore_n 1, 1) := by decide +kernel
theorem dX7_wayBits_23 : decode cX7_wayBits 23 = .ok (.iinc 2 1, 3) := by decide +kernel
theorem dX7_wayBits_26 : decode cX7_wayBits 26 = .ok (.goto (-22), 3) := by decide +kernel
theorem dX7_wayBits_29 : decode cX7_wayBits 29 = .ok (.iload_n 1, 1) := by decide +kernel
theorem dX7_wayBits_30 : decode cX7_wayBits 30 = .ok (.ireturn, 1) := by decide +kernel
theorem dX7_wouldServe_0 : decode cX7_wouldServe 0 = .ok (.aload_n 0, 1) := by decide +kernel
theorem dX7_wouldServe_1 : decode cX7_wouldServe 1 = .ok (.getfield 24, 3) := by decide +kernel
theorem dX7_wouldServe_4 : decode cX7_wouldServe 4 = .ok (.getfield 92, 3) := by decide +kernel
theorem dX7_wouldServe_7 : decode cX7_wouldServe 7 = .ok (.iload_n 1, 1) := by decide +kernel
theorem dX7_wouldServe_8 : decode cX7_wouldServe 8 = .ok (.iaload, 1) := by decide +kernel
theorem dX7_wouldServe_9 : decode cX7_wouldServe 9 = .ok (.ifCond .le 20, 3) := by decide +kernel
theorem dX7_wouldServe_12 : decode cX7_wouldServe 12 = .ok (.iload_n 2, 1) := by decide +kernel
theorem dX7_wouldServe_13 : decode cX7_wouldServe 13 = .ok (.aload_n 0, 1) := by decide +kernel
theorem dX7_wouldServe_14 : decode cX7_wouldServe 14 = .ok (.getfield 24, 3) := by decide +kernel
theorem dX7_wouldServe_17 : decode cX7_wouldServe 17 = .ok (.getfield 92, 3) := by decide +kernel
theorem dX7_wouldServe_20 : decode cX7_wouldServe 20 = .ok (.iload_n 1, 1) := by decide +kernel
theorem dX7_wouldServe_21 : decode cX7_wouldServe 21 = .ok (.iaload, 1) := by decide +kernel
theorem dX7_wouldServe_22 : decode cX7_wouldServe 22 = .ok (.if_icmp .lt 7, 3) := by decide +kernel
theorem dX7_wouldServe_25 : decode cX7_wouldServe 25 = .ok (.iconst 1, 1) := by decide +kernel
theorem dX7_wouldServe_26 : decode cX7_wouldServe 26 = .ok (.goto 4, 3) := by decide +kernel
theorem dX7_wouldServe_29 : decode cX7_wouldServe 29 = .ok (.iconst 0, 1) := by decide +kernel
theorem dX7_wouldServe_30 : decode cX7_wouldServe 30 = .ok (.ireturn, 1) := by decide +kernel
theorem dX8_append_0 : decode cX8_append 0 = .ok (.bipush 24, 2) := by decide +kernel
theorem dX8_append_2 : decode cX8_append 2 = .ok (.istore_n 2, 1) := by decide +kernel
theorem dX8_append_3 : decode cX8_append 3 = .ok (.iload_n 2, 1) := by decide +kernel
theorem dX8_append_4 : decode cX8_append 4 = .ok (.ifCond .lt 42, 3) := by decide +kernel
theorem dX8_append_7 : decode cX8_append 7 = .ok (.aload_n 0, 1) := by decide +kernel
theorem dX8_append_8 : decode cX8_append 8 = .ok (.getfield 15, 3) := by decide +kernel
theorem dX8_append_11 : decode cX8_append 11 = .ok (.sipush 800, 3) := by decide +kernel
theorem dX8_append_14 : decode cX8_append 14 = .ok (.if_icmp .ge 32, 3) := by decide +kernel
theorem dX8_append_17 : decode cX8_append 17 = .ok (.aload_n 0, 1) := by decide +kernel
theorem dX8_append_18 : decode cX8_append 18 = .ok (.getfield 9, 3) := by decide +kernel
theorem dX8_append_21 : decode cX8_append 21 = .ok (.aload_n 0, 1) := by decide +kernel
theorem dX8_append_22 : decode cX8_append 22 = .ok (.getfield 15, 3) := by decide +kernel
theorem dX8_append_25 : decode cX8_append 25 = .ok (.iload_n 1, 1) := by decide +kernel
theorem dX8_append_26 : decode cX8_append 26 = .ok (.iload_n 2, 1) := by decide +kernel
theorem dX8_append_27 : decode cX8_append 27 = .ok (.ishr, 1) := by decide +kernel
theorem dX8_append_28 : decode cX8_append 28 = .ok (.i2b, 1) := by decide +kernel
theorem dX8_append_29 : decode cX8_append 29 = .ok (.bastore, 1) := by decide +kernel
theorem dX8_append_30 : decode cX8_append 30 = .ok (.aload_n 0, 1) := by decide +kernel
theorem dX8_append_31 : decode cX8_append 31 = .ok (.dup, 1) := by decide +kernel
theorem dX8_append_32 : decode cX8_append 32 = .ok (.getfield 15, 3) := by decide +kernel
theorem dX8_append_35 : decode cX8_append 35 = .ok (.iconst 1, 1) := by decide +kernel
theorem dX8_append_36 : decode cX8_append 36 = .ok (.iadd, 1) := by decide +kernel
theorem dX8_append_37 : decode cX8_append 37 = .ok (.putfield 15, 3) := by decide +kernel
theorem dX8_append_40 : decode cX8_append 40 = .ok (.iinc 2 (-8), 3) := by decide +kernel
theorem dX8_append_43 : decode cX8_append 43 = .ok (.goto (-40), 3) := by decide +kernel
theorem dX8_append_46 : decode cX8_append 46 = .ok (.return_, 1) := by decide +kernel
theorem dX9_commonDivisor_0 : decode cX9_commonDivisor 0 = .ok (.iload_n 0, 1) := by decide +kernel
theorem dX9_commonDivisor_1 : decode cX9_commonDivisor 1 = .ok (.istore_n 2, 1) := by decide +kernel
theorem dX9_commonDivisor_2 : decode cX9_commonDivisor 2 = .ok (.iload_n 1, 1) := by decide +kernel
theorem dX9_commonDivisor_3 : decode cX9_commonDivisor 3 = .ok (.istore_n 3, 1) := by decide +kernel
theorem dX9_commonDivisor_4 : decode cX9_commonDivisor 4 = .ok (.iconst 0, 1) := by decide +kernel
theorem dX9_commonDivisor_5 : decode cX9_commonDivisor 5 = .ok (.istore 4, 2) := by decide +kernel
theorem dX9_commonDivisor_7 : decode cX9_commonDivisor 7 = .ok (.iload 4, 2) := by decide +kernel
theorem dX9_commonDivisor_9 : decode cX9_commonDivisor 9 = .ok (.bipush 64, 2) := by decide +kernel
theorem dX9_commonDivisor_11 : decode cX9_commonDivisor 11 = .ok (.if_icmp .ge 23, 3) := by decide +kernel
theorem dX9_commonDivisor_14 : decode cX9_commonDivisor 14 = .ok (.iload_n 3, 1) := by decide +kernel
theorem dX9_commonDivisor_15 : decode cX9_commonDivisor 15 = .ok (.ifCond .eq 19, 3) := by decide +kernel
theorem dX9_commonDivisor_18 : decode cX9_commonDivisor 18 = .ok (.iload_n 2, 1) := by decide +kernel
theorem dX9_commonDivisor_19 : decode cX9_commonDivisor 19 = .ok (.iload_n 3, 1) := by decide +kernel
theorem dX9_commonDivisor_20 : decode cX9_commonDivisor 20 = .ok (.irem, 1) := by decide +kernel
theorem dX9_commonDivisor_21 : decode cX9_commonDivisor 21 = .ok (.istore 5, 2) := by decide +kernel
theorem dX9_commonDivisor_23 : decode cX9_commonDivisor 23 = .ok (.iload_n 3, 1) := by decide +kernel
theorem dX9_commonDivisor_24 : decode cX9_commonDivisor 24 = .ok (.istore_n 2, 1) := by decide +kernel
theorem dX9_commonDivisor_25 : decode cX9_commonDivisor 25 = .ok (.iload 5, 2) := by decide +kernel
theorem dX9_commonDivisor_27 : decode cX9_commonDivisor 27 = .ok (.istore_n 3, 1) := by decide +kernel
theorem dX9_commonDivisor_28 : decode cX9_commonDivisor 28 = .ok (.iinc 4 1, 3) := by decide +kernel
theorem dX9_commonDivisor_31 : decode cX9_commonDivisor 31 = .ok (.goto (-24), 3) := by decide +kernel
theorem dX9_commonDivisor_34 : decode cX9_commonDivisor 34 = .ok (.iload_n 2, 1) := by decide +kernel
theorem dX9_commonDivisor_35 : decode cX9_commonDivisor 35 = .ok (.ireturn, 1) := by decide +kernel
theorem dX9_hasBit_0 : decode cX9_hasBit 0 = .ok (.iload_n 0, 1) := by decide +kernel
theorem dX9_hasBit_1 : decode cX9_hasBit 1 = .ok (.iload_n 1, 1) := by decide +kernel
theorem dX9_hasBit_2 : decode cX9_hasBit 2 = .ok (.ishr, 1) := by decide +kernel
theorem dX9_hasBit_3 : decode cX9_hasBit 3 = .ok (.iconst 1, 1) := by decide +kernel
theorem dX9_hasBit_4 : decode cX9_hasBit 4 = .ok (.iand, 1) := by decide +kernel
theorem dX9_hasBit_5 : decode cX9_hasBit 5 = .ok (.ifCond .eq 7, 3) := by decide +kernel
theorem dX9_hasBit_8 : decode cX9_hasBit 8 = .ok (.iconst 1, 1) := by decide +kernel
theorem dX9_hasBit_9 : decode cX9_hasBit 9 = .ok (.goto 4, 3) := by decide +kernel
theorem dX9_hasBit_12 : decode cX9_hasBit 12 = .ok (.iconst 0, 1) := by decide +kernel
theorem dX9_hasBit_13 : decode cX9_hasBit 13 = .ok (.ireturn, 1) := by decide +kernel
theorem dX9_isChoice_0 : decode cX9_isChoice 0 = .ok (.iload_n 0, 1) := by decide +kernel
theorem dX9_isChoice_1 : decode cX9_isChoice 1 = .ok (.ifCond .eq 8, 3) := by decide +kernel
theorem dX9_isChoice_4 : decode cX9_isChoice 4 = .ok (.iload_n 0, 1) := by decide +kernel
theorem dX9_isChoice_5 : decode cX9_isChoice 5 = .ok (.iconst 1, 1) := by decide +kernel
theorem dX9_isChoice_6 : decode cX9_isChoice 6 = .ok (.if_icmp .ne 7, 3) := by decide +kernel
theorem dX9_isChoice_9 : decode cX9_isChoice 9 = .ok (.iconst 1, 1) := by decide +kernel
theorem dX9_isChoice_10 : decode cX9_isChoice 10 = .ok (.goto 4, 3) := by decide +kernel
theorem dX9_isChoice_13 : decode cX9_isChoice 13 = .ok (.iconst 0, 1) := by decide +kernel
theorem dX9_isChoice_14 : decode cX9_isChoice 14 = .ok (.ireturn, 1) := by decide +kernel
theorem dX9_isFractionPart_0 : decode cX9_isFractionPart 0 = .ok (.iload_n 0, 1) := by decide +kernel
theorem dX9_isFractionPart_1 : decode cX9_isFractionPart 1 = .ok (.ifCond .eq 8, 3) := by decide +kernel
theorem dX9_isFractionPart_4 : decode cX9_isFractionPart 4 = .ok (.iload_n 0, 1) := by decide +kernel
theorem dX9_isFractionPart_5 : decode cX9_isFractionPart 5 = .ok (.iconst 1, 1) := by decide +kernel
theorem dX9_isFractionPart_6 : decode cX9_isFractionPart 6 = .ok (.if_icmp .ne 7, 3) := by decide +kernel
theorem dX9_isFractionPart_9 : decode cX9_isFractionPart 9 = .ok (.iconst 1, 1) := by decide +kernel
theorem dX9_isFractionPart_10 : decode cX9_isFractionPart 10 = .ok (.goto 4, 3) := by decide +kernel
theorem dX9_isFractionPart_13 : decode cX9_isFractionPart 13 = .ok (.iconst 0, 1) := by decide +kernel
theorem dX9_isFractionPart_14 : decode cX9_isFractionPart 14 = .ok (.ireturn, 1) := by decide +kernel
theorem dX9_isLampCount_0 : decode cX9_isLampCount 0 = .ok (.iload_n 0, 1) := by decide +kernel
theorem dX9_isLampCount_1 : decode cX9_isLampCount 1 = .ok (.ifCond .lt 12, 3) := by decide +kernel
theorem dX9_isLampCount_4 : decode cX9_isLampCount 4 = .ok (.iload_n 0, 1) := by decide +kernel
theorem dX9_isLampCount_5 : decode cX9_isLampCount 5 = .ok (.iconst 3, 1) := by decide +kernel
theorem dX9_isLampCount_6 : decode cX9_isLampCount 6 = .ok (.if_icmp .gt 7, 3) := by decide +kernel
theorem dX9_isLampCount_9 : decode cX9_isLampCount 9 = .ok (.iconst 1, 1) := by decide +kernel
theorem dX9_isLampCount_10 : decode cX9_isLampCount 10 = .ok (.goto 4, 3) := by decide +kernel
theorem dX9_isLampCount_13 : decode cX9_isLampCount 13 = .ok (.iconst 0, 1) := by decide +kernel
theorem dX9_isLampCount_14 : decode cX9_isLampCount 14 = .ok (.ireturn, 1) := by decide +kernel
theorem dX9_isSeed_0 : decode cX9_isSeed 0 = .ok (.iload_n 0, 1) := by decide +kernel
theorem dX9_isSeed_1 : decode cX9_isSeed 1 = .ok (.ifCond .lt 14, 3) := by decide +kernel
theorem dX9_isSeed_4 : decode cX9_isSeed 4 = .ok (.iload_n 0, 1) := by decide +kernel
theorem dX9_isSeed_5 : decode cX9_isSeed 5 = .ok (.ldc_w 426, 3) := by decide +kernel
theorem dX9_isSeed_8 : decode cX9_isSeed 8 = .ok (.if_icmp .gt 7, 3) := by decide +kernel
theorem dX9_isSeed_11 : decode cX9_isSeed 11 = .ok (.iconst 1, 1) := by decide +kernel
theorem dX9_isSeed_12 : decode cX9_isSeed 12 = .ok (.goto 4, 3) := by decide +kernel
theorem dX9_isSeed_15 : decode cX9_isSeed 15 = .ok (.iconst 0, 1) := by decide +kernel
theorem dX9_isSeed_16 : decode cX9_isSeed 16 = .ok (.ireturn, 1) := by decide +kernel
theorem dX9_isSlot_0 : decode cX9_isSlot 0 = .ok (.iload_n 0, 1) := by decide +kernel
theorem dX9_isSlot_1 : decode cX9_isSlot 1 = .ok (.ifCond .lt 12, 3) := by decide +kernel
theorem dX9_isSlot_4 : decode cX9_isSlot 4 = .ok (.iload_n 0, 1) := by decide +kernel
theorem dX9_isSlot_5 : decode cX9_isSlot 5 = .ok (.iconst 4, 1) := by decide +kernel
theorem dX9_isSlot_6 : decode cX9_isSlot 6 = .ok (.if_icmp .ge 7, 3) := by decide +kernel
theorem dX9_isSlot_9 : decode cX9_isSlot 9 = .ok (.iconst 1, 1) := by decide +kernel
theorem dX9_isSlot_10 : decode cX9_isSlot 10 = .ok (.goto 4, 3) := by decide +kernel
theorem dX9_isSlot_13 : decode cX9_isSlot 13 = .ok (.iconst 0, 1) := by decide +kernel
theorem dX9_isSlot_14 : decode cX9_isSlot 14 = .ok (.ireturn, 1) := by decide +kernel
theorem dX9_isStep_0 : decode cX9_isStep 0 = .ok (.iload_n 0, 1) := by decide +kernel
theorem dX9_isStep_1 : decode cX9_isStep 1 = .ok (.ifCond .lt 13, 3) := by decide +kernel
theorem dX9_isStep_4 : decode cX9_isStep 4 = .ok (.iload_n 0, 1) := by decide +kernel
theorem dX9_isStep_5 : decode cX9_isStep 5 = .ok (.bipush 41, 2) := by decide +kernel
theorem dX9_isStep_7 : decode cX9_isStep 7 = .ok (.if_icmp .ge 7, 3) := by decide +kernel
theorem dX9_isStep_10 : decode cX9_isStep 10 = .ok (.iconst 1, 1) := by decide +kernel
theorem dX9_isStep_11 : decode cX9_isStep 11 = .ok (.goto 4, 3) := by decide +kernel
theorem dX9_isStep_14 : decode cX9_isStep 14 = .ok (.iconst 0, 1) := by decide +kernel
theorem dX9_isStep_15 : decode cX9_isStep 15 = .ok (.ireturn, 1) := by decide +kernel
theorem dX9_partOf_0 : decode cX9_partOf 0 = .ok (.iload_n 0, 1) := by decide +kernel
theorem dX9_partOf_1 : decode cX9_partOf 1 = .ok (.iload_n 1, 1) := by decide +kernel
theorem dX9_partOf_2 : decode cX9_partOf 2 = .ok (.invokestatic 427, 3) := by decide +kernel
theorem dX9_partOf_5 : decode cX9_partOf 5 = .ok (.istore_n 3, 1) := by decide +kernel
theorem dX9_partOf_6 : decode cX9_partOf 6 = .ok (.iload_n 3, 1) := by decide +kernel
theorem dX9_partOf_7 : decode cX9_partOf 7 = .ok (.iconst 1, 1) := by decide +kernel
theorem dX9_partOf_8 : decode cX9_partOf 8 = .ok (.if_icmp .ge 5, 3) := by decide +kernel
theorem dX9_partOf_11 : decode cX9_partOf 11 = .ok (.iload_n 2, 1) := by decide +kernel
theorem dX9_partOf_12 : decode cX9_partOf 12 = .ok (.ireturn, 1) := by decide +kernel
theorem dX9_partOf_13 : decode cX9_partOf 13 = .ok (.iload_n 2, 1) := by decide +kernel
theorem dX9_partOf_14 : decode cX9_partOf 14 = .ok (.ifCond .ne 7, 3) := by decide +kernel
theorem dX9_partOf_17 : decode cX9_partOf 17 = .ok (.iload_n 0, 1) := by decide +kernel
theorem dX9_partOf_18 : decode cX9_partOf 18 = .ok (.goto 4, 3) := by decide +kernel
theorem dX9_partOf_21 : decode cX9_partOf 21 = .ok (.iload_n 1, 1) := by decide +kernel
theorem dX9_partOf_22 : decode cX9_partOf 22 = .ok (.iload_n 3, 1) := by decide +kernel
theorem dX9_partOf_23 : decode cX9_partOf 23 = .ok (.idiv, 1) := by decide +kernel
theorem dX9_partOf_24 : decode cX9_partOf 24 = .ok (.ireturn, 1) := by decide +kernel
theorem wd0 : Cond.constant RX9 426 (2000000000 : Int32) ∈ gW := gm (tm_6 14 (by decide +kernel)) rfl
theorem wd1 : Cond.static yX9_commonDivisor ∈ gW := gm (tm_5 53 (by decide +kernel)) rfl
theorem wd2 : Cond.initialized RX9 ∈ gW := gm (tm_1 1 (by decide +kernel)) rfl
theorem wd3 : Cond.code yX9_commonDivisor cX9_commonDivisor 6 (some .int) ∈ gW := gm (tm_5 54 (by decide +kernel)) rfl
theorem wd4 : Cond.methodLink RX9 427 yX9_commonDivisor ∈ gW := gm (tm_5 52 (by decide +kernel)) rfl
theorem wd5 : Cond.fieldLink RX8 15 "GooseShares$Tape" "length" "I" ∈ gW := gm (tm_1 37 (by decide +kernel)) rfl
theorem wd6 : Cond.fieldLink RX8 9 "GooseShares$Tape" "bytes" "[B" ∈ gW := gm (tm_1 34 (by decide +kernel)) rfl
theorem wd7 : Cond.fieldLink RX3 42 "GooseShares$Land" "lines" "I" ∈ gW := gm (tm_1 51 (by decide +kernel)) rfl
theorem wd8 : Cond.fieldLink RX3 46 "GooseShares$Land" "wide" "I" ∈ gW := gm (tm_1 54 (by decide +kernel)) rfl
theorem wd9 : Cond.fieldLink RX3 49 "GooseShares$Land" "high" "I" ∈ gW := gm (tm_1 57 (by decide +kernel)) rfl
theorem wd10 : Cond.fieldLink RX3 52 "GooseShares$Land" "law" "I" ∈ gW := gm (tm_1 61 (by decide +kernel)) rfl
theorem wd11 : Cond.fieldLink RX3 55 "GooseShares$Land" "ear" "I" ∈ gW := gm (tm_1 67 (by decide +kernel)) rfl
theorem wd12 : Cond.fieldLink RX3 58 "GooseShares$Land" "odds" "I" ∈ gW := gm (tm_1 70 (by decide +kernel)) rfl
theorem wd13 : Cond.fieldLink RX3 61 "GooseShares$Land" "flights" "I" ∈ gW := gm (tm_1 75 (by decide +kernel)) rfl
theorem wd14 : Cond.fieldLink RX3 64 "GooseShares$Land" "members" "I" ∈ gW := gm (tm_1 80 (by decide +kernel)) rfl
theorem wd15 : Cond.fieldLink RX3 67 "GooseShares$Land" "lit" "I" ∈ gW := gm (tm_1 88 (by decide +kernel)) rfl
theorem wd16 : Cond.fieldLink RX3 70 "GooseShares$Land" "acts" "I" ∈ gW := gm (tm_1 93 (by decide +kernel)) rfl
theorem wd17 : Cond.instanceMethod yX3_cells ∈ gW := gm (tm_3 11 (by decide +kernel)) rfl
theorem wd18 : Cond.selects RX3 yX3_cells yX3_cells ∈ gW := gm (tm_3 12 (by decide +kernel)) rfl
theorem wd19 : Cond.initialized RX3 ∈ gW := gm (tm_1 3 (by decide +kernel)) rfl
theorem wd20 : Cond.code yX3_cells cX3_cells 1 (some .int) ∈ gW := gm (tm_3 13 (by decide +kernel)) rfl
theorem wd21 : Cond.methodLink RX3 79 yX3_cells ∈ gW := gm (tm_3 28 (by decide +kernel)) rfl
theorem wd22 : Cond.instanceMethod yX3_isNone ∈ gW := gm (tm_3 80 (by decide +kernel)) rfl
theorem wd23 : Cond.selects RX3 yX3_isNone yX3_isNone ∈ gW := gm (tm_3 81 (by decide +kernel)) rfl
theorem wd24 : Cond.code yX3_isNone cX3_isNone 1 (some .boolean) ∈ gW := gm (tm_3 82 (by decide +kernel)) rfl
theorem wd25 : Cond.methodLink RX3 99 yX3_isNone ∈ gW := gm (tm_4 83 (by decide +kernel)) rfl
theorem wd26 : Cond.instanceMethod yX3_allMembers ∈ gW := gm (tm_4 10 (by decide +kernel)) rfl
theorem wd27 : Cond.selects RX3 yX3_allMembers yX3_allMembers ∈ gW := gm (tm_4 11 (by decide +kernel)) rfl
theorem wd28 : Cond.code yX3_allMembers cX3_allMembers 1 (some .int) ∈ gW := gm (tm_4 12 (by decide +kernel)) rfl
theorem wd29 : Cond.methodLink RX3 103 yX3_allMembers ∈ gW := gm (tm_4 84 (by decide +kernel)) rfl
theorem wd30 : Cond.instanceMethod yX3_rowOf ∈ gW := gm (tm_3 34 (by decide +kernel)) rfl
theorem wd31 : Cond.selects RX3 yX3_rowOf yX3_rowOf ∈ gW := gm (tm_3 35 (by decide +kernel)) rfl
theorem wd32 : Cond.code yX3_rowOf cX3_rowOf 2 (some .int) ∈ gW := gm (tm_3 36 (by decide +kernel)) rfl
theorem wd33 : Cond.methodLink RX3 90 yX3_rowOf ∈ gW := gm (tm_3 33 (by decide +kernel)) rfl
theorem wd34 : Cond.methodLink RX3 94 Lib.Math.abs.name ∈ gW := gm (tm_3 37 (by decide +kernel)) rfl
theorem wd35 : Cond.static Lib.Math.abs.name ∈ gW := gm (tm_3 38 (by decide +kernel)) rfl
theorem wd36 : Cond.code Lib.Math.abs.name Lib.Math.abs.code 1 (some .int) ∈ gW := gm (tm_3 39 (by decide +kernel)) rfl
theorem wd37 : Cond.initialized "java/lang/Math" ∈ gW := gm (tm_1 16 (by decide +kernel)) rfl
theorem wd38 : Cond.fieldLink RX3 36 "GooseShares$Land" "within" "[I" ∈ gW := gm (tm_1 122 (by decide +kernel)) rfl
theorem wd39 : Cond.fieldLink RX3 21 "GooseShares$Land" "houses" "[I" ∈ gW := gm (tm_1 107 (by decide +kernel)) rfl
theorem wd40 : Cond.fieldLink RX3 24 "GooseShares$Land" "wants" "[I" ∈ gW := gm (tm_1 112 (by decide +kernel)) rfl
theorem wd41 : Cond.static yX9_hasBit ∈ gW := gm (tm_3 107 (by decide +kernel)) rfl
theorem wd42 : Cond.code yX9_hasBit cX9_hasBit 2 (some .boolean) ∈ gW := gm (tm_3 108 (by decide +kernel)) rfl
theorem wd43 : Cond.fieldLink RX3 27 "GooseShares$Land" "pays" "[I" ∈ gW := gm (tm_1 116 (by decide +kernel)) rfl
theorem wd44 : Cond.fieldLink RX3 30 "GooseShares$Land" "actPlaces" "[I" ∈ gW := gm (tm_1 120 (by decide +kernel)) rfl
theorem wd45 : Cond.fieldLink RX3 15 "GooseShares$Land" "headings" "[I" ∈ gW := gm (tm_1 99 (by decide +kernel)) rfl
theorem wd46 : Cond.fieldLink RX3 33 "GooseShares$Land" "actWere" "[I" ∈ gW := gm (tm_1 121 (by decide +kernel)) rfl
theorem wd47 : Cond.instanceMethod yX3_setLamp ∈ gW := gm (tm_5 224 (by decide +kernel)) rfl
theorem wd48 : Cond.selects RX3 yX3_setLamp yX3_setLamp ∈ gW := gm (tm_5 225 (by decide +kernel)) rfl
theorem wd49 : Cond.code yX3_setLamp cX3_setLamp 3 none ∈ gW := gm (tm_5 226 (by decide +kernel)) rfl
theorem wd50 : Cond.methodLink RX3 114 yX3_setLamp ∈ gW := gm (tm_5 223 (by decide +kernel)) rfl
theorem wd51 : Cond.fieldLink RX3 9 "GooseShares$Land" "starts" "[I" ∈ gW := gm (tm_1 95 (by decide +kernel)) rfl
theorem wd52 : Cond.methodLink RX3 73 arraycopyName ∈ gW := gm (tm_3 48 (by decide +kernel)) rfl
theorem wd53 : Cond.native arraycopyName ∈ gW := gm (tm_3 50 (by decide +kernel)) rfl
theorem wd54 : Cond.static arraycopyName ∈ gW := gm (tm_3 49 (by decide +kernel)) rfl
theorem wd55 : Cond.initialized "java/lang/System" ∈ gW := gm (tm_1 17 (by decide +kernel)) rfl
theorem wd56 : Cond.fieldLink RX3 18 "GooseShares$Land" "flocks" "[I" ∈ gW := gm (tm_1 103 (by decide +kernel)) rfl
theorem wd57 : Cond.fieldLink RX3 39 "GooseShares$Land" "beside" "[I" ∈ gW := gm (tm_1 124 (by decide +kernel)) rfl
theorem wd58 : Cond.fieldLink RX7 28 "GooseShares$Sky" "lit" "I" ∈ gW := gm (tm_1 213 (by decide +kernel)) rfl
theorem wd59 : Cond.fieldLink RX7 32 "GooseShares$Sky" "law" "I" ∈ gW := gm (tm_1 214 (by decide +kernel)) rfl
theorem wd60 : Cond.fieldLink RX7 47 "GooseShares$Sky" "stay" "I" ∈ gW := gm (tm_1 215 (by decide +kernel)) rfl
theorem wd61 : Cond.fieldLink RX7 9 "GooseShares$Sky" "track" "[I" ∈ gW := gm (tm_1 209 (by decide +kernel)) rfl
theorem wd62 : Cond.fieldLink RX7 15 "GooseShares$Sky" "facing" "[I" ∈ gW := gm (tm_1 210 (by decide +kernel)) rfl
theorem wd63 : Cond.fieldLink RX7 18 "GooseShares$Sky" "kept" "[I" ∈ gW := gm (tm_1 211 (by decide +kernel)) rfl
theorem wd64 : Cond.methodLink RX7 64 arraycopyName ∈ gW := gm (tm_4 53 (by decide +kernel)) rfl
theorem wd65 : Cond.fieldLink RX7 70 "GooseShares$Sky" "keptStay" "I" ∈ gW := gm (tm_1 216 (by decide +kernel)) rfl
theorem wd66 : Cond.fieldLink RX7 21 "GooseShares$Sky" "geeseOver" "[I" ∈ gW := gm (tm_1 212 (by decide +kernel)) rfl
theorem wd67 : Cond.fieldLink RX7 24 "GooseShares$Sky" "land" "LGooseShares$Land;" ∈ gW := gm (tm_1 208 (by decide +kernel)) rfl
theorem wd68 : Cond.fieldLink RX7 85 "GooseShares$Land" "within" "[I" ∈ gW := gm (tm_1 123 (by decide +kernel)) rfl
theorem wd69 : Cond.methodLink RX7 88 yX3_cells ∈ gW := gm (tm_3 197 (by decide +kernel)) rfl
theorem wd70 : Cond.fieldLink RX7 92 "GooseShares$Land" "wants" "[I" ∈ gW := gm (tm_1 115 (by decide +kernel)) rfl
theorem wd71 : Cond.fieldLink RX7 95 "GooseShares$Land" "members" "I" ∈ gW := gm (tm_1 85 (by decide +kernel)) rfl
theorem wd72 : Cond.fieldLink RX7 98 "GooseShares$Land" "houses" "[I" ∈ gW := gm (tm_1 111 (by decide +kernel)) rfl
theorem wd73 : Cond.instanceMethod yX7_heardIn ∈ gW := gm (tm_3 194 (by decide +kernel)) rfl
theorem wd74 : Cond.selects RX7 yX7_heardIn yX7_heardIn ∈ gW := gm (tm_3 195 (by decide +kernel)) rfl
theorem wd75 : Cond.initialized RX7 ∈ gW := gm (tm_1 5 (by decide +kernel)) rfl
theorem wd76 : Cond.code yX7_heardIn cX7_heardIn 6 (some .int) ∈ gW := gm (tm_3 196 (by decide +kernel)) rfl
theorem wd77 : Cond.methodLink RX7 101 yX7_heardIn ∈ gW := gm (tm_3 223 (by decide +kernel)) rfl
theorem wd78 : Cond.instanceMethod yX7_wouldServe ∈ gW := gm (tm_3 225 (by decide +kernel)) rfl
theorem wd79 : Cond.selects RX7 yX7_wouldServe yX7_wouldServe ∈ gW := gm (tm_3 226 (by decide +kernel)) rfl
theorem wd80 : Cond.code yX7_wouldServe cX7_wouldServe 3 (some .boolean) ∈ gW := gm (tm_3 227 (by decide +kernel)) rfl
theorem wd81 : Cond.methodLink RX7 105 yX7_wouldServe ∈ gW := gm (tm_3 224 (by decide +kernel)) rfl
theorem wd82 : Cond.fieldLink RX6 15 "GooseShares$Row" "width" "I" ∈ gW := gm (tm_2 84 (by decide +kernel)) rfl
theorem wd83 : Cond.fieldLink RX6 9 "GooseShares$Row" "numbers" "[J" ∈ gW := gm (tm_2 81 (by decide +kernel)) rfl
theorem wd84 : Cond.fieldLink RX6 19 "GooseShares$Row" "length" "I" ∈ gW := gm (tm_2 87 (by decide +kernel)) rfl
theorem my_X9_commonDivisor : gWS RX9 yX9_commonDivisor cX9_commonDivisor 6 (some .int) 2 := ⟨⟨wd1, wd2, wd3⟩, ⟨rfl, by decide +kernel, by decide +kernel, by decide +kernel⟩⟩
theorem my_X3_cells : gWV RX3 yX3_cells cX3_cells 1 (some .int) 0 := ⟨⟨wd17, wd18, wd19, wd20⟩, ⟨rfl, by decide +kernel, by decide +kernel, by decide +kernel⟩⟩
theorem my_X3_isNone : gWV RX3 yX3_isNone cX3_isNone 1 (some .boolean) 0 := ⟨⟨wd22, wd23, wd19, wd24⟩, ⟨rfl, by decide +kernel, by decide +kernel, by decide +kernel⟩⟩
theorem my_X3_allMembers : gWV RX3 yX3_allMembers cX3_allMembers 1 (some .int) 0 := ⟨⟨wd26, wd27, wd19, wd28⟩, ⟨rfl, by decide +kernel, by decide +kernel, by decide +kernel⟩⟩
theorem my_X3_rowOf : gWV RX3 yX3_rowOf cX3_rowOf 2 (some .int) 1 := ⟨⟨wd30, wd31, wd19, wd32⟩, ⟨rfl, by decide +kernel, by decide +kernel, by decide +kernel⟩⟩
theorem my_X9_hasBit : gWS RX9 yX9_hasBit cX9_hasBit 2 (some .boolean) 2 := ⟨⟨wd41, wd2, wd42⟩, ⟨rfl, by decide +kernel, by decide +kernel, by decide +kernel⟩⟩
theorem my_X3_setLamp : gWV RX3 yX3_setLamp cX3_setLamp 3 none 2 := ⟨⟨wd47, wd48, wd19, wd49⟩, ⟨rfl, by decide +kernel, by decide +kernel, by decide +kernel⟩⟩
theorem my_X7_heardIn : gWV RX7 yX7_heardIn cX7_heardIn 6 (some .int) 1 := ⟨⟨wd73, wd74, wd75, wd76⟩, ⟨rfl, by decide +kernel, by decide +kernel, by decide +kernel⟩⟩
theorem my_X7_wouldServe : gWV RX7 yX7_wouldServe cX7_wouldServe 3 (some .boolean) 2 := ⟨⟨wd78, wd79, wd75, wd80⟩, ⟨rfl, by decide +kernel, by decide +kernel, by decide +kernel⟩⟩
theorem tl_m8 : ((-8) : Int32).toInt = (-8) := by decide
theorem rl_m8 : rg ((-8) : Int32) (-8) (-8) := ⟨by rw [tl_m8]; exact Int.le_refl _, by rw [tl_m8]; exact Int.le_refl _⟩
theorem tl_m1 : ((-1) : Int32).toInt = (-1) := by decide
theorem rl_m1 : rg ((-1) : Int32) (-1) (-1) := ⟨by rw [tl_m1]; exact Int.le_refl _, by rw [tl_m1]; exact Int.le_refl _⟩
theorem tl_0 : (0 : Int32).toInt = 0 := by decide
theorem rl_0 : rg (0 : Int32) 0 0 := ⟨by rw [tl_0]; exact Int.le_refl _, by rw [tl_0]; exact Int.le_refl _⟩
theorem tl_1 : (1 : Int32).toInt = 1 := by decide
theorem rl_1 : rg (1 : Int32) 1 1 := ⟨by rw [tl_1]; exact Int.le_refl _, by rw [tl_1]; exact Int.le_refl _⟩
theorem tl_2 : (2 : Int32).toInt = 2 := by decide
theorem rl_2 : rg (2 : Int32) 2 2 := ⟨by rw [tl_2]; exact Int.le_refl _, by rw [tl_2]; exact Int.le_refl _⟩
theorem tl_3 : (3 : Int32).toInt = 3 := by decide
theorem rl_3 : rg (3 : Int32) 3 3 := ⟨by rw [tl_3]; exact Int.le_refl _, by rw [tl_3]; exact Int.le_refl _⟩
theorem tl_4 : (4 : Int32).toInt = 4 := by decide
theorem rl_4 : rg (4 : Int32) 4 4 := ⟨by rw [tl_4]; exact Int.le_refl _, by rw [tl_4]; exact Int.le_refl _⟩
theorem tl_20 : (20 : Int32).toInt = 20 := by decide
theorem rl_20 : rg (20 : Int32) 20 20 := ⟨by rw [tl_20]; exact Int.le_refl _, by rw [tl_20]; exact Int.le_refl _⟩
theorem tl_24 : (24 : Int32).toInt = 24 := by decide
theorem rl_24 : rg (24 : Int32) 24 24 := ⟨by rw [tl_24]; exact Int.le_refl _, by rw [tl_24]; exact Int.le_refl _⟩
theorem tl_41 : (41 : Int32).toInt = 41 := by decide
theorem rl_41 : rg (41 : Int32) 41 41 := ⟨by rw [tl_41]; exact Int.le_refl _, by rw [tl_41]; exact Int.le_refl _⟩
theorem tl_64 : (64 : Int32).toInt = 64 := by decide
theorem rl_64 : rg (64 : Int32) 64 64 := ⟨by rw [tl_64]; exact Int.le_refl _, by rw [tl_64]; exact Int.le_refl _⟩
theorem tl_800 : (800 : Int32).toInt = 800 := by decide
theorem rl_800 : rg (800 : Int32) 800 800 := ⟨by rw [tl_800]; exact Int.le_refl _, by rw [tl_800]; exact Int.le_refl _⟩
theorem tl_2000000000 : (2000000000 : Int32).toInt = 2000000000 := by decide
theorem rl_2000000000 : rg (2000000000 : Int32) 2000000000 2000000000 := ⟨by rw [tl_2000000000]; exact Int.le_refl _, by rw [tl_2000000000]; exact Int.le_refl _⟩
