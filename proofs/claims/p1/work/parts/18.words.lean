theorem dX10_init_0 : decode cX10_init 0 = .ok (.aload_n 0, 1) := by decide +kernel
theorem dX10_init_1 : decode cX10_init 1 = .ok (.invokespecial 1, 3) := by decide +kernel
theorem dX10_init_4 : decode cX10_init 4 = .ok (.aload_n 0, 1) := by decide +kernel
theorem dX10_init_5 : decode cX10_init 5 = .ok (.iconst 4, 1) := by decide +kernel
theorem dX10_init_6 : decode cX10_init 6 = .ok (.newarray .int, 2) := by decide +kernel
theorem dX10_init_8 : decode cX10_init 8 = .ok (.putfield 7, 3) := by decide +kernel
theorem dX10_init_11 : decode cX10_init 11 = .ok (.aload_n 0, 1) := by decide +kernel
theorem dX10_init_12 : decode cX10_init 12 = .ok (.iconst 4, 1) := by decide +kernel
theorem dX10_init_13 : decode cX10_init 13 = .ok (.newarray .int, 2) := by decide +kernel
theorem dX10_init_15 : decode cX10_init 15 = .ok (.putfield 13, 3) := by decide +kernel
theorem dX10_init_18 : decode cX10_init 18 = .ok (.aload_n 0, 1) := by decide +kernel
theorem dX10_init_19 : decode cX10_init 19 = .ok (.sipush 240, 3) := by decide +kernel
theorem dX10_init_22 : decode cX10_init 22 = .ok (.newarray .long, 2) := by decide +kernel
theorem dX10_init_24 : decode cX10_init 24 = .ok (.putfield 16, 3) := by decide +kernel
theorem dX10_init_27 : decode cX10_init 27 = .ok (.aload_n 0, 1) := by decide +kernel
theorem dX10_init_28 : decode cX10_init 28 = .ok (.bipush 60, 2) := by decide +kernel
theorem dX10_init_30 : decode cX10_init 30 = .ok (.newarray .long, 2) := by decide +kernel
theorem dX10_init_32 : decode cX10_init 32 = .ok (.putfield 20, 3) := by decide +kernel
theorem dX10_init_35 : decode cX10_init 35 = .ok (.aload_n 0, 1) := by decide +kernel
theorem dX10_init_36 : decode cX10_init 36 = .ok (.sipush 800, 3) := by decide +kernel
theorem dX10_init_39 : decode cX10_init 39 = .ok (.newarray .byte, 2) := by decide +kernel
theorem dX10_init_41 : decode cX10_init 41 = .ok (.putfield 23, 3) := by decide +kernel
theorem dX10_init_44 : decode cX10_init 44 = .ok (.aload_n 0, 1) := by decide +kernel
theorem dX10_init_45 : decode cX10_init 45 = .ok (.iconst (-1), 1) := by decide +kernel
theorem dX10_init_46 : decode cX10_init 46 = .ok (.putfield 27, 3) := by decide +kernel
theorem dX10_init_49 : decode cX10_init 49 = .ok (.aload_n 0, 1) := by decide +kernel
theorem dX10_init_50 : decode cX10_init 50 = .ok (.iconst 5, 1) := by decide +kernel
theorem dX10_init_51 : decode cX10_init 51 = .ok (.newarray .int, 2) := by decide +kernel
theorem dX10_init_53 : decode cX10_init 53 = .ok (.putfield 31, 3) := by decide +kernel
theorem dX10_init_56 : decode cX10_init 56 = .ok (.aload_n 0, 1) := by decide +kernel
theorem dX10_init_57 : decode cX10_init 57 = .ok (.bipush 45, 2) := by decide +kernel
theorem dX10_init_59 : decode cX10_init 59 = .ok (.newarray .int, 2) := by decide +kernel
theorem dX10_init_61 : decode cX10_init 61 = .ok (.putfield 34, 3) := by decide +kernel
theorem dX10_init_64 : decode cX10_init 64 = .ok (.aload_n 0, 1) := by decide +kernel
theorem dX10_init_65 : decode cX10_init 65 = .ok (.bipush 60, 2) := by decide +kernel
theorem dX10_init_67 : decode cX10_init 67 = .ok (.newarray .int, 2) := by decide +kernel
theorem dX10_init_69 : decode cX10_init 69 = .ok (.putfield 37, 3) := by decide +kernel
theorem dX10_init_72 : decode cX10_init 72 = .ok (.aload_n 0, 1) := by decide +kernel
theorem dX10_init_73 : decode cX10_init 73 = .ok (.bipush 90, 2) := by decide +kernel
theorem dX10_init_75 : decode cX10_init 75 = .ok (.newarray .int, 2) := by decide +kernel
theorem dX10_init_77 : decode cX10_init 77 = .ok (.putfield 40, 3) := by decide +kernel
theorem dX10_init_80 : decode cX10_init 80 = .ok (.aload_n 0, 1) := by decide +kernel
theorem dX10_init_81 : decode cX10_init 81 = .ok (.sipush 600, 3) := by decide +kernel
theorem dX10_init_84 : decode cX10_init 84 = .ok (.newarray .int, 2) := by decide +kernel
theorem dX10_init_86 : decode cX10_init 86 = .ok (.putfield 43, 3) := by decide +kernel
theorem dX10_init_89 : decode cX10_init 89 = .ok (.aload_n 0, 1) := by decide +kernel
theorem dX10_init_90 : decode cX10_init 90 = .ok (.iconst 3, 1) := by decide +kernel
theorem dX10_init_91 : decode cX10_init 91 = .ok (.newarray .boolean, 2) := by decide +kernel
theorem dX10_init_93 : decode cX10_init 93 = .ok (.putfield 46, 3) := by decide +kernel
theorem dX10_init_96 : decode cX10_init 96 = .ok (.aload_n 0, 1) := by decide +kernel
theorem dX10_init_97 : decode cX10_init 97 = .ok (.iconst 5, 1) := by decide +kernel
theorem dX10_init_98 : decode cX10_init 98 = .ok (.newarray .int, 2) := by decide +kernel
theorem dX10_init_100 : decode cX10_init 100 = .ok (.putfield 50, 3) := by decide +kernel
theorem dX10_init_103 : decode cX10_init 103 = .ok (.aload_n 0, 1) := by decide +kernel
theorem dX10_init_104 : decode cX10_init 104 = .ok (.sipush 205, 3) := by decide +kernel
theorem dX10_init_107 : decode cX10_init 107 = .ok (.newarray .int, 2) := by decide +kernel
theorem dX10_init_109 : decode cX10_init 109 = .ok (.putfield 53, 3) := by decide +kernel
theorem dX10_init_112 : decode cX10_init 112 = .ok (.aload_n 0, 1) := by decide +kernel
theorem dX10_init_113 : decode cX10_init 113 = .ok (.sipush 205, 3) := by decide +kernel
theorem dX10_init_116 : decode cX10_init 116 = .ok (.newarray .int, 2) := by decide +kernel
theorem dX10_init_118 : decode cX10_init 118 = .ok (.putfield 56, 3) := by decide +kernel
theorem dX10_init_121 : decode cX10_init 121 = .ok (.aload_n 0, 1) := by decide +kernel
theorem dX10_init_122 : decode cX10_init 122 = .ok (.iconst 5, 1) := by decide +kernel
theorem dX10_init_123 : decode cX10_init 123 = .ok (.newarray .int, 2) := by decide +kernel
theorem dX10_init_125 : decode cX10_init 125 = .ok (.putfield 59, 3) := by decide +kernel
theorem dX10_init_128 : decode cX10_init 128 = .ok (.aload_n 0, 1) := by decide +kernel
theorem dX10_init_129 : decode cX10_init 129 = .ok (.bipush 20, 2) := by decide +kernel
theorem dX10_init_131 : decode cX10_init 131 = .ok (.newarray .int, 2) := by decide +kernel
theorem dX10_init_133 : decode cX10_init 133 = .ok (.putfield 62, 3) := by decide +kernel
theorem dX10_init_136 : decode cX10_init 136 = .ok (.aload_n 0, 1) := by decide +kernel
theorem dX10_init_137 : decode cX10_init 137 = .ok (.bipush 64, 2) := by decide +kernel
theorem dX10_init_139 : decode cX10_init 139 = .ok (.newarray .int, 2) := by decide +kernel
theorem dX10_init_141 : decode cX10_init 141 = .ok (.putfield 65, 3) := by decide +kernel
theorem dX10_init_144 : decode cX10_init 144 = .ok (.aload_n 0, 1) := by decide +kernel
theorem dX10_init_145 : decode cX10_init 145 = .ok (.bipush 64, 2) := by decide +kernel
theorem dX10_init_147 : decode cX10_init 147 = .ok (.newarray .int, 2) := by decide +kernel
theorem dX10_init_149 : decode cX10_init 149 = .ok (.putfield 68, 3) := by decide +kernel
theorem dX10_init_152 : decode cX10_init 152 = .ok (.aload_n 0, 1) := by decide +kernel
theorem dX10_init_153 : decode cX10_init 153 = .ok (.iconst 4, 1) := by decide +kernel
theorem dX10_init_154 : decode cX10_init 154 = .ok (.newarray .int, 2) := by decide +kernel
theorem dX10_init_156 : decode cX10_init 156 = .ok (.putfield 71, 3) := by decide +kernel
theorem dX10_init_159 : decode cX10_init 159 = .ok (.aload_n 0, 1) := by decide +kernel
theorem dX10_init_160 : decode cX10_init 160 = .ok (.iconst 4, 1) := by decide +kernel
theorem dX10_init_161 : decode cX10_init 161 = .ok (.newarray .int, 2) := by decide +kernel
theorem dX10_init_163 : decode cX10_init 163 = .ok (.putfield 74, 3) := by decide +kernel
theorem dX10_init_166 : decode cX10_init 166 = .ok (.aload_n 0, 1) := by decide +kernel
theorem dX10_init_167 : decode cX10_init 167 = .ok (.iconst 4, 1) := by decide +kernel
theorem dX10_init_168 : decode cX10_init 168 = .ok (.newarray .int, 2) := by decide +kernel
theorem dX10_init_170 : decode cX10_init 170 = .ok (.putfield 77, 3) := by decide +kernel
theorem dX10_init_173 : decode cX10_init 173 = .ok (.aload_n 0, 1) := by decide +kernel
theorem dX10_init_174 : decode cX10_init 174 = .ok (.bipush 42, 2) := by decide +kernel
theorem dX10_init_176 : decode cX10_init 176 = .ok (.newarray .int, 2) := by decide +kernel
theorem dX10_init_178 : decode cX10_init 178 = .ok (.putfield 80, 3) := by decide +kernel
theorem dX10_init_181 : decode cX10_init 181 = .ok (.aload_n 0, 1) := by decide +kernel
theorem dX10_init_182 : decode cX10_init 182 = .ok (.bipush 6, 2) := by decide +kernel
theorem dX10_init_184 : decode cX10_init 184 = .ok (.newarray .int, 2) := by decide +kernel
theorem dX10_init_186 : decode cX10_init 186 = .ok (.putfield 83, 3) := by decide +kernel
theorem dX10_init_189 : decode cX10_init 189 = .ok (.aload_n 0, 1) := by decide +kernel
theorem dX10_init_190 : decode cX10_init 190 = .ok (.bipush 6, 2) := by decide +kernel
theorem dX10_init_192 : decode cX10_init 192 = .ok (.newarray .int, 2) := by decide +kernel
theorem dX10_init_194 : decode cX10_init 194 = .ok (.putfield 86, 3) := by decide +kernel
theorem dX10_init_197 : decode cX10_init 197 = .ok (.aload_n 0, 1) := by decide +kernel
theorem dX10_init_198 : decode cX10_init 198 = .ok (.bipush 6, 2) := by decide +kernel
theorem dX10_init_200 : decode cX10_init 200 = .ok (.newarray .int, 2) := by decide +kernel
theorem dX10_init_202 : decode cX10_init 202 = .ok (.putfield 89, 3) := by decide +kernel
theorem dX10_init_205 : decode cX10_init 205 = .ok (.iconst 0, 1) := by decide +kernel
theorem dX10_init_206 : decode cX10_init 206 = .ok (.istore_n 1, 1) := by decide +kernel
theorem dX10_init_207 : decode cX10_init 207 = .ok (.iload_n 1, 1) := by decide +kernel
theorem dX10_init_208 : decode cX10_init 208 = .ok (.iconst 4, 1) := by decide +kernel
theorem dX10_init_209 : decode cX10_init 209 = .ok (.if_icmp .ge 16, 3) := by decide +kernel
theorem dX10_init_212 : decode cX10_init 212 = .ok (.aload_n 0, 1) := by decide +kernel
theorem dX10_init_213 : decode cX10_init 213 = .ok (.getfield 7, 3) := by decide +kernel
theorem dX10_init_216 : decode cX10_init 216 = .ok (.iload_n 1, 1) := by decide +kernel
theorem dX10_init_217 : decode cX10_init 217 = .ok (.iconst (-1), 1) := by decide +kernel
theorem dX10_init_218 : decode cX10_init 218 = .ok (.iastore, 1) := by decide +kernel
theorem dX10_init_219 : decode cX10_init 219 = .ok (.iinc 1 1, 3) := by decide +kernel
theorem dX10_init_222 : decode cX10_init 222 = .ok (.goto (-15), 3) := by decide +kernel
theorem dX10_init_225 : decode cX10_init 225 = .ok (.return_, 1) := by decide +kernel
theorem wd365 : Cond.methodLink RX10 1 Lib.objectInit ∈ gW := gm (tm_6 82 (by decide +kernel)) rfl
theorem wd366 : Cond.fieldLink RX10 20 "GooseSharesModel" "moved" "[J" ∈ gW := gm (tm_6 87 (by decide +kernel)) rfl
theorem wd367 : Cond.fieldLink RX10 50 "GooseSharesModel" "headsAt" "[I" ∈ gW := gm (tm_6 108 (by decide +kernel)) rfl
theorem wd368 : Cond.fieldLink RX10 53 "GooseSharesModel" "cellAt" "[I" ∈ gW := gm (tm_6 109 (by decide +kernel)) rfl
theorem wd369 : Cond.fieldLink RX10 56 "GooseSharesModel" "headAt" "[I" ∈ gW := gm (tm_6 110 (by decide +kernel)) rfl
theorem wd370 : Cond.fieldLink RX10 59 "GooseSharesModel" "turnsOf" "[I" ∈ gW := gm (tm_6 111 (by decide +kernel)) rfl
theorem wd371 : Cond.fieldLink RX10 62 "GooseSharesModel" "heardAt" "[I" ∈ gW := gm (tm_6 112 (by decide +kernel)) rfl
theorem wd372 : Cond.fieldLink RX10 65 "GooseSharesModel" "fewest" "[I" ∈ gW := gm (tm_6 113 (by decide +kernel)) rfl
theorem wd373 : Cond.fieldLink RX10 68 "GooseSharesModel" "fewestSet" "[I" ∈ gW := gm (tm_6 114 (by decide +kernel)) rfl
theorem wd374 : Cond.fieldLink RX10 71 "GooseSharesModel" "income" "[I" ∈ gW := gm (tm_6 115 (by decide +kernel)) rfl
theorem wd375 : Cond.fieldLink RX10 74 "GooseSharesModel" "incomeSet" "[I" ∈ gW := gm (tm_6 116 (by decide +kernel)) rfl
theorem wd376 : Cond.fieldLink RX10 77 "GooseSharesModel" "most" "[I" ∈ gW := gm (tm_6 117 (by decide +kernel)) rfl
theorem wd377 : Cond.fieldLink RX10 80 "GooseSharesModel" "often" "[I" ∈ gW := gm (tm_6 118 (by decide +kernel)) rfl
theorem wd378 : Cond.fieldLink RX10 83 "GooseSharesModel" "beganHeard" "[I" ∈ gW := gm (tm_6 121 (by decide +kernel)) rfl
theorem wd379 : Cond.fieldLink RX10 86 "GooseSharesModel" "house" "[I" ∈ gW := gm (tm_6 124 (by decide +kernel)) rfl
theorem wd380 : Cond.fieldLink RX10 89 "GooseSharesModel" "bestHouse" "[I" ∈ gW := gm (tm_6 125 (by decide +kernel)) rfl
