theorem dJ0_charAt_5068e_0 : decode cJ0_charAt_5068e 0 = .ok (.aload_n 0, 1) := by decide +kernel
theorem dJ0_charAt_5068e_1 : decode cJ0_charAt_5068e 1 = .ok (.invokevirtual 492, 3) := by decide +kernel
theorem dJ0_charAt_5068e_4 : decode cJ0_charAt_5068e 4 = .ok (.ifCond .eq 12, 3) := by decide +kernel
theorem dJ0_charAt_5068e_7 : decode cJ0_charAt_5068e 7 = .ok (.aload_n 0, 1) := by decide +kernel
theorem dJ0_charAt_5068e_8 : decode cJ0_charAt_5068e 8 = .ok (.getfield 9, 3) := by decide +kernel
theorem dJ0_charAt_5068e_11 : decode cJ0_charAt_5068e 11 = .ok (.iload_n 1, 1) := by decide +kernel
theorem dJ0_charAt_5068e_12 : decode cJ0_charAt_5068e 12 = .ok (.invokestatic 495, 3) := by decide +kernel
theorem dJ0_charAt_5068e_15 : decode cJ0_charAt_5068e 15 = .ok (.ireturn, 1) := by decide +kernel
theorem dJ0_checkIndex_df160_0 : decode cJ0_checkIndex_df160 0 = .ok (.iload_n 0, 1) := by decide +kernel
theorem dJ0_checkIndex_df160_1 : decode cJ0_checkIndex_df160 1 = .ok (.iload_n 1, 1) := by decide +kernel
theorem dJ0_checkIndex_df160_2 : decode cJ0_checkIndex_df160 2 = .ok (.getstatic 1053, 3) := by decide +kernel
theorem dJ0_checkIndex_df160_5 : decode cJ0_checkIndex_df160 5 = .ok (.invokestatic 1059, 3) := by decide +kernel
theorem dJ0_checkIndex_df160_8 : decode cJ0_checkIndex_df160 8 = .ok (.pop, 1) := by decide +kernel
theorem dJ0_checkIndex_df160_9 : decode cJ0_checkIndex_df160 9 = .ok (.return_, 1) := by decide +kernel
theorem dJ0_coder_7d493_0 : decode cJ0_coder_7d493 0 = .ok (.getstatic 38, 3) := by decide +kernel
theorem dJ0_coder_7d493_3 : decode cJ0_coder_7d493 3 = .ok (.ifCond .eq 10, 3) := by decide +kernel
theorem dJ0_coder_7d493_6 : decode cJ0_coder_7d493 6 = .ok (.aload_n 0, 1) := by decide +kernel
theorem dJ0_coder_7d493_7 : decode cJ0_coder_7d493 7 = .ok (.getfield 15, 3) := by decide +kernel
theorem dJ0_coder_7d493_10 : decode cJ0_coder_7d493 10 = .ok (.goto 4, 3) := by decide +kernel
theorem dJ0_coder_7d493_14 : decode cJ0_coder_7d493 14 = .ok (.ireturn, 1) := by decide +kernel
theorem dJ0_isLatin1_aae02_0 : decode cJ0_isLatin1_aae02 0 = .ok (.getstatic 38, 3) := by decide +kernel
theorem dJ0_isLatin1_aae02_3 : decode cJ0_isLatin1_aae02 3 = .ok (.ifCond .eq 14, 3) := by decide +kernel
theorem dJ0_isLatin1_aae02_6 : decode cJ0_isLatin1_aae02 6 = .ok (.aload_n 0, 1) := by decide +kernel
theorem dJ0_isLatin1_aae02_7 : decode cJ0_isLatin1_aae02 7 = .ok (.getfield 15, 3) := by decide +kernel
theorem dJ0_isLatin1_aae02_10 : decode cJ0_isLatin1_aae02 10 = .ok (.ifCond .ne 7, 3) := by decide +kernel
theorem dJ0_isLatin1_aae02_13 : decode cJ0_isLatin1_aae02 13 = .ok (.iconst 1, 1) := by decide +kernel
theorem dJ0_isLatin1_aae02_14 : decode cJ0_isLatin1_aae02 14 = .ok (.goto 4, 3) := by decide +kernel
theorem dJ0_isLatin1_aae02_18 : decode cJ0_isLatin1_aae02 18 = .ok (.ireturn, 1) := by decide +kernel
theorem dJ0_length_8abf5_0 : decode cJ0_length_8abf5 0 = .ok (.aload_n 0, 1) := by decide +kernel
theorem dJ0_length_8abf5_1 : decode cJ0_length_8abf5 1 = .ok (.getfield 9, 3) := by decide +kernel
theorem dJ0_length_8abf5_4 : decode cJ0_length_8abf5 4 = .ok (.arraylength, 1) := by decide +kernel
theorem dJ0_length_8abf5_5 : decode cJ0_length_8abf5 5 = .ok (.aload_n 0, 1) := by decide +kernel
theorem dJ0_length_8abf5_6 : decode cJ0_length_8abf5 6 = .ok (.invokevirtual 335, 3) := by decide +kernel
theorem dJ0_length_8abf5_9 : decode cJ0_length_8abf5 9 = .ok (.ishr, 1) := by decide +kernel
theorem dJ0_length_8abf5_10 : decode cJ0_length_8abf5 10 = .ok (.ireturn, 1) := by decide +kernel
theorem dJ1_charAt_3b067_0 : decode cJ1_charAt_3b067 0 = .ok (.iload_n 1, 1) := by decide +kernel
theorem dJ1_charAt_3b067_1 : decode cJ1_charAt_3b067 1 = .ok (.aload_n 0, 1) := by decide +kernel
theorem dJ1_charAt_3b067_2 : decode cJ1_charAt_3b067 2 = .ok (.arraylength, 1) := by decide +kernel
theorem dJ1_charAt_3b067_3 : decode cJ1_charAt_3b067 3 = .ok (.invokestatic 9, 3) := by decide +kernel
theorem dJ1_charAt_3b067_6 : decode cJ1_charAt_3b067 6 = .ok (.aload_n 0, 1) := by decide +kernel
theorem dJ1_charAt_3b067_7 : decode cJ1_charAt_3b067 7 = .ok (.iload_n 1, 1) := by decide +kernel
theorem dJ1_charAt_3b067_8 : decode cJ1_charAt_3b067 8 = .ok (.baload, 1) := by decide +kernel
theorem dJ1_charAt_3b067_9 : decode cJ1_charAt_3b067 9 = .ok (.sipush 255, 3) := by decide +kernel
theorem dJ1_charAt_3b067_12 : decode cJ1_charAt_3b067 12 = .ok (.iand, 1) := by decide +kernel
theorem dJ1_charAt_3b067_13 : decode cJ1_charAt_3b067 13 = .ok (.i2c, 1) := by decide +kernel
theorem dJ1_charAt_3b067_14 : decode cJ1_charAt_3b067 14 = .ok (.ireturn, 1) := by decide +kernel
theorem dJ3_checkIndex_8e157_0 : decode cJ3_checkIndex_8e157 0 = .ok (.iload_n 0, 1) := by decide +kernel
theorem dJ3_checkIndex_8e157_1 : decode cJ3_checkIndex_8e157 1 = .ok (.ifCond .lt 8, 3) := by decide +kernel
theorem dJ3_checkIndex_8e157_4 : decode cJ3_checkIndex_8e157 4 = .ok (.iload_n 0, 1) := by decide +kernel
theorem dJ3_checkIndex_8e157_5 : decode cJ3_checkIndex_8e157 5 = .ok (.iload_n 1, 1) := by decide +kernel
theorem dJ3_checkIndex_8e157_6 : decode cJ3_checkIndex_8e157 6 = .ok (.if_icmp .lt 10, 3) := by decide +kernel
theorem dJ3_checkIndex_8e157_16 : decode cJ3_checkIndex_8e157 16 = .ok (.iload_n 0, 1) := by decide +kernel
theorem dJ3_checkIndex_8e157_17 : decode cJ3_checkIndex_8e157 17 = .ok (.ireturn, 1) := by decide +kernel
theorem dX5_advance_0 : decode cX5_advance 0 = .ok (.aload_n 0, 1) := by decide +kernel
theorem dX5_advance_1 : decode cX5_advance 1 = .ok (.aload_n 0, 1) := by decide +kernel
theorem dX5_advance_2 : decode cX5_advance 2 = .ok (.getfield 31, 3) := by decide +kernel
theorem dX5_advance_5 : decode cX5_advance 5 = .ok (.putfield 141, 3) := by decide +kernel
theorem dX5_advance_8 : decode cX5_advance 8 = .ok (.aload_n 0, 1) := by decide +kernel
theorem dX5_advance_9 : decode cX5_advance 9 = .ok (.getfield 141, 3) := by decide +kernel
theorem dX5_advance_12 : decode cX5_advance 12 = .ok (.aload_n 0, 1) := by decide +kernel
theorem dX5_advance_13 : decode cX5_advance 13 = .ok (.getfield 15, 3) := by decide +kernel
theorem dX5_advance_16 : decode cX5_advance 16 = .ok (.getfield 144, 3) := by decide +kernel
theorem dX5_advance_19 : decode cX5_advance 19 = .ok (.if_icmp .ge 35, 3) := by decide +kernel
theorem dX5_advance_22 : decode cX5_advance 22 = .ok (.aload_n 0, 1) := by decide +kernel
theorem dX5_advance_23 : decode cX5_advance 23 = .ok (.getfield 15, 3) := by decide +kernel
theorem dX5_advance_26 : decode cX5_advance 26 = .ok (.getfield 149, 3) := by decide +kernel
theorem dX5_advance_29 : decode cX5_advance 29 = .ok (.aload_n 0, 1) := by decide +kernel
theorem dX5_advance_30 : decode cX5_advance 30 = .ok (.getfield 141, 3) := by decide +kernel
theorem dX5_advance_33 : decode cX5_advance 33 = .ok (.baload, 1) := by decide +kernel
theorem dX5_advance_34 : decode cX5_advance 34 = .ok (.invokestatic 153, 3) := by decide +kernel
theorem dX5_advance_37 : decode cX5_advance 37 = .ok (.iconst 4, 1) := by decide +kernel
theorem dX5_advance_38 : decode cX5_advance 38 = .ok (.if_icmp .ne 16, 3) := by decide +kernel
theorem dX5_advance_41 : decode cX5_advance 41 = .ok (.aload_n 0, 1) := by decide +kernel
theorem dX5_advance_42 : decode cX5_advance 42 = .ok (.dup, 1) := by decide +kernel
theorem dX5_advance_43 : decode cX5_advance 43 = .ok (.getfield 141, 3) := by decide +kernel
theorem dX5_advance_46 : decode cX5_advance 46 = .ok (.iconst 1, 1) := by decide +kernel
theorem dX5_advance_47 : decode cX5_advance 47 = .ok (.iadd, 1) := by decide +kernel
theorem dX5_advance_48 : decode cX5_advance 48 = .ok (.putfield 141, 3) := by decide +kernel
theorem dX5_advance_51 : decode cX5_advance 51 = .ok (.goto (-43), 3) := by decide +kernel
theorem dX5_advance_54 : decode cX5_advance 54 = .ok (.aload_n 0, 1) := by decide +kernel
theorem dX5_advance_55 : decode cX5_advance 55 = .ok (.aload_n 0, 1) := by decide +kernel
theorem dX5_advance_56 : decode cX5_advance 56 = .ok (.getfield 141, 3) := by decide +kernel
theorem dX5_advance_59 : decode cX5_advance 59 = .ok (.putfield 31, 3) := by decide +kernel
theorem dX5_advance_62 : decode cX5_advance 62 = .ok (.aload_n 0, 1) := by decide +kernel
theorem dX5_advance_63 : decode cX5_advance 63 = .ok (.getfield 141, 3) := by decide +kernel
theorem dX5_advance_66 : decode cX5_advance 66 = .ok (.aload_n 0, 1) := by decide +kernel
theorem dX5_advance_67 : decode cX5_advance 67 = .ok (.getfield 15, 3) := by decide +kernel
theorem dX5_advance_70 : decode cX5_advance 70 = .ok (.getfield 144, 3) := by decide +kernel
theorem dX5_advance_73 : decode cX5_advance 73 = .ok (.if_icmp .lt 9, 3) := by decide +kernel
theorem dX5_advance_76 : decode cX5_advance 76 = .ok (.aload_n 0, 1) := by decide +kernel
theorem dX5_advance_77 : decode cX5_advance 77 = .ok (.iconst 0, 1) := by decide +kernel
theorem dX5_advance_78 : decode cX5_advance 78 = .ok (.putfield 37, 3) := by decide +kernel
theorem dX5_advance_81 : decode cX5_advance 81 = .ok (.return_, 1) := by decide +kernel
theorem dX5_advance_82 : decode cX5_advance 82 = .ok (.aload_n 0, 1) := by decide +kernel
theorem dX5_advance_83 : decode cX5_advance 83 = .ok (.aload_n 0, 1) := by decide +kernel
theorem dX5_advance_84 : decode cX5_advance 84 = .ok (.getfield 15, 3) := by decide +kernel
theorem dX5_advance_87 : decode cX5_advance 87 = .ok (.getfield 149, 3) := by decide +kernel
theorem dX5_advance_90 : decode cX5_advance 90 = .ok (.aload_n 0, 1) := by decide +kernel
theorem dX5_advance_91 : decode cX5_advance 91 = .ok (.getfield 141, 3) := by decide +kernel
theorem dX5_advance_94 : decode cX5_advance 94 = .ok (.baload, 1) := by decide +kernel
theorem dX5_advance_95 : decode cX5_advance 95 = .ok (.invokestatic 153, 3) := by decide +kernel
theorem dX5_advance_98 : decode cX5_advance 98 = .ok (.putfield 37, 3) := by decide +kernel
theorem dX5_advance_101 : decode cX5_advance 101 = .ok (.aload_n 0, 1) := by decide +kernel
theorem dX5_advance_102 : decode cX5_advance 102 = .ok (.dup, 1) := by decide +kernel
theorem dX5_advance_103 : decode cX5_advance 103 = .ok (.getfield 31, 3) := by decide +kernel
theorem dX5_advance_106 : decode cX5_advance 106 = .ok (.iconst 1, 1) := by decide +kernel
theorem dX5_advance_107 : decode cX5_advance 107 = .ok (.iadd, 1) := by decide +kernel
theorem dX5_advance_108 : decode cX5_advance 108 = .ok (.putfield 31, 3) := by decide +kernel
theorem dX5_advance_111 : decode cX5_advance 111 = .ok (.aload_n 0, 1) := by decide +kernel
theorem dX5_advance_112 : decode cX5_advance 112 = .ok (.getfield 37, 3) := by decide +kernel
theorem dX5_advance_115 : decode cX5_advance 115 = .ok (.iconst 1, 1) := by decide +kernel
theorem dX5_advance_116 : decode cX5_advance 116 = .ok (.if_icmp .eq 11, 3) := by decide +kernel
theorem dX5_advance_119 : decode cX5_advance 119 = .ok (.aload_n 0, 1) := by decide +kernel
theorem dX5_advance_120 : decode cX5_advance 120 = .ok (.getfield 37, 3) := by decide +kernel
theorem dX5_advance_123 : decode cX5_advance 123 = .ok (.iconst 2, 1) := by decide +kernel
theorem dX5_advance_124 : decode cX5_advance 124 = .ok (.if_icmp .ne 52, 3) := by decide +kernel
theorem dX5_advance_127 : decode cX5_advance 127 = .ok (.aload_n 0, 1) := by decide +kernel
theorem dX5_advance_128 : decode cX5_advance 128 = .ok (.getfield 31, 3) := by decide +kernel
theorem dX5_advance_131 : decode cX5_advance 131 = .ok (.aload_n 0, 1) := by decide +kernel
theorem dX5_advance_132 : decode cX5_advance 132 = .ok (.getfield 15, 3) := by decide +kernel
theorem dX5_advance_135 : decode cX5_advance 135 = .ok (.getfield 144, 3) := by decide +kernel
theorem dX5_advance_138 : decode cX5_advance 138 = .ok (.if_icmp .ge 38, 3) := by decide +kernel
theorem dX5_advance_141 : decode cX5_advance 141 = .ok (.aload_n 0, 1) := by decide +kernel
theorem dX5_advance_142 : decode cX5_advance 142 = .ok (.getfield 15, 3) := by decide +kernel
theorem dX5_advance_145 : decode cX5_advance 145 = .ok (.getfield 149, 3) := by decide +kernel
theorem dX5_advance_148 : decode cX5_advance 148 = .ok (.aload_n 0, 1) := by decide +kernel
theorem dX5_advance_149 : decode cX5_advance 149 = .ok (.getfield 31, 3) := by decide +kernel
theorem dX5_advance_152 : decode cX5_advance 152 = .ok (.baload, 1) := by decide +kernel
theorem dX5_advance_153 : decode cX5_advance 153 = .ok (.invokestatic 153, 3) := by decide +kernel
theorem dX5_advance_156 : decode cX5_advance 156 = .ok (.aload_n 0, 1) := by decide +kernel
theorem dX5_advance_157 : decode cX5_advance 157 = .ok (.getfield 37, 3) := by decide +kernel
theorem dX5_advance_160 : decode cX5_advance 160 = .ok (.if_icmp .ne 16, 3) := by decide +kernel
theorem dX5_advance_163 : decode cX5_advance 163 = .ok (.aload_n 0, 1) := by decide +kernel
theorem dX5_advance_164 : decode cX5_advance 164 = .ok (.dup, 1) := by decide +kernel
theorem dX5_advance_165 : decode cX5_advance 165 = .ok (.getfield 31, 3) := by decide +kernel
theorem dX5_advance_168 : decode cX5_advance 168 = .ok (.iconst 1, 1) := by decide +kernel
theorem dX5_advance_169 : decode cX5_advance 169 = .ok (.iadd, 1) := by decide +kernel
theorem dX5_advance_170 : decode cX5_advance 170 = .ok (.putfield 31, 3) := by decide +kernel
theorem dX5_advance_173 : decode cX5_advance 173 = .ok (.goto (-46), 3) := by decide +kernel
theorem dX5_advance_176 : decode cX5_advance 176 = .ok (.return_, 1) := by decide +kernel
theorem dX5_isWord_0 : decode cX5_isWord 0 = .ok (.aload_n 0, 1) := by decide +kernel
theorem dX5_isWord_1 : decode cX5_isWord 1 = .ok (.getfield 37, 3) := by decide +kernel
theorem dX5_isWord_4 : decode cX5_isWord 4 = .ok (.iconst 1, 1) := by decide +kernel
theorem dX5_isWord_5 : decode cX5_isWord 5 = .ok (.if_icmp .ne 19, 3) := by decide +kernel
theorem dX5_isWord_8 : decode cX5_isWord 8 = .ok (.aload_n 0, 1) := by decide +kernel
theorem dX5_isWord_9 : decode cX5_isWord 9 = .ok (.getfield 31, 3) := by decide +kernel
theorem dX5_isWord_12 : decode cX5_isWord 12 = .ok (.aload_n 0, 1) := by decide +kernel
theorem dX5_isWord_13 : decode cX5_isWord 13 = .ok (.getfield 141, 3) := by decide +kernel
theorem dX5_isWord_16 : decode cX5_isWord 16 = .ok (.isub, 1) := by decide +kernel
theorem dX5_isWord_17 : decode cX5_isWord 17 = .ok (.aload_n 1, 1) := by decide +kernel
theorem dX5_isWord_18 : decode cX5_isWord 18 = .ok (.invokevirtual 157, 3) := by decide +kernel
theorem dX5_isWord_21 : decode cX5_isWord 21 = .ok (.if_icmp .eq 5, 3) := by decide +kernel
theorem dX5_isWord_24 : decode cX5_isWord 24 = .ok (.iconst 0, 1) := by decide +kernel
theorem dX5_isWord_25 : decode cX5_isWord 25 = .ok (.ireturn, 1) := by decide +kernel
theorem dX5_isWord_26 : decode cX5_isWord 26 = .ok (.iconst 0, 1) := by decide +kernel
theorem dX5_isWord_27 : decode cX5_isWord 27 = .ok (.istore_n 2, 1) := by decide +kernel
theorem dX5_isWord_28 : decode cX5_isWord 28 = .ok (.iload_n 2, 1) := by decide +kernel
theorem dX5_isWord_29 : decode cX5_isWord 29 = .ok (.aload_n 1, 1) := by decide +kernel
theorem dX5_isWord_30 : decode cX5_isWord 30 = .ok (.invokevirtual 157, 3) := by decide +kernel
theorem dX5_isWord_33 : decode cX5_isWord 33 = .ok (.if_icmp .ge 33, 3) := by decide +kernel
theorem dX5_isWord_36 : decode cX5_isWord 36 = .ok (.aload_n 0, 1) := by decide +kernel
theorem dX5_isWord_37 : decode cX5_isWord 37 = .ok (.getfield 15, 3) := by decide +kernel
theorem dX5_isWord_40 : decode cX5_isWord 40 = .ok (.getfield 149, 3) := by decide +kernel
theorem dX5_isWord_43 : decode cX5_isWord 43 = .ok (.aload_n 0, 1) := by decide +kernel
theorem dX5_isWord_44 : decode cX5_isWord 44 = .ok (.getfield 141, 3) := by decide +kernel
theorem dX5_isWord_47 : decode cX5_isWord 47 = .ok (.iload_n 2, 1) := by decide +kernel
theorem dX5_isWord_48 : decode cX5_isWord 48 = .ok (.iadd, 1) := by decide +kernel
theorem dX5_isWord_49 : decode cX5_isWord 49 = .ok (.baload, 1) := by decide +kernel
theorem dX5_isWord_50 : decode cX5_isWord 50 = .ok (.aload_n 1, 1) := by decide +kernel
theorem dX5_isWord_51 : decode cX5_isWord 51 = .ok (.iload_n 2, 1) := by decide +kernel
theorem dX5_isWord_52 : decode cX5_isWord 52 = .ok (.invokevirtual 161, 3) := by decide +kernel
theorem dX5_isWord_55 : decode cX5_isWord 55 = .ok (.if_icmp .eq 5, 3) := by decide +kernel
theorem dX5_isWord_58 : decode cX5_isWord 58 = .ok (.iconst 0, 1) := by decide +kernel
theorem dX5_isWord_59 : decode cX5_isWord 59 = .ok (.ireturn, 1) := by decide +kernel
theorem dX5_isWord_60 : decode cX5_isWord 60 = .ok (.iinc 2 1, 3) := by decide +kernel
theorem dX5_isWord_63 : decode cX5_isWord 63 = .ok (.goto (-35), 3) := by decide +kernel
theorem dX5_isWord_66 : decode cX5_isWord 66 = .ok (.iconst 1, 1) := by decide +kernel
theorem dX5_isWord_67 : decode cX5_isWord 67 = .ok (.ireturn, 1) := by decide +kernel
theorem dX5_kindOf_0 : decode cX5_kindOf 0 = .ok (.iload_n 0, 1) := by decide +kernel
theorem dX5_kindOf_1 : decode cX5_kindOf 1 = .ok (.bipush 32, 2) := by decide +kernel
theorem dX5_kindOf_3 : decode cX5_kindOf 3 = .ok (.if_icmp .eq 9, 3) := by decide +kernel
theorem dX5_kindOf_6 : decode cX5_kindOf 6 = .ok (.iload_n 0, 1) := by decide +kernel
theorem dX5_kindOf_7 : decode cX5_kindOf 7 = .ok (.bipush 10, 2) := by decide +kernel
theorem dX5_kindOf_9 : decode cX5_kindOf 9 = .ok (.if_icmp .ne 5, 3) := by decide +kernel
theorem dX5_kindOf_12 : decode cX5_kindOf 12 = .ok (.iconst 4, 1) := by decide +kernel
theorem dX5_kindOf_13 : decode cX5_kindOf 13 = .ok (.ireturn, 1) := by decide +kernel
theorem dX5_kindOf_14 : decode cX5_kindOf 14 = .ok (.iload_n 0, 1) := by decide +kernel
theorem dX5_kindOf_15 : decode cX5_kindOf 15 = .ok (.bipush 97, 2) := by decide +kernel
theorem dX5_kindOf_17 : decode cX5_kindOf 17 = .ok (.if_icmp .lt 11, 3) := by decide +kernel
theorem dX5_kindOf_20 : decode cX5_kindOf 20 = .ok (.iload_n 0, 1) := by decide +kernel
theorem dX5_kindOf_21 : decode cX5_kindOf 21 = .ok (.bipush 122, 2) := by decide +kernel
theorem dX5_kindOf_23 : decode cX5_kindOf 23 = .ok (.if_icmp .gt 5, 3) := by decide +kernel
theorem dX5_kindOf_26 : decode cX5_kindOf 26 = .ok (.iconst 1, 1) := by decide +kernel
theorem dX5_kindOf_27 : decode cX5_kindOf 27 = .ok (.ireturn, 1) := by decide +kernel
theorem dX5_kindOf_28 : decode cX5_kindOf 28 = .ok (.iload_n 0, 1) := by decide +kernel
theorem dX5_kindOf_29 : decode cX5_kindOf 29 = .ok (.bipush 48, 2) := by decide +kernel
theorem dX5_kindOf_31 : decode cX5_kindOf 31 = .ok (.if_icmp .lt 11, 3) := by decide +kernel
theorem dX5_kindOf_34 : decode cX5_kindOf 34 = .ok (.iload_n 0, 1) := by decide +kernel
theorem dX5_kindOf_35 : decode cX5_kindOf 35 = .ok (.bipush 57, 2) := by decide +kernel
theorem dX5_kindOf_37 : decode cX5_kindOf 37 = .ok (.if_icmp .gt 5, 3) := by decide +kernel
theorem dX5_kindOf_40 : decode cX5_kindOf 40 = .ok (.iconst 2, 1) := by decide +kernel
theorem dX5_kindOf_41 : decode cX5_kindOf 41 = .ok (.ireturn, 1) := by decide +kernel
theorem dX5_kindOf_42 : decode cX5_kindOf 42 = .ok (.iload_n 0, 1) := by decide +kernel
theorem dX5_kindOf_43 : decode cX5_kindOf 43 = .ok (.bipush 59, 2) := by decide +kernel
theorem dX5_kindOf_45 : decode cX5_kindOf 45 = .ok (.if_icmp .ne 7, 3) := by decide +kernel
theorem dX5_kindOf_48 : decode cX5_kindOf 48 = .ok (.iconst 3, 1) := by decide +kernel
theorem dX5_kindOf_49 : decode cX5_kindOf 49 = .ok (.goto 4, 3) := by decide +kernel
theorem dX5_kindOf_52 : decode cX5_kindOf 52 = .ok (.iconst 5, 1) := by decide +kernel
theorem dX5_kindOf_53 : decode cX5_kindOf 53 = .ok (.ireturn, 1) := by decide +kernel
theorem dX5_numberRead_0 : decode cX5_numberRead 0 = .ok (.iconst 0, 1) := by decide +kernel
theorem dX5_numberRead_1 : decode cX5_numberRead 1 = .ok (.istore_n 1, 1) := by decide +kernel
theorem dX5_numberRead_2 : decode cX5_numberRead 2 = .ok (.aload_n 0, 1) := by decide +kernel
theorem dX5_numberRead_3 : decode cX5_numberRead 3 = .ok (.getfield 141, 3) := by decide +kernel
theorem dX5_numberRead_6 : decode cX5_numberRead 6 = .ok (.istore_n 2, 1) := by decide +kernel
theorem dX5_numberRead_7 : decode cX5_numberRead 7 = .ok (.iload_n 2, 1) := by decide +kernel
theorem dX5_numberRead_8 : decode cX5_numberRead 8 = .ok (.aload_n 0, 1) := by decide +kernel
theorem dX5_numberRead_9 : decode cX5_numberRead 9 = .ok (.getfield 31, 3) := by decide +kernel
theorem dX5_numberRead_12 : decode cX5_numberRead 12 = .ok (.if_icmp .ge 33, 3) := by decide +kernel
theorem dX5_numberRead_15 : decode cX5_numberRead 15 = .ok (.sipush 1000, 3) := by decide +kernel
theorem dX5_numberRead_18 : decode cX5_numberRead 18 = .ok (.iload_n 1, 1) := by decide +kernel
theorem dX5_numberRead_19 : decode cX5_numberRead 19 = .ok (.bipush 10, 2) := by decide +kernel
theorem dX5_numberRead_21 : decode cX5_numberRead 21 = .ok (.imul, 1) := by decide +kernel
theorem dX5_numberRead_22 : decode cX5_numberRead 22 = .ok (.aload_n 0, 1) := by decide +kernel
theorem dX5_numberRead_23 : decode cX5_numberRead 23 = .ok (.getfield 15, 3) := by decide +kernel
theorem dX5_numberRead_26 : decode cX5_numberRead 26 = .ok (.getfield 149, 3) := by decide +kernel
theorem dX5_numberRead_29 : decode cX5_numberRead 29 = .ok (.iload_n 2, 1) := by decide +kernel
theorem dX5_numberRead_30 : decode cX5_numberRead 30 = .ok (.baload, 1) := by decide +kernel
theorem dX5_numberRead_31 : decode cX5_numberRead 31 = .ok (.iadd, 1) := by decide +kernel
theorem dX5_numberRead_32 : decode cX5_numberRead 32 = .ok (.bipush 48, 2) := by decide +kernel
theorem dX5_numberRead_34 : decode cX5_numberRead 34 = .ok (.isub, 1) := by decide +kernel
theorem dX5_numberRead_35 : decode cX5_numberRead 35 = .ok (.invokestatic 165, 3) := by decide +kernel
theorem dX5_numberRead_38 : decode cX5_numberRead 38 = .ok (.istore_n 1, 1) := by decide +kernel
theorem dX5_numberRead_39 : decode cX5_numberRead 39 = .ok (.iinc 2 1, 3) := by decide +kernel
theorem dX5_numberRead_42 : decode cX5_numberRead 42 = .ok (.goto (-35), 3) := by decide +kernel
theorem dX5_numberRead_45 : decode cX5_numberRead 45 = .ok (.iload_n 1, 1) := by decide +kernel
theorem dX5_numberRead_46 : decode cX5_numberRead 46 = .ok (.ireturn, 1) := by decide +kernel
theorem dX5_readField_0 : decode cX5_readField 0 = .ok (.aload_n 0, 1) := by decide +kernel
theorem dX5_readField_1 : decode cX5_readField 1 = .ok (.getfield 28, 3) := by decide +kernel
theorem dX5_readField_4 : decode cX5_readField 4 = .ok (.ifCond .eq 5, 3) := by decide +kernel
theorem dX5_readField_7 : decode cX5_readField 7 = .ok (.iload_n 2, 1) := by decide +kernel
theorem dX5_readField_8 : decode cX5_readField 8 = .ok (.ireturn, 1) := by decide +kernel
theorem dX5_readField_9 : decode cX5_readField 9 = .ok (.aload_n 0, 1) := by decide +kernel
theorem dX5_readField_10 : decode cX5_readField 10 = .ok (.aload_n 1, 1) := by decide +kernel
theorem dX5_readField_11 : decode cX5_readField 11 = .ok (.invokevirtual 54, 3) := by decide +kernel
theorem dX5_readField_14 : decode cX5_readField 14 = .ok (.ifCond .ne 10, 3) := by decide +kernel
theorem dX5_readField_17 : decode cX5_readField 17 = .ok (.aload_n 0, 1) := by decide +kernel
theorem dX5_readField_18 : decode cX5_readField 18 = .ok (.iconst 1, 1) := by decide +kernel
theorem dX5_readField_19 : decode cX5_readField 19 = .ok (.invokevirtual 81, 3) := by decide +kernel
theorem dX5_readField_22 : decode cX5_readField 22 = .ok (.iload_n 2, 1) := by decide +kernel
theorem dX5_readField_23 : decode cX5_readField 23 = .ok (.ireturn, 1) := by decide +kernel
theorem dX5_readField_24 : decode cX5_readField 24 = .ok (.aload_n 0, 1) := by decide +kernel
theorem dX5_readField_25 : decode cX5_readField 25 = .ok (.invokevirtual 34, 3) := by decide +kernel
theorem dX5_readField_28 : decode cX5_readField 28 = .ok (.aload_n 0, 1) := by decide +kernel
theorem dX5_readField_29 : decode cX5_readField 29 = .ok (.getfield 37, 3) := by decide +kernel
theorem dX5_readField_32 : decode cX5_readField 32 = .ok (.iconst 2, 1) := by decide +kernel
theorem dX5_readField_33 : decode cX5_readField 33 = .ok (.if_icmp .eq 10, 3) := by decide +kernel
theorem dX5_readField_36 : decode cX5_readField 36 = .ok (.aload_n 0, 1) := by decide +kernel
theorem dX5_readField_37 : decode cX5_readField 37 = .ok (.iconst 1, 1) := by decide +kernel
theorem dX5_readField_38 : decode cX5_readField 38 = .ok (.invokevirtual 81, 3) := by decide +kernel
theorem dX5_readField_41 : decode cX5_readField 41 = .ok (.iload_n 2, 1) := by decide +kernel
theorem dX5_readField_42 : decode cX5_readField 42 = .ok (.ireturn, 1) := by decide +kernel
theorem dX5_readField_43 : decode cX5_readField 43 = .ok (.aload_n 0, 1) := by decide +kernel
theorem dX5_readField_44 : decode cX5_readField 44 = .ok (.invokevirtual 138, 3) := by decide +kernel
theorem dX5_readField_47 : decode cX5_readField 47 = .ok (.istore 4, 2) := by decide +kernel
theorem dX5_readField_49 : decode cX5_readField 49 = .ok (.iload 4, 2) := by decide +kernel
theorem dX5_readField_51 : decode cX5_readField 51 = .ok (.iload_n 2, 1) := by decide +kernel
theorem dX5_readField_52 : decode cX5_readField 52 = .ok (.if_icmp .lt 9, 3) := by decide +kernel
theorem dX5_readField_55 : decode cX5_readField 55 = .ok (.iload 4, 2) := by decide +kernel
theorem dX5_readField_57 : decode cX5_readField 57 = .ok (.iload_n 3, 1) := by decide +kernel
theorem dX5_readField_58 : decode cX5_readField 58 = .ok (.if_icmp .le 10, 3) := by decide +kernel
theorem dX5_readField_61 : decode cX5_readField 61 = .ok (.aload_n 0, 1) := by decide +kernel
theorem dX5_readField_62 : decode cX5_readField 62 = .ok (.iconst 2, 1) := by decide +kernel
theorem dX5_readField_63 : decode cX5_readField 63 = .ok (.invokevirtual 81, 3) := by decide +kernel
theorem dX5_readField_66 : decode cX5_readField 66 = .ok (.iload_n 2, 1) := by decide +kernel
theorem dX5_readField_67 : decode cX5_readField 67 = .ok (.ireturn, 1) := by decide +kernel
theorem dX5_readField_68 : decode cX5_readField 68 = .ok (.aload_n 0, 1) := by decide +kernel
theorem dX5_readField_69 : decode cX5_readField 69 = .ok (.invokevirtual 34, 3) := by decide +kernel
theorem dX5_readField_72 : decode cX5_readField 72 = .ok (.iload 4, 2) := by decide +kernel
theorem dX5_readField_74 : decode cX5_readField 74 = .ok (.ireturn, 1) := by decide +kernel
theorem dX5_readFlightLine_0 : decode cX5_readFlightLine 0 = .ok (.aload_n 0, 1) := by decide +kernel
theorem dX5_readFlightLine_1 : decode cX5_readFlightLine 1 = .ok (.getfield 19, 3) := by decide +kernel
theorem dX5_readFlightLine_4 : decode cX5_readFlightLine 4 = .ok (.getfield 107, 3) := by decide +kernel
theorem dX5_readFlightLine_7 : decode cX5_readFlightLine 7 = .ok (.iconst 4, 1) := by decide +kernel
theorem dX5_readFlightLine_8 : decode cX5_readFlightLine 8 = .ok (.if_icmp .lt 9, 3) := by decide +kernel
theorem dX5_readFlightLine_11 : decode cX5_readFlightLine 11 = .ok (.aload_n 0, 1) := by decide +kernel
theorem dX5_readFlightLine_12 : decode cX5_readFlightLine 12 = .ok (.iconst 3, 1) := by decide +kernel
theorem dX5_readFlightLine_13 : decode cX5_readFlightLine 13 = .ok (.invokevirtual 81, 3) := by decide +kernel
theorem dX5_readFlightLine_16 : decode cX5_readFlightLine 16 = .ok (.return_, 1) := by decide +kernel
theorem dX5_readFlightLine_17 : decode cX5_readFlightLine 17 = .ok (.aload_n 0, 1) := by decide +kernel
theorem dX5_readFlightLine_18 : decode cX5_readFlightLine 18 = .ok (.invokevirtual 34, 3) := by decide +kernel
theorem dX5_readFlightLine_21 : decode cX5_readFlightLine 21 = .ok (.aload_n 0, 1) := by decide +kernel
theorem dX5_readFlightLine_22 : decode cX5_readFlightLine 22 = .ok (.getfield 19, 3) := by decide +kernel
theorem dX5_readFlightLine_25 : decode cX5_readFlightLine 25 = .ok (.getfield 110, 3) := by decide +kernel
theorem dX5_readFlightLine_28 : decode cX5_readFlightLine 28 = .ok (.aload_n 0, 1) := by decide +kernel
theorem dX5_readFlightLine_29 : decode cX5_readFlightLine 29 = .ok (.getfield 19, 3) := by decide +kernel
theorem dX5_readFlightLine_32 : decode cX5_readFlightLine 32 = .ok (.getfield 107, 3) := by decide +kernel
theorem dX5_readFlightLine_35 : decode cX5_readFlightLine 35 = .ok (.aload_n 0, 1) := by decide +kernel
theorem dX5_readFlightLine_36 : decode cX5_readFlightLine 36 = .ok (.ldc 71, 2) := by decide +kernel
theorem dX5_readFlightLine_38 : decode cX5_readFlightLine 38 = .ok (.iconst 0, 1) := by decide +kernel
theorem dX5_readFlightLine_39 : decode cX5_readFlightLine 39 = .ok (.aload_n 0, 1) := by decide +kernel
theorem dX5_readFlightLine_40 : decode cX5_readFlightLine 40 = .ok (.getfield 19, 3) := by decide +kernel
theorem dX5_readFlightLine_43 : decode cX5_readFlightLine 43 = .ok (.invokevirtual 73, 3) := by decide +kernel
theorem dX5_readFlightLine_46 : decode cX5_readFlightLine 46 = .ok (.iconst 1, 1) := by decide +kernel
theorem dX5_readFlightLine_47 : decode cX5_readFlightLine 47 = .ok (.isub, 1) := by decide +kernel
theorem dX5_readFlightLine_48 : decode cX5_readFlightLine 48 = .ok (.invokevirtual 77, 3) := by decide +kernel
theorem dX5_readFlightLine_51 : decode cX5_readFlightLine 51 = .ok (.iastore, 1) := by decide +kernel
theorem dX5_readFlightLine_52 : decode cX5_readFlightLine 52 = .ok (.aload_n 0, 1) := by decide +kernel
theorem dX5_readFlightLine_53 : decode cX5_readFlightLine 53 = .ok (.getfield 19, 3) := by decide +kernel
theorem dX5_readFlightLine_56 : decode cX5_readFlightLine 56 = .ok (.getfield 114, 3) := by decide +kernel
theorem dX5_readFlightLine_59 : decode cX5_readFlightLine 59 = .ok (.aload_n 0, 1) := by decide +kernel
theorem dX5_readFlightLine_60 : decode cX5_readFlightLine 60 = .ok (.getfield 19, 3) := by decide +kernel
theorem dX5_readFlightLine_63 : decode cX5_readFlightLine 63 = .ok (.getfield 107, 3) := by decide +kernel
theorem dX5_readFlightLine_66 : decode cX5_readFlightLine 66 = .ok (.aload_n 0, 1) := by decide +kernel
theorem dX5_readFlightLine_67 : decode cX5_readFlightLine 67 = .ok (.ldc 117, 2) := by decide +kernel
theorem dX5_readFlightLine_69 : decode cX5_readFlightLine 69 = .ok (.iconst 0, 1) := by decide +kernel
theorem dX5_readFlightLine_70 : decode cX5_readFlightLine 70 = .ok (.iconst 3, 1) := by decide +kernel
theorem dX5_readFlightLine_71 : decode cX5_readFlightLine 71 = .ok (.invokevirtual 77, 3) := by decide +kernel
theorem dX5_readFlightLine_74 : decode cX5_readFlightLine 74 = .ok (.iastore, 1) := by decide +kernel
theorem dX5_readFlightLine_75 : decode cX5_readFlightLine 75 = .ok (.aload_n 0, 1) := by decide +kernel
theorem dX5_readFlightLine_76 : decode cX5_readFlightLine 76 = .ok (.getfield 19, 3) := by decide +kernel
theorem dX5_readFlightLine_79 : decode cX5_readFlightLine 79 = .ok (.getfield 119, 3) := by decide +kernel
theorem dX5_readFlightLine_82 : decode cX5_readFlightLine 82 = .ok (.aload_n 0, 1) := by decide +kernel
theorem dX5_readFlightLine_83 : decode cX5_readFlightLine 83 = .ok (.getfield 19, 3) := by decide +kernel
theorem dX5_readFlightLine_86 : decode cX5_readFlightLine 86 = .ok (.getfield 107, 3) := by decide +kernel
theorem dX5_readFlightLine_89 : decode cX5_readFlightLine 89 = .ok (.aload_n 0, 1) := by decide +kernel
theorem dX5_readFlightLine_90 : decode cX5_readFlightLine 90 = .ok (.ldc 122, 2) := by decide +kernel
theorem dX5_readFlightLine_92 : decode cX5_readFlightLine 92 = .ok (.iconst 1, 1) := by decide +kernel
theorem dX5_readFlightLine_93 : decode cX5_readFlightLine 93 = .ok (.bipush 20, 2) := by decide +kernel
theorem dX5_readFlightLine_95 : decode cX5_readFlightLine 95 = .ok (.invokevirtual 77, 3) := by decide +kernel
theorem dX5_readFlightLine_98 : decode cX5_readFlightLine 98 = .ok (.iastore, 1) := by decide +kernel
theorem dX5_readFlightLine_99 : decode cX5_readFlightLine 99 = .ok (.aload_n 0, 1) := by decide +kernel
theorem dX5_readFlightLine_100 : decode cX5_readFlightLine 100 = .ok (.getfield 19, 3) := by decide +kernel
theorem dX5_readFlightLine_103 : decode cX5_readFlightLine 103 = .ok (.dup, 1) := by decide +kernel
theorem dX5_readFlightLine_104 : decode cX5_readFlightLine 104 = .ok (.getfield 107, 3) := by decide +kernel
theorem dX5_readFlightLine_107 : decode cX5_readFlightLine 107 = .ok (.iconst 1, 1) := by decide +kernel
theorem dX5_readFlightLine_108 : decode cX5_readFlightLine 108 = .ok (.iadd, 1) := by decide +kernel
theorem dX5_readFlightLine_109 : decode cX5_readFlightLine 109 = .ok (.putfield 107, 3) := by decide +kernel
theorem dX5_readFlightLine_112 : decode cX5_readFlightLine 112 = .ok (.return_, 1) := by decide +kernel
theorem dX5_readHeadLine_0 : decode cX5_readHeadLine 0 = .ok (.aload_n 0, 1) := by decide +kernel
theorem dX5_readHeadLine_1 : decode cX5_readHeadLine 1 = .ok (.ldc 85, 2) := by decide +kernel
theorem dX5_readHeadLine_3 : decode cX5_readHeadLine 3 = .ok (.invokevirtual 54, 3) := by decide +kernel
theorem dX5_readHeadLine_6 : decode cX5_readHeadLine 6 = .ok (.ifCond .ne 9, 3) := by decide +kernel
theorem dX5_readHeadLine_9 : decode cX5_readHeadLine 9 = .ok (.aload_n 0, 1) := by decide +kernel
theorem dX5_readHeadLine_10 : decode cX5_readHeadLine 10 = .ok (.iconst 1, 1) := by decide +kernel
theorem dX5_readHeadLine_11 : decode cX5_readHeadLine 11 = .ok (.invokevirtual 81, 3) := by decide +kernel
theorem dX5_readHeadLine_14 : decode cX5_readHeadLine 14 = .ok (.return_, 1) := by decide +kernel
theorem dX5_readHeadLine_15 : decode cX5_readHeadLine 15 = .ok (.aload_n 0, 1) := by decide +kernel
theorem dX5_readHeadLine_16 : decode cX5_readHeadLine 16 = .ok (.invokevirtual 34, 3) := by decide +kernel
theorem dX5_readHeadLine_19 : decode cX5_readHeadLine 19 = .ok (.aload_n 0, 1) := by decide +kernel
theorem dX5_readHeadLine_20 : decode cX5_readHeadLine 20 = .ok (.getfield 19, 3) := by decide +kernel
theorem dX5_readHeadLine_23 : decode cX5_readHeadLine 23 = .ok (.aload_n 0, 1) := by decide +kernel
theorem dX5_readHeadLine_24 : decode cX5_readHeadLine 24 = .ok (.ldc 87, 2) := by decide +kernel
theorem dX5_readHeadLine_26 : decode cX5_readHeadLine 26 = .ok (.iconst 1, 1) := by decide +kernel
theorem dX5_readHeadLine_27 : decode cX5_readHeadLine 27 = .ok (.iconst 5, 1) := by decide +kernel
theorem dX5_readHeadLine_28 : decode cX5_readHeadLine 28 = .ok (.invokevirtual 77, 3) := by decide +kernel
theorem dX5_readHeadLine_31 : decode cX5_readHeadLine 31 = .ok (.putfield 89, 3) := by decide +kernel
theorem dX5_readHeadLine_34 : decode cX5_readHeadLine 34 = .ok (.aload_n 0, 1) := by decide +kernel
theorem dX5_readHeadLine_35 : decode cX5_readHeadLine 35 = .ok (.getfield 19, 3) := by decide +kernel
theorem dX5_readHeadLine_38 : decode cX5_readHeadLine 38 = .ok (.aload_n 0, 1) := by decide +kernel
theorem dX5_readHeadLine_39 : decode cX5_readHeadLine 39 = .ok (.ldc 91, 2) := by decide +kernel
theorem dX5_readHeadLine_41 : decode cX5_readHeadLine 41 = .ok (.iconst 1, 1) := by decide +kernel
theorem dX5_readHeadLine_42 : decode cX5_readHeadLine 42 = .ok (.iconst 4, 1) := by decide +kernel
theorem dX5_readHeadLine_43 : decode cX5_readHeadLine 43 = .ok (.invokevirtual 77, 3) := by decide +kernel
theorem dX5_readHeadLine_46 : decode cX5_readHeadLine 46 = .ok (.putfield 93, 3) := by decide +kernel
theorem dX5_readHeadLine_49 : decode cX5_readHeadLine 49 = .ok (.aload_n 0, 1) := by decide +kernel
theorem dX5_readHeadLine_50 : decode cX5_readHeadLine 50 = .ok (.getfield 19, 3) := by decide +kernel
theorem dX5_readHeadLine_53 : decode cX5_readHeadLine 53 = .ok (.aload_n 0, 1) := by decide +kernel
theorem dX5_readHeadLine_54 : decode cX5_readHeadLine 54 = .ok (.ldc 95, 2) := by decide +kernel
theorem dX5_readHeadLine_56 : decode cX5_readHeadLine 56 = .ok (.iconst 0, 1) := by decide +kernel
theorem dX5_readHeadLine_57 : decode cX5_readHeadLine 57 = .ok (.iconst 3, 1) := by decide +kernel
theorem dX5_readHeadLine_58 : decode cX5_readHeadLine 58 = .ok (.invokevirtual 77, 3) := by decide +kernel
theorem dX5_readHeadLine_61 : decode cX5_readHeadLine 61 = .ok (.putfield 97, 3) := by decide +kernel
theorem dX5_readHeadLine_64 : decode cX5_readHeadLine 64 = .ok (.aload_n 0, 1) := by decide +kernel
theorem dX5_readHeadLine_65 : decode cX5_readHeadLine 65 = .ok (.getfield 19, 3) := by decide +kernel
theorem dX5_readHeadLine_68 : decode cX5_readHeadLine 68 = .ok (.aload_n 0, 1) := by decide +kernel
theorem dX5_readHeadLine_69 : decode cX5_readHeadLine 69 = .ok (.ldc 99, 2) := by decide +kernel
theorem dX5_readHeadLine_71 : decode cX5_readHeadLine 71 = .ok (.iconst 0, 1) := by decide +kernel
theorem dX5_readHeadLine_72 : decode cX5_readHeadLine 72 = .ok (.bipush 8, 2) := by decide +kernel
theorem dX5_readHeadLine_74 : decode cX5_readHeadLine 74 = .ok (.invokevirtual 77, 3) := by decide +kernel
theorem dX5_readHeadLine_77 : decode cX5_readHeadLine 77 = .ok (.putfield 101, 3) := by decide +kernel
theorem dX5_readHeadLine_80 : decode cX5_readHeadLine 80 = .ok (.aload_n 0, 1) := by decide +kernel
theorem dX5_readHeadLine_81 : decode cX5_readHeadLine 81 = .ok (.getfield 19, 3) := by decide +kernel
theorem dX5_readHeadLine_84 : decode cX5_readHeadLine 84 = .ok (.aload_n 0, 1) := by decide +kernel
theorem dX5_readHeadLine_85 : decode cX5_readHeadLine 85 = .ok (.ldc 103, 2) := by decide +kernel
theorem dX5_readHeadLine_87 : decode cX5_readHeadLine 87 = .ok (.iconst 0, 1) := by decide +kernel
theorem dX5_readHeadLine_88 : decode cX5_readHeadLine 88 = .ok (.bipush 10, 2) := by decide +kernel
theorem dX5_readHeadLine_90 : decode cX5_readHeadLine 90 = .ok (.invokevirtual 77, 3) := by decide +kernel
theorem dX5_readHeadLine_93 : decode cX5_readHeadLine 93 = .ok (.putfield 105, 3) := by decide +kernel
theorem dX5_readHeadLine_96 : decode cX5_readHeadLine 96 = .ok (.return_, 1) := by decide +kernel
theorem dX5_readLine_0 : decode cX5_readLine 0 = .ok (.aload_n 0, 1) := by decide +kernel
theorem dX5_readLine_1 : decode cX5_readLine 1 = .ok (.getfield 19, 3) := by decide +kernel
theorem dX5_readLine_4 : decode cX5_readLine 4 = .ok (.getfield 46, 3) := by decide +kernel
theorem dX5_readLine_7 : decode cX5_readLine 7 = .ok (.ifCond .ne 10, 3) := by decide +kernel
theorem dX5_readLine_10 : decode cX5_readLine 10 = .ok (.aload_n 0, 1) := by decide +kernel
theorem dX5_readLine_11 : decode cX5_readLine 11 = .ok (.invokevirtual 49, 3) := by decide +kernel
theorem dX5_readLine_14 : decode cX5_readLine 14 = .ok (.goto 86, 3) := by decide +kernel
theorem dX5_readLine_17 : decode cX5_readLine 17 = .ok (.aload_n 0, 1) := by decide +kernel
theorem dX5_readLine_18 : decode cX5_readLine 18 = .ok (.ldc 52, 2) := by decide +kernel
theorem dX5_readLine_20 : decode cX5_readLine 20 = .ok (.invokevirtual 54, 3) := by decide +kernel
theorem dX5_readLine_23 : decode cX5_readLine 23 = .ok (.ifCond .eq 10, 3) := by decide +kernel
theorem dX5_readLine_26 : decode cX5_readLine 26 = .ok (.aload_n 0, 1) := by decide +kernel
theorem dX5_readLine_27 : decode cX5_readLine 27 = .ok (.invokevirtual 58, 3) := by decide +kernel
theorem dX5_readLine_30 : decode cX5_readLine 30 = .ok (.goto 70, 3) := by decide +kernel
theorem dX5_readLine_33 : decode cX5_readLine 33 = .ok (.aload_n 0, 1) := by decide +kernel
theorem dX5_readLine_34 : decode cX5_readLine 34 = .ok (.ldc 61, 2) := by decide +kernel
theorem dX5_readLine_36 : decode cX5_readLine 36 = .ok (.invokevirtual 54, 3) := by decide +kernel
theorem dX5_readLine_39 : decode cX5_readLine 39 = .ok (.ifCond .eq 10, 3) := by decide +kernel
theorem dX5_readLine_42 : decode cX5_readLine 42 = .ok (.aload_n 0, 1) := by decide +kernel
theorem dX5_readLine_43 : decode cX5_readLine 43 = .ok (.invokevirtual 63, 3) := by decide +kernel
theorem dX5_readLine_46 : decode cX5_readLine 46 = .ok (.goto 54, 3) := by decide +kernel
theorem dX5_readLine_49 : decode cX5_readLine 49 = .ok (.aload_n 0, 1) := by decide +kernel
theorem dX5_readLine_50 : decode cX5_readLine 50 = .ok (.ldc 66, 2) := by decide +kernel
theorem dX5_readLine_52 : decode cX5_readLine 52 = .ok (.invokevirtual 54, 3) := by decide +kernel
theorem dX5_readLine_55 : decode cX5_readLine 55 = .ok (.ifCond .eq 40, 3) := by decide +kernel
theorem dX5_readLine_58 : decode cX5_readLine 58 = .ok (.aload_n 0, 1) := by decide +kernel
theorem dX5_readLine_59 : decode cX5_readLine 59 = .ok (.invokevirtual 34, 3) := by decide +kernel
theorem dX5_readLine_62 : decode cX5_readLine 62 = .ok (.aload_n 0, 1) := by decide +kernel
theorem dX5_readLine_63 : decode cX5_readLine 63 = .ok (.getfield 19, 3) := by decide +kernel
theorem dX5_readLine_66 : decode cX5_readLine 66 = .ok (.dup, 1) := by decide +kernel
theorem dX5_readLine_67 : decode cX5_readLine 67 = .ok (.getfield 68, 3) := by decide +kernel
theorem dX5_readLine_70 : decode cX5_readLine 70 = .ok (.iconst 1, 1) := by decide +kernel
theorem dX5_readLine_71 : decode cX5_readLine 71 = .ok (.aload_n 0, 1) := by decide +kernel
theorem dX5_readLine_72 : decode cX5_readLine 72 = .ok (.ldc 71, 2) := by decide +kernel
theorem dX5_readLine_74 : decode cX5_readLine 74 = .ok (.iconst 0, 1) := by decide +kernel
theorem dX5_readLine_75 : decode cX5_readLine 75 = .ok (.aload_n 0, 1) := by decide +kernel
theorem dX5_readLine_76 : decode cX5_readLine 76 = .ok (.getfield 19, 3) := by decide +kernel
theorem dX5_readLine_79 : decode cX5_readLine 79 = .ok (.invokevirtual 73, 3) := by decide +kernel
theorem dX5_readLine_82 : decode cX5_readLine 82 = .ok (.iconst 1, 1) := by decide +kernel
theorem dX5_readLine_83 : decode cX5_readLine 83 = .ok (.isub, 1) := by decide +kernel
theorem dX5_readLine_84 : decode cX5_readLine 84 = .ok (.invokevirtual 77, 3) := by decide +kernel
theorem dX5_readLine_87 : decode cX5_readLine 87 = .ok (.ishl, 1) := by decide +kernel
theorem dX5_readLine_88 : decode cX5_readLine 88 = .ok (.ior, 1) := by decide +kernel
theorem dX5_readLine_89 : decode cX5_readLine 89 = .ok (.putfield 68, 3) := by decide +kernel
theorem dX5_readLine_92 : decode cX5_readLine 92 = .ok (.goto 8, 3) := by decide +kernel
theorem dX5_readLine_95 : decode cX5_readLine 95 = .ok (.aload_n 0, 1) := by decide +kernel
theorem dX5_readLine_96 : decode cX5_readLine 96 = .ok (.iconst 1, 1) := by decide +kernel
theorem dX5_readLine_97 : decode cX5_readLine 97 = .ok (.invokevirtual 81, 3) := by decide +kernel
theorem dX5_readLine_100 : decode cX5_readLine 100 = .ok (.aload_n 0, 1) := by decide +kernel
theorem dX5_readLine_101 : decode cX5_readLine 101 = .ok (.getfield 37, 3) := by decide +kernel
theorem dX5_readLine_104 : decode cX5_readLine 104 = .ok (.iconst 3, 1) := by decide +kernel
theorem dX5_readLine_105 : decode cX5_readLine 105 = .ok (.if_icmp .eq 8, 3) := by decide +kernel
theorem dX5_readLine_108 : decode cX5_readLine 108 = .ok (.aload_n 0, 1) := by decide +kernel
theorem dX5_readLine_109 : decode cX5_readLine 109 = .ok (.iconst 1, 1) := by decide +kernel
theorem dX5_readLine_110 : decode cX5_readLine 110 = .ok (.invokevirtual 81, 3) := by decide +kernel
theorem dX5_readLine_113 : decode cX5_readLine 113 = .ok (.aload_n 0, 1) := by decide +kernel
theorem dX5_readLine_114 : decode cX5_readLine 114 = .ok (.getfield 28, 3) := by decide +kernel
theorem dX5_readLine_117 : decode cX5_readLine 117 = .ok (.ifCond .ne 20, 3) := by decide +kernel
theorem dX5_readLine_120 : decode cX5_readLine 120 = .ok (.aload_n 0, 1) := by decide +kernel
theorem dX5_readLine_121 : decode cX5_readLine 121 = .ok (.getfield 19, 3) := by decide +kernel
theorem dX5_readLine_124 : decode cX5_readLine 124 = .ok (.dup, 1) := by decide +kernel
theorem dX5_readLine_125 : decode cX5_readLine 125 = .ok (.getfield 46, 3) := by decide +kernel
theorem dX5_readLine_128 : decode cX5_readLine 128 = .ok (.iconst 1, 1) := by decide +kernel
theorem dX5_readLine_129 : decode cX5_readLine 129 = .ok (.iadd, 1) := by decide +kernel
theorem dX5_readLine_130 : decode cX5_readLine 130 = .ok (.putfield 46, 3) := by decide +kernel
theorem dX5_readLine_133 : decode cX5_readLine 133 = .ok (.aload_n 0, 1) := by decide +kernel
theorem dX5_readLine_134 : decode cX5_readLine 134 = .ok (.invokevirtual 34, 3) := by decide +kernel
theorem dX5_readLine_137 : decode cX5_readLine 137 = .ok (.return_, 1) := by decide +kernel
theorem dX5_readMemberLine_0 : decode cX5_readMemberLine 0 = .ok (.aload_n 0, 1) := by decide +kernel
theorem dX5_readMemberLine_1 : decode cX5_readMemberLine 1 = .ok (.getfield 19, 3) := by decide +kernel
theorem dX5_readMemberLine_4 : decode cX5_readMemberLine 4 = .ok (.getfield 124, 3) := by decide +kernel
theorem dX5_readMemberLine_7 : decode cX5_readMemberLine 7 = .ok (.bipush 6, 2) := by decide +kernel
theorem dX5_readMemberLine_9 : decode cX5_readMemberLine 9 = .ok (.if_icmp .lt 9, 3) := by decide +kernel
theorem dX5_readMemberLine_12 : decode cX5_readMemberLine 12 = .ok (.aload_n 0, 1) := by decide +kernel
theorem dX5_readMemberLine_13 : decode cX5_readMemberLine 13 = .ok (.iconst 3, 1) := by decide +kernel
theorem dX5_readMemberLine_14 : decode cX5_readMemberLine 14 = .ok (.invokevirtual 81, 3) := by decide +kernel
theorem dX5_readMemberLine_17 : decode cX5_readMemberLine 17 = .ok (.return_, 1) := by decide +kernel
theorem dX5_readMemberLine_18 : decode cX5_readMemberLine 18 = .ok (.aload_n 0, 1) := by decide +kernel
theorem dX5_readMemberLine_19 : decode cX5_readMemberLine 19 = .ok (.invokevirtual 34, 3) := by decide +kernel
theorem dX5_readMemberLine_22 : decode cX5_readMemberLine 22 = .ok (.aload_n 0, 1) := by decide +kernel
theorem dX5_readMemberLine_23 : decode cX5_readMemberLine 23 = .ok (.getfield 19, 3) := by decide +kernel
theorem dX5_readMemberLine_26 : decode cX5_readMemberLine 26 = .ok (.getfield 127, 3) := by decide +kernel
theorem dX5_readMemberLine_29 : decode cX5_readMemberLine 29 = .ok (.aload_n 0, 1) := by decide +kernel
theorem dX5_readMemberLine_30 : decode cX5_readMemberLine 30 = .ok (.getfield 19, 3) := by decide +kernel
theorem dX5_readMemberLine_33 : decode cX5_readMemberLine 33 = .ok (.getfield 124, 3) := by decide +kernel
theorem dX5_readMemberLine_36 : decode cX5_readMemberLine 36 = .ok (.aload_n 0, 1) := by decide +kernel
theorem dX5_readMemberLine_37 : decode cX5_readMemberLine 37 = .ok (.ldc 71, 2) := by decide +kernel
theorem dX5_readMemberLine_39 : decode cX5_readMemberLine 39 = .ok (.iconst 0, 1) := by decide +kernel
theorem dX5_readMemberLine_40 : decode cX5_readMemberLine 40 = .ok (.aload_n 0, 1) := by decide +kernel
theorem dX5_readMemberLine_41 : decode cX5_readMemberLine 41 = .ok (.getfield 19, 3) := by decide +kernel
theorem dX5_readMemberLine_44 : decode cX5_readMemberLine 44 = .ok (.invokevirtual 73, 3) := by decide +kernel
theorem dX5_readMemberLine_47 : decode cX5_readMemberLine 47 = .ok (.iconst 1, 1) := by decide +kernel
theorem dX5_readMemberLine_48 : decode cX5_readMemberLine 48 = .ok (.isub, 1) := by decide +kernel
theorem dX5_readMemberLine_49 : decode cX5_readMemberLine 49 = .ok (.invokevirtual 77, 3) := by decide +kernel
theorem dX5_readMemberLine_52 : decode cX5_readMemberLine 52 = .ok (.iastore, 1) := by decide +kernel
theorem dX5_readMemberLine_53 : decode cX5_readMemberLine 53 = .ok (.aload_n 0, 1) := by decide +kernel
theorem dX5_readMemberLine_54 : decode cX5_readMemberLine 54 = .ok (.getfield 19, 3) := by decide +kernel
theorem dX5_readMemberLine_57 : decode cX5_readMemberLine 57 = .ok (.getfield 130, 3) := by decide +kernel
theorem dX5_readMemberLine_60 : decode cX5_readMemberLine 60 = .ok (.aload_n 0, 1) := by decide +kernel
theorem dX5_readMemberLine_61 : decode cX5_readMemberLine 61 = .ok (.getfield 19, 3) := by decide +kernel
theorem dX5_readMemberLine_64 : decode cX5_readMemberLine 64 = .ok (.getfield 124, 3) := by decide +kernel
theorem dX5_readMemberLine_67 : decode cX5_readMemberLine 67 = .ok (.aload_n 0, 1) := by decide +kernel
theorem dX5_readMemberLine_68 : decode cX5_readMemberLine 68 = .ok (.ldc 133, 2) := by decide +kernel
theorem dX5_readMemberLine_70 : decode cX5_readMemberLine 70 = .ok (.iconst 0, 1) := by decide +kernel
theorem dX5_readMemberLine_71 : decode cX5_readMemberLine 71 = .ok (.bipush 99, 2) := by decide +kernel
theorem dX5_readMemberLine_73 : decode cX5_readMemberLine 73 = .ok (.invokevirtual 77, 3) := by decide +kernel
theorem dX5_readMemberLine_76 : decode cX5_readMemberLine 76 = .ok (.iastore, 1) := by decide +kernel
theorem dX5_readMemberLine_77 : decode cX5_readMemberLine 77 = .ok (.aload_n 0, 1) := by decide +kernel
theorem dX5_readMemberLine_78 : decode cX5_readMemberLine 78 = .ok (.getfield 19, 3) := by decide +kernel
theorem dX5_readMemberLine_81 : decode cX5_readMemberLine 81 = .ok (.getfield 134, 3) := by decide +kernel
theorem dX5_readMemberLine_84 : decode cX5_readMemberLine 84 = .ok (.aload_n 0, 1) := by decide +kernel
theorem dX5_readMemberLine_85 : decode cX5_readMemberLine 85 = .ok (.getfield 19, 3) := by decide +kernel
theorem dX5_readMemberLine_88 : decode cX5_readMemberLine 88 = .ok (.getfield 124, 3) := by decide +kernel
theorem dX5_readMemberLine_91 : decode cX5_readMemberLine 91 = .ok (.aload_n 0, 1) := by decide +kernel
theorem dX5_readMemberLine_92 : decode cX5_readMemberLine 92 = .ok (.ldc 137, 2) := by decide +kernel
theorem dX5_readMemberLine_94 : decode cX5_readMemberLine 94 = .ok (.iconst 0, 1) := by decide +kernel
theorem dX5_readMemberLine_95 : decode cX5_readMemberLine 95 = .ok (.bipush 99, 2) := by decide +kernel
theorem dX5_readMemberLine_97 : decode cX5_readMemberLine 97 = .ok (.invokevirtual 77, 3) := by decide +kernel
theorem dX5_readMemberLine_100 : decode cX5_readMemberLine 100 = .ok (.iastore, 1) := by decide +kernel
theorem dX5_readMemberLine_101 : decode cX5_readMemberLine 101 = .ok (.aload_n 0, 1) := by decide +kernel
theorem dX5_readMemberLine_102 : decode cX5_readMemberLine 102 = .ok (.getfield 19, 3) := by decide +kernel
theorem dX5_readMemberLine_105 : decode cX5_readMemberLine 105 = .ok (.dup, 1) := by decide +kernel
theorem dX5_readMemberLine_106 : decode cX5_readMemberLine 106 = .ok (.getfield 124, 3) := by decide +kernel
theorem dX5_readMemberLine_109 : decode cX5_readMemberLine 109 = .ok (.iconst 1, 1) := by decide +kernel
theorem dX5_readMemberLine_110 : decode cX5_readMemberLine 110 = .ok (.iadd, 1) := by decide +kernel
theorem dX5_readMemberLine_111 : decode cX5_readMemberLine 111 = .ok (.putfield 124, 3) := by decide +kernel
theorem dX5_readMemberLine_114 : decode cX5_readMemberLine 114 = .ok (.return_, 1) := by decide +kernel
theorem dX5_readTape_0 : decode cX5_readTape 0 = .ok (.aload_n 0, 1) := by decide +kernel
theorem dX5_readTape_1 : decode cX5_readTape 1 = .ok (.getfield 19, 3) := by decide +kernel
theorem dX5_readTape_4 : decode cX5_readTape 4 = .ok (.invokevirtual 23, 3) := by decide +kernel
theorem dX5_readTape_7 : decode cX5_readTape 7 = .ok (.aload_n 0, 1) := by decide +kernel
theorem dX5_readTape_8 : decode cX5_readTape 8 = .ok (.iconst 0, 1) := by decide +kernel
theorem dX5_readTape_9 : decode cX5_readTape 9 = .ok (.putfield 28, 3) := by decide +kernel
theorem dX5_readTape_12 : decode cX5_readTape 12 = .ok (.aload_n 0, 1) := by decide +kernel
theorem dX5_readTape_13 : decode cX5_readTape 13 = .ok (.iconst (-1), 1) := by decide +kernel
theorem dX5_readTape_14 : decode cX5_readTape 14 = .ok (.putfield 9, 3) := by decide +kernel
theorem dX5_readTape_17 : decode cX5_readTape 17 = .ok (.aload_n 0, 1) := by decide +kernel
theorem dX5_readTape_18 : decode cX5_readTape 18 = .ok (.iconst 0, 1) := by decide +kernel
theorem dX5_readTape_19 : decode cX5_readTape 19 = .ok (.putfield 31, 3) := by decide +kernel
theorem dX5_readTape_22 : decode cX5_readTape 22 = .ok (.aload_n 0, 1) := by decide +kernel
theorem dX5_readTape_23 : decode cX5_readTape 23 = .ok (.invokevirtual 34, 3) := by decide +kernel
theorem dX5_readTape_26 : decode cX5_readTape 26 = .ok (.iconst 0, 1) := by decide +kernel
theorem dX5_readTape_27 : decode cX5_readTape 27 = .ok (.istore_n 1, 1) := by decide +kernel
theorem dX5_readTape_28 : decode cX5_readTape 28 = .ok (.iload_n 1, 1) := by decide +kernel
theorem dX5_readTape_29 : decode cX5_readTape 29 = .ok (.sipush 800, 3) := by decide +kernel
theorem dX5_readTape_32 : decode cX5_readTape 32 = .ok (.if_icmp .ge 27, 3) := by decide +kernel
theorem dX5_readTape_35 : decode cX5_readTape 35 = .ok (.aload_n 0, 1) := by decide +kernel
theorem dX5_readTape_36 : decode cX5_readTape 36 = .ok (.getfield 37, 3) := by decide +kernel
theorem dX5_readTape_39 : decode cX5_readTape 39 = .ok (.ifCond .eq 20, 3) := by decide +kernel
theorem dX5_readTape_42 : decode cX5_readTape 42 = .ok (.aload_n 0, 1) := by decide +kernel
theorem dX5_readTape_43 : decode cX5_readTape 43 = .ok (.getfield 28, 3) := by decide +kernel
theorem dX5_readTape_46 : decode cX5_readTape 46 = .ok (.ifCond .ne 13, 3) := by decide +kernel
theorem dX5_readTape_49 : decode cX5_readTape 49 = .ok (.aload_n 0, 1) := by decide +kernel
theorem dX5_readTape_50 : decode cX5_readTape 50 = .ok (.invokevirtual 40, 3) := by decide +kernel
theorem dX5_readTape_53 : decode cX5_readTape 53 = .ok (.iinc 1 1, 3) := by decide +kernel
theorem dX5_readTape_56 : decode cX5_readTape 56 = .ok (.goto (-28), 3) := by decide +kernel
theorem dX5_readTape_59 : decode cX5_readTape 59 = .ok (.aload_n 0, 1) := by decide +kernel
theorem dX5_readTape_60 : decode cX5_readTape 60 = .ok (.getfield 19, 3) := by decide +kernel
theorem dX5_readTape_63 : decode cX5_readTape 63 = .ok (.invokevirtual 43, 3) := by decide +kernel
theorem dX5_readTape_66 : decode cX5_readTape 66 = .ok (.aload_n 0, 1) := by decide +kernel
theorem dX5_readTape_67 : decode cX5_readTape 67 = .ok (.getfield 28, 3) := by decide +kernel
theorem dX5_readTape_70 : decode cX5_readTape 70 = .ok (.ifCond .ne 7, 3) := by decide +kernel
theorem dX5_readTape_73 : decode cX5_readTape 73 = .ok (.iconst 1, 1) := by decide +kernel
theorem dX5_readTape_74 : decode cX5_readTape 74 = .ok (.goto 4, 3) := by decide +kernel
theorem dX5_readTape_77 : decode cX5_readTape 77 = .ok (.iconst 0, 1) := by decide +kernel
theorem dX5_readTape_78 : decode cX5_readTape 78 = .ok (.ireturn, 1) := by decide +kernel
theorem dX5_refuse_0 : decode cX5_refuse 0 = .ok (.aload_n 0, 1) := by decide +kernel
theorem dX5_refuse_1 : decode cX5_refuse 1 = .ok (.getfield 28, 3) := by decide +kernel
theorem dX5_refuse_4 : decode cX5_refuse 4 = .ok (.ifCond .ne 16, 3) := by decide +kernel
theorem dX5_refuse_7 : decode cX5_refuse 7 = .ok (.aload_n 0, 1) := by decide +kernel
theorem dX5_refuse_8 : decode cX5_refuse 8 = .ok (.iload_n 1, 1) := by decide +kernel
theorem dX5_refuse_9 : decode cX5_refuse 9 = .ok (.putfield 28, 3) := by decide +kernel
theorem dX5_refuse_12 : decode cX5_refuse 12 = .ok (.aload_n 0, 1) := by decide +kernel
theorem dX5_refuse_13 : decode cX5_refuse 13 = .ok (.aload_n 0, 1) := by decide +kernel
theorem dX5_refuse_14 : decode cX5_refuse 14 = .ok (.getfield 141, 3) := by decide +kernel
theorem dX5_refuse_17 : decode cX5_refuse 17 = .ok (.putfield 9, 3) := by decide +kernel
theorem dX5_refuse_20 : decode cX5_refuse 20 = .ok (.return_, 1) := by decide +kernel
theorem wd306 : Cond.fieldLink "java/lang/String" 38 "java/lang/String" "COMPACT_STRINGS" "Z" ∈ gW := gm (tm_2 184 (by decide +kernel)) rfl
theorem wd307 : Cond.fieldLink "java/lang/String" 15 "java/lang/String" "coder" "B" ∈ gW := gm (tm_9 170 (by decide +kernel)) rfl
theorem wd308 : Cond.fieldLink "java/lang/String" 9 "java/lang/String" "value" "[B" ∈ gW := gm (tm_9 169 (by decide +kernel)) rfl
theorem wd309 : Cond.instanceMethod yJ0_coder_7d493 ∈ gW := gm (tm_2 181 (by decide +kernel)) rfl
theorem wd310 : Cond.selects "java/lang/String" yJ0_coder_7d493 yJ0_coder_7d493 ∈ gW := gm (tm_2 182 (by decide +kernel)) rfl
theorem wd311 : Cond.initialized "java/lang/String" ∈ gW := gm (tm_1 12 (by decide +kernel)) rfl
theorem wd312 : Cond.code yJ0_coder_7d493 cJ0_coder_7d493 1 (some .byte) ∈ gW := gm (tm_2 183 (by decide +kernel)) rfl
theorem wd313 : Cond.methodLink "java/lang/String" 335 yJ0_coder_7d493 ∈ gW := gm (tm_2 180 (by decide +kernel)) rfl
theorem wd314 : Cond.fieldLink "java/lang/String" 1053 "jdk/internal/util/Preconditions" "SIOOBE_FORMATTER" "Ljava/util/function/BiFunction;" ∈ gW := gm (tm_2 200 (by decide +kernel)) rfl
theorem wd315 : Cond.static yJ3_checkIndex_8e157 ∈ gW := gm (tm_2 203 (by decide +kernel)) rfl
theorem wd316 : Cond.initialized "jdk/internal/util/Preconditions" ∈ gW := gm (tm_1 14 (by decide +kernel)) rfl
theorem wd317 : Cond.code yJ3_checkIndex_8e157 cJ3_checkIndex_8e157 3 (some .int) ∈ gW := gm (tm_2 204 (by decide +kernel)) rfl
theorem wd318 : Cond.methodLink "java/lang/String" 1059 yJ3_checkIndex_8e157 ∈ gW := gm (tm_2 202 (by decide +kernel)) rfl
theorem wd319 : Cond.static yJ0_checkIndex_df160 ∈ gW := gm (tm_2 198 (by decide +kernel)) rfl
theorem wd320 : Cond.code yJ0_checkIndex_df160 cJ0_checkIndex_df160 2 none ∈ gW := gm (tm_2 199 (by decide +kernel)) rfl
theorem wd321 : Cond.methodLink "java/lang/StringLatin1" 9 yJ0_checkIndex_df160 ∈ gW := gm (tm_2 197 (by decide +kernel)) rfl
theorem wd322 : Cond.instanceMethod yJ0_isLatin1_aae02 ∈ gW := gm (tm_2 191 (by decide +kernel)) rfl
theorem wd323 : Cond.selects "java/lang/String" yJ0_isLatin1_aae02 yJ0_isLatin1_aae02 ∈ gW := gm (tm_2 192 (by decide +kernel)) rfl
theorem wd324 : Cond.code yJ0_isLatin1_aae02 cJ0_isLatin1_aae02 1 (some .boolean) ∈ gW := gm (tm_2 193 (by decide +kernel)) rfl
theorem wd325 : Cond.methodLink "java/lang/String" 492 yJ0_isLatin1_aae02 ∈ gW := gm (tm_2 190 (by decide +kernel)) rfl
theorem wd326 : Cond.static yJ1_charAt_3b067 ∈ gW := gm (tm_2 195 (by decide +kernel)) rfl
theorem wd327 : Cond.initialized "java/lang/StringLatin1" ∈ gW := gm (tm_1 13 (by decide +kernel)) rfl
theorem wd328 : Cond.code yJ1_charAt_3b067 cJ1_charAt_3b067 2 (some .char) ∈ gW := gm (tm_2 196 (by decide +kernel)) rfl
theorem wd329 : Cond.methodLink "java/lang/String" 495 yJ1_charAt_3b067 ∈ gW := gm (tm_2 194 (by decide +kernel)) rfl
theorem wd330 : Cond.fieldLink RX5 28 "GooseShares$Reader" "trouble" "I" ∈ gW := gm (tm_1 180 (by decide +kernel)) rfl
theorem wd331 : Cond.fieldLink RX5 141 "GooseShares$Reader" "start" "I" ∈ gW := gm (tm_1 178 (by decide +kernel)) rfl
theorem wd332 : Cond.fieldLink RX5 9 "GooseShares$Reader" "where" "I" ∈ gW := gm (tm_1 182 (by decide +kernel)) rfl
theorem wd333 : Cond.instanceMethod yJ0_length_8abf5 ∈ gW := gm (tm_2 177 (by decide +kernel)) rfl
theorem wd334 : Cond.selects "java/lang/String" yJ0_length_8abf5 yJ0_length_8abf5 ∈ gW := gm (tm_2 178 (by decide +kernel)) rfl
theorem wd335 : Cond.code yJ0_length_8abf5 cJ0_length_8abf5 1 (some .int) ∈ gW := gm (tm_2 179 (by decide +kernel)) rfl
theorem wd336 : Cond.methodLink RX5 157 yJ0_length_8abf5 ∈ gW := gm (tm_2 176 (by decide +kernel)) rfl
theorem wd337 : Cond.fieldLink RX5 15 "GooseShares$Reader" "tape" "LGooseShares$Tape;" ∈ gW := gm (tm_1 174 (by decide +kernel)) rfl
theorem wd338 : Cond.fieldLink RX5 149 "GooseShares$Tape" "bytes" "[B" ∈ gW := gm (tm_1 35 (by decide +kernel)) rfl
theorem wd339 : Cond.instanceMethod yJ0_charAt_5068e ∈ gW := gm (tm_2 187 (by decide +kernel)) rfl
theorem wd340 : Cond.selects "java/lang/String" yJ0_charAt_5068e yJ0_charAt_5068e ∈ gW := gm (tm_2 188 (by decide +kernel)) rfl
theorem wd341 : Cond.code yJ0_charAt_5068e cJ0_charAt_5068e 2 (some .char) ∈ gW := gm (tm_2 189 (by decide +kernel)) rfl
theorem wd342 : Cond.methodLink RX5 161 yJ0_charAt_5068e ∈ gW := gm (tm_2 186 (by decide +kernel)) rfl
theorem wd343 : Cond.fieldLink RX5 37 "GooseShares$Reader" "kind" "I" ∈ gW := gm (tm_1 177 (by decide +kernel)) rfl
theorem wd344 : Cond.fieldLink RX5 31 "GooseShares$Reader" "stop" "I" ∈ gW := gm (tm_1 179 (by decide +kernel)) rfl
theorem wd345 : Cond.methodLink RX5 165 Lib.Math.min.name ∈ gW := gm (tm_2 237 (by decide +kernel)) rfl
theorem wd346 : Cond.static Lib.Math.min.name ∈ gW := gm (tm_2 238 (by decide +kernel)) rfl
theorem wd347 : Cond.code Lib.Math.min.name Lib.Math.min.code 2 (some .int) ∈ gW := gm (tm_2 239 (by decide +kernel)) rfl
theorem wd348 : Cond.fieldLink RX5 144 "GooseShares$Tape" "length" "I" ∈ gW := gm (tm_1 38 (by decide +kernel)) rfl
theorem wd349 : Cond.static yX5_kindOf ∈ gW := gm (tm_2 161 (by decide +kernel)) rfl
theorem wd350 : Cond.initialized RX5 ∈ gW := gm (tm_1 4 (by decide +kernel)) rfl
theorem wd351 : Cond.code yX5_kindOf cX5_kindOf 1 (some .int) ∈ gW := gm (tm_2 162 (by decide +kernel)) rfl
theorem wd352 : Cond.methodLink RX5 153 yX5_kindOf ∈ gW := gm (tm_2 160 (by decide +kernel)) rfl
theorem wd353 : Cond.instanceMethod yX5_isWord ∈ gW := gm (tm_2 173 (by decide +kernel)) rfl
theorem wd354 : Cond.selects RX5 yX5_isWord yX5_isWord ∈ gW := gm (tm_2 174 (by decide +kernel)) rfl
theorem wd355 : Cond.code yX5_isWord cX5_isWord 3 (some .boolean) ∈ gW := gm (tm_2 175 (by decide +kernel)) rfl
theorem wd356 : Cond.methodLink RX5 54 yX5_isWord ∈ gW := gm (tm_2 172 (by decide +kernel)) rfl
theorem wd357 : Cond.instanceMethod yX5_advance ∈ gW := gm (tm_2 157 (by decide +kernel)) rfl
theorem wd358 : Cond.selects RX5 yX5_advance yX5_advance ∈ gW := gm (tm_2 158 (by decide +kernel)) rfl
theorem wd359 : Cond.code yX5_advance cX5_advance 1 none ∈ gW := gm (tm_2 159 (by decide +kernel)) rfl
theorem wd360 : Cond.methodLink RX5 34 yX5_advance ∈ gW := gm (tm_2 156 (by decide +kernel)) rfl
theorem wd361 : Cond.instanceMethod yX5_numberRead ∈ gW := gm (tm_2 234 (by decide +kernel)) rfl
theorem wd362 : Cond.selects RX5 yX5_numberRead yX5_numberRead ∈ gW := gm (tm_2 235 (by decide +kernel)) rfl
theorem wd363 : Cond.code yX5_numberRead cX5_numberRead 3 (some .int) ∈ gW := gm (tm_2 236 (by decide +kernel)) rfl
theorem wd364 : Cond.methodLink RX5 138 yX5_numberRead ∈ gW := gm (tm_2 233 (by decide +kernel)) rfl
theorem wd365 : Cond.instanceMethod yX5_refuse ∈ gW := gm (tm_2 225 (by decide +kernel)) rfl
theorem wd366 : Cond.selects RX5 yX5_refuse yX5_refuse ∈ gW := gm (tm_2 226 (by decide +kernel)) rfl
theorem wd367 : Cond.code yX5_refuse cX5_refuse 2 none ∈ gW := gm (tm_2 227 (by decide +kernel)) rfl
theorem wd368 : Cond.methodLink RX5 81 yX5_refuse ∈ gW := gm (tm_2 224 (by decide +kernel)) rfl
theorem wd369 : Cond.fieldLink RX5 19 "GooseShares$Reader" "draft" "LGooseShares$Land;" ∈ gW := gm (tm_1 175 (by decide +kernel)) rfl
theorem wd370 : Cond.instanceMethod yX5_readField ∈ gW := gm (tm_2 230 (by decide +kernel)) rfl
theorem wd371 : Cond.selects RX5 yX5_readField yX5_readField ∈ gW := gm (tm_2 231 (by decide +kernel)) rfl
theorem wd372 : Cond.code yX5_readField cX5_readField 5 (some .int) ∈ gW := gm (tm_2 232 (by decide +kernel)) rfl
theorem wd373 : Cond.methodLink RX5 77 yX5_readField ∈ gW := gm (tm_2 229 (by decide +kernel)) rfl
theorem wd374 : Cond.fieldLink RX5 89 "GooseShares$Land" "wide" "I" ∈ gW := gm (tm_1 55 (by decide +kernel)) rfl
theorem wd375 : Cond.fieldLink RX5 93 "GooseShares$Land" "high" "I" ∈ gW := gm (tm_1 58 (by decide +kernel)) rfl
theorem wd376 : Cond.fieldLink RX5 97 "GooseShares$Land" "law" "I" ∈ gW := gm (tm_1 64 (by decide +kernel)) rfl
theorem wd377 : Cond.fieldLink RX5 101 "GooseShares$Land" "ear" "I" ∈ gW := gm (tm_1 68 (by decide +kernel)) rfl
theorem wd378 : Cond.fieldLink RX5 105 "GooseShares$Land" "odds" "I" ∈ gW := gm (tm_1 72 (by decide +kernel)) rfl
theorem wd379 : Cond.fieldLink RX5 107 "GooseShares$Land" "flights" "I" ∈ gW := gm (tm_1 77 (by decide +kernel)) rfl
theorem wd380 : Cond.fieldLink RX5 110 "GooseShares$Land" "starts" "[I" ∈ gW := gm (tm_1 97 (by decide +kernel)) rfl
theorem wd381 : Cond.methodLink RX5 73 yX3_cells ∈ gW := gm (tm_3 10 (by decide +kernel)) rfl
theorem wd382 : Cond.fieldLink RX5 114 "GooseShares$Land" "headings" "[I" ∈ gW := gm (tm_1 101 (by decide +kernel)) rfl
theorem wd383 : Cond.fieldLink RX5 119 "GooseShares$Land" "flocks" "[I" ∈ gW := gm (tm_1 104 (by decide +kernel)) rfl
theorem wd384 : Cond.fieldLink RX5 124 "GooseShares$Land" "members" "I" ∈ gW := gm (tm_1 83 (by decide +kernel)) rfl
theorem wd385 : Cond.fieldLink RX5 127 "GooseShares$Land" "houses" "[I" ∈ gW := gm (tm_1 109 (by decide +kernel)) rfl
theorem wd386 : Cond.fieldLink RX5 130 "GooseShares$Land" "wants" "[I" ∈ gW := gm (tm_1 113 (by decide +kernel)) rfl
theorem wd387 : Cond.fieldLink RX5 134 "GooseShares$Land" "pays" "[I" ∈ gW := gm (tm_1 118 (by decide +kernel)) rfl
theorem wd388 : Cond.fieldLink RX5 46 "GooseShares$Land" "lines" "I" ∈ gW := gm (tm_1 52 (by decide +kernel)) rfl
theorem wd389 : Cond.fieldLink RX5 68 "GooseShares$Land" "lit" "I" ∈ gW := gm (tm_1 89 (by decide +kernel)) rfl
theorem wd390 : Cond.instanceMethod yX5_readMemberLine ∈ gW := gm (tm_3 18 (by decide +kernel)) rfl
theorem wd391 : Cond.selects RX5 yX5_readMemberLine yX5_readMemberLine ∈ gW := gm (tm_3 19 (by decide +kernel)) rfl
theorem wd392 : Cond.code yX5_readMemberLine cX5_readMemberLine 1 none ∈ gW := gm (tm_3 20 (by decide +kernel)) rfl
theorem wd393 : Cond.methodLink RX5 63 yX5_readMemberLine ∈ gW := gm (tm_3 17 (by decide +kernel)) rfl
theorem wd394 : Cond.instanceMethod yX5_readFlightLine ∈ gW := gm (tm_3 6 (by decide +kernel)) rfl
theorem wd395 : Cond.selects RX5 yX5_readFlightLine yX5_readFlightLine ∈ gW := gm (tm_3 7 (by decide +kernel)) rfl
theorem wd396 : Cond.code yX5_readFlightLine cX5_readFlightLine 1 none ∈ gW := gm (tm_3 8 (by decide +kernel)) rfl
theorem wd397 : Cond.methodLink RX5 58 yX5_readFlightLine ∈ gW := gm (tm_3 5 (by decide +kernel)) rfl
theorem wd398 : Cond.instanceMethod yX5_readHeadLine ∈ gW := gm (tm_2 168 (by decide +kernel)) rfl
theorem wd399 : Cond.selects RX5 yX5_readHeadLine yX5_readHeadLine ∈ gW := gm (tm_2 169 (by decide +kernel)) rfl
theorem wd400 : Cond.code yX5_readHeadLine cX5_readHeadLine 1 none ∈ gW := gm (tm_2 170 (by decide +kernel)) rfl
theorem wd401 : Cond.methodLink RX5 49 yX5_readHeadLine ∈ gW := gm (tm_2 167 (by decide +kernel)) rfl
theorem wd402 : Cond.instanceMethod yX3_survey ∈ gW := gm (tm_3 25 (by decide +kernel)) rfl
theorem wd403 : Cond.selects RX3 yX3_survey yX3_survey ∈ gW := gm (tm_3 26 (by decide +kernel)) rfl
theorem wd404 : Cond.code yX3_survey cX3_survey 3 none ∈ gW := gm (tm_3 27 (by decide +kernel)) rfl
theorem wd405 : Cond.methodLink RX5 43 yX3_survey ∈ gW := gm (tm_3 24 (by decide +kernel)) rfl
theorem wd406 : Cond.instanceMethod yX5_readLine ∈ gW := gm (tm_2 164 (by decide +kernel)) rfl
theorem wd407 : Cond.selects RX5 yX5_readLine yX5_readLine ∈ gW := gm (tm_2 165 (by decide +kernel)) rfl
theorem wd408 : Cond.code yX5_readLine cX5_readLine 1 none ∈ gW := gm (tm_2 166 (by decide +kernel)) rfl
theorem wd409 : Cond.methodLink RX5 40 yX5_readLine ∈ gW := gm (tm_2 163 (by decide +kernel)) rfl
theorem wd410 : Cond.instanceMethod yX3_clear ∈ gW := gm (tm_2 153 (by decide +kernel)) rfl
theorem wd411 : Cond.selects RX3 yX3_clear yX3_clear ∈ gW := gm (tm_2 154 (by decide +kernel)) rfl
theorem wd412 : Cond.code yX3_clear cX3_clear 1 none ∈ gW := gm (tm_2 155 (by decide +kernel)) rfl
theorem wd413 : Cond.methodLink RX5 23 yX3_clear ∈ gW := gm (tm_2 152 (by decide +kernel)) rfl
theorem my_J0_coder_7d493 : gWV "java/lang/String" yJ0_coder_7d493 cJ0_coder_7d493 1 (some .byte) 0 := ⟨⟨wd309, wd310, wd311, wd312⟩, ⟨rfl, by decide +kernel, by decide +kernel, by decide +kernel⟩⟩
theorem my_J3_checkIndex_8e157 : gWS "jdk/internal/util/Preconditions" yJ3_checkIndex_8e157 cJ3_checkIndex_8e157 3 (some .int) 3 := ⟨⟨wd315, wd316, wd317⟩, ⟨rfl, by decide +kernel, by decide +kernel, by decide +kernel⟩⟩
theorem my_J0_checkIndex_df160 : gWS "java/lang/String" yJ0_checkIndex_df160 cJ0_checkIndex_df160 2 none 2 := ⟨⟨wd319, wd311, wd320⟩, ⟨rfl, by decide +kernel, by decide +kernel, by decide +kernel⟩⟩
theorem my_J0_isLatin1_aae02 : gWV "java/lang/String" yJ0_isLatin1_aae02 cJ0_isLatin1_aae02 1 (some .boolean) 0 := ⟨⟨wd322, wd323, wd311, wd324⟩, ⟨rfl, by decide +kernel, by decide +kernel, by decide +kernel⟩⟩
theorem my_J1_charAt_3b067 : gWS "java/lang/StringLatin1" yJ1_charAt_3b067 cJ1_charAt_3b067 2 (some .char) 2 := ⟨⟨wd326, wd327, wd328⟩, ⟨rfl, by decide +kernel, by decide +kernel, by decide +kernel⟩⟩
theorem my_J0_length_8abf5 : gWV "java/lang/String" yJ0_length_8abf5 cJ0_length_8abf5 1 (some .int) 0 := ⟨⟨wd333, wd334, wd311, wd335⟩, ⟨rfl, by decide +kernel, by decide +kernel, by decide +kernel⟩⟩
theorem my_J0_charAt_5068e : gWV "java/lang/String" yJ0_charAt_5068e cJ0_charAt_5068e 2 (some .char) 1 := ⟨⟨wd339, wd340, wd311, wd341⟩, ⟨rfl, by decide +kernel, by decide +kernel, by decide +kernel⟩⟩
theorem my_X5_kindOf : gWS RX5 yX5_kindOf cX5_kindOf 1 (some .int) 1 := ⟨⟨wd349, wd350, wd351⟩, ⟨rfl, by decide +kernel, by decide +kernel, by decide +kernel⟩⟩
theorem my_X5_isWord : gWV RX5 yX5_isWord cX5_isWord 3 (some .boolean) 1 := ⟨⟨wd353, wd354, wd350, wd355⟩, ⟨rfl, by decide +kernel, by decide +kernel, by decide +kernel⟩⟩
theorem my_X5_advance : gWV RX5 yX5_advance cX5_advance 1 none 0 := ⟨⟨wd357, wd358, wd350, wd359⟩, ⟨rfl, by decide +kernel, by decide +kernel, by decide +kernel⟩⟩
theorem my_X5_numberRead : gWV RX5 yX5_numberRead cX5_numberRead 3 (some .int) 0 := ⟨⟨wd361, wd362, wd350, wd363⟩, ⟨rfl, by decide +kernel, by decide +kernel, by decide +kernel⟩⟩
theorem my_X5_refuse : gWV RX5 yX5_refuse cX5_refuse 2 none 1 := ⟨⟨wd365, wd366, wd350, wd367⟩, ⟨rfl, by decide +kernel, by decide +kernel, by decide +kernel⟩⟩
theorem my_X5_readField : gWV RX5 yX5_readField cX5_readField 5 (some .int) 3 := ⟨⟨wd370, wd371, wd350, wd372⟩, ⟨rfl, by decide +kernel, by decide +kernel, by decide +kernel⟩⟩
theorem my_X5_readMemberLine : gWV RX5 yX5_readMemberLine cX5_readMemberLine 1 none 0 := ⟨⟨wd390, wd391, wd350, wd392⟩, ⟨rfl, by decide +kernel, by decide +kernel, by decide +kernel⟩⟩
theorem my_X5_readFlightLine : gWV RX5 yX5_readFlightLine cX5_readFlightLine 1 none 0 := ⟨⟨wd394, wd395, wd350, wd396⟩, ⟨rfl, by decide +kernel, by decide +kernel, by decide +kernel⟩⟩
theorem my_X5_readHeadLine : gWV RX5 yX5_readHeadLine cX5_readHeadLine 1 none 0 := ⟨⟨wd398, wd399, wd350, wd400⟩, ⟨rfl, by decide +kernel, by decide +kernel, by decide +kernel⟩⟩
theorem my_X3_survey : gWV RX3 yX3_survey cX3_survey 3 none 0 := ⟨⟨wd402, wd403, wd19, wd404⟩, ⟨rfl, by decide +kernel, by decide +kernel, by decide +kernel⟩⟩
theorem my_X5_readLine : gWV RX5 yX5_readLine cX5_readLine 1 none 0 := ⟨⟨wd406, wd407, wd350, wd408⟩, ⟨rfl, by decide +kernel, by decide +kernel, by decide +kernel⟩⟩
theorem my_X3_clear : gWV RX3 yX3_clear cX3_clear 1 none 0 := ⟨⟨wd410, wd411, wd19, wd412⟩, ⟨rfl, by decide +kernel, by decide +kernel, by decide +kernel⟩⟩
theorem tl_5 : (5 : Int32).toInt = 5 := by decide
theorem rl_5 : rg (5 : Int32) 5 5 := ⟨by rw [tl_5]; exact Int.le_refl _, by rw [tl_5]; exact Int.le_refl _⟩
theorem tl_6 : (6 : Int32).toInt = 6 := by decide
theorem rl_6 : rg (6 : Int32) 6 6 := ⟨by rw [tl_6]; exact Int.le_refl _, by rw [tl_6]; exact Int.le_refl _⟩
theorem tl_8 : (8 : Int32).toInt = 8 := by decide
theorem rl_8 : rg (8 : Int32) 8 8 := ⟨by rw [tl_8]; exact Int.le_refl _, by rw [tl_8]; exact Int.le_refl _⟩
theorem tl_32 : (32 : Int32).toInt = 32 := by decide
theorem rl_32 : rg (32 : Int32) 32 32 := ⟨by rw [tl_32]; exact Int.le_refl _, by rw [tl_32]; exact Int.le_refl _⟩
theorem tl_48 : (48 : Int32).toInt = 48 := by decide
theorem rl_48 : rg (48 : Int32) 48 48 := ⟨by rw [tl_48]; exact Int.le_refl _, by rw [tl_48]; exact Int.le_refl _⟩
theorem tl_57 : (57 : Int32).toInt = 57 := by decide
theorem rl_57 : rg (57 : Int32) 57 57 := ⟨by rw [tl_57]; exact Int.le_refl _, by rw [tl_57]; exact Int.le_refl _⟩
theorem tl_59 : (59 : Int32).toInt = 59 := by decide
theorem rl_59 : rg (59 : Int32) 59 59 := ⟨by rw [tl_59]; exact Int.le_refl _, by rw [tl_59]; exact Int.le_refl _⟩
theorem tl_97 : (97 : Int32).toInt = 97 := by decide
theorem rl_97 : rg (97 : Int32) 97 97 := ⟨by rw [tl_97]; exact Int.le_refl _, by rw [tl_97]; exact Int.le_refl _⟩
theorem tl_122 : (122 : Int32).toInt = 122 := by decide
theorem rl_122 : rg (122 : Int32) 122 122 := ⟨by rw [tl_122]; exact Int.le_refl _, by rw [tl_122]; exact Int.le_refl _⟩
theorem tl_255 : (255 : Int32).toInt = 255 := by decide
theorem rl_255 : rg (255 : Int32) 255 255 := ⟨by rw [tl_255]; exact Int.le_refl _, by rw [tl_255]; exact Int.le_refl _⟩
theorem tl_1000 : (1000 : Int32).toInt = 1000 := by decide
theorem rl_1000 : rg (1000 : Int32) 1000 1000 := ⟨by rw [tl_1000]; exact Int.le_refl _, by rw [tl_1000]; exact Int.le_refl _⟩
