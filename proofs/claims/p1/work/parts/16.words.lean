theorem dX10_begins_0 : decode cX10_begins 0 = .ok (.aload_n 0, 1) := by decide +kernel
theorem dX10_begins_1 : decode cX10_begins 1 = .ok (.iconst 0, 1) := by decide +kernel
theorem dX10_begins_2 : decode cX10_begins 2 = .ok (.putfield 144, 3) := by decide +kernel
theorem dX10_begins_5 : decode cX10_begins 5 = .ok (.aload_n 0, 1) := by decide +kernel
theorem dX10_begins_6 : decode cX10_begins 6 = .ok (.iconst (-1), 1) := by decide +kernel
theorem dX10_begins_7 : decode cX10_begins 7 = .ok (.putfield 147, 3) := by decide +kernel
theorem dX10_begins_10 : decode cX10_begins 10 = .ok (.aload_n 0, 1) := by decide +kernel
theorem dX10_begins_11 : decode cX10_begins 11 = .ok (.iconst 0, 1) := by decide +kernel
theorem dX10_begins_12 : decode cX10_begins 12 = .ok (.putfield 116, 3) := by decide +kernel
theorem dX10_begins_15 : decode cX10_begins 15 = .ok (.aload_n 0, 1) := by decide +kernel
theorem dX10_begins_16 : decode cX10_begins 16 = .ok (.invokevirtual 154, 3) := by decide +kernel
theorem dX10_begins_19 : decode cX10_begins 19 = .ok (.return_, 1) := by decide +kernel
theorem dX10_clears_0 : decode cX10_clears 0 = .ok (.aload_n 0, 1) := by decide +kernel
theorem dX10_clears_1 : decode cX10_clears 1 = .ok (.getfield 31, 3) := by decide +kernel
theorem dX10_clears_4 : decode cX10_clears 4 = .ok (.iconst 4, 1) := by decide +kernel
theorem dX10_clears_5 : decode cX10_clears 5 = .ok (.iconst 0, 1) := by decide +kernel
theorem dX10_clears_6 : decode cX10_clears 6 = .ok (.iastore, 1) := by decide +kernel
theorem dX10_clears_7 : decode cX10_clears 7 = .ok (.iconst 0, 1) := by decide +kernel
theorem dX10_clears_8 : decode cX10_clears 8 = .ok (.istore_n 1, 1) := by decide +kernel
theorem dX10_clears_9 : decode cX10_clears 9 = .ok (.iload_n 1, 1) := by decide +kernel
theorem dX10_clears_10 : decode cX10_clears 10 = .ok (.bipush 9, 2) := by decide +kernel
theorem dX10_clears_12 : decode cX10_clears 12 = .ok (.if_icmp .ge 15, 3) := by decide +kernel
theorem dX10_clears_15 : decode cX10_clears 15 = .ok (.aload_n 0, 1) := by decide +kernel
theorem dX10_clears_16 : decode cX10_clears 16 = .ok (.iload_n 1, 1) := by decide +kernel
theorem dX10_clears_17 : decode cX10_clears 17 = .ok (.iconst 0, 1) := by decide +kernel
theorem dX10_clears_18 : decode cX10_clears 18 = .ok (.invokevirtual 191, 3) := by decide +kernel
theorem dX10_clears_21 : decode cX10_clears 21 = .ok (.iinc 1 1, 3) := by decide +kernel
theorem dX10_clears_24 : decode cX10_clears 24 = .ok (.goto (-15), 3) := by decide +kernel
theorem dX10_clears_27 : decode cX10_clears 27 = .ok (.return_, 1) := by decide +kernel
theorem dX10_copyLand_0 : decode cX10_copyLand 0 = .ok (.aload_n 0, 1) := by decide +kernel
theorem dX10_copyLand_1 : decode cX10_copyLand 1 = .ok (.getfield 31, 3) := by decide +kernel
theorem dX10_copyLand_4 : decode cX10_copyLand 4 = .ok (.iconst 1, 1) := by decide +kernel
theorem dX10_copyLand_5 : decode cX10_copyLand 5 = .ok (.iload_n 1, 1) := by decide +kernel
theorem dX10_copyLand_6 : decode cX10_copyLand 6 = .ok (.iload_n 2, 1) := by decide +kernel
theorem dX10_copyLand_7 : decode cX10_copyLand 7 = .ok (.invokestatic 252, 3) := by decide +kernel
theorem dX10_copyLand_10 : decode cX10_copyLand 10 = .ok (.aload_n 0, 1) := by decide +kernel
theorem dX10_copyLand_11 : decode cX10_copyLand 11 = .ok (.getfield 34, 3) := by decide +kernel
theorem dX10_copyLand_14 : decode cX10_copyLand 14 = .ok (.bipush 9, 2) := by decide +kernel
theorem dX10_copyLand_16 : decode cX10_copyLand 16 = .ok (.iload_n 1, 1) := by decide +kernel
theorem dX10_copyLand_17 : decode cX10_copyLand 17 = .ok (.iload_n 2, 1) := by decide +kernel
theorem dX10_copyLand_18 : decode cX10_copyLand 18 = .ok (.invokestatic 252, 3) := by decide +kernel
theorem dX10_copyLand_21 : decode cX10_copyLand 21 = .ok (.aload_n 0, 1) := by decide +kernel
theorem dX10_copyLand_22 : decode cX10_copyLand 22 = .ok (.getfield 37, 3) := by decide +kernel
theorem dX10_copyLand_25 : decode cX10_copyLand 25 = .ok (.bipush 12, 2) := by decide +kernel
theorem dX10_copyLand_27 : decode cX10_copyLand 27 = .ok (.iload_n 1, 1) := by decide +kernel
theorem dX10_copyLand_28 : decode cX10_copyLand 28 = .ok (.iload_n 2, 1) := by decide +kernel
theorem dX10_copyLand_29 : decode cX10_copyLand 29 = .ok (.invokestatic 252, 3) := by decide +kernel
theorem dX10_copyLand_32 : decode cX10_copyLand 32 = .ok (.aload_n 0, 1) := by decide +kernel
theorem dX10_copyLand_33 : decode cX10_copyLand 33 = .ok (.getfield 40, 3) := by decide +kernel
theorem dX10_copyLand_36 : decode cX10_copyLand 36 = .ok (.bipush 18, 2) := by decide +kernel
theorem dX10_copyLand_38 : decode cX10_copyLand 38 = .ok (.iload_n 1, 1) := by decide +kernel
theorem dX10_copyLand_39 : decode cX10_copyLand 39 = .ok (.iload_n 2, 1) := by decide +kernel
theorem dX10_copyLand_40 : decode cX10_copyLand 40 = .ok (.invokestatic 252, 3) := by decide +kernel
theorem dX10_copyLand_43 : decode cX10_copyLand 43 = .ok (.aload_n 0, 1) := by decide +kernel
theorem dX10_copyLand_44 : decode cX10_copyLand 44 = .ok (.getfield 43, 3) := by decide +kernel
theorem dX10_copyLand_47 : decode cX10_copyLand 47 = .ok (.bipush 120, 2) := by decide +kernel
theorem dX10_copyLand_49 : decode cX10_copyLand 49 = .ok (.iload_n 1, 1) := by decide +kernel
theorem dX10_copyLand_50 : decode cX10_copyLand 50 = .ok (.iload_n 2, 1) := by decide +kernel
theorem dX10_copyLand_51 : decode cX10_copyLand 51 = .ok (.invokestatic 252, 3) := by decide +kernel
theorem dX10_copyLand_54 : decode cX10_copyLand 54 = .ok (.return_, 1) := by decide +kernel
theorem dX10_copyRow_0 : decode cX10_copyRow 0 = .ok (.iconst 0, 1) := by decide +kernel
theorem dX10_copyRow_1 : decode cX10_copyRow 1 = .ok (.istore 4, 2) := by decide +kernel
theorem dX10_copyRow_3 : decode cX10_copyRow 3 = .ok (.iload 4, 2) := by decide +kernel
theorem dX10_copyRow_5 : decode cX10_copyRow 5 = .ok (.iload_n 1, 1) := by decide +kernel
theorem dX10_copyRow_6 : decode cX10_copyRow 6 = .ok (.if_icmp .ge 25, 3) := by decide +kernel
theorem dX10_copyRow_9 : decode cX10_copyRow 9 = .ok (.aload_n 0, 1) := by decide +kernel
theorem dX10_copyRow_10 : decode cX10_copyRow 10 = .ok (.iload_n 1, 1) := by decide +kernel
theorem dX10_copyRow_11 : decode cX10_copyRow 11 = .ok (.iload_n 3, 1) := by decide +kernel
theorem dX10_copyRow_12 : decode cX10_copyRow 12 = .ok (.imul, 1) := by decide +kernel
theorem dX10_copyRow_13 : decode cX10_copyRow 13 = .ok (.iload 4, 2) := by decide +kernel
theorem dX10_copyRow_15 : decode cX10_copyRow 15 = .ok (.iadd, 1) := by decide +kernel
theorem dX10_copyRow_16 : decode cX10_copyRow 16 = .ok (.aload_n 0, 1) := by decide +kernel
theorem dX10_copyRow_17 : decode cX10_copyRow 17 = .ok (.iload_n 1, 1) := by decide +kernel
theorem dX10_copyRow_18 : decode cX10_copyRow 18 = .ok (.iload_n 2, 1) := by decide +kernel
theorem dX10_copyRow_19 : decode cX10_copyRow 19 = .ok (.imul, 1) := by decide +kernel
theorem dX10_copyRow_20 : decode cX10_copyRow 20 = .ok (.iload 4, 2) := by decide +kernel
theorem dX10_copyRow_22 : decode cX10_copyRow 22 = .ok (.iadd, 1) := by decide +kernel
theorem dX10_copyRow_23 : decode cX10_copyRow 23 = .ok (.iaload, 1) := by decide +kernel
theorem dX10_copyRow_24 : decode cX10_copyRow 24 = .ok (.iastore, 1) := by decide +kernel
theorem dX10_copyRow_25 : decode cX10_copyRow 25 = .ok (.iinc 4 1, 3) := by decide +kernel
theorem dX10_copyRow_28 : decode cX10_copyRow 28 = .ok (.goto (-25), 3) := by decide +kernel
theorem dX10_copyRow_31 : decode cX10_copyRow 31 = .ok (.return_, 1) := by decide +kernel
theorem dX10_image_0 : decode cX10_image 0 = .ok (.aload_n 0, 1) := by decide +kernel
theorem dX10_image_1 : decode cX10_image 1 = .ok (.iconst 0, 1) := by decide +kernel
theorem dX10_image_2 : decode cX10_image 2 = .ok (.putfield 92, 3) := by decide +kernel
theorem dX10_image_5 : decode cX10_image 5 = .ok (.iload_n 1, 1) := by decide +kernel
theorem dX10_image_6 : decode cX10_image 6 = .ok (.i2l, 1) := by decide +kernel
theorem dX10_image_7 : decode cX10_image 7 = .ok (.lconst 0, 1) := by decide +kernel
theorem dX10_image_8 : decode cX10_image 8 = .ok (.ldc2_w 326, 3) := by decide +kernel
theorem dX10_image_11 : decode cX10_image 11 = .ok (.invokestatic 97, 3) := by decide +kernel
theorem dX10_image_14 : decode cX10_image 14 = .ok (.ifCond .ne 6, 3) := by decide +kernel
theorem dX10_image_17 : decode cX10_image 17 = .ok (.bipush (-2), 2) := by decide +kernel
theorem dX10_image_19 : decode cX10_image 19 = .ok (.ireturn, 1) := by decide +kernel
theorem dX10_image_20 : decode cX10_image 20 = .ok (.aload_n 0, 1) := by decide +kernel
theorem dX10_image_21 : decode cX10_image 21 = .ok (.iconst 0, 1) := by decide +kernel
theorem dX10_image_22 : decode cX10_image 22 = .ok (.iconst 1, 1) := by decide +kernel
theorem dX10_image_23 : decode cX10_image 23 = .ok (.iload_n 1, 1) := by decide +kernel
theorem dX10_image_24 : decode cX10_image 24 = .ok (.iadd, 1) := by decide +kernel
theorem dX10_image_25 : decode cX10_image 25 = .ok (.invokevirtual 249, 3) := by decide +kernel
theorem dX10_image_28 : decode cX10_image 28 = .ok (.aload_n 0, 1) := by decide +kernel
theorem dX10_image_29 : decode cX10_image 29 = .ok (.getfield 46, 3) := by decide +kernel
theorem dX10_image_32 : decode cX10_image 32 = .ok (.iload_n 1, 1) := by decide +kernel
theorem dX10_image_33 : decode cX10_image 33 = .ok (.iconst 1, 1) := by decide +kernel
theorem dX10_image_34 : decode cX10_image 34 = .ok (.bastore, 1) := by decide +kernel
theorem dX10_image_35 : decode cX10_image 35 = .ok (.iconst 0, 1) := by decide +kernel
theorem dX10_image_36 : decode cX10_image 36 = .ok (.ireturn, 1) := by decide +kernel
theorem dX10_isByte_0 : decode cX10_isByte 0 = .ok (.iload_n 1, 1) := by decide +kernel
theorem dX10_isByte_1 : decode cX10_isByte 1 = .ok (.aload_n 0, 1) := by decide +kernel
theorem dX10_isByte_2 : decode cX10_isByte 2 = .ok (.getfield 109, 3) := by decide +kernel
theorem dX10_isByte_5 : decode cX10_isByte 5 = .ok (.if_icmp .ge 27, 3) := by decide +kernel
theorem dX10_isByte_32 : decode cX10_isByte 32 = .ok (.iconst 0, 1) := by decide +kernel
theorem dX10_isByte_33 : decode cX10_isByte 33 = .ok (.ireturn, 1) := by decide +kernel
theorem dX10_isGood_0 : decode cX10_isGood 0 = .ok (.aload_n 0, 1) := by decide +kernel
theorem dX10_isGood_1 : decode cX10_isGood 1 = .ok (.getfield 144, 3) := by decide +kernel
theorem dX10_isGood_4 : decode cX10_isGood 4 = .ok (.ifCond .ne 7, 3) := by decide +kernel
theorem dX10_isGood_7 : decode cX10_isGood 7 = .ok (.iconst 1, 1) := by decide +kernel
theorem dX10_isGood_8 : decode cX10_isGood 8 = .ok (.goto 4, 3) := by decide +kernel
theorem dX10_isGood_12 : decode cX10_isGood 12 = .ok (.ireturn, 1) := by decide +kernel
theorem dX10_isOver_0 : decode cX10_isOver 0 = .ok (.aload_n 0, 1) := by decide +kernel
theorem dX10_isOver_1 : decode cX10_isOver 1 = .ok (.iconst 0, 1) := by decide +kernel
theorem dX10_isOver_2 : decode cX10_isOver 2 = .ok (.putfield 109, 3) := by decide +kernel
theorem dX10_isOver_5 : decode cX10_isOver 5 = .ok (.aload_n 0, 1) := by decide +kernel
theorem dX10_isOver_6 : decode cX10_isOver 6 = .ok (.aload_n 0, 1) := by decide +kernel
theorem dX10_isOver_7 : decode cX10_isOver 7 = .ok (.getfield 144, 3) := by decide +kernel
theorem dX10_isOver_10 : decode cX10_isOver 10 = .ok (.putfield 171, 3) := by decide +kernel
theorem dX10_isOver_13 : decode cX10_isOver 13 = .ok (.aload_n 0, 1) := by decide +kernel
theorem dX10_isOver_14 : decode cX10_isOver 14 = .ok (.aload_n 0, 1) := by decide +kernel
theorem dX10_isOver_15 : decode cX10_isOver 15 = .ok (.getfield 144, 3) := by decide +kernel
theorem dX10_isOver_18 : decode cX10_isOver 18 = .ok (.ifCond .ne 7, 3) := by decide +kernel
theorem dX10_isOver_21 : decode cX10_isOver 21 = .ok (.iconst (-1), 1) := by decide +kernel
theorem dX10_isOver_22 : decode cX10_isOver 22 = .ok (.goto 7, 3) := by decide +kernel
theorem dX10_isOver_29 : decode cX10_isOver 29 = .ok (.putfield 27, 3) := by decide +kernel
theorem dX10_isOver_32 : decode cX10_isOver 32 = .ok (.return_, 1) := by decide +kernel
theorem dX10_land_0 : decode cX10_land 0 = .ok (.aload_n 0, 1) := by decide +kernel
theorem dX10_land_1 : decode cX10_land 1 = .ok (.iconst 0, 1) := by decide +kernel
theorem dX10_land_2 : decode cX10_land 2 = .ok (.putfield 92, 3) := by decide +kernel
theorem dX10_land_5 : decode cX10_land 5 = .ok (.aload_n 0, 1) := by decide +kernel
theorem dX10_land_6 : decode cX10_land 6 = .ok (.invokevirtual 231, 3) := by decide +kernel
theorem dX10_land_9 : decode cX10_land 9 = .ok (.aload_n 0, 1) := by decide +kernel
theorem dX10_land_10 : decode cX10_land 10 = .ok (.invokevirtual 234, 3) := by decide +kernel
theorem dX10_land_13 : decode cX10_land 13 = .ok (.aload_n 0, 1) := by decide +kernel
theorem dX10_land_14 : decode cX10_land 14 = .ok (.invokevirtual 215, 3) := by decide +kernel
theorem dX10_land_17 : decode cX10_land 17 = .ok (.ifCond .eq 54, 3) := by decide +kernel
theorem dX10_land_20 : decode cX10_land 20 = .ok (.aload_n 0, 1) := by decide +kernel
theorem dX10_land_21 : decode cX10_land 21 = .ok (.getfield 133, 3) := by decide +kernel
theorem dX10_land_24 : decode cX10_land 24 = .ok (.ifCond .eq 47, 3) := by decide +kernel
theorem dX10_land_71 : decode cX10_land 71 = .ok (.aload_n 0, 1) := by decide +kernel
theorem dX10_land_72 : decode cX10_land 72 = .ok (.invokevirtual 246, 3) := by decide +kernel
theorem dX10_land_75 : decode cX10_land 75 = .ok (.aload_n 0, 1) := by decide +kernel
theorem dX10_land_76 : decode cX10_land 76 = .ok (.getfield 144, 3) := by decide +kernel
theorem dX10_land_79 : decode cX10_land 79 = .ok (.ifCond .eq 6, 3) := by decide +kernel
theorem dX10_land_85 : decode cX10_land 85 = .ok (.aload_n 0, 1) := by decide +kernel
theorem dX10_land_86 : decode cX10_land 86 = .ok (.iconst 4, 1) := by decide +kernel
theorem dX10_land_87 : decode cX10_land 87 = .ok (.iconst 0, 1) := by decide +kernel
theorem dX10_land_88 : decode cX10_land 88 = .ok (.invokevirtual 249, 3) := by decide +kernel
theorem dX10_land_91 : decode cX10_land 91 = .ok (.aload_n 0, 1) := by decide +kernel
theorem dX10_land_92 : decode cX10_land 92 = .ok (.getfield 31, 3) := by decide +kernel
theorem dX10_land_95 : decode cX10_land 95 = .ok (.iconst 0, 1) := by decide +kernel
theorem dX10_land_96 : decode cX10_land 96 = .ok (.iaload, 1) := by decide +kernel
theorem dX10_land_97 : decode cX10_land 97 = .ok (.ireturn, 1) := by decide +kernel
theorem dX10_next_0 : decode cX10_next 0 = .ok (.aload_n 0, 1) := by decide +kernel
theorem dX10_next_1 : decode cX10_next 1 = .ok (.aload_n 0, 1) := by decide +kernel
theorem dX10_next_2 : decode cX10_next 2 = .ok (.getfield 116, 3) := by decide +kernel
theorem dX10_next_5 : decode cX10_next 5 = .ok (.bipush 32, 2) := by decide +kernel
theorem dX10_next_7 : decode cX10_next 7 = .ok (.bipush 32, 2) := by decide +kernel
theorem dX10_next_9 : decode cX10_next 9 = .ok (.invokevirtual 119, 3) := by decide +kernel
theorem dX10_next_12 : decode cX10_next 12 = .ok (.ifCond .ne 18, 3) := by decide +kernel
theorem dX10_next_15 : decode cX10_next 15 = .ok (.aload_n 0, 1) := by decide +kernel
theorem dX10_next_16 : decode cX10_next 16 = .ok (.aload_n 0, 1) := by decide +kernel
theorem dX10_next_17 : decode cX10_next 17 = .ok (.getfield 116, 3) := by decide +kernel
theorem dX10_next_20 : decode cX10_next 20 = .ok (.bipush 10, 2) := by decide +kernel
theorem dX10_next_22 : decode cX10_next 22 = .ok (.bipush 10, 2) := by decide +kernel
theorem dX10_next_24 : decode cX10_next 24 = .ok (.invokevirtual 119, 3) := by decide +kernel
theorem dX10_next_27 : decode cX10_next 27 = .ok (.ifCond .eq 16, 3) := by decide +kernel
theorem dX10_next_43 : decode cX10_next 43 = .ok (.aload_n 0, 1) := by decide +kernel
theorem dX10_next_44 : decode cX10_next 44 = .ok (.aload_n 0, 1) := by decide +kernel
theorem dX10_next_45 : decode cX10_next 45 = .ok (.getfield 116, 3) := by decide +kernel
theorem dX10_next_48 : decode cX10_next 48 = .ok (.putfield 123, 3) := by decide +kernel
theorem dX10_next_51 : decode cX10_next 51 = .ok (.aload_n 0, 1) := by decide +kernel
theorem dX10_next_52 : decode cX10_next 52 = .ok (.iconst 0, 1) := by decide +kernel
theorem dX10_next_53 : decode cX10_next 53 = .ok (.putfield 126, 3) := by decide +kernel
theorem dX10_next_56 : decode cX10_next 56 = .ok (.aload_n 0, 1) := by decide +kernel
theorem dX10_next_57 : decode cX10_next 57 = .ok (.lconst 0, 1) := by decide +kernel
theorem dX10_next_58 : decode cX10_next 58 = .ok (.putfield 129, 3) := by decide +kernel
theorem dX10_next_61 : decode cX10_next 61 = .ok (.aload_n 0, 1) := by decide +kernel
theorem dX10_next_62 : decode cX10_next 62 = .ok (.getfield 116, 3) := by decide +kernel
theorem dX10_next_65 : decode cX10_next 65 = .ok (.aload_n 0, 1) := by decide +kernel
theorem dX10_next_66 : decode cX10_next 66 = .ok (.getfield 109, 3) := by decide +kernel
theorem dX10_next_69 : decode cX10_next 69 = .ok (.if_icmp .ne 11, 3) := by decide +kernel
theorem dX10_next_72 : decode cX10_next 72 = .ok (.aload_n 0, 1) := by decide +kernel
theorem dX10_next_73 : decode cX10_next 73 = .ok (.iconst 0, 1) := by decide +kernel
theorem dX10_next_74 : decode cX10_next 74 = .ok (.putfield 133, 3) := by decide +kernel
theorem dX10_next_77 : decode cX10_next 77 = .ok (.goto 230, 3) := by decide +kernel
theorem dX10_next_307 : decode cX10_next 307 = .ok (.return_, 1) := by decide +kernel
theorem dX10_tells_0 : decode cX10_tells 0 = .ok (.aload_n 0, 1) := by decide +kernel
theorem dX10_tells_1 : decode cX10_tells 1 = .ok (.getfield 34, 3) := by decide +kernel
theorem dX10_tells_4 : decode cX10_tells 4 = .ok (.bipush 36, 2) := by decide +kernel
theorem dX10_tells_6 : decode cX10_tells 6 = .ok (.iload_n 1, 1) := by decide +kernel
theorem dX10_tells_7 : decode cX10_tells 7 = .ok (.iadd, 1) := by decide +kernel
theorem dX10_tells_8 : decode cX10_tells 8 = .ok (.iload_n 2, 1) := by decide +kernel
theorem dX10_tells_9 : decode cX10_tells 9 = .ok (.iastore, 1) := by decide +kernel
theorem dX10_tells_10 : decode cX10_tells 10 = .ok (.return_, 1) := by decide +kernel
theorem wd320 : Cond.static yX10_copyRow ∈ gW := gm (tm_7 138 (by decide +kernel)) rfl
theorem wd321 : Cond.code yX10_copyRow cX10_copyRow 5 none ∈ gW := gm (tm_7 139 (by decide +kernel)) rfl
theorem wd322 : Cond.methodLink RX10 252 yX10_copyRow ∈ gW := gm (tm_7 137 (by decide +kernel)) rfl
theorem wd323 : Cond.fieldLink RX10 37 "GooseSharesModel" "flight" "[I" ∈ gW := gm (tm_6 101 (by decide +kernel)) rfl
theorem wd324 : Cond.fieldLink RX10 40 "GooseSharesModel" "member" "[I" ∈ gW := gm (tm_6 102 (by decide +kernel)) rfl
theorem wd325 : Cond.fieldLink RX10 43 "GooseSharesModel" "act" "[I" ∈ gW := gm (tm_6 103 (by decide +kernel)) rfl
theorem wd326 : Cond.instanceMethod yX10_copyLand ∈ gW := gm (tm_7 135 (by decide +kernel)) rfl
theorem wd327 : Cond.selects RX10 yX10_copyLand yX10_copyLand ∈ gW := gm (gmP 38 (by decide +kernel)) rfl
theorem wd328 : Cond.code yX10_copyLand cX10_copyLand 3 none ∈ gW := gm (tm_7 136 (by decide +kernel)) rfl
theorem wd329 : Cond.methodLink RX10 249 yX10_copyLand ∈ gW := gm (tm_7 133 (by decide +kernel)) rfl
theorem wd330 : Cond.instanceMethod yX10_tells ∈ gW := gm (tm_7 36 (by decide +kernel)) rfl
theorem wd331 : Cond.selects RX10 yX10_tells yX10_tells ∈ gW := gm (gmP 18 (by decide +kernel)) rfl
theorem wd332 : Cond.code yX10_tells cX10_tells 3 none ∈ gW := gm (tm_7 37 (by decide +kernel)) rfl
theorem wd333 : Cond.methodLink RX10 191 yX10_tells ∈ gW := gm (tm_7 34 (by decide +kernel)) rfl
theorem wd334 : Cond.fieldLink RX10 116 "GooseSharesModel" "spot" "I" ∈ gW := gm (tm_6 90 (by decide +kernel)) rfl
theorem wd335 : Cond.instanceMethod yX10_isByte ∈ gW := gm (tm_7 48 (by decide +kernel)) rfl
theorem wd336 : Cond.selects RX10 yX10_isByte yX10_isByte ∈ gW := gm (gmP 21 (by decide +kernel)) rfl
theorem wd337 : Cond.code yX10_isByte cX10_isByte 4 (some .boolean) ∈ gW := gm (tm_7 49 (by decide +kernel)) rfl
theorem wd338 : Cond.methodLink RX10 119 yX10_isByte ∈ gW := gm (tm_7 46 (by decide +kernel)) rfl
theorem wd339 : Cond.fieldLink RX10 123 "GooseSharesModel" "place" "I" ∈ gW := gm (tm_6 92 (by decide +kernel)) rfl
theorem wd340 : Cond.fieldLink RX10 126 "GooseSharesModel" "value" "I" ∈ gW := gm (tm_6 93 (by decide +kernel)) rfl
theorem wd341 : Cond.fieldLink RX10 129 "GooseSharesModel" "word" "J" ∈ gW := gm (tm_6 94 (by decide +kernel)) rfl
theorem wd342 : Cond.fieldLink RX10 133 "GooseSharesModel" "token" "I" ∈ gW := gm (tm_6 91 (by decide +kernel)) rfl
theorem wd343 : Cond.fieldLink RX10 144 "GooseSharesModel" "bad" "I" ∈ gW := gm (tm_6 95 (by decide +kernel)) rfl
theorem wd344 : Cond.fieldLink RX10 147 "GooseSharesModel" "badPlace" "I" ∈ gW := gm (tm_6 96 (by decide +kernel)) rfl
theorem wd345 : Cond.instanceMethod yX10_next ∈ gW := gm (tm_7 44 (by decide +kernel)) rfl
theorem wd346 : Cond.selects RX10 yX10_next yX10_next ∈ gW := gm (gmP 20 (by decide +kernel)) rfl
theorem wd347 : Cond.code yX10_next cX10_next 2 none ∈ gW := gm (tm_7 45 (by decide +kernel)) rfl
theorem wd348 : Cond.methodLink RX10 154 yX10_next ∈ gW := gm (tm_7 42 (by decide +kernel)) rfl
theorem wd349 : Cond.instanceMethod yX10_clears ∈ gW := gm (tm_7 32 (by decide +kernel)) rfl
theorem wd350 : Cond.selects RX10 yX10_clears yX10_clears ∈ gW := gm (gmP 17 (by decide +kernel)) rfl
theorem wd351 : Cond.code yX10_clears cX10_clears 2 none ∈ gW := gm (tm_7 33 (by decide +kernel)) rfl
theorem wd352 : Cond.methodLink RX10 231 yX10_clears ∈ gW := gm (tm_7 30 (by decide +kernel)) rfl
theorem wd353 : Cond.instanceMethod yX10_begins ∈ gW := gm (tm_7 40 (by decide +kernel)) rfl
theorem wd354 : Cond.selects RX10 yX10_begins yX10_begins ∈ gW := gm (gmP 19 (by decide +kernel)) rfl
theorem wd355 : Cond.code yX10_begins cX10_begins 1 none ∈ gW := gm (tm_7 41 (by decide +kernel)) rfl
theorem wd356 : Cond.methodLink RX10 234 yX10_begins ∈ gW := gm (tm_7 38 (by decide +kernel)) rfl
theorem wd357 : Cond.instanceMethod yX10_isGood ∈ gW := gm (tm_7 57 (by decide +kernel)) rfl
theorem wd358 : Cond.selects RX10 yX10_isGood yX10_isGood ∈ gW := gm (gmP 22 (by decide +kernel)) rfl
theorem wd359 : Cond.code yX10_isGood cX10_isGood 1 (some .boolean) ∈ gW := gm (tm_7 58 (by decide +kernel)) rfl
theorem wd360 : Cond.methodLink RX10 215 yX10_isGood ∈ gW := gm (tm_7 55 (by decide +kernel)) rfl
theorem wd361 : Cond.instanceMethod yX10_isOver ∈ gW := gm (tm_7 131 (by decide +kernel)) rfl
theorem wd362 : Cond.selects RX10 yX10_isOver yX10_isOver ∈ gW := gm (gmP 37 (by decide +kernel)) rfl
theorem wd363 : Cond.code yX10_isOver cX10_isOver 1 none ∈ gW := gm (tm_7 132 (by decide +kernel)) rfl
theorem wd364 : Cond.methodLink RX10 246 yX10_isOver ∈ gW := gm (tm_7 129 (by decide +kernel)) rfl
theorem my_X10_copyRow : gWS RX10 yX10_copyRow cX10_copyRow 5 none 4 := ⟨⟨wd320, wd240, wd321⟩, ⟨rfl, by decide +kernel, by decide +kernel, by decide +kernel⟩⟩
theorem my_X10_copyLand : gWV RX10 yX10_copyLand cX10_copyLand 3 none 2 := ⟨⟨wd326, wd327, wd240, wd328⟩, ⟨rfl, by decide +kernel, by decide +kernel, by decide +kernel⟩⟩
theorem my_X10_tells : gWV RX10 yX10_tells cX10_tells 3 none 2 := ⟨⟨wd330, wd331, wd240, wd332⟩, ⟨rfl, by decide +kernel, by decide +kernel, by decide +kernel⟩⟩
theorem my_X10_isByte : gWV RX10 yX10_isByte cX10_isByte 4 (some .boolean) 3 := ⟨⟨wd335, wd336, wd240, wd337⟩, ⟨rfl, by decide +kernel, by decide +kernel, by decide +kernel⟩⟩
theorem my_X10_next : gWV RX10 yX10_next cX10_next 2 none 0 := ⟨⟨wd345, wd346, wd240, wd347⟩, ⟨rfl, by decide +kernel, by decide +kernel, by decide +kernel⟩⟩
theorem my_X10_clears : gWV RX10 yX10_clears cX10_clears 2 none 0 := ⟨⟨wd349, wd350, wd240, wd351⟩, ⟨rfl, by decide +kernel, by decide +kernel, by decide +kernel⟩⟩
theorem my_X10_begins : gWV RX10 yX10_begins cX10_begins 1 none 0 := ⟨⟨wd353, wd354, wd240, wd355⟩, ⟨rfl, by decide +kernel, by decide +kernel, by decide +kernel⟩⟩
theorem my_X10_isGood : gWV RX10 yX10_isGood cX10_isGood 1 (some .boolean) 0 := ⟨⟨wd357, wd358, wd240, wd359⟩, ⟨rfl, by decide +kernel, by decide +kernel, by decide +kernel⟩⟩
theorem my_X10_isOver : gWV RX10 yX10_isOver cX10_isOver 1 none 0 := ⟨⟨wd361, wd362, wd240, wd363⟩, ⟨rfl, by decide +kernel, by decide +kernel, by decide +kernel⟩⟩
