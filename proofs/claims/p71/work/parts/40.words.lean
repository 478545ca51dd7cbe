theorem dX10_areTwo_0 : decode cX10_areTwo 0 = .ok (.aload_n 0, 1) := by decide +kernel
theorem dX10_areTwo_1 : decode cX10_areTwo 1 = .ok (.iload_n 1, 1) := by decide +kernel
theorem dX10_areTwo_2 : decode cX10_areTwo 2 = .ok (.i2l, 1) := by decide +kernel
theorem dX10_areTwo_3 : decode cX10_areTwo 3 = .ok (.invokevirtual 265, 3) := by decide +kernel
theorem dX10_areTwo_6 : decode cX10_areTwo 6 = .ok (.ifCond .eq 21, 3) := by decide +kernel
theorem dX10_areTwo_9 : decode cX10_areTwo 9 = .ok (.aload_n 0, 1) := by decide +kernel
theorem dX10_areTwo_10 : decode cX10_areTwo 10 = .ok (.iload_n 2, 1) := by decide +kernel
theorem dX10_areTwo_11 : decode cX10_areTwo 11 = .ok (.i2l, 1) := by decide +kernel
theorem dX10_areTwo_12 : decode cX10_areTwo 12 = .ok (.invokevirtual 265, 3) := by decide +kernel
theorem dX10_areTwo_15 : decode cX10_areTwo 15 = .ok (.ifCond .eq 12, 3) := by decide +kernel
theorem dX10_areTwo_18 : decode cX10_areTwo 18 = .ok (.iload_n 1, 1) := by decide +kernel
theorem dX10_areTwo_19 : decode cX10_areTwo 19 = .ok (.iload_n 2, 1) := by decide +kernel
theorem dX10_areTwo_20 : decode cX10_areTwo 20 = .ok (.if_icmp .eq 7, 3) := by decide +kernel
theorem dX10_areTwo_23 : decode cX10_areTwo 23 = .ok (.iconst 1, 1) := by decide +kernel
theorem dX10_areTwo_24 : decode cX10_areTwo 24 = .ok (.goto 4, 3) := by decide +kernel
theorem dX10_areTwo_27 : decode cX10_areTwo 27 = .ok (.iconst 0, 1) := by decide +kernel
theorem dX10_areTwo_28 : decode cX10_areTwo 28 = .ok (.ireturn, 1) := by decide +kernel
theorem dX10_cellsAll_0 : decode cX10_cellsAll 0 = .ok (.aload_n 0, 1) := by decide +kernel
theorem dX10_cellsAll_1 : decode cX10_cellsAll 1 = .ok (.getfield 34, 3) := by decide +kernel
theorem dX10_cellsAll_4 : decode cX10_cellsAll 4 = .ok (.iconst 0, 1) := by decide +kernel
theorem dX10_cellsAll_5 : decode cX10_cellsAll 5 = .ok (.iaload, 1) := by decide +kernel
theorem dX10_cellsAll_6 : decode cX10_cellsAll 6 = .ok (.aload_n 0, 1) := by decide +kernel
theorem dX10_cellsAll_7 : decode cX10_cellsAll 7 = .ok (.getfield 34, 3) := by decide +kernel
theorem dX10_cellsAll_10 : decode cX10_cellsAll 10 = .ok (.iconst 1, 1) := by decide +kernel
theorem dX10_cellsAll_11 : decode cX10_cellsAll 11 = .ok (.iaload, 1) := by decide +kernel
theorem dX10_cellsAll_12 : decode cX10_cellsAll 12 = .ok (.imul, 1) := by decide +kernel
theorem dX10_cellsAll_13 : decode cX10_cellsAll 13 = .ok (.ireturn, 1) := by decide +kernel
theorem dX10_cut_0 : decode cX10_cut 0 = .ok (.iload_n 2, 1) := by decide +kernel
theorem dX10_cut_1 : decode cX10_cut 1 = .ok (.ifCond .ne 10, 3) := by decide +kernel
theorem dX10_cut_4 : decode cX10_cut 4 = .ok (.lload_n 0, 1) := by decide +kernel
theorem dX10_cut_5 : decode cX10_cut 5 = .ok (.l2i, 1) := by decide +kernel
theorem dX10_cut_6 : decode cX10_cut 6 = .ok (.i2b, 1) := by decide +kernel
theorem dX10_cut_7 : decode cX10_cut 7 = .ok (.i2l, 1) := by decide +kernel
theorem dX10_cut_8 : decode cX10_cut 8 = .ok (.goto 27, 3) := by decide +kernel
theorem dX10_cut_11 : decode cX10_cut 11 = .ok (.iload_n 2, 1) := by decide +kernel
theorem dX10_cut_12 : decode cX10_cut 12 = .ok (.iconst 1, 1) := by decide +kernel
theorem dX10_cut_13 : decode cX10_cut 13 = .ok (.if_icmp .ne 10, 3) := by decide +kernel
theorem dX10_cut_16 : decode cX10_cut 16 = .ok (.lload_n 0, 1) := by decide +kernel
theorem dX10_cut_17 : decode cX10_cut 17 = .ok (.l2i, 1) := by decide +kernel
theorem dX10_cut_18 : decode cX10_cut 18 = .ok (.i2s, 1) := by decide +kernel
theorem dX10_cut_19 : decode cX10_cut 19 = .ok (.i2l, 1) := by decide +kernel
theorem dX10_cut_20 : decode cX10_cut 20 = .ok (.goto 15, 3) := by decide +kernel
theorem dX10_cut_23 : decode cX10_cut 23 = .ok (.iload_n 2, 1) := by decide +kernel
theorem dX10_cut_24 : decode cX10_cut 24 = .ok (.iconst 2, 1) := by decide +kernel
theorem dX10_cut_25 : decode cX10_cut 25 = .ok (.if_icmp .ne 9, 3) := by decide +kernel
theorem dX10_cut_28 : decode cX10_cut 28 = .ok (.lload_n 0, 1) := by decide +kernel
theorem dX10_cut_29 : decode cX10_cut 29 = .ok (.l2i, 1) := by decide +kernel
theorem dX10_cut_30 : decode cX10_cut 30 = .ok (.i2l, 1) := by decide +kernel
theorem dX10_cut_31 : decode cX10_cut 31 = .ok (.goto 4, 3) := by decide +kernel
theorem dX10_cut_34 : decode cX10_cut 34 = .ok (.lload_n 0, 1) := by decide +kernel
theorem dX10_cut_35 : decode cX10_cut 35 = .ok (.lreturn, 1) := by decide +kernel
theorem dX10_flights_0 : decode cX10_flights 0 = .ok (.aload_n 0, 1) := by decide +kernel
theorem dX10_flights_1 : decode cX10_flights 1 = .ok (.getfield 34, 3) := by decide +kernel
theorem dX10_flights_4 : decode cX10_flights 4 = .ok (.iconst 5, 1) := by decide +kernel
theorem dX10_flights_5 : decode cX10_flights 5 = .ok (.iaload, 1) := by decide +kernel
theorem dX10_flights_6 : decode cX10_flights 6 = .ok (.ireturn, 1) := by decide +kernel
theorem dX10_in_0 : decode cX10_in 0 = .ok (.lload_n 0, 1) := by decide +kernel
theorem dX10_in_1 : decode cX10_in 1 = .ok (.lload_n 2, 1) := by decide +kernel
theorem dX10_in_2 : decode cX10_in 2 = .ok (.lcmp, 1) := by decide +kernel
theorem dX10_in_3 : decode cX10_in 3 = .ok (.ifCond .lt 14, 3) := by decide +kernel
theorem dX10_in_6 : decode cX10_in 6 = .ok (.lload_n 0, 1) := by decide +kernel
theorem dX10_in_7 : decode cX10_in 7 = .ok (.lload 4, 2) := by decide +kernel
theorem dX10_in_9 : decode cX10_in 9 = .ok (.lcmp, 1) := by decide +kernel
theorem dX10_in_10 : decode cX10_in 10 = .ok (.ifCond .gt 7, 3) := by decide +kernel
theorem dX10_in_13 : decode cX10_in 13 = .ok (.iconst 1, 1) := by decide +kernel
theorem dX10_in_14 : decode cX10_in 14 = .ok (.goto 4, 3) := by decide +kernel
theorem dX10_in_17 : decode cX10_in 17 = .ok (.iconst 0, 1) := by decide +kernel
theorem dX10_in_18 : decode cX10_in 18 = .ok (.ireturn, 1) := by decide +kernel
theorem dX10_isBit_0 : decode cX10_isBit 0 = .ok (.iload_n 0, 1) := by decide +kernel
theorem dX10_isBit_1 : decode cX10_isBit 1 = .ok (.iload_n 1, 1) := by decide +kernel
theorem dX10_isBit_2 : decode cX10_isBit 2 = .ok (.ishr, 1) := by decide +kernel
theorem dX10_isBit_3 : decode cX10_isBit 3 = .ok (.iconst 1, 1) := by decide +kernel
theorem dX10_isBit_4 : decode cX10_isBit 4 = .ok (.iand, 1) := by decide +kernel
theorem dX10_isBit_5 : decode cX10_isBit 5 = .ok (.iconst 1, 1) := by decide +kernel
theorem dX10_isBit_6 : decode cX10_isBit 6 = .ok (.if_icmp .ne 7, 3) := by decide +kernel
theorem dX10_isBit_9 : decode cX10_isBit 9 = .ok (.iconst 1, 1) := by decide +kernel
theorem dX10_isBit_10 : decode cX10_isBit 10 = .ok (.goto 4, 3) := by decide +kernel
theorem dX10_isBit_13 : decode cX10_isBit 13 = .ok (.iconst 0, 1) := by decide +kernel
theorem dX10_isBit_14 : decode cX10_isBit 14 = .ok (.ireturn, 1) := by decide +kernel
theorem dX10_isCell_0 : decode cX10_isCell 0 = .ok (.lload_n 1, 1) := by decide +kernel
theorem dX10_isCell_1 : decode cX10_isCell 1 = .ok (.lconst 0, 1) := by decide +kernel
theorem dX10_isCell_2 : decode cX10_isCell 2 = .ok (.aload_n 0, 1) := by decide +kernel
theorem dX10_isCell_3 : decode cX10_isCell 3 = .ok (.invokevirtual 256, 3) := by decide +kernel
theorem dX10_isCell_6 : decode cX10_isCell 6 = .ok (.i2l, 1) := by decide +kernel
theorem dX10_isCell_7 : decode cX10_isCell 7 = .ok (.lconst 1, 1) := by decide +kernel
theorem dX10_isCell_8 : decode cX10_isCell 8 = .ok (.lsub, 1) := by decide +kernel
theorem dX10_isCell_9 : decode cX10_isCell 9 = .ok (.invokestatic 97, 3) := by decide +kernel
theorem dX10_isCell_12 : decode cX10_isCell 12 = .ok (.ireturn, 1) := by decide +kernel
theorem dX10_isFlight_0 : decode cX10_isFlight 0 = .ok (.lload_n 1, 1) := by decide +kernel
theorem dX10_isFlight_1 : decode cX10_isFlight 1 = .ok (.lconst 0, 1) := by decide +kernel
theorem dX10_isFlight_2 : decode cX10_isFlight 2 = .ok (.aload_n 0, 1) := by decide +kernel
theorem dX10_isFlight_3 : decode cX10_isFlight 3 = .ok (.invokevirtual 259, 3) := by decide +kernel
theorem dX10_isFlight_6 : decode cX10_isFlight 6 = .ok (.i2l, 1) := by decide +kernel
theorem dX10_isFlight_7 : decode cX10_isFlight 7 = .ok (.lconst 1, 1) := by decide +kernel
theorem dX10_isFlight_8 : decode cX10_isFlight 8 = .ok (.lsub, 1) := by decide +kernel
theorem dX10_isFlight_9 : decode cX10_isFlight 9 = .ok (.invokestatic 97, 3) := by decide +kernel
theorem dX10_isFlight_12 : decode cX10_isFlight 12 = .ok (.ireturn, 1) := by decide +kernel
theorem dX10_isHalf_0 : decode cX10_isHalf 0 = .ok (.iload_n 0, 1) := by decide +kernel
theorem dX10_isHalf_1 : decode cX10_isHalf 1 = .ok (.i2l, 1) := by decide +kernel
theorem dX10_isHalf_2 : decode cX10_isHalf 2 = .ok (.lconst 0, 1) := by decide +kernel
theorem dX10_isHalf_3 : decode cX10_isHalf 3 = .ok (.lconst 1, 1) := by decide +kernel
theorem dX10_isHalf_4 : decode cX10_isHalf 4 = .ok (.invokestatic 97, 3) := by decide +kernel
theorem dX10_isHalf_7 : decode cX10_isHalf 7 = .ok (.ireturn, 1) := by decide +kernel
theorem dX10_isLand_0 : decode cX10_isLand 0 = .ok (.aload_n 0, 1) := by decide +kernel
theorem dX10_isLand_1 : decode cX10_isLand 1 = .ok (.getfield 31, 3) := by decide +kernel
theorem dX10_isLand_4 : decode cX10_isLand 4 = .ok (.iconst 0, 1) := by decide +kernel
theorem dX10_isLand_5 : decode cX10_isLand 5 = .ok (.iaload, 1) := by decide +kernel
theorem dX10_isLand_6 : decode cX10_isLand 6 = .ok (.ifCond .le 7, 3) := by decide +kernel
theorem dX10_isLand_9 : decode cX10_isLand 9 = .ok (.iconst 1, 1) := by decide +kernel
theorem dX10_isLand_10 : decode cX10_isLand 10 = .ok (.goto 4, 3) := by decide +kernel
theorem dX10_isLand_13 : decode cX10_isLand 13 = .ok (.iconst 0, 1) := by decide +kernel
theorem dX10_isLand_14 : decode cX10_isLand 14 = .ok (.ireturn, 1) := by decide +kernel
theorem dX10_isLaw_0 : decode cX10_isLaw 0 = .ok (.aload_n 0, 1) := by decide +kernel
theorem dX10_isLaw_1 : decode cX10_isLaw 1 = .ok (.invokevirtual 270, 3) := by decide +kernel
theorem dX10_isLaw_4 : decode cX10_isLaw 4 = .ok (.ifCond .eq 19, 3) := by decide +kernel
theorem dX10_isLaw_7 : decode cX10_isLaw 7 = .ok (.iload_n 1, 1) := by decide +kernel
theorem dX10_isLaw_8 : decode cX10_isLaw 8 = .ok (.i2l, 1) := by decide +kernel
theorem dX10_isLaw_9 : decode cX10_isLaw 9 = .ok (.lconst 0, 1) := by decide +kernel
theorem dX10_isLaw_10 : decode cX10_isLaw 10 = .ok (.ldc2_w 95, 3) := by decide +kernel
theorem dX10_isLaw_13 : decode cX10_isLaw 13 = .ok (.invokestatic 97, 3) := by decide +kernel
theorem dX10_isLaw_16 : decode cX10_isLaw 16 = .ok (.ifCond .eq 7, 3) := by decide +kernel
theorem dX10_isLaw_19 : decode cX10_isLaw 19 = .ok (.iconst 1, 1) := by decide +kernel
theorem dX10_isLaw_20 : decode cX10_isLaw 20 = .ok (.goto 4, 3) := by decide +kernel
theorem dX10_isLaw_23 : decode cX10_isLaw 23 = .ok (.iconst 0, 1) := by decide +kernel
theorem dX10_isLaw_24 : decode cX10_isLaw 24 = .ok (.ireturn, 1) := by decide +kernel
theorem dX10_isMany_0 : decode cX10_isMany 0 = .ok (.aload_n 0, 1) := by decide +kernel
theorem dX10_isMany_1 : decode cX10_isMany 1 = .ok (.invokevirtual 270, 3) := by decide +kernel
theorem dX10_isMany_4 : decode cX10_isMany 4 = .ok (.ifCond .eq 19, 3) := by decide +kernel
theorem dX10_isMany_7 : decode cX10_isMany 7 = .ok (.iload_n 1, 1) := by decide +kernel
theorem dX10_isMany_8 : decode cX10_isMany 8 = .ok (.i2l, 1) := by decide +kernel
theorem dX10_isMany_9 : decode cX10_isMany 9 = .ok (.lconst 0, 1) := by decide +kernel
theorem dX10_isMany_10 : decode cX10_isMany 10 = .ok (.ldc2_w 95, 3) := by decide +kernel
theorem dX10_isMany_13 : decode cX10_isMany 13 = .ok (.invokestatic 97, 3) := by decide +kernel
theorem dX10_isMany_16 : decode cX10_isMany 16 = .ok (.ifCond .eq 7, 3) := by decide +kernel
theorem dX10_isMany_19 : decode cX10_isMany 19 = .ok (.iconst 1, 1) := by decide +kernel
theorem dX10_isMany_20 : decode cX10_isMany 20 = .ok (.goto 4, 3) := by decide +kernel
theorem dX10_isMany_23 : decode cX10_isMany 23 = .ok (.iconst 0, 1) := by decide +kernel
theorem dX10_isMany_24 : decode cX10_isMany 24 = .ok (.ireturn, 1) := by decide +kernel
theorem dX10_isMember_0 : decode cX10_isMember 0 = .ok (.lload_n 1, 1) := by decide +kernel
theorem dX10_isMember_1 : decode cX10_isMember 1 = .ok (.lconst 0, 1) := by decide +kernel
theorem dX10_isMember_2 : decode cX10_isMember 2 = .ok (.aload_n 0, 1) := by decide +kernel
theorem dX10_isMember_3 : decode cX10_isMember 3 = .ok (.invokevirtual 262, 3) := by decide +kernel
theorem dX10_isMember_6 : decode cX10_isMember 6 = .ok (.i2l, 1) := by decide +kernel
theorem dX10_isMember_7 : decode cX10_isMember 7 = .ok (.lconst 1, 1) := by decide +kernel
theorem dX10_isMember_8 : decode cX10_isMember 8 = .ok (.lsub, 1) := by decide +kernel
theorem dX10_isMember_9 : decode cX10_isMember 9 = .ok (.invokestatic 97, 3) := by decide +kernel
theorem dX10_isMember_12 : decode cX10_isMember 12 = .ok (.ireturn, 1) := by decide +kernel
theorem dX10_isSeed_0 : decode cX10_isSeed 0 = .ok (.iload_n 0, 1) := by decide +kernel
theorem dX10_isSeed_1 : decode cX10_isSeed 1 = .ok (.i2l, 1) := by decide +kernel
theorem dX10_isSeed_2 : decode cX10_isSeed 2 = .ok (.lconst 0, 1) := by decide +kernel
theorem dX10_isSeed_3 : decode cX10_isSeed 3 = .ok (.ldc2_w 496, 3) := by decide +kernel
theorem dX10_isSeed_6 : decode cX10_isSeed 6 = .ok (.invokestatic 97, 3) := by decide +kernel
theorem dX10_isSeed_9 : decode cX10_isSeed 9 = .ok (.ireturn, 1) := by decide +kernel
theorem dX10_isSlot_0 : decode cX10_isSlot 0 = .ok (.iload_n 0, 1) := by decide +kernel
theorem dX10_isSlot_1 : decode cX10_isSlot 1 = .ok (.i2l, 1) := by decide +kernel
theorem dX10_isSlot_2 : decode cX10_isSlot 2 = .ok (.lconst 0, 1) := by decide +kernel
theorem dX10_isSlot_3 : decode cX10_isSlot 3 = .ok (.ldc2_w 95, 3) := by decide +kernel
theorem dX10_isSlot_6 : decode cX10_isSlot 6 = .ok (.invokestatic 97, 3) := by decide +kernel
theorem dX10_isSlot_9 : decode cX10_isSlot 9 = .ok (.ireturn, 1) := by decide +kernel
theorem dX10_isStep_0 : decode cX10_isStep 0 = .ok (.iload_n 0, 1) := by decide +kernel
theorem dX10_isStep_1 : decode cX10_isStep 1 = .ok (.i2l, 1) := by decide +kernel
theorem dX10_isStep_2 : decode cX10_isStep 2 = .ok (.lconst 0, 1) := by decide +kernel
theorem dX10_isStep_3 : decode cX10_isStep 3 = .ok (.ldc2_w 268, 3) := by decide +kernel
theorem dX10_isStep_6 : decode cX10_isStep 6 = .ok (.invokestatic 97, 3) := by decide +kernel
theorem dX10_isStep_9 : decode cX10_isStep 9 = .ok (.ireturn, 1) := by decide +kernel
theorem dX10_members_0 : decode cX10_members 0 = .ok (.aload_n 0, 1) := by decide +kernel
theorem dX10_members_1 : decode cX10_members 1 = .ok (.getfield 34, 3) := by decide +kernel
theorem dX10_members_4 : decode cX10_members 4 = .ok (.bipush 6, 2) := by decide +kernel
theorem dX10_members_6 : decode cX10_members 6 = .ok (.iaload, 1) := by decide +kernel
theorem dX10_members_7 : decode cX10_members 7 = .ok (.ireturn, 1) := by decide +kernel
theorem wd740 : Cond.constantLong RX10 95 (3 : Int64) ∈ gW := gm (tm_6 235 (by decide +kernel)) rfl
theorem wd741 : Cond.static yX10_in ∈ gW := gm (tm_6 237 (by decide +kernel)) rfl
theorem wd742 : Cond.initialized RX10 ∈ gW := gm (tm_1 11 (by decide +kernel)) rfl
theorem wd743 : Cond.code yX10_in cX10_in 6 (some .boolean) ∈ gW := gm (tm_6 238 (by decide +kernel)) rfl
theorem wd744 : Cond.methodLink RX10 97 yX10_in ∈ gW := gm (tm_6 236 (by decide +kernel)) rfl
theorem wd745 : Cond.constantLong RX10 268 (40 : Int64) ∈ gW := gm (tm_7 184 (by decide +kernel)) rfl
theorem wd746 : Cond.constantLong RX10 496 (2000000000 : Int64) ∈ gW := gm (tm_9 112 (by decide +kernel)) rfl
theorem wd747 : Cond.fieldLink RX10 34 "GooseSharesModel" "has" "[I" ∈ gW := gm (tm_6 100 (by decide +kernel)) rfl
theorem wd748 : Cond.fieldLink RX10 31 "GooseSharesModel" "lines" "[I" ∈ gW := gm (tm_6 99 (by decide +kernel)) rfl
theorem wd749 : Cond.instanceMethod yX10_flights ∈ gW := gm (tm_7 150 (by decide +kernel)) rfl
theorem wd750 : Cond.selects RX10 yX10_flights yX10_flights ∈ gW := gm (gmP 40 (by decide +kernel)) rfl
theorem wd751 : Cond.code yX10_flights cX10_flights 1 (some .int) ∈ gW := gm (tm_7 151 (by decide +kernel)) rfl
theorem wd752 : Cond.methodLink RX10 259 yX10_flights ∈ gW := gm (tm_7 148 (by decide +kernel)) rfl
theorem wd753 : Cond.instanceMethod yX10_members ∈ gW := gm (tm_7 167 (by decide +kernel)) rfl
theorem wd754 : Cond.selects RX10 yX10_members yX10_members ∈ gW := gm (gmP 43 (by decide +kernel)) rfl
theorem wd755 : Cond.code yX10_members cX10_members 1 (some .int) ∈ gW := gm (tm_7 168 (by decide +kernel)) rfl
theorem wd756 : Cond.methodLink RX10 262 yX10_members ∈ gW := gm (tm_7 165 (by decide +kernel)) rfl
theorem wd757 : Cond.instanceMethod yX10_cellsAll ∈ gW := gm (tm_7 214 (by decide +kernel)) rfl
theorem wd758 : Cond.selects RX10 yX10_cellsAll yX10_cellsAll ∈ gW := gm (gmP 51 (by decide +kernel)) rfl
theorem wd759 : Cond.code yX10_cellsAll cX10_cellsAll 1 (some .int) ∈ gW := gm (tm_7 215 (by decide +kernel)) rfl
theorem wd760 : Cond.methodLink RX10 256 yX10_cellsAll ∈ gW := gm (tm_7 212 (by decide +kernel)) rfl
theorem wd761 : Cond.instanceMethod yX10_isMember ∈ gW := gm (tm_7 163 (by decide +kernel)) rfl
theorem wd762 : Cond.selects RX10 yX10_isMember yX10_isMember ∈ gW := gm (gmP 42 (by decide +kernel)) rfl
theorem wd763 : Cond.code yX10_isMember cX10_isMember 3 (some .boolean) ∈ gW := gm (tm_7 164 (by decide +kernel)) rfl
theorem wd764 : Cond.methodLink RX10 265 yX10_isMember ∈ gW := gm (tm_7 161 (by decide +kernel)) rfl
theorem wd765 : Cond.instanceMethod yX10_isLand ∈ gW := gm (tm_7 175 (by decide +kernel)) rfl
theorem wd766 : Cond.selects RX10 yX10_isLand yX10_isLand ∈ gW := gm (gmP 44 (by decide +kernel)) rfl
theorem wd767 : Cond.code yX10_isLand cX10_isLand 1 (some .boolean) ∈ gW := gm (tm_7 176 (by decide +kernel)) rfl
theorem wd768 : Cond.methodLink RX10 270 yX10_isLand ∈ gW := gm (tm_7 173 (by decide +kernel)) rfl
theorem my_X10_in : gWS RX10 yX10_in cX10_in 6 (some .boolean) 3 := ⟨⟨wd741, wd742, wd743⟩, ⟨rfl, by decide +kernel, by decide +kernel, by decide +kernel⟩⟩
theorem my_X10_flights : gWV RX10 yX10_flights cX10_flights 1 (some .int) 0 := ⟨⟨wd749, wd750, wd742, wd751⟩, ⟨rfl, by decide +kernel, by decide +kernel, by decide +kernel⟩⟩
theorem my_X10_members : gWV RX10 yX10_members cX10_members 1 (some .int) 0 := ⟨⟨wd753, wd754, wd742, wd755⟩, ⟨rfl, by decide +kernel, by decide +kernel, by decide +kernel⟩⟩
theorem my_X10_cellsAll : gWV RX10 yX10_cellsAll cX10_cellsAll 1 (some .int) 0 := ⟨⟨wd757, wd758, wd742, wd759⟩, ⟨rfl, by decide +kernel, by decide +kernel, by decide +kernel⟩⟩
theorem my_X10_isMember : gWV RX10 yX10_isMember cX10_isMember 3 (some .boolean) 1 := ⟨⟨wd761, wd762, wd742, wd763⟩, ⟨rfl, by decide +kernel, by decide +kernel, by decide +kernel⟩⟩
theorem my_X10_isLand : gWV RX10 yX10_isLand cX10_isLand 1 (some .boolean) 0 := ⟨⟨wd765, wd766, wd742, wd767⟩, ⟨rfl, by decide +kernel, by decide +kernel, by decide +kernel⟩⟩
