theorem dX10_waysOf_0 : decode cX10_waysOf 0 = .ok (.iload_n 0, 1) := by decide +kernel
theorem dX10_waysOf_1 : decode cX10_waysOf 1 = .ok (.iconst 2, 1) := by decide +kernel
theorem dX10_waysOf_2 : decode cX10_waysOf 2 = .ok (.if_icmp .ge 7, 3) := by decide +kernel
theorem dX10_waysOf_5 : decode cX10_waysOf 5 = .ok (.iconst 1, 1) := by decide +kernel
theorem dX10_waysOf_6 : decode cX10_waysOf 6 = .ok (.goto 11, 3) := by decide +kernel
theorem dX10_waysOf_9 : decode cX10_waysOf 9 = .ok (.iload_n 0, 1) := by decide +kernel
theorem dX10_waysOf_10 : decode cX10_waysOf 10 = .ok (.iload_n 0, 1) := by decide +kernel
theorem dX10_waysOf_11 : decode cX10_waysOf 11 = .ok (.iconst 1, 1) := by decide +kernel
theorem dX10_waysOf_12 : decode cX10_waysOf 12 = .ok (.isub, 1) := by decide +kernel
theorem dX10_waysOf_13 : decode cX10_waysOf 13 = .ok (.invokestatic 449, 3) := by decide +kernel
theorem dX10_waysOf_16 : decode cX10_waysOf 16 = .ok (.imul, 1) := by decide +kernel
theorem dX10_waysOf_17 : decode cX10_waysOf 17 = .ok (.ireturn, 1) := by decide +kernel
theorem wd1159 : Cond.static yX10_waysOf ∈ gW := gm (tm_9 62 (by decide +kernel)) rfl
theorem wd1160 : Cond.code yX10_waysOf cX10_waysOf 1 (some .int) ∈ gW := gm (tm_9 63 (by decide +kernel)) rfl
theorem wd1161 : Cond.methodLink RX10 449 yX10_waysOf ∈ gW := gm (tm_9 61 (by decide +kernel)) rfl
theorem my_X10_waysOf : gWS RX10 yX10_waysOf cX10_waysOf 1 (some .int) 1 := ⟨⟨wd1159, wd742, wd1160⟩, ⟨rfl, by decide +kernel, by decide +kernel, by decide +kernel⟩⟩
