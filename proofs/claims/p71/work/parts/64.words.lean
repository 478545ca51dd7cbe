theorem dL_law_0 : decode cL_law 0 = .ok (.new 7, 3) := by decide +kernel
theorem dL_law_3 : decode cL_law 3 = .ok (.dup, 1) := by decide +kernel
theorem dL_law_4 : decode cL_law 4 = .ok (.invokespecial 9, 3) := by decide +kernel
theorem dL_law_7 : decode cL_law 7 = .ok (.astore_n 1, 1) := by decide +kernel
theorem dL_law_8 : decode cL_law 8 = .ok (.new 10, 3) := by decide +kernel
theorem dL_law_11 : decode cL_law 11 = .ok (.dup, 1) := by decide +kernel
theorem dL_law_12 : decode cL_law 12 = .ok (.invokespecial 12, 3) := by decide +kernel
theorem dL_law_15 : decode cL_law 15 = .ok (.astore_n 2, 1) := by decide +kernel
theorem dL_law_16 : decode cL_law 16 = .ok (.iconst 0, 1) := by decide +kernel
theorem dL_law_17 : decode cL_law 17 = .ok (.istore_n 3, 1) := by decide +kernel
theorem dL_law_18 : decode cL_law 18 = .ok (.iload_n 3, 1) := by decide +kernel
theorem dL_law_19 : decode cL_law 19 = .ok (.aload_n 0, 1) := by decide +kernel
theorem dL_law_20 : decode cL_law 20 = .ok (.arraylength, 1) := by decide +kernel
theorem dL_law_21 : decode cL_law 21 = .ok (.bipush 6, 2) := by decide +kernel
theorem dL_law_23 : decode cL_law 23 = .ok (.isub, 1) := by decide +kernel
theorem dL_law_24 : decode cL_law 24 = .ok (.if_icmp .gt 2100, 3) := by decide +kernel
theorem dL_law_27 : decode cL_law 27 = .ok (.aload_n 0, 1) := by decide +kernel
theorem dL_law_28 : decode cL_law 28 = .ok (.iload_n 3, 1) := by decide +kernel
theorem dL_law_29 : decode cL_law 29 = .ok (.iaload, 1) := by decide +kernel
theorem dL_law_30 : decode cL_law 30 = .ok (.bipush 127, 2) := by decide +kernel
theorem dL_law_32 : decode cL_law 32 = .ok (.iand, 1) := by decide +kernel
theorem dL_law_33 : decode cL_law 33 = .ok (.tableswitch 2085 0 69 #[295, 358, 381, 394, 417, 450, 483, 496, 529, 562, 585, 608, 631, 654, 687, 720, 743, 766, 779, 792, 805, 818, 831, 844, 857, 880, 893, 926, 939, 962, 985, 1008, 1031, 1054, 1077, 1100, 1113, 1126, 1149, 1162, 1185, 1208, 1231, 1254, 1277, 1300, 1343, 1356, 1379, 1392, 1405, 1428, 1461, 1494, 1547, 1580, 1603, 1636, 1669, 1702, 1715, 1728, 1761, 1804, 1837, 1860, 1883, 1906, 1949, 2022], 295) := by decide +kernel
theorem dL_law_2121 : decode cL_law 2121 = .ok (.goto (-2103), 3) := by decide +kernel
theorem dL_law_2124 : decode cL_law 2124 = .ok (.iconst 1, 1) := by decide +kernel
theorem dL_law_2125 : decode cL_law 2125 = .ok (.ireturn, 1) := by decide +kernel
theorem wd1791 : Cond.classLink RL 7 RX9 ∈ gW := gm (tm_1 20 (by decide +kernel)) rfl
theorem wd1792 : Cond.instanceMethod yX9_init ∈ gW := gm (tm_1 23 (by decide +kernel)) rfl
theorem wd1793 : Cond.code yX9_init cX9_init 2 none ∈ gW := gm (tm_1 24 (by decide +kernel)) rfl
theorem wd1794 : Cond.methodLink RL 9 yX9_init ∈ gW := gm (tm_1 22 (by decide +kernel)) rfl
theorem wd1795 : Cond.classLink RL 10 RX10 ∈ gW := gm (tm_6 77 (by decide +kernel)) rfl
theorem wd1796 : Cond.instanceMethod yX10_init ∈ gW := gm (tm_6 80 (by decide +kernel)) rfl
theorem wd1797 : Cond.code yX10_init cX10_init 2 none ∈ gW := gm (tm_6 81 (by decide +kernel)) rfl
theorem wd1798 : Cond.methodLink RL 12 yX10_init ∈ gW := gm (tm_6 79 (by decide +kernel)) rfl
theorem my_X9_init : gWI RX9 yX9_init cX9_init 2 0 := ⟨⟨wd1792, wd2, wd1793⟩, ⟨rfl, by decide +kernel, by decide +kernel, by decide +kernel⟩, rfl⟩
theorem my_X10_init : gWI RX10 yX10_init cX10_init 2 0 := ⟨⟨wd1796, wd742, wd1797⟩, ⟨rfl, by decide +kernel, by decide +kernel, by decide +kernel⟩, rfl⟩
