theorem dX10_cut__0 : decode cX10_cut_ 0 = .ok (.aload_n 0, 1) := by decide +kernel
theorem dX10_cut__1 : decode cX10_cut_ 1 = .ok (.iconst 0, 1) := by decide +kernel
theorem dX10_cut__2 : decode cX10_cut_ 2 = .ok (.putfield 92, 3) := by decide +kernel
theorem dX10_cut__5 : decode cX10_cut_ 5 = .ok (.aload_n 0, 1) := by decide +kernel
theorem dX10_cut__6 : decode cX10_cut_ 6 = .ok (.iload_n 1, 1) := by decide +kernel
theorem dX10_cut__7 : decode cX10_cut_ 7 = .ok (.i2l, 1) := by decide +kernel
theorem dX10_cut__8 : decode cX10_cut_ 8 = .ok (.invokevirtual 265, 3) := by decide +kernel
theorem dX10_cut__11 : decode cX10_cut_ 11 = .ok (.ifCond .eq 10, 3) := by decide +kernel
theorem dX10_cut__14 : decode cX10_cut_ 14 = .ok (.iload_n 2, 1) := by decide +kernel
theorem dX10_cut__15 : decode cX10_cut_ 15 = .ok (.invokestatic 419, 3) := by decide +kernel
theorem dX10_cut__18 : decode cX10_cut_ 18 = .ok (.ifCond .ne 6, 3) := by decide +kernel
theorem dX10_cut__21 : decode cX10_cut_ 21 = .ok (.bipush (-2), 2) := by decide +kernel
theorem dX10_cut__23 : decode cX10_cut_ 23 = .ok (.ireturn, 1) := by decide +kernel
theorem dX10_cut__24 : decode cX10_cut_ 24 = .ok (.aload_n 0, 1) := by decide +kernel
theorem dX10_cut__25 : decode cX10_cut_ 25 = .ok (.invokevirtual 367, 3) := by decide +kernel
theorem dX10_cut__28 : decode cX10_cut_ 28 = .ok (.aload_n 0, 1) := by decide +kernel
theorem dX10_cut__29 : decode cX10_cut_ 29 = .ok (.iconst 0, 1) := by decide +kernel
theorem dX10_cut__30 : decode cX10_cut_ 30 = .ok (.putfield 455, 3) := by decide +kernel
theorem dX10_cut__33 : decode cX10_cut_ 33 = .ok (.iconst 0, 1) := by decide +kernel
theorem dX10_cut__34 : decode cX10_cut_ 34 = .ok (.istore_n 3, 1) := by decide +kernel
theorem dX10_cut__35 : decode cX10_cut_ 35 = .ok (.iload_n 3, 1) := by decide +kernel
theorem dX10_cut__36 : decode cX10_cut_ 36 = .ok (.aload_n 0, 1) := by decide +kernel
theorem dX10_cut__37 : decode cX10_cut_ 37 = .ok (.invokevirtual 262, 3) := by decide +kernel
theorem dX10_cut__40 : decode cX10_cut_ 40 = .ok (.if_icmp .ge 33, 3) := by decide +kernel
theorem dX10_cut__43 : decode cX10_cut_ 43 = .ok (.aload_n 0, 1) := by decide +kernel
theorem dX10_cut__44 : decode cX10_cut_ 44 = .ok (.dup, 1) := by decide +kernel
theorem dX10_cut__45 : decode cX10_cut_ 45 = .ok (.getfield 455, 3) := by decide +kernel
theorem dX10_cut__48 : decode cX10_cut_ 48 = .ok (.aload_n 0, 1) := by decide +kernel
theorem dX10_cut__49 : decode cX10_cut_ 49 = .ok (.iload_n 3, 1) := by decide +kernel
theorem dX10_cut__50 : decode cX10_cut_ 50 = .ok (.invokevirtual 314, 3) := by decide +kernel
theorem dX10_cut__53 : decode cX10_cut_ 53 = .ok (.ifCond .le 9, 3) := by decide +kernel
theorem dX10_cut__56 : decode cX10_cut_ 56 = .ok (.iconst 1, 1) := by decide +kernel
theorem dX10_cut__57 : decode cX10_cut_ 57 = .ok (.iload_n 3, 1) := by decide +kernel
theorem dX10_cut__58 : decode cX10_cut_ 58 = .ok (.ishl, 1) := by decide +kernel
theorem dX10_cut__59 : decode cX10_cut_ 59 = .ok (.goto 4, 3) := by decide +kernel
theorem dX10_cut__62 : decode cX10_cut_ 62 = .ok (.iconst 0, 1) := by decide +kernel
theorem dX10_cut__63 : decode cX10_cut_ 63 = .ok (.ior, 1) := by decide +kernel
theorem dX10_cut__64 : decode cX10_cut_ 64 = .ok (.putfield 455, 3) := by decide +kernel
theorem dX10_cut__67 : decode cX10_cut_ 67 = .ok (.iinc 3 1, 3) := by decide +kernel
theorem dX10_cut__70 : decode cX10_cut_ 70 = .ok (.goto (-35), 3) := by decide +kernel
theorem dX10_cut__73 : decode cX10_cut_ 73 = .ok (.aload_n 0, 1) := by decide +kernel
theorem dX10_cut__74 : decode cX10_cut_ 74 = .ok (.getfield 65, 3) := by decide +kernel
theorem dX10_cut__77 : decode cX10_cut_ 77 = .ok (.aload_n 0, 1) := by decide +kernel
theorem dX10_cut__78 : decode cX10_cut_ 78 = .ok (.getfield 455, 3) := by decide +kernel
theorem dX10_cut__81 : decode cX10_cut_ 81 = .ok (.iaload, 1) := by decide +kernel
theorem dX10_cut__82 : decode cX10_cut_ 82 = .ok (.ldc 142, 2) := by decide +kernel
theorem dX10_cut__84 : decode cX10_cut_ 84 = .ok (.if_icmp .lt 5, 3) := by decide +kernel
theorem dX10_cut__87 : decode cX10_cut_ 87 = .ok (.iconst (-1), 1) := by decide +kernel
theorem dX10_cut__88 : decode cX10_cut_ 88 = .ok (.ireturn, 1) := by decide +kernel
theorem dX10_cut__89 : decode cX10_cut_ 89 = .ok (.aload_n 0, 1) := by decide +kernel
theorem dX10_cut__90 : decode cX10_cut_ 90 = .ok (.iconst 0, 1) := by decide +kernel
theorem dX10_cut__91 : decode cX10_cut_ 91 = .ok (.putfield 452, 3) := by decide +kernel
theorem dX10_cut__94 : decode cX10_cut_ 94 = .ok (.aload_n 0, 1) := by decide +kernel
theorem dX10_cut__95 : decode cX10_cut_ 95 = .ok (.iconst 0, 1) := by decide +kernel
theorem dX10_cut__96 : decode cX10_cut_ 96 = .ok (.putfield 458, 3) := by decide +kernel
theorem dX10_cut__99 : decode cX10_cut_ 99 = .ok (.aload_n 0, 1) := by decide +kernel
theorem dX10_cut__100 : decode cX10_cut_ 100 = .ok (.iload_n 1, 1) := by decide +kernel
theorem dX10_cut__101 : decode cX10_cut_ 101 = .ok (.iconst 0, 1) := by decide +kernel
theorem dX10_cut__102 : decode cX10_cut_ 102 = .ok (.iconst 1, 1) := by decide +kernel
theorem dX10_cut__103 : decode cX10_cut_ 103 = .ok (.aload_n 0, 1) := by decide +kernel
theorem dX10_cut__104 : decode cX10_cut_ 104 = .ok (.invokevirtual 262, 3) := by decide +kernel
theorem dX10_cut__107 : decode cX10_cut_ 107 = .ok (.ishl, 1) := by decide +kernel
theorem dX10_cut__108 : decode cX10_cut_ 108 = .ok (.iconst 1, 1) := by decide +kernel
theorem dX10_cut__109 : decode cX10_cut_ 109 = .ok (.isub, 1) := by decide +kernel
theorem dX10_cut__110 : decode cX10_cut_ 110 = .ok (.invokevirtual 461, 3) := by decide +kernel
theorem dX10_cut__113 : decode cX10_cut_ 113 = .ok (.aload_n 0, 1) := by decide +kernel
theorem dX10_cut__114 : decode cX10_cut_ 114 = .ok (.getfield 452, 3) := by decide +kernel
theorem dX10_cut__117 : decode cX10_cut_ 117 = .ok (.aload_n 0, 1) := by decide +kernel
theorem dX10_cut__118 : decode cX10_cut_ 118 = .ok (.getfield 458, 3) := by decide +kernel
theorem dX10_cut__121 : decode cX10_cut_ 121 = .ok (.iload_n 2, 1) := by decide +kernel
theorem dX10_cut__122 : decode cX10_cut_ 122 = .ok (.invokestatic 422, 3) := by decide +kernel
theorem dX10_cut__125 : decode cX10_cut_ 125 = .ok (.ireturn, 1) := by decide +kernel
theorem dX10_cutsFrom_0 : decode cX10_cutsFrom 0 = .ok (.iload_n 3, 1) := by decide +kernel
theorem dX10_cutsFrom_1 : decode cX10_cutsFrom 1 = .ok (.ifCond .ne 4, 3) := by decide +kernel
theorem dX10_cutsFrom_4 : decode cX10_cutsFrom 4 = .ok (.return_, 1) := by decide +kernel
theorem dX10_cutsFrom_5 : decode cX10_cutsFrom 5 = .ok (.iconst 0, 1) := by decide +kernel
theorem dX10_cutsFrom_6 : decode cX10_cutsFrom 6 = .ok (.istore 4, 2) := by decide +kernel
theorem dX10_cutsFrom_8 : decode cX10_cutsFrom 8 = .ok (.iload 4, 2) := by decide +kernel
theorem dX10_cutsFrom_10 : decode cX10_cutsFrom 10 = .ok (.aload_n 0, 1) := by decide +kernel
theorem dX10_cutsFrom_11 : decode cX10_cutsFrom 11 = .ok (.invokevirtual 262, 3) := by decide +kernel
theorem dX10_cutsFrom_14 : decode cX10_cutsFrom 14 = .ok (.if_icmp .ge 111, 3) := by decide +kernel
theorem dX10_cutsFrom_17 : decode cX10_cutsFrom 17 = .ok (.iload_n 3, 1) := by decide +kernel
theorem dX10_cutsFrom_18 : decode cX10_cutsFrom 18 = .ok (.iload 4, 2) := by decide +kernel
theorem dX10_cutsFrom_20 : decode cX10_cutsFrom 20 = .ok (.invokestatic 282, 3) := by decide +kernel
theorem dX10_cutsFrom_23 : decode cX10_cutsFrom 23 = .ok (.ifCond .ne 6, 3) := by decide +kernel
theorem dX10_cutsFrom_26 : decode cX10_cutsFrom 26 = .ok (.goto 93, 3) := by decide +kernel
theorem dX10_cutsFrom_29 : decode cX10_cutsFrom 29 = .ok (.iload_n 2, 1) := by decide +kernel
theorem dX10_cutsFrom_30 : decode cX10_cutsFrom 30 = .ok (.iconst 1, 1) := by decide +kernel
theorem dX10_cutsFrom_31 : decode cX10_cutsFrom 31 = .ok (.iload 4, 2) := by decide +kernel
theorem dX10_cutsFrom_33 : decode cX10_cutsFrom 33 = .ok (.ishl, 1) := by decide +kernel
theorem dX10_cutsFrom_34 : decode cX10_cutsFrom 34 = .ok (.ior, 1) := by decide +kernel
theorem dX10_cutsFrom_35 : decode cX10_cutsFrom 35 = .ok (.istore 5, 2) := by decide +kernel
theorem dX10_cutsFrom_37 : decode cX10_cutsFrom 37 = .ok (.iload 4, 2) := by decide +kernel
theorem dX10_cutsFrom_39 : decode cX10_cutsFrom 39 = .ok (.iload_n 1, 1) := by decide +kernel
theorem dX10_cutsFrom_40 : decode cX10_cutsFrom 40 = .ok (.if_icmp .ne 64, 3) := by decide +kernel
theorem dX10_cutsFrom_43 : decode cX10_cutsFrom 43 = .ok (.iload_n 3, 1) := by decide +kernel
theorem dX10_cutsFrom_44 : decode cX10_cutsFrom 44 = .ok (.invokestatic 355, 3) := by decide +kernel
theorem dX10_cutsFrom_47 : decode cX10_cutsFrom 47 = .ok (.iconst 1, 1) := by decide +kernel
theorem dX10_cutsFrom_48 : decode cX10_cutsFrom 48 = .ok (.isub, 1) := by decide +kernel
theorem dX10_cutsFrom_49 : decode cX10_cutsFrom 49 = .ok (.invokestatic 449, 3) := by decide +kernel
theorem dX10_cutsFrom_52 : decode cX10_cutsFrom 52 = .ok (.istore 6, 2) := by decide +kernel
theorem dX10_cutsFrom_54 : decode cX10_cutsFrom 54 = .ok (.aload_n 0, 1) := by decide +kernel
theorem dX10_cutsFrom_55 : decode cX10_cutsFrom 55 = .ok (.dup, 1) := by decide +kernel
theorem dX10_cutsFrom_56 : decode cX10_cutsFrom 56 = .ok (.getfield 452, 3) := by decide +kernel
theorem dX10_cutsFrom_59 : decode cX10_cutsFrom 59 = .ok (.iload 6, 2) := by decide +kernel
theorem dX10_cutsFrom_61 : decode cX10_cutsFrom 61 = .ok (.aload_n 0, 1) := by decide +kernel
theorem dX10_cutsFrom_62 : decode cX10_cutsFrom 62 = .ok (.getfield 65, 3) := by decide +kernel
theorem dX10_cutsFrom_65 : decode cX10_cutsFrom 65 = .ok (.iload 5, 2) := by decide +kernel
theorem dX10_cutsFrom_67 : decode cX10_cutsFrom 67 = .ok (.aload_n 0, 1) := by decide +kernel
theorem dX10_cutsFrom_68 : decode cX10_cutsFrom 68 = .ok (.getfield 455, 3) := by decide +kernel
theorem dX10_cutsFrom_71 : decode cX10_cutsFrom 71 = .ok (.iand, 1) := by decide +kernel
theorem dX10_cutsFrom_72 : decode cX10_cutsFrom 72 = .ok (.iaload, 1) := by decide +kernel
theorem dX10_cutsFrom_73 : decode cX10_cutsFrom 73 = .ok (.aload_n 0, 1) := by decide +kernel
theorem dX10_cutsFrom_74 : decode cX10_cutsFrom 74 = .ok (.getfield 65, 3) := by decide +kernel
theorem dX10_cutsFrom_77 : decode cX10_cutsFrom 77 = .ok (.iload_n 2, 1) := by decide +kernel
theorem dX10_cutsFrom_78 : decode cX10_cutsFrom 78 = .ok (.aload_n 0, 1) := by decide +kernel
theorem dX10_cutsFrom_79 : decode cX10_cutsFrom 79 = .ok (.getfield 455, 3) := by decide +kernel
theorem dX10_cutsFrom_82 : decode cX10_cutsFrom 82 = .ok (.iand, 1) := by decide +kernel
theorem dX10_cutsFrom_83 : decode cX10_cutsFrom 83 = .ok (.iaload, 1) := by decide +kernel
theorem dX10_cutsFrom_84 : decode cX10_cutsFrom 84 = .ok (.isub, 1) := by decide +kernel
theorem dX10_cutsFrom_85 : decode cX10_cutsFrom 85 = .ok (.imul, 1) := by decide +kernel
theorem dX10_cutsFrom_86 : decode cX10_cutsFrom 86 = .ok (.iadd, 1) := by decide +kernel
theorem dX10_cutsFrom_87 : decode cX10_cutsFrom 87 = .ok (.putfield 452, 3) := by decide +kernel
theorem dX10_cutsFrom_90 : decode cX10_cutsFrom 90 = .ok (.aload_n 0, 1) := by decide +kernel
theorem dX10_cutsFrom_91 : decode cX10_cutsFrom 91 = .ok (.dup, 1) := by decide +kernel
theorem dX10_cutsFrom_92 : decode cX10_cutsFrom 92 = .ok (.getfield 458, 3) := by decide +kernel
theorem dX10_cutsFrom_95 : decode cX10_cutsFrom 95 = .ok (.iload 6, 2) := by decide +kernel
theorem dX10_cutsFrom_97 : decode cX10_cutsFrom 97 = .ok (.iadd, 1) := by decide +kernel
theorem dX10_cutsFrom_98 : decode cX10_cutsFrom 98 = .ok (.putfield 458, 3) := by decide +kernel
theorem dX10_cutsFrom_101 : decode cX10_cutsFrom 101 = .ok (.goto 18, 3) := by decide +kernel
theorem dX10_cutsFrom_104 : decode cX10_cutsFrom 104 = .ok (.aload_n 0, 1) := by decide +kernel
theorem dX10_cutsFrom_105 : decode cX10_cutsFrom 105 = .ok (.iload_n 1, 1) := by decide +kernel
theorem dX10_cutsFrom_106 : decode cX10_cutsFrom 106 = .ok (.iload 5, 2) := by decide +kernel
theorem dX10_cutsFrom_108 : decode cX10_cutsFrom 108 = .ok (.iload_n 3, 1) := by decide +kernel
theorem dX10_cutsFrom_109 : decode cX10_cutsFrom 109 = .ok (.iconst 1, 1) := by decide +kernel
theorem dX10_cutsFrom_110 : decode cX10_cutsFrom 110 = .ok (.iload 4, 2) := by decide +kernel
theorem dX10_cutsFrom_112 : decode cX10_cutsFrom 112 = .ok (.ishl, 1) := by decide +kernel
theorem dX10_cutsFrom_113 : decode cX10_cutsFrom 113 = .ok (.iconst (-1), 1) := by decide +kernel
theorem dX10_cutsFrom_114 : decode cX10_cutsFrom 114 = .ok (.ixor, 1) := by decide +kernel
theorem dX10_cutsFrom_115 : decode cX10_cutsFrom 115 = .ok (.iand, 1) := by decide +kernel
theorem dX10_cutsFrom_116 : decode cX10_cutsFrom 116 = .ok (.invokevirtual 461, 3) := by decide +kernel
theorem dX10_cutsFrom_119 : decode cX10_cutsFrom 119 = .ok (.iinc 4 1, 3) := by decide +kernel
theorem dX10_cutsFrom_122 : decode cX10_cutsFrom 122 = .ok (.goto (-114), 3) := by decide +kernel
theorem dX10_cutsFrom_125 : decode cX10_cutsFrom 125 = .ok (.return_, 1) := by decide +kernel
theorem dX10_waysOf_0 : decode cX10_waysOf 0 = .ok (.iload_n 0, 1) := by decide +kernel
theorem dX10_waysOf_1 : decode cX10_waysOf 1 = .ok (.iconst 2, 1) := by decide +kernel
theorem dX10_waysOf_2 : decode cX10_waysOf 2 = .ok (.if_icmp .ge 7, 3) := by decide +kernel
theorem dX10_waysOf_5 : decode cX10_waysOf 5 = .ok (.iconst 1, 1) := by decide +kernel
theorem dX10_waysOf_6 : decode cX10_waysOf 6 = .ok (.goto 11, 3) := by decide +kernel
theorem dX10_waysOf_9 : decode cX10_waysOf 9 = .ok (.iload_n 0, 1) := by decide +kernel
theorem dX10_waysOf_10 : decode cX10_waysOf 10 = .ok (.iload_n 0, 1) := by decide +kernel
theorem dX10_waysOf_11 : decode cX10_waysOf 11 = .ok (.iconst 1, 1) := by decide +kernel
theorem dX10_waysOf_12 : decode cX10_waysOf 12 = .ok (.isub, 1) := by decide +kernel
theorem dX10_waysOf_13 : decode cX10_waysOf 13 = .ok (.invokestatic 449, 3) := by decide +kernel
theorem dX10_waysOf_16 : decode cX10_waysOf 16 = .ok (.imul, 1) := by decide +kernel
theorem dX10_waysOf_17 : decode cX10_waysOf 17 = .ok (.ireturn, 1) := by decide +kernel
theorem wd1159 : Cond.static yX10_waysOf ∈ gW := gm (tm_9 62 (by decide +kernel)) rfl
theorem wd1160 : Cond.code yX10_waysOf cX10_waysOf 1 (some .int) ∈ gW := gm (tm_9 63 (by decide +kernel)) rfl
theorem wd1161 : Cond.methodLink RX10 449 yX10_waysOf ∈ gW := gm (tm_9 61 (by decide +kernel)) rfl
theorem wd1162 : Cond.instanceMethod yX10_cutsFrom ∈ gW := gm (tm_9 59 (by decide +kernel)) rfl
theorem wd1163 : Cond.selects RX10 yX10_cutsFrom yX10_cutsFrom ∈ gW := gm (gmP 85 (by decide +kernel)) rfl
theorem wd1164 : Cond.code yX10_cutsFrom cX10_cutsFrom 7 none ∈ gW := gm (tm_9 60 (by decide +kernel)) rfl
theorem wd1165 : Cond.methodLink RX10 461 yX10_cutsFrom ∈ gW := gm (tm_9 57 (by decide +kernel)) rfl
theorem wd1166 : Cond.fieldLink RX10 452 "GooseSharesModel" "cutSum" "I" ∈ gW := gm (tm_6 128 (by decide +kernel)) rfl
theorem wd1167 : Cond.fieldLink RX10 455 "GooseSharesModel" "wanting" "I" ∈ gW := gm (tm_6 130 (by decide +kernel)) rfl
theorem wd1168 : Cond.fieldLink RX10 458 "GooseSharesModel" "cutMany" "I" ∈ gW := gm (tm_6 129 (by decide +kernel)) rfl
theorem my_X10_waysOf : gWS RX10 yX10_waysOf cX10_waysOf 1 (some .int) 1 := ⟨⟨wd1159, wd742, wd1160⟩, ⟨rfl, by decide +kernel, by decide +kernel, by decide +kernel⟩⟩
theorem my_X10_cutsFrom : gWV RX10 yX10_cutsFrom cX10_cutsFrom 7 none 3 := ⟨⟨wd1162, wd1163, wd742, wd1164⟩, ⟨rfl, by decide +kernel, by decide +kernel, by decide +kernel⟩⟩
