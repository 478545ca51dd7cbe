theorem wd1228 : Cond.instantiable RX9 11 ∈ gW := gm (tm_1 21 (by decide +kernel)) rfl
theorem wd1229 : Cond.instantiable RX10 48 ∈ gW := gm (tm_6 78 (by decide +kernel)) rfl
