def gIn (v a b : Int64) : Int32 := if lg_cmp v a < 0 then 0 else if 0 < lg_cmp v b then 0 else 1
theorem gl_cmp_lt (x y : Int64) : lg_cmp x y < 0 ↔ x.toInt < y.toInt := by
  unfold lg_cmp
  by_cases h : x > y
  · have h2 : y.toInt < x.toInt := (fa_lt64 y x).mp h
    simp only [if_pos h]
    exact ⟨fun e => absurd e (by decide), fun e => by omega⟩
  · by_cases h3 : x = y
    · subst h3
      simp only [if_neg h, if_true]
      exact ⟨fun e => absurd e (by decide), fun e => by omega⟩
    · simp only [if_neg h, if_neg h3]
      have h4 : ¬ y.toInt < x.toInt := fun e => h ((fa_lt64 y x).mpr e)
      have h5 : x.toInt ≠ y.toInt := fun e => h3 ((fa_eq64 x y).mpr e)
      exact ⟨fun _ => by omega, fun _ => by decide⟩
theorem gl_cmp_gt (x y : Int64) : 0 < lg_cmp x y ↔ y.toInt < x.toInt := by
  unfold lg_cmp
  by_cases h : x > y
  · have h2 : y.toInt < x.toInt := (fa_lt64 y x).mp h
    simp only [if_pos h]
    exact ⟨fun _ => h2, fun _ => by decide⟩
  · have h4 : ¬ y.toInt < x.toInt := fun e => h ((fa_lt64 y x).mpr e)
    by_cases h3 : x = y
    · subst h3
      simp only [if_neg h, if_true]
      exact ⟨fun e => absurd e (by decide), fun e => absurd e h4⟩
    · simp only [if_neg h, if_neg h3]
      exact ⟨fun e => absurd e (by decide), fun e => absurd e h4⟩
theorem gIn_eq (v a b : Int64) : gIn v a b = if v.toInt < a.toInt then 0 else if b.toInt < v.toInt then 0 else 1 := by
  unfold gIn
  simp only [gl_cmp_lt, gl_cmp_gt]
theorem gIn_z (v a b : Int64) : narrow .boolean (.int (gIn v a b)) = .int (gIn v a b) := by
  unfold gIn
  split
  · rfl
  · split <;> rfl
theorem gIn_none (v : Int64) : gIn v 0 (-1) = 0 := by
  rw [gIn_eq]
  have e0 : (0 : Int64).toInt = 0 := by decide
  have e1 : (-1 : Int64).toInt = -1 := by decide
  rw [e0, e1]
  split
  · rfl
  · rw [if_pos (by omega)]
theorem gIn_slot (z : Int32) : gIn z.toInt64 0 3 = gSlot z := by
  rw [gIn_eq, Int32.toInt_toInt64]
  have e0 : (0 : Int64).toInt = 0 := by decide
  have e3 : (3 : Int64).toInt = 3 := by decide
  have f0 : (0 : Int32).toInt = 0 := by decide
  have f4 : (4 : Int32).toInt = 4 := by decide
  unfold gSlot
  simp only [fa_lt, fa_le, e0, e3, f0, f4]
  split
  · rfl
  · by_cases h : 4 ≤ z.toInt
    · rw [if_pos h, if_pos (by omega)]
    · rw [if_neg h, if_neg (by omega)]
set_option maxHeartbeats 4000000 in
set_option maxRecDepth 100000 in
theorem m_in (l : Launch) (E : gE) (L : List Nat) (f : gF) (p0 p1 p2 : Int64) : gMi l E yX10_in cX10_in 6 .boolean (gRm 1 0 0) [.long p0, .long p1, .long p2] L f (gRO (gIn p0 p1 p2) L f) := by
  refine gMi.intro (by decide) (Nat.le_of_ble_eq_true rfl) ?_
  intro p e s m below meth c A ls C hr hA hH hl
  have C : gC E cX10_in 6 RX10 p s m _ meth c := C
  have hl : lv_has ls 6 [(0, .long p0), (2, .long p1), (4, .long p2)] := hl
  have hx := C.1
  have hb := C.2.1
  refine lv_lload_n hx hb dX10_in_0 rfl (lv_at hl 0 rfl) ?_
  refine lv_lload_n hx hb dX10_in_1 rfl (lv_at hl 1 rfl) ?_
  refine W.lcmp hx hb dX10_in_2 ?_
  refine lv_if_lt (tgt := 17) hx hb dX10_in_3 (by decide) (fun c1 => ?_) (fun c1 => ?_)
  · skip
    refine lv_iconst (v := (0 : Int32)) hx hb dX10_in_17 (by decide) ?_
    refine g_zret C hr (by first | rfl | decide | (exact rfl)) hH (Nat.le_of_ble_eq_true rfl) (Nat.le_of_ble_eq_true rfl) dX10_in_18 ?_
    exact ⟨by rw [gIn, if_pos c1], rfl, rfl⟩
  · skip
    refine lv_lload_n hx hb dX10_in_6 rfl (lv_at hl 0 rfl) ?_
    refine lv_lload hx hb dX10_in_7 (lv_at hl 2 rfl) ?_
    refine W.lcmp hx hb dX10_in_9 ?_
    refine lv_if_gt (tgt := 17) hx hb dX10_in_10 (by decide) (fun c2 => ?_) (fun c2 => ?_)
    · skip
      refine lv_iconst (v := (0 : Int32)) hx hb dX10_in_17 (by decide) ?_
      refine g_zret C hr (by first | rfl | decide | (exact rfl)) hH (Nat.le_of_ble_eq_true rfl) (Nat.le_of_ble_eq_true rfl) dX10_in_18 ?_
      exact ⟨by rw [gIn, if_neg c1, if_pos c2], rfl, rfl⟩
    · skip
      refine lv_iconst (v := (1 : Int32)) hx hb dX10_in_13 (by decide) ?_
      refine lv_goto (tgt := 18) hx hb dX10_in_14 (by decide) ?_
      refine g_zret C hr (by first | rfl | decide | (exact rfl)) hH (Nat.le_of_ble_eq_true rfl) (Nat.le_of_ble_eq_true rfl) dX10_in_18 ?_
      exact ⟨by rw [gIn, if_neg c1, if_neg c2], rfl, rfl⟩
set_option maxHeartbeats 4000000 in
set_option maxRecDepth 100000 in
theorem m_isSlot (l : Launch) (E : gE) (L : List Nat) (f : gF) (p0 : Int32) : gMi l E yX10_isSlot cX10_isSlot 1 .boolean (gRm 2 0 0) [.int p0] L f (gRO (gSlot p0) L f) := by
  refine gMi.intro (by decide) (Nat.le_of_ble_eq_true rfl) ?_
  intro p e s m below meth c A ls C hr hA hH hl
  have C : gC E cX10_isSlot 1 RX10 p s m _ meth c := C
  have hl : lv_has ls 1 [(0, .int p0)] := hl
  have hx := C.1
  have hb := C.2.1
  refine lv_iload_n hx hb dX10_isSlot_0 rfl (lv_at hl 0 rfl) ?_
  refine lv_i2l (v := (p0).toInt64) hx hb dX10_isSlot_1 rfl ?_
  refine lv_lconst (v := (0 : Int64)) hx hb dX10_isSlot_2 (by decide) ?_
  refine lv_ldc2 hx hb C.2.2.2.1 (C.2.2.2.2.1 _ wd238) dX10_isSlot_3 ?_
  refine g_Si C hl.1 hA hH (As := [.long (p0).toInt64, .long (0 : Int64), .long (3 : Int64)]) (rest := []) (m_in l E L f (p0).toInt64 (0 : Int64) (3 : Int64)) my_X10_in wd242 rfl rfl (Nat.le_of_ble_eq_true rfl) ⟨Nat.le_of_ble_eq_true rfl, Nat.le_of_ble_eq_true rfl⟩ ⟨Nat.le_of_ble_eq_true rfl, Nat.le_of_ble_eq_true rfl⟩ dX10_isSlot_6 (fun r3 L2 f1 H locs hp hH => ?_)
  obtain ⟨er3, rfl, rfl⟩ := hp
  subst er3
  refine g_zret C hr (by first | rfl | decide | (exact gIn_z _ _ _)) hH (Nat.le_of_ble_eq_true rfl) (Nat.le_of_ble_eq_true rfl) dX10_isSlot_9 ?_
  exact ⟨gIn_slot p0, rfl, rfl⟩
set_option maxHeartbeats 4000000 in
set_option maxRecDepth 100000 in
theorem m_isSeed (l : Launch) (E : gE) (L : List Nat) (f : gF) (p0 : Int32) : gMi l E yX10_isSeed cX10_isSeed 1 .boolean (gRm 2 0 0) [.int p0] L f (gRO (gIn (p0).toInt64 (0 : Int64) (2000000000 : Int64)) L f) := by
  refine gMi.intro (by decide) (Nat.le_of_ble_eq_true rfl) ?_
  intro p e s m below meth c A ls C hr hA hH hl
  have C : gC E cX10_isSeed 1 RX10 p s m _ meth c := C
  have hl : lv_has ls 1 [(0, .int p0)] := hl
  have hx := C.1
  have hb := C.2.1
  refine lv_iload_n hx hb dX10_isSeed_0 rfl (lv_at hl 0 rfl) ?_
  refine lv_i2l (v := (p0).toInt64) hx hb dX10_isSeed_1 rfl ?_
  refine lv_lconst (v := (0 : Int64)) hx hb dX10_isSeed_2 (by decide) ?_
  refine lv_ldc2 hx hb C.2.2.2.1 (C.2.2.2.2.1 _ wd243) dX10_isSeed_3 ?_
  refine g_Si C hl.1 hA hH (As := [.long (p0).toInt64, .long (0 : Int64), .long (2000000000 : Int64)]) (rest := []) (m_in l E L f (p0).toInt64 (0 : Int64) (2000000000 : Int64)) my_X10_in wd242 rfl rfl (Nat.le_of_ble_eq_true rfl) ⟨Nat.le_of_ble_eq_true rfl, Nat.le_of_ble_eq_true rfl⟩ ⟨Nat.le_of_ble_eq_true rfl, Nat.le_of_ble_eq_true rfl⟩ dX10_isSeed_6 (fun r3 L2 f1 H locs hp hH => ?_)
  obtain ⟨er3, rfl, rfl⟩ := hp
  subst er3
  refine g_zret C hr (by first | rfl | decide | (exact gIn_z _ _ _)) hH (Nat.le_of_ble_eq_true rfl) (Nat.le_of_ble_eq_true rfl) dX10_isSeed_9 ?_
  exact ⟨rfl, rfl, rfl⟩
set_option maxHeartbeats 4000000 in
set_option maxRecDepth 100000 in
theorem m_isStep (l : Launch) (E : gE) (L : List Nat) (f : gF) (p0 : Int32) : gMi l E yX10_isStep cX10_isStep 1 .boolean (gRm 2 0 0) [.int p0] L f (gRO (gIn (p0).toInt64 (0 : Int64) (40 : Int64)) L f) := by
  refine gMi.intro (by decide) (Nat.le_of_ble_eq_true rfl) ?_
  intro p e s m below meth c A ls C hr hA hH hl
  have C : gC E cX10_isStep 1 RX10 p s m _ meth c := C
  have hl : lv_has ls 1 [(0, .int p0)] := hl
  have hx := C.1
  have hb := C.2.1
  refine lv_iload_n hx hb dX10_isStep_0 rfl (lv_at hl 0 rfl) ?_
  refine lv_i2l (v := (p0).toInt64) hx hb dX10_isStep_1 rfl ?_
  refine lv_lconst (v := (0 : Int64)) hx hb dX10_isStep_2 (by decide) ?_
  refine lv_ldc2 hx hb C.2.2.2.1 (C.2.2.2.2.1 _ wd244) dX10_isStep_3 ?_
  refine g_Si C hl.1 hA hH (As := [.long (p0).toInt64, .long (0 : Int64), .long (40 : Int64)]) (rest := []) (m_in l E L f (p0).toInt64 (0 : Int64) (40 : Int64)) my_X10_in wd242 rfl rfl (Nat.le_of_ble_eq_true rfl) ⟨Nat.le_of_ble_eq_true rfl, Nat.le_of_ble_eq_true rfl⟩ ⟨Nat.le_of_ble_eq_true rfl, Nat.le_of_ble_eq_true rfl⟩ dX10_isStep_6 (fun r3 L2 f1 H locs hp hH => ?_)
  obtain ⟨er3, rfl, rfl⟩ := hp
  subst er3
  refine g_zret C hr (by first | rfl | decide | (exact gIn_z _ _ _)) hH (Nat.le_of_ble_eq_true rfl) (Nat.le_of_ble_eq_true rfl) dX10_isStep_9 ?_
  exact ⟨rfl, rfl, rfl⟩
set_option maxHeartbeats 4000000 in
set_option maxRecDepth 100000 in
theorem m_isHalf (l : Launch) (E : gE) (L : List Nat) (f : gF) (p0 : Int32) : gMi l E yX10_isHalf cX10_isHalf 1 .boolean (gRm 2 0 0) [.int p0] L f (gRO (gIn (p0).toInt64 (0 : Int64) (1 : Int64)) L f) := by
  refine gMi.intro (by decide) (Nat.le_of_ble_eq_true rfl) ?_
  intro p e s m below meth c A ls C hr hA hH hl
  have C : gC E cX10_isHalf 1 RX10 p s m _ meth c := C
  have hl : lv_has ls 1 [(0, .int p0)] := hl
  have hx := C.1
  have hb := C.2.1
  refine lv_iload_n hx hb dX10_isHalf_0 rfl (lv_at hl 0 rfl) ?_
  refine lv_i2l (v := (p0).toInt64) hx hb dX10_isHalf_1 rfl ?_
  refine lv_lconst (v := (0 : Int64)) hx hb dX10_isHalf_2 (by decide) ?_
  refine lv_lconst (v := (1 : Int64)) hx hb dX10_isHalf_3 (by decide) ?_
  refine g_Si C hl.1 hA hH (As := [.long (p0).toInt64, .long (0 : Int64), .long (1 : Int64)]) (rest := []) (m_in l E L f (p0).toInt64 (0 : Int64) (1 : Int64)) my_X10_in wd242 rfl rfl (Nat.le_of_ble_eq_true rfl) ⟨Nat.le_of_ble_eq_true rfl, Nat.le_of_ble_eq_true rfl⟩ ⟨Nat.le_of_ble_eq_true rfl, Nat.le_of_ble_eq_true rfl⟩ dX10_isHalf_4 (fun r3 L2 f1 H locs hp hH => ?_)
  obtain ⟨er3, rfl, rfl⟩ := hp
  subst er3
  refine g_zret C hr (by first | rfl | decide | (exact gIn_z _ _ _)) hH (Nat.le_of_ble_eq_true rfl) (Nat.le_of_ble_eq_true rfl) dX10_isHalf_7 ?_
  exact ⟨rfl, rfl, rfl⟩
set_option maxHeartbeats 4000000 in
set_option maxRecDepth 100000 in
theorem m_isLand (l : Launch) (E : gE) (L : List Nat) (f : gF) {y : Nat} {ya : Nat → Nat} (my : y ∈ L) (fy : f y = .inr (10, [.int (0 : Int32), .ref (ya 1), .ref (ya 2), .ref (ya 3), .ref (ya 4), .ref (ya 5), .int (0 : Int32), .int (0 : Int32), .int (0 : Int32), .int (0 : Int32), .int (0 : Int32), .long (0 : Int64), .int (0 : Int32), .int (0 : Int32), .int (0 : Int32), .int (-1 : Int32), .ref (ya 16), .ref (ya 17), .ref (ya 18), .ref (ya 19), .ref (ya 20), .ref (ya 21), .int (0 : Int32), .int (0 : Int32), .int (0 : Int32), .ref (ya 25), .ref (ya 26), .ref (ya 27), .ref (ya 28), .ref (ya 29), .ref (ya 30), .ref (ya 31), .ref (ya 32), .ref (ya 33), .ref (ya 34), .ref (ya 35), .int (0 : Int32), .int (0 : Int32), .ref (ya 38), .int (0 : Int32), .int (0 : Int32), .ref (ya 41), .ref (ya 42), .int (0 : Int32), .int (0 : Int32), .int (0 : Int32), .int (0 : Int32), .int (0 : Int32)])) (m_lines : (ya 16) ∈ L) (f_lines : f (ya 16) = .inl (E.2.2 1, 5, .inl (fun _ => 0))) (m_has : (ya 17) ∈ L) (f_has : f (ya 17) = .inl (E.2.2 1, 45, .inl (fun _ => 0)))  : gMi l E yX10_isLand cX10_isLand 1 .boolean (gRm 1 0 0) [.ref y] L f (gRO (0 : Int32) L f) := by
  refine gMi.intro (by decide) (Nat.le_of_ble_eq_true rfl) ?_
  intro p e s m below meth c A ls C hr hA hH hl
  have C : gC E cX10_isLand 1 RX10 p s m _ meth c := C
  have hl : lv_has ls 1 [(0, .ref y)] := hl
  have hx := C.1
  have hb := C.2.1
  refine lv_aload_n hx hb dX10_isLand_0 rfl (lv_at hl 0 rfl) ?_
  refine g_get C hH my fy iX10 rfl 16 (by decide) wd245 rfl rfl dX10_isLand_1 ?_
  refine lv_iconst (v := (0 : Int32)) hx hb dX10_isLand_4 (by decide) ?_
  refine g_iald C hH m_lines f_lines (vp_inL (by decide)) dX10_isLand_5 ?_
  refine lv_if_le (tgt := 13) hx hb dX10_isLand_6 (by decide) (fun _ => ?_) (fun h => absurd (by decide) h)
  refine lv_iconst (v := (0 : Int32)) hx hb dX10_isLand_13 (by decide) ?_
  refine g_zret C hr (by first | rfl | decide | (exact gIn_z _ _ _)) hH (Nat.le_of_ble_eq_true rfl) (Nat.le_of_ble_eq_true rfl) dX10_isLand_14 ?_
  exact ⟨rfl, rfl, rfl⟩
set_option maxHeartbeats 4000000 in
set_option maxRecDepth 100000 in
theorem m_cellsAll (l : Launch) (E : gE) (L : List Nat) (f : gF) {y : Nat} {ya : Nat → Nat} (my : y ∈ L) (fy : f y = .inr (10, [.int (0 : Int32), .ref (ya 1), .ref (ya 2), .ref (ya 3), .ref (ya 4), .ref (ya 5), .int (0 : Int32), .int (0 : Int32), .int (0 : Int32), .int (0 : Int32), .int (0 : Int32), .long (0 : Int64), .int (0 : Int32), .int (0 : Int32), .int (0 : Int32), .int (-1 : Int32), .ref (ya 16), .ref (ya 17), .ref (ya 18), .ref (ya 19), .ref (ya 20), .ref (ya 21), .int (0 : Int32), .int (0 : Int32), .int (0 : Int32), .ref (ya 25), .ref (ya 26), .ref (ya 27), .ref (ya 28), .ref (ya 29), .ref (ya 30), .ref (ya 31), .ref (ya 32), .ref (ya 33), .ref (ya 34), .ref (ya 35), .int (0 : Int32), .int (0 : Int32), .ref (ya 38), .int (0 : Int32), .int (0 : Int32), .ref (ya 41), .ref (ya 42), .int (0 : Int32), .int (0 : Int32), .int (0 : Int32), .int (0 : Int32), .int (0 : Int32)])) (m_lines : (ya 16) ∈ L) (f_lines : f (ya 16) = .inl (E.2.2 1, 5, .inl (fun _ => 0))) (m_has : (ya 17) ∈ L) (f_has : f (ya 17) = .inl (E.2.2 1, 45, .inl (fun _ => 0)))  : gMi l E yX10_cellsAll cX10_cellsAll 1 .int (gRm 1 0 0) [.ref y] L f (gRO (0 : Int32) L f) := by
  refine gMi.intro (by decide) (Nat.le_of_ble_eq_true rfl) ?_
  intro p e s m below meth c A ls C hr hA hH hl
  have C : gC E cX10_cellsAll 1 RX10 p s m _ meth c := C
  have hl : lv_has ls 1 [(0, .ref y)] := hl
  have hx := C.1
  have hb := C.2.1
  refine lv_aload_n hx hb dX10_cellsAll_0 rfl (lv_at hl 0 rfl) ?_
  refine g_get C hH my fy iX10 rfl 17 (by decide) wd246 rfl rfl dX10_cellsAll_1 ?_
  refine lv_iconst (v := (0 : Int32)) hx hb dX10_cellsAll_4 (by decide) ?_
  refine g_iald C hH m_has f_has (vp_inL (by decide)) dX10_cellsAll_5 ?_
  refine lv_aload_n hx hb dX10_cellsAll_6 rfl (lv_at hl 0 rfl) ?_
  refine g_get C hH my fy iX10 rfl 17 (by decide) wd246 rfl rfl dX10_cellsAll_7 ?_
  refine lv_iconst (v := (1 : Int32)) hx hb dX10_cellsAll_10 (by decide) ?_
  refine g_iald C hH m_has f_has (vp_inL (by decide)) dX10_cellsAll_11 ?_
  refine lv_imul hx hb dX10_cellsAll_12 ?_
  refine lv_topi (fun z1 ez1 => ?_)
  obtain rfl : z1 = (0 : Int32) := ez1.trans (by decide)
  refine g_iret C hr hH (Nat.le_of_ble_eq_true rfl) (Nat.le_of_ble_eq_true rfl) dX10_cellsAll_13 ?_
  exact ⟨rfl, rfl, rfl⟩
set_option maxHeartbeats 4000000 in
set_option maxRecDepth 100000 in
theorem m_flights (l : Launch) (E : gE) (L : List Nat) (f : gF) {y : Nat} {ya : Nat → Nat} (my : y ∈ L) (fy : f y = .inr (10, [.int (0 : Int32), .ref (ya 1), .ref (ya 2), .ref (ya 3), .ref (ya 4), .ref (ya 5), .int (0 : Int32), .int (0 : Int32), .int (0 : Int32), .int (0 : Int32), .int (0 : Int32), .long (0 : Int64), .int (0 : Int32), .int (0 : Int32), .int (0 : Int32), .int (-1 : Int32), .ref (ya 16), .ref (ya 17), .ref (ya 18), .ref (ya 19), .ref (ya 20), .ref (ya 21), .int (0 : Int32), .int (0 : Int32), .int (0 : Int32), .ref (ya 25), .ref (ya 26), .ref (ya 27), .ref (ya 28), .ref (ya 29), .ref (ya 30), .ref (ya 31), .ref (ya 32), .ref (ya 33), .ref (ya 34), .ref (ya 35), .int (0 : Int32), .int (0 : Int32), .ref (ya 38), .int (0 : Int32), .int (0 : Int32), .ref (ya 41), .ref (ya 42), .int (0 : Int32), .int (0 : Int32), .int (0 : Int32), .int (0 : Int32), .int (0 : Int32)])) (m_lines : (ya 16) ∈ L) (f_lines : f (ya 16) = .inl (E.2.2 1, 5, .inl (fun _ => 0))) (m_has : (ya 17) ∈ L) (f_has : f (ya 17) = .inl (E.2.2 1, 45, .inl (fun _ => 0)))  : gMi l E yX10_flights cX10_flights 1 .int (gRm 1 0 0) [.ref y] L f (gRO (0 : Int32) L f) := by
  refine gMi.intro (by decide) (Nat.le_of_ble_eq_true rfl) ?_
  intro p e s m below meth c A ls C hr hA hH hl
  have C : gC E cX10_flights 1 RX10 p s m _ meth c := C
  have hl : lv_has ls 1 [(0, .ref y)] := hl
  have hx := C.1
  have hb := C.2.1
  refine lv_aload_n hx hb dX10_flights_0 rfl (lv_at hl 0 rfl) ?_
  refine g_get C hH my fy iX10 rfl 17 (by decide) wd246 rfl rfl dX10_flights_1 ?_
  refine lv_iconst (v := (5 : Int32)) hx hb dX10_flights_4 (by decide) ?_
  refine g_iald C hH m_has f_has (vp_inL (by decide)) dX10_flights_5 ?_
  refine g_iret C hr hH (Nat.le_of_ble_eq_true rfl) (Nat.le_of_ble_eq_true rfl) dX10_flights_6 ?_
  exact ⟨rfl, rfl, rfl⟩
set_option maxHeartbeats 4000000 in
set_option maxRecDepth 100000 in
theorem m_members (l : Launch) (E : gE) (L : List Nat) (f : gF) {y : Nat} {ya : Nat → Nat} (my : y ∈ L) (fy : f y = .inr (10, [.int (0 : Int32), .ref (ya 1), .ref (ya 2), .ref (ya 3), .ref (ya 4), .ref (ya 5), .int (0 : Int32), .int (0 : Int32), .int (0 : Int32), .int (0 : Int32), .int (0 : Int32), .long (0 : Int64), .int (0 : Int32), .int (0 : Int32), .int (0 : Int32), .int (-1 : Int32), .ref (ya 16), .ref (ya 17), .ref (ya 18), .ref (ya 19), .ref (ya 20), .ref (ya 21), .int (0 : Int32), .int (0 : Int32), .int (0 : Int32), .ref (ya 25), .ref (ya 26), .ref (ya 27), .ref (ya 28), .ref (ya 29), .ref (ya 30), .ref (ya 31), .ref (ya 32), .ref (ya 33), .ref (ya 34), .ref (ya 35), .int (0 : Int32), .int (0 : Int32), .ref (ya 38), .int (0 : Int32), .int (0 : Int32), .ref (ya 41), .ref (ya 42), .int (0 : Int32), .int (0 : Int32), .int (0 : Int32), .int (0 : Int32), .int (0 : Int32)])) (m_lines : (ya 16) ∈ L) (f_lines : f (ya 16) = .inl (E.2.2 1, 5, .inl (fun _ => 0))) (m_has : (ya 17) ∈ L) (f_has : f (ya 17) = .inl (E.2.2 1, 45, .inl (fun _ => 0)))  : gMi l E yX10_members cX10_members 1 .int (gRm 1 0 0) [.ref y] L f (gRO (0 : Int32) L f) := by
  refine gMi.intro (by decide) (Nat.le_of_ble_eq_true rfl) ?_
  intro p e s m below meth c A ls C hr hA hH hl
  have C : gC E cX10_members 1 RX10 p s m _ meth c := C
  have hl : lv_has ls 1 [(0, .ref y)] := hl
  have hx := C.1
  have hb := C.2.1
  refine lv_aload_n hx hb dX10_members_0 rfl (lv_at hl 0 rfl) ?_
  refine g_get C hH my fy iX10 rfl 17 (by decide) wd246 rfl rfl dX10_members_1 ?_
  refine lv_bipush (v := (6 : Int32)) hx hb dX10_members_4 (by decide) ?_
  refine g_iald C hH m_has f_has (vp_inL (by decide)) dX10_members_6 ?_
  refine g_iret C hr hH (Nat.le_of_ble_eq_true rfl) (Nat.le_of_ble_eq_true rfl) dX10_members_7 ?_
  exact ⟨rfl, rfl, rfl⟩
set_option maxHeartbeats 4000000 in
set_option maxRecDepth 100000 in
theorem m_isCell (l : Launch) (E : gE) (L : List Nat) (f : gF) {y : Nat} {ya : Nat → Nat} (my : y ∈ L) (fy : f y = .inr (10, [.int (0 : Int32), .ref (ya 1), .ref (ya 2), .ref (ya 3), .ref (ya 4), .ref (ya 5), .int (0 : Int32), .int (0 : Int32), .int (0 : Int32), .int (0 : Int32), .int (0 : Int32), .long (0 : Int64), .int (0 : Int32), .int (0 : Int32), .int (0 : Int32), .int (-1 : Int32), .ref (ya 16), .ref (ya 17), .ref (ya 18), .ref (ya 19), .ref (ya 20), .ref (ya 21), .int (0 : Int32), .int (0 : Int32), .int (0 : Int32), .ref (ya 25), .ref (ya 26), .ref (ya 27), .ref (ya 28), .ref (ya 29), .ref (ya 30), .ref (ya 31), .ref (ya 32), .ref (ya 33), .ref (ya 34), .ref (ya 35), .int (0 : Int32), .int (0 : Int32), .ref (ya 38), .int (0 : Int32), .int (0 : Int32), .ref (ya 41), .ref (ya 42), .int (0 : Int32), .int (0 : Int32), .int (0 : Int32), .int (0 : Int32), .int (0 : Int32)])) (m_lines : (ya 16) ∈ L) (f_lines : f (ya 16) = .inl (E.2.2 1, 5, .inl (fun _ => 0))) (m_has : (ya 17) ∈ L) (f_has : f (ya 17) = .inl (E.2.2 1, 45, .inl (fun _ => 0))) (p0 : Int64) : gMi l E yX10_isCell cX10_isCell 3 .boolean (gRm 2 0 0) [.ref y, .long p0] L f (gRO (0 : Int32) L f) := by
  refine gMi.intro (by decide) (Nat.le_of_ble_eq_true rfl) ?_
  intro p e s m below meth c A ls C hr hA hH hl
  have C : gC E cX10_isCell 3 RX10 p s m _ meth c := C
  have hl : lv_has ls 3 [(0, .ref y), (1, .long p0)] := hl
  have hx := C.1
  have hb := C.2.1
  refine lv_lload_n hx hb dX10_isCell_0 rfl (lv_at hl 1 rfl) ?_
  refine lv_lconst (v := (0 : Int64)) hx hb dX10_isCell_1 (by decide) ?_
  refine lv_aload_n hx hb dX10_isCell_2 rfl (lv_at hl 0 rfl) ?_
  refine g_Vi C hl.1 hA hH (As := []) (rest := [.long (0 : Int64), .long p0]) (m_cellsAll l E L f my fy m_lines f_lines m_has f_has) my_X10_cellsAll wd250 my fy rfl rfl rfl (Nat.le_of_ble_eq_true rfl) ⟨Nat.le_of_ble_eq_true rfl, Nat.le_of_ble_eq_true rfl⟩ ⟨Nat.le_of_ble_eq_true rfl, Nat.le_of_ble_eq_true rfl⟩ dX10_isCell_3 (fun r3 L2 f1 H locs hp hH => ?_)
  obtain ⟨er3, rfl, rfl⟩ := hp
  subst er3
  refine lv_i2l (v := (0 : Int64)) hx hb dX10_isCell_6 (by decide) ?_
  refine lv_lconst (v := (1 : Int64)) hx hb dX10_isCell_7 (by decide) ?_
  refine lv_lsub hx hb dX10_isCell_8 ?_
  refine lv_topl (fun z4 ez4 => ?_)
  obtain rfl : z4 = (-1 : Int64) := ez4.trans (by decide)
  refine g_Si C hl.1 hA hH (As := [.long p0, .long (0 : Int64), .long (-1 : Int64)]) (rest := []) (m_in l E L f p0 (0 : Int64) (-1 : Int64)) my_X10_in wd242 rfl rfl (Nat.le_of_ble_eq_true rfl) ⟨Nat.le_of_ble_eq_true rfl, Nat.le_of_ble_eq_true rfl⟩ ⟨Nat.le_of_ble_eq_true rfl, Nat.le_of_ble_eq_true rfl⟩ dX10_isCell_9 (fun r7 L6 f5 H locs hp hH => ?_)
  obtain ⟨er7, rfl, rfl⟩ := hp
  subst er7
  refine g_zret C hr (by first | rfl | decide | (exact gIn_z _ _ _)) hH (Nat.le_of_ble_eq_true rfl) (Nat.le_of_ble_eq_true rfl) dX10_isCell_12 ?_
  exact ⟨gIn_none _, rfl, rfl⟩
set_option maxHeartbeats 4000000 in
set_option maxRecDepth 100000 in
theorem m_isFlight (l : Launch) (E : gE) (L : List Nat) (f : gF) {y : Nat} {ya : Nat → Nat} (my : y ∈ L) (fy : f y = .inr (10, [.int (0 : Int32), .ref (ya 1), .ref (ya 2), .ref (ya 3), .ref (ya 4), .ref (ya 5), .int (0 : Int32), .int (0 : Int32), .int (0 : Int32), .int (0 : Int32), .int (0 : Int32), .long (0 : Int64), .int (0 : Int32), .int (0 : Int32), .int (0 : Int32), .int (-1 : Int32), .ref (ya 16), .ref (ya 17), .ref (ya 18), .ref (ya 19), .ref (ya 20), .ref (ya 21), .int (0 : Int32), .int (0 : Int32), .int (0 : Int32), .ref (ya 25), .ref (ya 26), .ref (ya 27), .ref (ya 28), .ref (ya 29), .ref (ya 30), .ref (ya 31), .ref (ya 32), .ref (ya 33), .ref (ya 34), .ref (ya 35), .int (0 : Int32), .int (0 : Int32), .ref (ya 38), .int (0 : Int32), .int (0 : Int32), .ref (ya 41), .ref (ya 42), .int (0 : Int32), .int (0 : Int32), .int (0 : Int32), .int (0 : Int32), .int (0 : Int32)])) (m_lines : (ya 16) ∈ L) (f_lines : f (ya 16) = .inl (E.2.2 1, 5, .inl (fun _ => 0))) (m_has : (ya 17) ∈ L) (f_has : f (ya 17) = .inl (E.2.2 1, 45, .inl (fun _ => 0))) (p0 : Int64) : gMi l E yX10_isFlight cX10_isFlight 3 .boolean (gRm 2 0 0) [.ref y, .long p0] L f (gRO (0 : Int32) L f) := by
  refine gMi.intro (by decide) (Nat.le_of_ble_eq_true rfl) ?_
  intro p e s m below meth c A ls C hr hA hH hl
  have C : gC E cX10_isFlight 3 RX10 p s m _ meth c := C
  have hl : lv_has ls 3 [(0, .ref y), (1, .long p0)] := hl
  have hx := C.1
  have hb := C.2.1
  refine lv_lload_n hx hb dX10_isFlight_0 rfl (lv_at hl 1 rfl) ?_
  refine lv_lconst (v := (0 : Int64)) hx hb dX10_isFlight_1 (by decide) ?_
  refine lv_aload_n hx hb dX10_isFlight_2 rfl (lv_at hl 0 rfl) ?_
  refine g_Vi C hl.1 hA hH (As := []) (rest := [.long (0 : Int64), .long p0]) (m_flights l E L f my fy m_lines f_lines m_has f_has) my_X10_flights wd254 my fy rfl rfl rfl (Nat.le_of_ble_eq_true rfl) ⟨Nat.le_of_ble_eq_true rfl, Nat.le_of_ble_eq_true rfl⟩ ⟨Nat.le_of_ble_eq_true rfl, Nat.le_of_ble_eq_true rfl⟩ dX10_isFlight_3 (fun r3 L2 f1 H locs hp hH => ?_)
  obtain ⟨er3, rfl, rfl⟩ := hp
  subst er3
  refine lv_i2l (v := (0 : Int64)) hx hb dX10_isFlight_6 (by decide) ?_
  refine lv_lconst (v := (1 : Int64)) hx hb dX10_isFlight_7 (by decide) ?_
  refine lv_lsub hx hb dX10_isFlight_8 ?_
  refine lv_topl (fun z4 ez4 => ?_)
  obtain rfl : z4 = (-1 : Int64) := ez4.trans (by decide)
  refine g_Si C hl.1 hA hH (As := [.long p0, .long (0 : Int64), .long (-1 : Int64)]) (rest := []) (m_in l E L f p0 (0 : Int64) (-1 : Int64)) my_X10_in wd242 rfl rfl (Nat.le_of_ble_eq_true rfl) ⟨Nat.le_of_ble_eq_true rfl, Nat.le_of_ble_eq_true rfl⟩ ⟨Nat.le_of_ble_eq_true rfl, Nat.le_of_ble_eq_true rfl⟩ dX10_isFlight_9 (fun r7 L6 f5 H locs hp hH => ?_)
  obtain ⟨er7, rfl, rfl⟩ := hp
  subst er7
  refine g_zret C hr (by first | rfl | decide | (exact gIn_z _ _ _)) hH (Nat.le_of_ble_eq_true rfl) (Nat.le_of_ble_eq_true rfl) dX10_isFlight_12 ?_
  exact ⟨gIn_none _, rfl, rfl⟩
set_option maxHeartbeats 4000000 in
set_option maxRecDepth 100000 in
theorem m_isMember (l : Launch) (E : gE) (L : List Nat) (f : gF) {y : Nat} {ya : Nat → Nat} (my : y ∈ L) (fy : f y = .inr (10, [.int (0 : Int32), .ref (ya 1), .ref (ya 2), .ref (ya 3), .ref (ya 4), .ref (ya 5), .int (0 : Int32), .int (0 : Int32), .int (0 : Int32), .int (0 : Int32), .int (0 : Int32), .long (0 : Int64), .int (0 : Int32), .int (0 : Int32), .int (0 : Int32), .int (-1 : Int32), .ref (ya 16), .ref (ya 17), .ref (ya 18), .ref (ya 19), .ref (ya 20), .ref (ya 21), .int (0 : Int32), .int (0 : Int32), .int (0 : Int32), .ref (ya 25), .ref (ya 26), .ref (ya 27), .ref (ya 28), .ref (ya 29), .ref (ya 30), .ref (ya 31), .ref (ya 32), .ref (ya 33), .ref (ya 34), .ref (ya 35), .int (0 : Int32), .int (0 : Int32), .ref (ya 38), .int (0 : Int32), .int (0 : Int32), .ref (ya 41), .ref (ya 42), .int (0 : Int32), .int (0 : Int32), .int (0 : Int32), .int (0 : Int32), .int (0 : Int32)])) (m_lines : (ya 16) ∈ L) (f_lines : f (ya 16) = .inl (E.2.2 1, 5, .inl (fun _ => 0))) (m_has : (ya 17) ∈ L) (f_has : f (ya 17) = .inl (E.2.2 1, 45, .inl (fun _ => 0))) (p0 : Int64) : gMi l E yX10_isMember cX10_isMember 3 .boolean (gRm 2 0 0) [.ref y, .long p0] L f (gRO (0 : Int32) L f) := by
  refine gMi.intro (by decide) (Nat.le_of_ble_eq_true rfl) ?_
  intro p e s m below meth c A ls C hr hA hH hl
  have C : gC E cX10_isMember 3 RX10 p s m _ meth c := C
  have hl : lv_has ls 3 [(0, .ref y), (1, .long p0)] := hl
  have hx := C.1
  have hb := C.2.1
  refine lv_lload_n hx hb dX10_isMember_0 rfl (lv_at hl 1 rfl) ?_
  refine lv_lconst (v := (0 : Int64)) hx hb dX10_isMember_1 (by decide) ?_
  refine lv_aload_n hx hb dX10_isMember_2 rfl (lv_at hl 0 rfl) ?_
  refine g_Vi C hl.1 hA hH (As := []) (rest := [.long (0 : Int64), .long p0]) (m_members l E L f my fy m_lines f_lines m_has f_has) my_X10_members wd258 my fy rfl rfl rfl (Nat.le_of_ble_eq_true rfl) ⟨Nat.le_of_ble_eq_true rfl, Nat.le_of_ble_eq_true rfl⟩ ⟨Nat.le_of_ble_eq_true rfl, Nat.le_of_ble_eq_true rfl⟩ dX10_isMember_3 (fun r3 L2 f1 H locs hp hH => ?_)
  obtain ⟨er3, rfl, rfl⟩ := hp
  subst er3
  refine lv_i2l (v := (0 : Int64)) hx hb dX10_isMember_6 (by decide) ?_
  refine lv_lconst (v := (1 : Int64)) hx hb dX10_isMember_7 (by decide) ?_
  refine lv_lsub hx hb dX10_isMember_8 ?_
  refine lv_topl (fun z4 ez4 => ?_)
  obtain rfl : z4 = (-1 : Int64) := ez4.trans (by decide)
  refine g_Si C hl.1 hA hH (As := [.long p0, .long (0 : Int64), .long (-1 : Int64)]) (rest := []) (m_in l E L f p0 (0 : Int64) (-1 : Int64)) my_X10_in wd242 rfl rfl (Nat.le_of_ble_eq_true rfl) ⟨Nat.le_of_ble_eq_true rfl, Nat.le_of_ble_eq_true rfl⟩ ⟨Nat.le_of_ble_eq_true rfl, Nat.le_of_ble_eq_true rfl⟩ dX10_isMember_9 (fun r7 L6 f5 H locs hp hH => ?_)
  obtain ⟨er7, rfl, rfl⟩ := hp
  subst er7
  refine g_zret C hr (by first | rfl | decide | (exact gIn_z _ _ _)) hH (Nat.le_of_ble_eq_true rfl) (Nat.le_of_ble_eq_true rfl) dX10_isMember_12 ?_
  exact ⟨gIn_none _, rfl, rfl⟩
set_option maxHeartbeats 4000000 in
set_option maxRecDepth 100000 in
theorem m_areTwo (l : Launch) (E : gE) (L : List Nat) (f : gF) {y : Nat} {ya : Nat → Nat} (my : y ∈ L) (fy : f y = .inr (10, [.int (0 : Int32), .ref (ya 1), .ref (ya 2), .ref (ya 3), .ref (ya 4), .ref (ya 5), .int (0 : Int32), .int (0 : Int32), .int (0 : Int32), .int (0 : Int32), .int (0 : Int32), .long (0 : Int64), .int (0 : Int32), .int (0 : Int32), .int (0 : Int32), .int (-1 : Int32), .ref (ya 16), .ref (ya 17), .ref (ya 18), .ref (ya 19), .ref (ya 20), .ref (ya 21), .int (0 : Int32), .int (0 : Int32), .int (0 : Int32), .ref (ya 25), .ref (ya 26), .ref (ya 27), .ref (ya 28), .ref (ya 29), .ref (ya 30), .ref (ya 31), .ref (ya 32), .ref (ya 33), .ref (ya 34), .ref (ya 35), .int (0 : Int32), .int (0 : Int32), .ref (ya 38), .int (0 : Int32), .int (0 : Int32), .ref (ya 41), .ref (ya 42), .int (0 : Int32), .int (0 : Int32), .int (0 : Int32), .int (0 : Int32), .int (0 : Int32)])) (m_lines : (ya 16) ∈ L) (f_lines : f (ya 16) = .inl (E.2.2 1, 5, .inl (fun _ => 0))) (m_has : (ya 17) ∈ L) (f_has : f (ya 17) = .inl (E.2.2 1, 45, .inl (fun _ => 0))) (p0 : Int32) (p1 : Int32) : gMi l E yX10_areTwo cX10_areTwo 3 .boolean (gRm 3 0 0) [.ref y, .int p0, .int p1] L f (gRO (0 : Int32) L f) := by
  refine gMi.intro (by decide) (Nat.le_of_ble_eq_true rfl) ?_
  intro p e s m below meth c A ls C hr hA hH hl
  have C : gC E cX10_areTwo 3 RX10 p s m _ meth c := C
  have hl : lv_has ls 3 [(0, .ref y), (1, .int p0), (2, .int p1)] := hl
  have hx := C.1
  have hb := C.2.1
  refine lv_aload_n hx hb dX10_areTwo_0 rfl (lv_at hl 0 rfl) ?_
  refine lv_iload_n hx hb dX10_areTwo_1 rfl (lv_at hl 1 rfl) ?_
  refine lv_i2l (v := (p0).toInt64) hx hb dX10_areTwo_2 rfl ?_
  refine g_Vi C hl.1 hA hH (As := [.long (p0).toInt64]) (rest := []) (m_isMember l E L f my fy m_lines f_lines m_has f_has (p0).toInt64) my_X10_isMember wd262 my fy rfl rfl rfl (Nat.le_of_ble_eq_true rfl) ⟨Nat.le_of_ble_eq_true rfl, Nat.le_of_ble_eq_true rfl⟩ ⟨Nat.le_of_ble_eq_true rfl, Nat.le_of_ble_eq_true rfl⟩ dX10_areTwo_3 (fun r3 L2 f1 H locs hp hH => ?_)
  obtain ⟨er3, rfl, rfl⟩ := hp
  subst er3
  refine lv_if_eq (tgt := 27) hx hb dX10_areTwo_6 (by decide) (fun _ => ?_) (fun h => absurd (by decide) h)
  refine lv_iconst (v := (0 : Int32)) hx hb dX10_areTwo_27 (by decide) ?_
  refine g_zret C hr (by first | rfl | decide | (exact gIn_z _ _ _)) hH (Nat.le_of_ble_eq_true rfl) (Nat.le_of_ble_eq_true rfl) dX10_areTwo_28 ?_
  exact ⟨rfl, rfl, rfl⟩
set_option maxHeartbeats 4000000 in
set_option maxRecDepth 100000 in
theorem m_isMany (l : Launch) (E : gE) (L : List Nat) (f : gF) {y : Nat} {ya : Nat → Nat} (my : y ∈ L) (fy : f y = .inr (10, [.int (0 : Int32), .ref (ya 1), .ref (ya 2), .ref (ya 3), .ref (ya 4), .ref (ya 5), .int (0 : Int32), .int (0 : Int32), .int (0 : Int32), .int (0 : Int32), .int (0 : Int32), .long (0 : Int64), .int (0 : Int32), .int (0 : Int32), .int (0 : Int32), .int (-1 : Int32), .ref (ya 16), .ref (ya 17), .ref (ya 18), .ref (ya 19), .ref (ya 20), .ref (ya 21), .int (0 : Int32), .int (0 : Int32), .int (0 : Int32), .ref (ya 25), .ref (ya 26), .ref (ya 27), .ref (ya 28), .ref (ya 29), .ref (ya 30), .ref (ya 31), .ref (ya 32), .ref (ya 33), .ref (ya 34), .ref (ya 35), .int (0 : Int32), .int (0 : Int32), .ref (ya 38), .int (0 : Int32), .int (0 : Int32), .ref (ya 41), .ref (ya 42), .int (0 : Int32), .int (0 : Int32), .int (0 : Int32), .int (0 : Int32), .int (0 : Int32)])) (m_lines : (ya 16) ∈ L) (f_lines : f (ya 16) = .inl (E.2.2 1, 5, .inl (fun _ => 0))) (m_has : (ya 17) ∈ L) (f_has : f (ya 17) = .inl (E.2.2 1, 45, .inl (fun _ => 0))) (p0 : Int32) : gMi l E yX10_isMany cX10_isMany 2 .boolean (gRm 3 0 0) [.ref y, .int p0] L f (gRO (0 : Int32) L f) := by
  refine gMi.intro (by decide) (Nat.le_of_ble_eq_true rfl) ?_
  intro p e s m below meth c A ls C hr hA hH hl
  have C : gC E cX10_isMany 2 RX10 p s m _ meth c := C
  have hl : lv_has ls 2 [(0, .ref y), (1, .int p0)] := hl
  have hx := C.1
  have hb := C.2.1
  refine lv_aload_n hx hb dX10_isMany_0 rfl (lv_at hl 0 rfl) ?_
  refine g_Vi C hl.1 hA hH (As := []) (rest := []) (m_isLand l E L f my fy m_lines f_lines m_has f_has) my_X10_isLand wd266 my fy rfl rfl rfl (Nat.le_of_ble_eq_true rfl) ⟨Nat.le_of_ble_eq_true rfl, Nat.le_of_ble_eq_true rfl⟩ ⟨Nat.le_of_ble_eq_true rfl, Nat.le_of_ble_eq_true rfl⟩ dX10_isMany_1 (fun r3 L2 f1 H locs hp hH => ?_)
  obtain ⟨er3, rfl, rfl⟩ := hp
  subst er3
  refine lv_if_eq (tgt := 23) hx hb dX10_isMany_4 (by decide) (fun _ => ?_) (fun h => absurd (by decide) h)
  refine lv_iconst (v := (0 : Int32)) hx hb dX10_isMany_23 (by decide) ?_
  refine g_zret C hr (by first | rfl | decide | (exact gIn_z _ _ _)) hH (Nat.le_of_ble_eq_true rfl) (Nat.le_of_ble_eq_true rfl) dX10_isMany_24 ?_
  exact ⟨rfl, rfl, rfl⟩
set_option maxHeartbeats 4000000 in
set_option maxRecDepth 100000 in
theorem m_isLaw (l : Launch) (E : gE) (L : List Nat) (f : gF) {y : Nat} {ya : Nat → Nat} (my : y ∈ L) (fy : f y = .inr (10, [.int (0 : Int32), .ref (ya 1), .ref (ya 2), .ref (ya 3), .ref (ya 4), .ref (ya 5), .int (0 : Int32), .int (0 : Int32), .int (0 : Int32), .int (0 : Int32), .int (0 : Int32), .long (0 : Int64), .int (0 : Int32), .int (0 : Int32), .int (0 : Int32), .int (-1 : Int32), .ref (ya 16), .ref (ya 17), .ref (ya 18), .ref (ya 19), .ref (ya 20), .ref (ya 21), .int (0 : Int32), .int (0 : Int32), .int (0 : Int32), .ref (ya 25), .ref (ya 26), .ref (ya 27), .ref (ya 28), .ref (ya 29), .ref (ya 30), .ref (ya 31), .ref (ya 32), .ref (ya 33), .ref (ya 34), .ref (ya 35), .int (0 : Int32), .int (0 : Int32), .ref (ya 38), .int (0 : Int32), .int (0 : Int32), .ref (ya 41), .ref (ya 42), .int (0 : Int32), .int (0 : Int32), .int (0 : Int32), .int (0 : Int32), .int (0 : Int32)])) (m_lines : (ya 16) ∈ L) (f_lines : f (ya 16) = .inl (E.2.2 1, 5, .inl (fun _ => 0))) (m_has : (ya 17) ∈ L) (f_has : f (ya 17) = .inl (E.2.2 1, 45, .inl (fun _ => 0))) (p0 : Int32) : gMi l E yX10_isLaw cX10_isLaw 2 .boolean (gRm 3 0 0) [.ref y, .int p0] L f (gRO (0 : Int32) L f) := by
  refine gMi.intro (by decide) (Nat.le_of_ble_eq_true rfl) ?_
  intro p e s m below meth c A ls C hr hA hH hl
  have C : gC E cX10_isLaw 2 RX10 p s m _ meth c := C
  have hl : lv_has ls 2 [(0, .ref y), (1, .int p0)] := hl
  have hx := C.1
  have hb := C.2.1
  refine lv_aload_n hx hb dX10_isLaw_0 rfl (lv_at hl 0 rfl) ?_
  refine g_Vi C hl.1 hA hH (As := []) (rest := []) (m_isLand l E L f my fy m_lines f_lines m_has f_has) my_X10_isLand wd266 my fy rfl rfl rfl (Nat.le_of_ble_eq_true rfl) ⟨Nat.le_of_ble_eq_true rfl, Nat.le_of_ble_eq_true rfl⟩ ⟨Nat.le_of_ble_eq_true rfl, Nat.le_of_ble_eq_true rfl⟩ dX10_isLaw_1 (fun r3 L2 f1 H locs hp hH => ?_)
  obtain ⟨er3, rfl, rfl⟩ := hp
  subst er3
  refine lv_if_eq (tgt := 23) hx hb dX10_isLaw_4 (by decide) (fun _ => ?_) (fun h => absurd (by decide) h)
  refine lv_iconst (v := (0 : Int32)) hx hb dX10_isLaw_23 (by decide) ?_
  refine g_zret C hr (by first | rfl | decide | (exact gIn_z _ _ _)) hH (Nat.le_of_ble_eq_true rfl) (Nat.le_of_ble_eq_true rfl) dX10_isLaw_24 ?_
  exact ⟨rfl, rfl, rfl⟩
set_option maxHeartbeats 4000000 in
set_option maxRecDepth 100000 in
theorem m_isSet (l : Launch) (E : gE) (L : List Nat) (f : gF) {y : Nat} {ya : Nat → Nat} (my : y ∈ L) (fy : f y = .inr (10, [.int (0 : Int32), .ref (ya 1), .ref (ya 2), .ref (ya 3), .ref (ya 4), .ref (ya 5), .int (0 : Int32), .int (0 : Int32), .int (0 : Int32), .int (0 : Int32), .int (0 : Int32), .long (0 : Int64), .int (0 : Int32), .int (0 : Int32), .int (0 : Int32), .int (-1 : Int32), .ref (ya 16), .ref (ya 17), .ref (ya 18), .ref (ya 19), .ref (ya 20), .ref (ya 21), .int (0 : Int32), .int (0 : Int32), .int (0 : Int32), .ref (ya 25), .ref (ya 26), .ref (ya 27), .ref (ya 28), .ref (ya 29), .ref (ya 30), .ref (ya 31), .ref (ya 32), .ref (ya 33), .ref (ya 34), .ref (ya 35), .int (0 : Int32), .int (0 : Int32), .ref (ya 38), .int (0 : Int32), .int (0 : Int32), .ref (ya 41), .ref (ya 42), .int (0 : Int32), .int (0 : Int32), .int (0 : Int32), .int (0 : Int32), .int (0 : Int32)])) (m_lines : (ya 16) ∈ L) (f_lines : f (ya 16) = .inl (E.2.2 1, 5, .inl (fun _ => 0))) (m_has : (ya 17) ∈ L) (f_has : f (ya 17) = .inl (E.2.2 1, 45, .inl (fun _ => 0))) (p0 : Int32) : gMi l E yX10_isSet cX10_isSet 2 .boolean (gRm 3 0 0) [.ref y, .int p0] L f (gRO (0 : Int32) L f) := by
  refine gMi.intro (by decide) (Nat.le_of_ble_eq_true rfl) ?_
  intro p e s m below meth c A ls C hr hA hH hl
  have C : gC E cX10_isSet 2 RX10 p s m _ meth c := C
  have hl : lv_has ls 2 [(0, .ref y), (1, .int p0)] := hl
  have hx := C.1
  have hb := C.2.1
  refine lv_aload_n hx hb dX10_isSet_0 rfl (lv_at hl 0 rfl) ?_
  refine g_Vi C hl.1 hA hH (As := []) (rest := []) (m_isLand l E L f my fy m_lines f_lines m_has f_has) my_X10_isLand wd266 my fy rfl rfl rfl (Nat.le_of_ble_eq_true rfl) ⟨Nat.le_of_ble_eq_true rfl, Nat.le_of_ble_eq_true rfl⟩ ⟨Nat.le_of_ble_eq_true rfl, Nat.le_of_ble_eq_true rfl⟩ dX10_isSet_1 (fun r3 L2 f1 H locs hp hH => ?_)
  obtain ⟨er3, rfl, rfl⟩ := hp
  subst er3
  refine lv_if_eq (tgt := 29) hx hb dX10_isSet_4 (by decide) (fun _ => ?_) (fun h => absurd (by decide) h)
  refine lv_iconst (v := (0 : Int32)) hx hb dX10_isSet_29 (by decide) ?_
  refine g_zret C hr (by first | rfl | decide | (exact gIn_z _ _ _)) hH (Nat.le_of_ble_eq_true rfl) (Nat.le_of_ble_eq_true rfl) dX10_isSet_30 ?_
  exact ⟨rfl, rfl, rfl⟩
set_option maxHeartbeats 4000000 in
set_option maxRecDepth 100000 in
theorem m_whyNotLaws (l : Launch) (E : gE) (L : List Nat) (f : gF) {y : Nat} {ya : Nat → Nat} (my : y ∈ L) (fy : f y = .inr (10, [.int (0 : Int32), .ref (ya 1), .ref (ya 2), .ref (ya 3), .ref (ya 4), .ref (ya 5), .int (0 : Int32), .int (0 : Int32), .int (0 : Int32), .int (0 : Int32), .int (0 : Int32), .long (0 : Int64), .int (0 : Int32), .int (0 : Int32), .int (0 : Int32), .int (-1 : Int32), .ref (ya 16), .ref (ya 17), .ref (ya 18), .ref (ya 19), .ref (ya 20), .ref (ya 21), .int (0 : Int32), .int (0 : Int32), .int (0 : Int32), .ref (ya 25), .ref (ya 26), .ref (ya 27), .ref (ya 28), .ref (ya 29), .ref (ya 30), .ref (ya 31), .ref (ya 32), .ref (ya 33), .ref (ya 34), .ref (ya 35), .int (0 : Int32), .int (0 : Int32), .ref (ya 38), .int (0 : Int32), .int (0 : Int32), .ref (ya 41), .ref (ya 42), .int (0 : Int32), .int (0 : Int32), .int (0 : Int32), .int (0 : Int32), .int (0 : Int32)])) (m_lines : (ya 16) ∈ L) (f_lines : f (ya 16) = .inl (E.2.2 1, 5, .inl (fun _ => 0))) (m_has : (ya 17) ∈ L) (f_has : f (ya 17) = .inl (E.2.2 1, 45, .inl (fun _ => 0))) (p0 : Int32) : gMi l E yX10_whyNotLaws cX10_whyNotLaws 4 .int (gRm 4 0 0) [.ref y, .int p0] L f (gRO (-2 : Int32) L f) := by
  refine gMi.intro (by decide) (Nat.le_of_ble_eq_true rfl) ?_
  intro p e s m below meth c A ls C hr hA hH hl
  have C : gC E cX10_whyNotLaws 4 RX10 p s m _ meth c := C
  have hl : lv_has ls 4 [(0, .ref y), (1, .int p0)] := hl
  have hx := C.1
  have hb := C.2.1
  refine lv_iload_n hx hb dX10_whyNotLaws_0 rfl (lv_at hl 1 rfl) ?_
  refine g_Si C hl.1 hA hH (As := [.int p0]) (rest := []) (m_isSlot l E L f p0) my_X10_isSlot wd269 rfl rfl (Nat.le_of_ble_eq_true rfl) ⟨Nat.le_of_ble_eq_true rfl, Nat.le_of_ble_eq_true rfl⟩ ⟨Nat.le_of_ble_eq_true rfl, Nat.le_of_ble_eq_true rfl⟩ dX10_whyNotLaws_1 (fun r3 L2 f1 H locs hp hH => ?_)
  obtain ⟨er3, rfl, rfl⟩ := hp
  subst er3
  refine lv_if_eq (tgt := 14) hx hb dX10_whyNotLaws_4 (by decide) (fun c4 => ?_) (fun c4 => ?_)
  · skip
    refine lv_bipush (v := (-2 : Int32)) hx hb dX10_whyNotLaws_14 (by decide) ?_
    refine g_iret C hr hH (Nat.le_of_ble_eq_true rfl) (Nat.le_of_ble_eq_true rfl) dX10_whyNotLaws_16 ?_
    exact ⟨rfl, rfl, rfl⟩
  · skip
    refine lv_aload_n hx hb dX10_whyNotLaws_7 rfl (lv_at hl 0 rfl) ?_
    refine g_Vi C hl.1 hA hH (As := []) (rest := []) (m_isLand l E L f my fy m_lines f_lines m_has f_has) my_X10_isLand wd266 my fy rfl rfl rfl (Nat.le_of_ble_eq_true rfl) ⟨Nat.le_of_ble_eq_true rfl, Nat.le_of_ble_eq_true rfl⟩ ⟨Nat.le_of_ble_eq_true rfl, Nat.le_of_ble_eq_true rfl⟩ dX10_whyNotLaws_8 (fun r7 L6 f5 H locs hp hH => ?_)
    obtain ⟨er7, rfl, rfl⟩ := hp
    subst er7
    refine lv_if_ne (tgt := 17) hx hb dX10_whyNotLaws_11 (by decide) (fun h => absurd (by decide) h) (fun _ => ?_)
    refine lv_bipush (v := (-2 : Int32)) hx hb dX10_whyNotLaws_14 (by decide) ?_
    refine g_iret C hr hH (Nat.le_of_ble_eq_true rfl) (Nat.le_of_ble_eq_true rfl) dX10_whyNotLaws_16 ?_
    exact ⟨rfl, rfl, rfl⟩
set_option maxHeartbeats 4000000 in
set_option maxRecDepth 100000 in
theorem m_whyNotBegan (l : Launch) (E : gE) (L : List Nat) (f : gF) {y : Nat} {ya : Nat → Nat} (my : y ∈ L) (fy : f y = .inr (10, [.int (0 : Int32), .ref (ya 1), .ref (ya 2), .ref (ya 3), .ref (ya 4), .ref (ya 5), .int (0 : Int32), .int (0 : Int32), .int (0 : Int32), .int (0 : Int32), .int (0 : Int32), .long (0 : Int64), .int (0 : Int32), .int (0 : Int32), .int (0 : Int32), .int (-1 : Int32), .ref (ya 16), .ref (ya 17), .ref (ya 18), .ref (ya 19), .ref (ya 20), .ref (ya 21), .int (0 : Int32), .int (0 : Int32), .int (0 : Int32), .ref (ya 25), .ref (ya 26), .ref (ya 27), .ref (ya 28), .ref (ya 29), .ref (ya 30), .ref (ya 31), .ref (ya 32), .ref (ya 33), .ref (ya 34), .ref (ya 35), .int (0 : Int32), .int (0 : Int32), .ref (ya 38), .int (0 : Int32), .int (0 : Int32), .ref (ya 41), .ref (ya 42), .int (0 : Int32), .int (0 : Int32), .int (0 : Int32), .int (0 : Int32), .int (0 : Int32)])) (m_lines : (ya 16) ∈ L) (f_lines : f (ya 16) = .inl (E.2.2 1, 5, .inl (fun _ => 0))) (m_has : (ya 17) ∈ L) (f_has : f (ya 17) = .inl (E.2.2 1, 45, .inl (fun _ => 0))) (p0 : Int32) : gMi l E yX10_whyNotBegan cX10_whyNotBegan 3 .int (gRm 4 0 0) [.ref y, .int p0] L f (gRO (-2 : Int32) L f) := by
  refine gMi.intro (by decide) (Nat.le_of_ble_eq_true rfl) ?_
  intro p e s m below meth c A ls C hr hA hH hl
  have C : gC E cX10_whyNotBegan 3 RX10 p s m _ meth c := C
  have hl : lv_has ls 3 [(0, .ref y), (1, .int p0)] := hl
  have hx := C.1
  have hb := C.2.1
  refine lv_iload_n hx hb dX10_whyNotBegan_0 rfl (lv_at hl 1 rfl) ?_
  refine g_Si C hl.1 hA hH (As := [.int p0]) (rest := []) (m_isSlot l E L f p0) my_X10_isSlot wd269 rfl rfl (Nat.le_of_ble_eq_true rfl) ⟨Nat.le_of_ble_eq_true rfl, Nat.le_of_ble_eq_true rfl⟩ ⟨Nat.le_of_ble_eq_true rfl, Nat.le_of_ble_eq_true rfl⟩ dX10_whyNotBegan_1 (fun r3 L2 f1 H locs hp hH => ?_)
  obtain ⟨er3, rfl, rfl⟩ := hp
  subst er3
  refine lv_if_eq (tgt := 14) hx hb dX10_whyNotBegan_4 (by decide) (fun c4 => ?_) (fun c4 => ?_)
  · skip
    refine lv_bipush (v := (-2 : Int32)) hx hb dX10_whyNotBegan_14 (by decide) ?_
    refine g_iret C hr hH (Nat.le_of_ble_eq_true rfl) (Nat.le_of_ble_eq_true rfl) dX10_whyNotBegan_16 ?_
    exact ⟨rfl, rfl, rfl⟩
  · skip
    refine lv_aload_n hx hb dX10_whyNotBegan_7 rfl (lv_at hl 0 rfl) ?_
    refine g_Vi C hl.1 hA hH (As := []) (rest := []) (m_isLand l E L f my fy m_lines f_lines m_has f_has) my_X10_isLand wd266 my fy rfl rfl rfl (Nat.le_of_ble_eq_true rfl) ⟨Nat.le_of_ble_eq_true rfl, Nat.le_of_ble_eq_true rfl⟩ ⟨Nat.le_of_ble_eq_true rfl, Nat.le_of_ble_eq_true rfl⟩ dX10_whyNotBegan_8 (fun r7 L6 f5 H locs hp hH => ?_)
    obtain ⟨er7, rfl, rfl⟩ := hp
    subst er7
    refine lv_if_ne (tgt := 17) hx hb dX10_whyNotBegan_11 (by decide) (fun h => absurd (by decide) h) (fun _ => ?_)
    refine lv_bipush (v := (-2 : Int32)) hx hb dX10_whyNotBegan_14 (by decide) ?_
    refine g_iret C hr hH (Nat.le_of_ble_eq_true rfl) (Nat.le_of_ble_eq_true rfl) dX10_whyNotBegan_16 ?_
    exact ⟨rfl, rfl, rfl⟩
set_option maxHeartbeats 4000000 in
set_option maxRecDepth 100000 in
theorem m_flight (l : Launch) (E : gE) (L : List Nat) (f : gF) {y : Nat} {ya : Nat → Nat} (my : y ∈ L) (fy : f y = .inr (10, [.int (0 : Int32), .ref (ya 1), .ref (ya 2), .ref (ya 3), .ref (ya 4), .ref (ya 5), .int (0 : Int32), .int (0 : Int32), .int (0 : Int32), .int (0 : Int32), .int (0 : Int32), .long (0 : Int64), .int (0 : Int32), .int (0 : Int32), .int (0 : Int32), .int (-1 : Int32), .ref (ya 16), .ref (ya 17), .ref (ya 18), .ref (ya 19), .ref (ya 20), .ref (ya 21), .int (0 : Int32), .int (0 : Int32), .int (0 : Int32), .ref (ya 25), .ref (ya 26), .ref (ya 27), .ref (ya 28), .ref (ya 29), .ref (ya 30), .ref (ya 31), .ref (ya 32), .ref (ya 33), .ref (ya 34), .ref (ya 35), .int (0 : Int32), .int (0 : Int32), .ref (ya 38), .int (0 : Int32), .int (0 : Int32), .ref (ya 41), .ref (ya 42), .int (0 : Int32), .int (0 : Int32), .int (0 : Int32), .int (0 : Int32), .int (0 : Int32)])) (m_lines : (ya 16) ∈ L) (f_lines : f (ya 16) = .inl (E.2.2 1, 5, .inl (fun _ => 0))) (m_has : (ya 17) ∈ L) (f_has : f (ya 17) = .inl (E.2.2 1, 45, .inl (fun _ => 0))) (p0 p1 : Int32) : gMi l E yX10_flight cX10_flight 3 .int (gRm 6 0 0) [.ref y, .int p0, .int p1] L f (fun r _ _ => r = (-2 : Int32)) := by
  refine gMi.intro (by decide) (Nat.le_of_ble_eq_true rfl) ?_
  intro p e s m below meth c A ls C hr hA hH hl
  have C : gC E cX10_flight 3 RX10 p s m _ meth c := C
  have hl : lv_has ls 3 [(0, .ref y), (1, .int p0), (2, .int p1)] := hl
  have hx := C.1
  have hb := C.2.1
  refine lv_aload_n hx hb dX10_flight_0 rfl (lv_at hl 0 rfl) ?_
  refine lv_iconst (v := (0 : Int32)) hx hb dX10_flight_1 (by decide) ?_
  refine g_put C hH my fy iX10 tyX10 tyX10_ok nmX10 rfl 0 (by decide) wd270 rfl rfl rfl rfl (Nat.le_of_ble_eq_true rfl) (fs' := [.int (0 : Int32), .ref (ya 1), .ref (ya 2), .ref (ya 3), .ref (ya 4), .ref (ya 5), .int (0 : Int32), .int (0 : Int32), .int (0 : Int32), .int (0 : Int32), .int (0 : Int32), .long (0 : Int64), .int (0 : Int32), .int (0 : Int32), .int (0 : Int32), .int (-1 : Int32), .ref (ya 16), .ref (ya 17), .ref (ya 18), .ref (ya 19), .ref (ya 20), .ref (ya 21), .int (0 : Int32), .int (0 : Int32), .int (0 : Int32), .ref (ya 25), .ref (ya 26), .ref (ya 27), .ref (ya 28), .ref (ya 29), .ref (ya 30), .ref (ya 31), .ref (ya 32), .ref (ya 33), .ref (ya 34), .ref (ya 35), .int (0 : Int32), .int (0 : Int32), .ref (ya 38), .int (0 : Int32), .int (0 : Int32), .ref (ya 41), .ref (ya 42), .int (0 : Int32), .int (0 : Int32), .int (0 : Int32), .int (0 : Int32), .int (0 : Int32)]) rfl dX10_flight_2 (fun H locs hH => ?_)
  obtain ⟨f1, ef1⟩ : ∃ z : gF, z = va_up f y (.inr (10, [.int (0 : Int32), .ref (ya 1), .ref (ya 2), .ref (ya 3), .ref (ya 4), .ref (ya 5), .int (0 : Int32), .int (0 : Int32), .int (0 : Int32), .int (0 : Int32), .int (0 : Int32), .long (0 : Int64), .int (0 : Int32), .int (0 : Int32), .int (0 : Int32), .int (-1 : Int32), .ref (ya 16), .ref (ya 17), .ref (ya 18), .ref (ya 19), .ref (ya 20), .ref (ya 21), .int (0 : Int32), .int (0 : Int32), .int (0 : Int32), .ref (ya 25), .ref (ya 26), .ref (ya 27), .ref (ya 28), .ref (ya 29), .ref (ya 30), .ref (ya 31), .ref (ya 32), .ref (ya 33), .ref (ya 34), .ref (ya 35), .int (0 : Int32), .int (0 : Int32), .ref (ya 38), .int (0 : Int32), .int (0 : Int32), .ref (ya 41), .ref (ya 42), .int (0 : Int32), .int (0 : Int32), .int (0 : Int32), .int (0 : Int32), .int (0 : Int32)])) := ⟨_, rfl⟩
  have hH : gH E A L f1 s.heap H locs := by rw [ef1]; exact hH
  have h2 : f1 y = .inr (10, [.int (0 : Int32), .ref (ya 1), .ref (ya 2), .ref (ya 3), .ref (ya 4), .ref (ya 5), .int (0 : Int32), .int (0 : Int32), .int (0 : Int32), .int (0 : Int32), .int (0 : Int32), .long (0 : Int64), .int (0 : Int32), .int (0 : Int32), .int (0 : Int32), .int (-1 : Int32), .ref (ya 16), .ref (ya 17), .ref (ya 18), .ref (ya 19), .ref (ya 20), .ref (ya 21), .int (0 : Int32), .int (0 : Int32), .int (0 : Int32), .ref (ya 25), .ref (ya 26), .ref (ya 27), .ref (ya 28), .ref (ya 29), .ref (ya 30), .ref (ya 31), .ref (ya 32), .ref (ya 33), .ref (ya 34), .ref (ya 35), .int (0 : Int32), .int (0 : Int32), .ref (ya 38), .int (0 : Int32), .int (0 : Int32), .ref (ya 41), .ref (ya 42), .int (0 : Int32), .int (0 : Int32), .int (0 : Int32), .int (0 : Int32), .int (0 : Int32)]) := (congrFun ef1 y).trans (va_up_self _ _ _)
  refine lv_aload_n hx hb dX10_flight_5 rfl (lv_at hl 0 rfl) ?_
  refine lv_iload_n hx hb dX10_flight_6 rfl (lv_at hl 1 rfl) ?_
  refine lv_i2l (v := (p0).toInt64) hx hb dX10_flight_7 rfl ?_
  have h3 : f1 (ya 16) = .inl (E.2.2 1, 5, .inl (fun _ => 0)) := ((congrFun ef1 (ya 16)).trans (va_up_ne _ _ (g_neAO f_lines fy))).trans f_lines
  have h4 : f1 (ya 17) = .inl (E.2.2 1, 45, .inl (fun _ => 0)) := ((congrFun ef1 (ya 17)).trans (va_up_ne _ _ (g_neAO f_has fy))).trans f_has
  refine g_Vi C hl.1 hA hH (As := [.long (p0).toInt64]) (rest := []) (m_isFlight l E L f1 my h2 m_lines h3 m_has h4 (p0).toInt64) my_X10_isFlight wd274 my h2 rfl rfl rfl (Nat.le_of_ble_eq_true rfl) ⟨Nat.le_of_ble_eq_true rfl, Nat.le_of_ble_eq_true rfl⟩ ⟨Nat.le_of_ble_eq_true rfl, Nat.le_of_ble_eq_true rfl⟩ dX10_flight_8 (fun r7 L6 f5 H locs hp hH => ?_)
  obtain ⟨er7, rfl, rfl⟩ := hp
  subst er7
  refine lv_if_eq (tgt := 26) hx hb dX10_flight_11 (by decide) (fun _ => ?_) (fun h => absurd (by decide) h)
  refine lv_bipush (v := (-2 : Int32)) hx hb dX10_flight_26 (by decide) ?_
  refine g_iret C hr hH (Nat.le_of_ble_eq_true rfl) (Nat.le_of_ble_eq_true rfl) dX10_flight_28 ?_
  exact rfl
set_option maxHeartbeats 4000000 in
set_option maxRecDepth 100000 in
theorem m_member (l : Launch) (E : gE) (L : List Nat) (f : gF) {y : Nat} {ya : Nat → Nat} (my : y ∈ L) (fy : f y = .inr (10, [.int (0 : Int32), .ref (ya 1), .ref (ya 2), .ref (ya 3), .ref (ya 4), .ref (ya 5), .int (0 : Int32), .int (0 : Int32), .int (0 : Int32), .int (0 : Int32), .int (0 : Int32), .long (0 : Int64), .int (0 : Int32), .int (0 : Int32), .int (0 : Int32), .int (-1 : Int32), .ref (ya 16), .ref (ya 17), .ref (ya 18), .ref (ya 19), .ref (ya 20), .ref (ya 21), .int (0 : Int32), .int (0 : Int32), .int (0 : Int32), .ref (ya 25), .ref (ya 26), .ref (ya 27), .ref (ya 28), .ref (ya 29), .ref (ya 30), .ref (ya 31), .ref (ya 32), .ref (ya 33), .ref (ya 34), .ref (ya 35), .int (0 : Int32), .int (0 : Int32), .ref (ya 38), .int (0 : Int32), .int (0 : Int32), .ref (ya 41), .ref (ya 42), .int (0 : Int32), .int (0 : Int32), .int (0 : Int32), .int (0 : Int32), .int (0 : Int32)])) (m_lines : (ya 16) ∈ L) (f_lines : f (ya 16) = .inl (E.2.2 1, 5, .inl (fun _ => 0))) (m_has : (ya 17) ∈ L) (f_has : f (ya 17) = .inl (E.2.2 1, 45, .inl (fun _ => 0))) (p0 p1 : Int32) : gMi l E yX10_member cX10_member 3 .int (gRm 6 0 0) [.ref y, .int p0, .int p1] L f (fun r _ _ => r = (-2 : Int32)) := by
  refine gMi.intro (by decide) (Nat.le_of_ble_eq_true rfl) ?_
  intro p e s m below meth c A ls C hr hA hH hl
  have C : gC E cX10_member 3 RX10 p s m _ meth c := C
  have hl : lv_has ls 3 [(0, .ref y), (1, .int p0), (2, .int p1)] := hl
  have hx := C.1
  have hb := C.2.1
  refine lv_aload_n hx hb dX10_member_0 rfl (lv_at hl 0 rfl) ?_
  refine lv_iconst (v := (0 : Int32)) hx hb dX10_member_1 (by decide) ?_
  refine g_put C hH my fy iX10 tyX10 tyX10_ok nmX10 rfl 0 (by decide) wd270 rfl rfl rfl rfl (Nat.le_of_ble_eq_true rfl) (fs' := [.int (0 : Int32), .ref (ya 1), .ref (ya 2), .ref (ya 3), .ref (ya 4), .ref (ya 5), .int (0 : Int32), .int (0 : Int32), .int (0 : Int32), .int (0 : Int32), .int (0 : Int32), .long (0 : Int64), .int (0 : Int32), .int (0 : Int32), .int (0 : Int32), .int (-1 : Int32), .ref (ya 16), .ref (ya 17), .ref (ya 18), .ref (ya 19), .ref (ya 20), .ref (ya 21), .int (0 : Int32), .int (0 : Int32), .int (0 : Int32), .ref (ya 25), .ref (ya 26), .ref (ya 27), .ref (ya 28), .ref (ya 29), .ref (ya 30), .ref (ya 31), .ref (ya 32), .ref (ya 33), .ref (ya 34), .ref (ya 35), .int (0 : Int32), .int (0 : Int32), .ref (ya 38), .int (0 : Int32), .int (0 : Int32), .ref (ya 41), .ref (ya 42), .int (0 : Int32), .int (0 : Int32), .int (0 : Int32), .int (0 : Int32), .int (0 : Int32)]) rfl dX10_member_2 (fun H locs hH => ?_)
  obtain ⟨f1, ef1⟩ : ∃ z : gF, z = va_up f y (.inr (10, [.int (0 : Int32), .ref (ya 1), .ref (ya 2), .ref (ya 3), .ref (ya 4), .ref (ya 5), .int (0 : Int32), .int (0 : Int32), .int (0 : Int32), .int (0 : Int32), .int (0 : Int32), .long (0 : Int64), .int (0 : Int32), .int (0 : Int32), .int (0 : Int32), .int (-1 : Int32), .ref (ya 16), .ref (ya 17), .ref (ya 18), .ref (ya 19), .ref (ya 20), .ref (ya 21), .int (0 : Int32), .int (0 : Int32), .int (0 : Int32), .ref (ya 25), .ref (ya 26), .ref (ya 27), .ref (ya 28), .ref (ya 29), .ref (ya 30), .ref (ya 31), .ref (ya 32), .ref (ya 33), .ref (ya 34), .ref (ya 35), .int (0 : Int32), .int (0 : Int32), .ref (ya 38), .int (0 : Int32), .int (0 : Int32), .ref (ya 41), .ref (ya 42), .int (0 : Int32), .int (0 : Int32), .int (0 : Int32), .int (0 : Int32), .int (0 : Int32)])) := ⟨_, rfl⟩
  have hH : gH E A L f1 s.heap H locs := by rw [ef1]; exact hH
  have h2 : f1 y = .inr (10, [.int (0 : Int32), .ref (ya 1), .ref (ya 2), .ref (ya 3), .ref (ya 4), .ref (ya 5), .int (0 : Int32), .int (0 : Int32), .int (0 : Int32), .int (0 : Int32), .int (0 : Int32), .long (0 : Int64), .int (0 : Int32), .int (0 : Int32), .int (0 : Int32), .int (-1 : Int32), .ref (ya 16), .ref (ya 17), .ref (ya 18), .ref (ya 19), .ref (ya 20), .ref (ya 21), .int (0 : Int32), .int (0 : Int32), .int (0 : Int32), .ref (ya 25), .ref (ya 26), .ref (ya 27), .ref (ya 28), .ref (ya 29), .ref (ya 30), .ref (ya 31), .ref (ya 32), .ref (ya 33), .ref (ya 34), .ref (ya 35), .int (0 : Int32), .int (0 : Int32), .ref (ya 38), .int (0 : Int32), .int (0 : Int32), .ref (ya 41), .ref (ya 42), .int (0 : Int32), .int (0 : Int32), .int (0 : Int32), .int (0 : Int32), .int (0 : Int32)]) := (congrFun ef1 y).trans (va_up_self _ _ _)
  refine lv_aload_n hx hb dX10_member_5 rfl (lv_at hl 0 rfl) ?_
  refine lv_iload_n hx hb dX10_member_6 rfl (lv_at hl 1 rfl) ?_
  refine lv_i2l (v := (p0).toInt64) hx hb dX10_member_7 rfl ?_
  have h3 : f1 (ya 16) = .inl (E.2.2 1, 5, .inl (fun _ => 0)) := ((congrFun ef1 (ya 16)).trans (va_up_ne _ _ (g_neAO f_lines fy))).trans f_lines
  have h4 : f1 (ya 17) = .inl (E.2.2 1, 45, .inl (fun _ => 0)) := ((congrFun ef1 (ya 17)).trans (va_up_ne _ _ (g_neAO f_has fy))).trans f_has
  refine g_Vi C hl.1 hA hH (As := [.long (p0).toInt64]) (rest := []) (m_isMember l E L f1 my h2 m_lines h3 m_has h4 (p0).toInt64) my_X10_isMember wd262 my h2 rfl rfl rfl (Nat.le_of_ble_eq_true rfl) ⟨Nat.le_of_ble_eq_true rfl, Nat.le_of_ble_eq_true rfl⟩ ⟨Nat.le_of_ble_eq_true rfl, Nat.le_of_ble_eq_true rfl⟩ dX10_member_8 (fun r7 L6 f5 H locs hp hH => ?_)
  obtain ⟨er7, rfl, rfl⟩ := hp
  subst er7
  refine lv_if_eq (tgt := 39) hx hb dX10_member_11 (by decide) (fun _ => ?_) (fun h => absurd (by decide) h)
  refine lv_bipush (v := (-2 : Int32)) hx hb dX10_member_39 (by decide) ?_
  refine g_iret C hr hH (Nat.le_of_ble_eq_true rfl) (Nat.le_of_ble_eq_true rfl) dX10_member_41 ?_
  exact rfl
set_option maxHeartbeats 4000000 in
set_option maxRecDepth 100000 in
theorem m_lamps (l : Launch) (E : gE) (L : List Nat) (f : gF) {y : Nat} {ya : Nat → Nat} (my : y ∈ L) (fy : f y = .inr (10, [.int (0 : Int32), .ref (ya 1), .ref (ya 2), .ref (ya 3), .ref (ya 4), .ref (ya 5), .int (0 : Int32), .int (0 : Int32), .int (0 : Int32), .int (0 : Int32), .int (0 : Int32), .long (0 : Int64), .int (0 : Int32), .int (0 : Int32), .int (0 : Int32), .int (-1 : Int32), .ref (ya 16), .ref (ya 17), .ref (ya 18), .ref (ya 19), .ref (ya 20), .ref (ya 21), .int (0 : Int32), .int (0 : Int32), .int (0 : Int32), .ref (ya 25), .ref (ya 26), .ref (ya 27), .ref (ya 28), .ref (ya 29), .ref (ya 30), .ref (ya 31), .ref (ya 32), .ref (ya 33), .ref (ya 34), .ref (ya 35), .int (0 : Int32), .int (0 : Int32), .ref (ya 38), .int (0 : Int32), .int (0 : Int32), .ref (ya 41), .ref (ya 42), .int (0 : Int32), .int (0 : Int32), .int (0 : Int32), .int (0 : Int32), .int (0 : Int32)])) (m_lines : (ya 16) ∈ L) (f_lines : f (ya 16) = .inl (E.2.2 1, 5, .inl (fun _ => 0))) (m_has : (ya 17) ∈ L) (f_has : f (ya 17) = .inl (E.2.2 1, 45, .inl (fun _ => 0))) : gMi l E yX10_lamps cX10_lamps 1 .int (gRm 6 0 0) [.ref y] L f (fun r _ _ => r = (-2 : Int32)) := by
  refine gMi.intro (by decide) (Nat.le_of_ble_eq_true rfl) ?_
  intro p e s m below meth c A ls C hr hA hH hl
  have C : gC E cX10_lamps 1 RX10 p s m _ meth c := C
  have hl : lv_has ls 1 [(0, .ref y)] := hl
  have hx := C.1
  have hb := C.2.1
  refine lv_aload_n hx hb dX10_lamps_0 rfl (lv_at hl 0 rfl) ?_
  refine lv_iconst (v := (0 : Int32)) hx hb dX10_lamps_1 (by decide) ?_
  refine g_put C hH my fy iX10 tyX10 tyX10_ok nmX10 rfl 0 (by decide) wd270 rfl rfl rfl rfl (Nat.le_of_ble_eq_true rfl) (fs' := [.int (0 : Int32), .ref (ya 1), .ref (ya 2), .ref (ya 3), .ref (ya 4), .ref (ya 5), .int (0 : Int32), .int (0 : Int32), .int (0 : Int32), .int (0 : Int32), .int (0 : Int32), .long (0 : Int64), .int (0 : Int32), .int (0 : Int32), .int (0 : Int32), .int (-1 : Int32), .ref (ya 16), .ref (ya 17), .ref (ya 18), .ref (ya 19), .ref (ya 20), .ref (ya 21), .int (0 : Int32), .int (0 : Int32), .int (0 : Int32), .ref (ya 25), .ref (ya 26), .ref (ya 27), .ref (ya 28), .ref (ya 29), .ref (ya 30), .ref (ya 31), .ref (ya 32), .ref (ya 33), .ref (ya 34), .ref (ya 35), .int (0 : Int32), .int (0 : Int32), .ref (ya 38), .int (0 : Int32), .int (0 : Int32), .ref (ya 41), .ref (ya 42), .int (0 : Int32), .int (0 : Int32), .int (0 : Int32), .int (0 : Int32), .int (0 : Int32)]) rfl dX10_lamps_2 (fun H locs hH => ?_)
  obtain ⟨f1, ef1⟩ : ∃ z : gF, z = va_up f y (.inr (10, [.int (0 : Int32), .ref (ya 1), .ref (ya 2), .ref (ya 3), .ref (ya 4), .ref (ya 5), .int (0 : Int32), .int (0 : Int32), .int (0 : Int32), .int (0 : Int32), .int (0 : Int32), .long (0 : Int64), .int (0 : Int32), .int (0 : Int32), .int (0 : Int32), .int (-1 : Int32), .ref (ya 16), .ref (ya 17), .ref (ya 18), .ref (ya 19), .ref (ya 20), .ref (ya 21), .int (0 : Int32), .int (0 : Int32), .int (0 : Int32), .ref (ya 25), .ref (ya 26), .ref (ya 27), .ref (ya 28), .ref (ya 29), .ref (ya 30), .ref (ya 31), .ref (ya 32), .ref (ya 33), .ref (ya 34), .ref (ya 35), .int (0 : Int32), .int (0 : Int32), .ref (ya 38), .int (0 : Int32), .int (0 : Int32), .ref (ya 41), .ref (ya 42), .int (0 : Int32), .int (0 : Int32), .int (0 : Int32), .int (0 : Int32), .int (0 : Int32)])) := ⟨_, rfl⟩
  have hH : gH E A L f1 s.heap H locs := by rw [ef1]; exact hH
  have h2 : f1 y = .inr (10, [.int (0 : Int32), .ref (ya 1), .ref (ya 2), .ref (ya 3), .ref (ya 4), .ref (ya 5), .int (0 : Int32), .int (0 : Int32), .int (0 : Int32), .int (0 : Int32), .int (0 : Int32), .long (0 : Int64), .int (0 : Int32), .int (0 : Int32), .int (0 : Int32), .int (-1 : Int32), .ref (ya 16), .ref (ya 17), .ref (ya 18), .ref (ya 19), .ref (ya 20), .ref (ya 21), .int (0 : Int32), .int (0 : Int32), .int (0 : Int32), .ref (ya 25), .ref (ya 26), .ref (ya 27), .ref (ya 28), .ref (ya 29), .ref (ya 30), .ref (ya 31), .ref (ya 32), .ref (ya 33), .ref (ya 34), .ref (ya 35), .int (0 : Int32), .int (0 : Int32), .ref (ya 38), .int (0 : Int32), .int (0 : Int32), .ref (ya 41), .ref (ya 42), .int (0 : Int32), .int (0 : Int32), .int (0 : Int32), .int (0 : Int32), .int (0 : Int32)]) := (congrFun ef1 y).trans (va_up_self _ _ _)
  refine lv_aload_n hx hb dX10_lamps_5 rfl (lv_at hl 0 rfl) ?_
  have h3 : f1 (ya 16) = .inl (E.2.2 1, 5, .inl (fun _ => 0)) := ((congrFun ef1 (ya 16)).trans (va_up_ne _ _ (g_neAO f_lines fy))).trans f_lines
  have h4 : f1 (ya 17) = .inl (E.2.2 1, 45, .inl (fun _ => 0)) := ((congrFun ef1 (ya 17)).trans (va_up_ne _ _ (g_neAO f_has fy))).trans f_has
  refine g_Vi C hl.1 hA hH (As := []) (rest := []) (m_isLand l E L f1 my h2 m_lines h3 m_has h4) my_X10_isLand wd266 my h2 rfl rfl rfl (Nat.le_of_ble_eq_true rfl) ⟨Nat.le_of_ble_eq_true rfl, Nat.le_of_ble_eq_true rfl⟩ ⟨Nat.le_of_ble_eq_true rfl, Nat.le_of_ble_eq_true rfl⟩ dX10_lamps_6 (fun r7 L6 f5 H locs hp hH => ?_)
  obtain ⟨er7, rfl, rfl⟩ := hp
  subst er7
  refine lv_if_ne (tgt := 15) hx hb dX10_lamps_9 (by decide) (fun h => absurd (by decide) h) (fun _ => ?_)
  refine lv_bipush (v := (-2 : Int32)) hx hb dX10_lamps_12 (by decide) ?_
  refine g_iret C hr hH (Nat.le_of_ble_eq_true rfl) (Nat.le_of_ble_eq_true rfl) dX10_lamps_14 ?_
  exact rfl
set_option maxHeartbeats 4000000 in
set_option maxRecDepth 100000 in
theorem m_at (l : Launch) (E : gE) (L : List Nat) (f : gF) {y : Nat} {ya : Nat → Nat} (my : y ∈ L) (fy : f y = .inr (10, [.int (0 : Int32), .ref (ya 1), .ref (ya 2), .ref (ya 3), .ref (ya 4), .ref (ya 5), .int (0 : Int32), .int (0 : Int32), .int (0 : Int32), .int (0 : Int32), .int (0 : Int32), .long (0 : Int64), .int (0 : Int32), .int (0 : Int32), .int (0 : Int32), .int (-1 : Int32), .ref (ya 16), .ref (ya 17), .ref (ya 18), .ref (ya 19), .ref (ya 20), .ref (ya 21), .int (0 : Int32), .int (0 : Int32), .int (0 : Int32), .ref (ya 25), .ref (ya 26), .ref (ya 27), .ref (ya 28), .ref (ya 29), .ref (ya 30), .ref (ya 31), .ref (ya 32), .ref (ya 33), .ref (ya 34), .ref (ya 35), .int (0 : Int32), .int (0 : Int32), .ref (ya 38), .int (0 : Int32), .int (0 : Int32), .ref (ya 41), .ref (ya 42), .int (0 : Int32), .int (0 : Int32), .int (0 : Int32), .int (0 : Int32), .int (0 : Int32)])) (m_lines : (ya 16) ∈ L) (f_lines : f (ya 16) = .inl (E.2.2 1, 5, .inl (fun _ => 0))) (m_has : (ya 17) ∈ L) (f_has : f (ya 17) = .inl (E.2.2 1, 45, .inl (fun _ => 0))) (p0 p1 : Int32) : gMi l E yX10_at cX10_at 3 .int (gRm 6 0 0) [.ref y, .int p0, .int p1] L f (fun r _ _ => r = (-2 : Int32)) := by
  refine gMi.intro (by decide) (Nat.le_of_ble_eq_true rfl) ?_
  intro p e s m below meth c A ls C hr hA hH hl
  have C : gC E cX10_at 3 RX10 p s m _ meth c := C
  have hl : lv_has ls 3 [(0, .ref y), (1, .int p0), (2, .int p1)] := hl
  have hx := C.1
  have hb := C.2.1
  refine lv_aload_n hx hb dX10_at_0 rfl (lv_at hl 0 rfl) ?_
  refine lv_iconst (v := (0 : Int32)) hx hb dX10_at_1 (by decide) ?_
  refine g_put C hH my fy iX10 tyX10 tyX10_ok nmX10 rfl 0 (by decide) wd270 rfl rfl rfl rfl (Nat.le_of_ble_eq_true rfl) (fs' := [.int (0 : Int32), .ref (ya 1), .ref (ya 2), .ref (ya 3), .ref (ya 4), .ref (ya 5), .int (0 : Int32), .int (0 : Int32), .int (0 : Int32), .int (0 : Int32), .int (0 : Int32), .long (0 : Int64), .int (0 : Int32), .int (0 : Int32), .int (0 : Int32), .int (-1 : Int32), .ref (ya 16), .ref (ya 17), .ref (ya 18), .ref (ya 19), .ref (ya 20), .ref (ya 21), .int (0 : Int32), .int (0 : Int32), .int (0 : Int32), .ref (ya 25), .ref (ya 26), .ref (ya 27), .ref (ya 28), .ref (ya 29), .ref (ya 30), .ref (ya 31), .ref (ya 32), .ref (ya 33), .ref (ya 34), .ref (ya 35), .int (0 : Int32), .int (0 : Int32), .ref (ya 38), .int (0 : Int32), .int (0 : Int32), .ref (ya 41), .ref (ya 42), .int (0 : Int32), .int (0 : Int32), .int (0 : Int32), .int (0 : Int32), .int (0 : Int32)]) rfl dX10_at_2 (fun H locs hH => ?_)
  obtain ⟨f1, ef1⟩ : ∃ z : gF, z = va_up f y (.inr (10, [.int (0 : Int32), .ref (ya 1), .ref (ya 2), .ref (ya 3), .ref (ya 4), .ref (ya 5), .int (0 : Int32), .int (0 : Int32), .int (0 : Int32), .int (0 : Int32), .int (0 : Int32), .long (0 : Int64), .int (0 : Int32), .int (0 : Int32), .int (0 : Int32), .int (-1 : Int32), .ref (ya 16), .ref (ya 17), .ref (ya 18), .ref (ya 19), .ref (ya 20), .ref (ya 21), .int (0 : Int32), .int (0 : Int32), .int (0 : Int32), .ref (ya 25), .ref (ya 26), .ref (ya 27), .ref (ya 28), .ref (ya 29), .ref (ya 30), .ref (ya 31), .ref (ya 32), .ref (ya 33), .ref (ya 34), .ref (ya 35), .int (0 : Int32), .int (0 : Int32), .ref (ya 38), .int (0 : Int32), .int (0 : Int32), .ref (ya 41), .ref (ya 42), .int (0 : Int32), .int (0 : Int32), .int (0 : Int32), .int (0 : Int32), .int (0 : Int32)])) := ⟨_, rfl⟩
  have hH : gH E A L f1 s.heap H locs := by rw [ef1]; exact hH
  have h2 : f1 y = .inr (10, [.int (0 : Int32), .ref (ya 1), .ref (ya 2), .ref (ya 3), .ref (ya 4), .ref (ya 5), .int (0 : Int32), .int (0 : Int32), .int (0 : Int32), .int (0 : Int32), .int (0 : Int32), .long (0 : Int64), .int (0 : Int32), .int (0 : Int32), .int (0 : Int32), .int (-1 : Int32), .ref (ya 16), .ref (ya 17), .ref (ya 18), .ref (ya 19), .ref (ya 20), .ref (ya 21), .int (0 : Int32), .int (0 : Int32), .int (0 : Int32), .ref (ya 25), .ref (ya 26), .ref (ya 27), .ref (ya 28), .ref (ya 29), .ref (ya 30), .ref (ya 31), .ref (ya 32), .ref (ya 33), .ref (ya 34), .ref (ya 35), .int (0 : Int32), .int (0 : Int32), .ref (ya 38), .int (0 : Int32), .int (0 : Int32), .ref (ya 41), .ref (ya 42), .int (0 : Int32), .int (0 : Int32), .int (0 : Int32), .int (0 : Int32), .int (0 : Int32)]) := (congrFun ef1 y).trans (va_up_self _ _ _)
  refine lv_aload_n hx hb dX10_at_5 rfl (lv_at hl 0 rfl) ?_
  refine lv_iload_n hx hb dX10_at_6 rfl (lv_at hl 1 rfl) ?_
  refine lv_i2l (v := (p0).toInt64) hx hb dX10_at_7 rfl ?_
  have h3 : f1 (ya 16) = .inl (E.2.2 1, 5, .inl (fun _ => 0)) := ((congrFun ef1 (ya 16)).trans (va_up_ne _ _ (g_neAO f_lines fy))).trans f_lines
  have h4 : f1 (ya 17) = .inl (E.2.2 1, 45, .inl (fun _ => 0)) := ((congrFun ef1 (ya 17)).trans (va_up_ne _ _ (g_neAO f_has fy))).trans f_has
  refine g_Vi C hl.1 hA hH (As := [.long (p0).toInt64]) (rest := []) (m_isFlight l E L f1 my h2 m_lines h3 m_has h4 (p0).toInt64) my_X10_isFlight wd274 my h2 rfl rfl rfl (Nat.le_of_ble_eq_true rfl) ⟨Nat.le_of_ble_eq_true rfl, Nat.le_of_ble_eq_true rfl⟩ ⟨Nat.le_of_ble_eq_true rfl, Nat.le_of_ble_eq_true rfl⟩ dX10_at_8 (fun r7 L6 f5 H locs hp hH => ?_)
  obtain ⟨er7, rfl, rfl⟩ := hp
  subst er7
  refine lv_if_eq (tgt := 21) hx hb dX10_at_11 (by decide) (fun _ => ?_) (fun h => absurd (by decide) h)
  refine lv_bipush (v := (-2 : Int32)) hx hb dX10_at_21 (by decide) ?_
  refine g_iret C hr hH (Nat.le_of_ble_eq_true rfl) (Nat.le_of_ble_eq_true rfl) dX10_at_23 ?_
  exact rfl
set_option maxHeartbeats 4000000 in
set_option maxRecDepth 100000 in
theorem m_heads (l : Launch) (E : gE) (L : List Nat) (f : gF) {y : Nat} {ya : Nat → Nat} (my : y ∈ L) (fy : f y = .inr (10, [.int (0 : Int32), .ref (ya 1), .ref (ya 2), .ref (ya 3), .ref (ya 4), .ref (ya 5), .int (0 : Int32), .int (0 : Int32), .int (0 : Int32), .int (0 : Int32), .int (0 : Int32), .long (0 : Int64), .int (0 : Int32), .int (0 : Int32), .int (0 : Int32), .int (-1 : Int32), .ref (ya 16), .ref (ya 17), .ref (ya 18), .ref (ya 19), .ref (ya 20), .ref (ya 21), .int (0 : Int32), .int (0 : Int32), .int (0 : Int32), .ref (ya 25), .ref (ya 26), .ref (ya 27), .ref (ya 28), .ref (ya 29), .ref (ya 30), .ref (ya 31), .ref (ya 32), .ref (ya 33), .ref (ya 34), .ref (ya 35), .int (0 : Int32), .int (0 : Int32), .ref (ya 38), .int (0 : Int32), .int (0 : Int32), .ref (ya 41), .ref (ya 42), .int (0 : Int32), .int (0 : Int32), .int (0 : Int32), .int (0 : Int32), .int (0 : Int32)])) (m_lines : (ya 16) ∈ L) (f_lines : f (ya 16) = .inl (E.2.2 1, 5, .inl (fun _ => 0))) (m_has : (ya 17) ∈ L) (f_has : f (ya 17) = .inl (E.2.2 1, 45, .inl (fun _ => 0))) (p0 p1 : Int32) : gMi l E yX10_heads cX10_heads 3 .int (gRm 6 0 0) [.ref y, .int p0, .int p1] L f (fun r _ _ => r = (-2 : Int32)) := by
  refine gMi.intro (by decide) (Nat.le_of_ble_eq_true rfl) ?_
  intro p e s m below meth c A ls C hr hA hH hl
  have C : gC E cX10_heads 3 RX10 p s m _ meth c := C
  have hl : lv_has ls 3 [(0, .ref y), (1, .int p0), (2, .int p1)] := hl
  have hx := C.1
  have hb := C.2.1
  refine lv_aload_n hx hb dX10_heads_0 rfl (lv_at hl 0 rfl) ?_
  refine lv_iconst (v := (0 : Int32)) hx hb dX10_heads_1 (by decide) ?_
  refine g_put C hH my fy iX10 tyX10 tyX10_ok nmX10 rfl 0 (by decide) wd270 rfl rfl rfl rfl (Nat.le_of_ble_eq_true rfl) (fs' := [.int (0 : Int32), .ref (ya 1), .ref (ya 2), .ref (ya 3), .ref (ya 4), .ref (ya 5), .int (0 : Int32), .int (0 : Int32), .int (0 : Int32), .int (0 : Int32), .int (0 : Int32), .long (0 : Int64), .int (0 : Int32), .int (0 : Int32), .int (0 : Int32), .int (-1 : Int32), .ref (ya 16), .ref (ya 17), .ref (ya 18), .ref (ya 19), .ref (ya 20), .ref (ya 21), .int (0 : Int32), .int (0 : Int32), .int (0 : Int32), .ref (ya 25), .ref (ya 26), .ref (ya 27), .ref (ya 28), .ref (ya 29), .ref (ya 30), .ref (ya 31), .ref (ya 32), .ref (ya 33), .ref (ya 34), .ref (ya 35), .int (0 : Int32), .int (0 : Int32), .ref (ya 38), .int (0 : Int32), .int (0 : Int32), .ref (ya 41), .ref (ya 42), .int (0 : Int32), .int (0 : Int32), .int (0 : Int32), .int (0 : Int32), .int (0 : Int32)]) rfl dX10_heads_2 (fun H locs hH => ?_)
  obtain ⟨f1, ef1⟩ : ∃ z : gF, z = va_up f y (.inr (10, [.int (0 : Int32), .ref (ya 1), .ref (ya 2), .ref (ya 3), .ref (ya 4), .ref (ya 5), .int (0 : Int32), .int (0 : Int32), .int (0 : Int32), .int (0 : Int32), .int (0 : Int32), .long (0 : Int64), .int (0 : Int32), .int (0 : Int32), .int (0 : Int32), .int (-1 : Int32), .ref (ya 16), .ref (ya 17), .ref (ya 18), .ref (ya 19), .ref (ya 20), .ref (ya 21), .int (0 : Int32), .int (0 : Int32), .int (0 : Int32), .ref (ya 25), .ref (ya 26), .ref (ya 27), .ref (ya 28), .ref (ya 29), .ref (ya 30), .ref (ya 31), .ref (ya 32), .ref (ya 33), .ref (ya 34), .ref (ya 35), .int (0 : Int32), .int (0 : Int32), .ref (ya 38), .int (0 : Int32), .int (0 : Int32), .ref (ya 41), .ref (ya 42), .int (0 : Int32), .int (0 : Int32), .int (0 : Int32), .int (0 : Int32), .int (0 : Int32)])) := ⟨_, rfl⟩
  have hH : gH E A L f1 s.heap H locs := by rw [ef1]; exact hH
  have h2 : f1 y = .inr (10, [.int (0 : Int32), .ref (ya 1), .ref (ya 2), .ref (ya 3), .ref (ya 4), .ref (ya 5), .int (0 : Int32), .int (0 : Int32), .int (0 : Int32), .int (0 : Int32), .int (0 : Int32), .long (0 : Int64), .int (0 : Int32), .int (0 : Int32), .int (0 : Int32), .int (-1 : Int32), .ref (ya 16), .ref (ya 17), .ref (ya 18), .ref (ya 19), .ref (ya 20), .ref (ya 21), .int (0 : Int32), .int (0 : Int32), .int (0 : Int32), .ref (ya 25), .ref (ya 26), .ref (ya 27), .ref (ya 28), .ref (ya 29), .ref (ya 30), .ref (ya 31), .ref (ya 32), .ref (ya 33), .ref (ya 34), .ref (ya 35), .int (0 : Int32), .int (0 : Int32), .ref (ya 38), .int (0 : Int32), .int (0 : Int32), .ref (ya 41), .ref (ya 42), .int (0 : Int32), .int (0 : Int32), .int (0 : Int32), .int (0 : Int32), .int (0 : Int32)]) := (congrFun ef1 y).trans (va_up_self _ _ _)
  refine lv_aload_n hx hb dX10_heads_5 rfl (lv_at hl 0 rfl) ?_
  refine lv_iload_n hx hb dX10_heads_6 rfl (lv_at hl 1 rfl) ?_
  refine lv_i2l (v := (p0).toInt64) hx hb dX10_heads_7 rfl ?_
  have h3 : f1 (ya 16) = .inl (E.2.2 1, 5, .inl (fun _ => 0)) := ((congrFun ef1 (ya 16)).trans (va_up_ne _ _ (g_neAO f_lines fy))).trans f_lines
  have h4 : f1 (ya 17) = .inl (E.2.2 1, 45, .inl (fun _ => 0)) := ((congrFun ef1 (ya 17)).trans (va_up_ne _ _ (g_neAO f_has fy))).trans f_has
  refine g_Vi C hl.1 hA hH (As := [.long (p0).toInt64]) (rest := []) (m_isFlight l E L f1 my h2 m_lines h3 m_has h4 (p0).toInt64) my_X10_isFlight wd274 my h2 rfl rfl rfl (Nat.le_of_ble_eq_true rfl) ⟨Nat.le_of_ble_eq_true rfl, Nat.le_of_ble_eq_true rfl⟩ ⟨Nat.le_of_ble_eq_true rfl, Nat.le_of_ble_eq_true rfl⟩ dX10_heads_8 (fun r7 L6 f5 H locs hp hH => ?_)
  obtain ⟨er7, rfl, rfl⟩ := hp
  subst er7
  refine lv_if_eq (tgt := 21) hx hb dX10_heads_11 (by decide) (fun _ => ?_) (fun h => absurd (by decide) h)
  refine lv_bipush (v := (-2 : Int32)) hx hb dX10_heads_21 (by decide) ?_
  refine g_iret C hr hH (Nat.le_of_ble_eq_true rfl) (Nat.le_of_ble_eq_true rfl) dX10_heads_23 ?_
  exact rfl
set_option maxHeartbeats 4000000 in
set_option maxRecDepth 100000 in
theorem m_out (l : Launch) (E : gE) (L : List Nat) (f : gF) {y : Nat} {ya : Nat → Nat} (my : y ∈ L) (fy : f y = .inr (10, [.int (0 : Int32), .ref (ya 1), .ref (ya 2), .ref (ya 3), .ref (ya 4), .ref (ya 5), .int (0 : Int32), .int (0 : Int32), .int (0 : Int32), .int (0 : Int32), .int (0 : Int32), .long (0 : Int64), .int (0 : Int32), .int (0 : Int32), .int (0 : Int32), .int (-1 : Int32), .ref (ya 16), .ref (ya 17), .ref (ya 18), .ref (ya 19), .ref (ya 20), .ref (ya 21), .int (0 : Int32), .int (0 : Int32), .int (0 : Int32), .ref (ya 25), .ref (ya 26), .ref (ya 27), .ref (ya 28), .ref (ya 29), .ref (ya 30), .ref (ya 31), .ref (ya 32), .ref (ya 33), .ref (ya 34), .ref (ya 35), .int (0 : Int32), .int (0 : Int32), .ref (ya 38), .int (0 : Int32), .int (0 : Int32), .ref (ya 41), .ref (ya 42), .int (0 : Int32), .int (0 : Int32), .int (0 : Int32), .int (0 : Int32), .int (0 : Int32)])) (m_lines : (ya 16) ∈ L) (f_lines : f (ya 16) = .inl (E.2.2 1, 5, .inl (fun _ => 0))) (m_has : (ya 17) ∈ L) (f_has : f (ya 17) = .inl (E.2.2 1, 45, .inl (fun _ => 0))) (p0 : Int32) : gMi l E yX10_out cX10_out 2 .int (gRm 6 0 0) [.ref y, .int p0] L f (fun r _ _ => r = (-2 : Int32)) := by
  refine gMi.intro (by decide) (Nat.le_of_ble_eq_true rfl) ?_
  intro p e s m below meth c A ls C hr hA hH hl
  have C : gC E cX10_out 2 RX10 p s m _ meth c := C
  have hl : lv_has ls 2 [(0, .ref y), (1, .int p0)] := hl
  have hx := C.1
  have hb := C.2.1
  refine lv_aload_n hx hb dX10_out_0 rfl (lv_at hl 0 rfl) ?_
  refine lv_iconst (v := (0 : Int32)) hx hb dX10_out_1 (by decide) ?_
  refine g_put C hH my fy iX10 tyX10 tyX10_ok nmX10 rfl 0 (by decide) wd270 rfl rfl rfl rfl (Nat.le_of_ble_eq_true rfl) (fs' := [.int (0 : Int32), .ref (ya 1), .ref (ya 2), .ref (ya 3), .ref (ya 4), .ref (ya 5), .int (0 : Int32), .int (0 : Int32), .int (0 : Int32), .int (0 : Int32), .int (0 : Int32), .long (0 : Int64), .int (0 : Int32), .int (0 : Int32), .int (0 : Int32), .int (-1 : Int32), .ref (ya 16), .ref (ya 17), .ref (ya 18), .ref (ya 19), .ref (ya 20), .ref (ya 21), .int (0 : Int32), .int (0 : Int32), .int (0 : Int32), .ref (ya 25), .ref (ya 26), .ref (ya 27), .ref (ya 28), .ref (ya 29), .ref (ya 30), .ref (ya 31), .ref (ya 32), .ref (ya 33), .ref (ya 34), .ref (ya 35), .int (0 : Int32), .int (0 : Int32), .ref (ya 38), .int (0 : Int32), .int (0 : Int32), .ref (ya 41), .ref (ya 42), .int (0 : Int32), .int (0 : Int32), .int (0 : Int32), .int (0 : Int32), .int (0 : Int32)]) rfl dX10_out_2 (fun H locs hH => ?_)
  obtain ⟨f1, ef1⟩ : ∃ z : gF, z = va_up f y (.inr (10, [.int (0 : Int32), .ref (ya 1), .ref (ya 2), .ref (ya 3), .ref (ya 4), .ref (ya 5), .int (0 : Int32), .int (0 : Int32), .int (0 : Int32), .int (0 : Int32), .int (0 : Int32), .long (0 : Int64), .int (0 : Int32), .int (0 : Int32), .int (0 : Int32), .int (-1 : Int32), .ref (ya 16), .ref (ya 17), .ref (ya 18), .ref (ya 19), .ref (ya 20), .ref (ya 21), .int (0 : Int32), .int (0 : Int32), .int (0 : Int32), .ref (ya 25), .ref (ya 26), .ref (ya 27), .ref (ya 28), .ref (ya 29), .ref (ya 30), .ref (ya 31), .ref (ya 32), .ref (ya 33), .ref (ya 34), .ref (ya 35), .int (0 : Int32), .int (0 : Int32), .ref (ya 38), .int (0 : Int32), .int (0 : Int32), .ref (ya 41), .ref (ya 42), .int (0 : Int32), .int (0 : Int32), .int (0 : Int32), .int (0 : Int32), .int (0 : Int32)])) := ⟨_, rfl⟩
  have hH : gH E A L f1 s.heap H locs := by rw [ef1]; exact hH
  have h2 : f1 y = .inr (10, [.int (0 : Int32), .ref (ya 1), .ref (ya 2), .ref (ya 3), .ref (ya 4), .ref (ya 5), .int (0 : Int32), .int (0 : Int32), .int (0 : Int32), .int (0 : Int32), .int (0 : Int32), .long (0 : Int64), .int (0 : Int32), .int (0 : Int32), .int (0 : Int32), .int (-1 : Int32), .ref (ya 16), .ref (ya 17), .ref (ya 18), .ref (ya 19), .ref (ya 20), .ref (ya 21), .int (0 : Int32), .int (0 : Int32), .int (0 : Int32), .ref (ya 25), .ref (ya 26), .ref (ya 27), .ref (ya 28), .ref (ya 29), .ref (ya 30), .ref (ya 31), .ref (ya 32), .ref (ya 33), .ref (ya 34), .ref (ya 35), .int (0 : Int32), .int (0 : Int32), .ref (ya 38), .int (0 : Int32), .int (0 : Int32), .ref (ya 41), .ref (ya 42), .int (0 : Int32), .int (0 : Int32), .int (0 : Int32), .int (0 : Int32), .int (0 : Int32)]) := (congrFun ef1 y).trans (va_up_self _ _ _)
  refine lv_aload_n hx hb dX10_out_5 rfl (lv_at hl 0 rfl) ?_
  refine lv_iload_n hx hb dX10_out_6 rfl (lv_at hl 1 rfl) ?_
  refine lv_i2l (v := (p0).toInt64) hx hb dX10_out_7 rfl ?_
  have h3 : f1 (ya 16) = .inl (E.2.2 1, 5, .inl (fun _ => 0)) := ((congrFun ef1 (ya 16)).trans (va_up_ne _ _ (g_neAO f_lines fy))).trans f_lines
  have h4 : f1 (ya 17) = .inl (E.2.2 1, 45, .inl (fun _ => 0)) := ((congrFun ef1 (ya 17)).trans (va_up_ne _ _ (g_neAO f_has fy))).trans f_has
  refine g_Vi C hl.1 hA hH (As := [.long (p0).toInt64]) (rest := []) (m_isFlight l E L f1 my h2 m_lines h3 m_has h4 (p0).toInt64) my_X10_isFlight wd274 my h2 rfl rfl rfl (Nat.le_of_ble_eq_true rfl) ⟨Nat.le_of_ble_eq_true rfl, Nat.le_of_ble_eq_true rfl⟩ ⟨Nat.le_of_ble_eq_true rfl, Nat.le_of_ble_eq_true rfl⟩ dX10_out_8 (fun r7 L6 f5 H locs hp hH => ?_)
  obtain ⟨er7, rfl, rfl⟩ := hp
  subst er7
  refine lv_if_ne (tgt := 17) hx hb dX10_out_11 (by decide) (fun h => absurd (by decide) h) (fun _ => ?_)
  refine lv_bipush (v := (-2 : Int32)) hx hb dX10_out_14 (by decide) ?_
  refine g_iret C hr hH (Nat.le_of_ble_eq_true rfl) (Nat.le_of_ble_eq_true rfl) dX10_out_16 ?_
  exact rfl
set_option maxHeartbeats 4000000 in
set_option maxRecDepth 100000 in
theorem m_bends (l : Launch) (E : gE) (L : List Nat) (f : gF) {y : Nat} {ya : Nat → Nat} (my : y ∈ L) (fy : f y = .inr (10, [.int (0 : Int32), .ref (ya 1), .ref (ya 2), .ref (ya 3), .ref (ya 4), .ref (ya 5), .int (0 : Int32), .int (0 : Int32), .int (0 : Int32), .int (0 : Int32), .int (0 : Int32), .long (0 : Int64), .int (0 : Int32), .int (0 : Int32), .int (0 : Int32), .int (-1 : Int32), .ref (ya 16), .ref (ya 17), .ref (ya 18), .ref (ya 19), .ref (ya 20), .ref (ya 21), .int (0 : Int32), .int (0 : Int32), .int (0 : Int32), .ref (ya 25), .ref (ya 26), .ref (ya 27), .ref (ya 28), .ref (ya 29), .ref (ya 30), .ref (ya 31), .ref (ya 32), .ref (ya 33), .ref (ya 34), .ref (ya 35), .int (0 : Int32), .int (0 : Int32), .ref (ya 38), .int (0 : Int32), .int (0 : Int32), .ref (ya 41), .ref (ya 42), .int (0 : Int32), .int (0 : Int32), .int (0 : Int32), .int (0 : Int32), .int (0 : Int32)])) (m_lines : (ya 16) ∈ L) (f_lines : f (ya 16) = .inl (E.2.2 1, 5, .inl (fun _ => 0))) (m_has : (ya 17) ∈ L) (f_has : f (ya 17) = .inl (E.2.2 1, 45, .inl (fun _ => 0))) (p0 : Int32) : gMi l E yX10_bends cX10_bends 2 .int (gRm 6 0 0) [.ref y, .int p0] L f (fun r _ _ => r = (-2 : Int32)) := by
  refine gMi.intro (by decide) (Nat.le_of_ble_eq_true rfl) ?_
  intro p e s m below meth c A ls C hr hA hH hl
  have C : gC E cX10_bends 2 RX10 p s m _ meth c := C
  have hl : lv_has ls 2 [(0, .ref y), (1, .int p0)] := hl
  have hx := C.1
  have hb := C.2.1
  refine lv_aload_n hx hb dX10_bends_0 rfl (lv_at hl 0 rfl) ?_
  refine lv_iconst (v := (0 : Int32)) hx hb dX10_bends_1 (by decide) ?_
  refine g_put C hH my fy iX10 tyX10 tyX10_ok nmX10 rfl 0 (by decide) wd270 rfl rfl rfl rfl (Nat.le_of_ble_eq_true rfl) (fs' := [.int (0 : Int32), .ref (ya 1), .ref (ya 2), .ref (ya 3), .ref (ya 4), .ref (ya 5), .int (0 : Int32), .int (0 : Int32), .int (0 : Int32), .int (0 : Int32), .int (0 : Int32), .long (0 : Int64), .int (0 : Int32), .int (0 : Int32), .int (0 : Int32), .int (-1 : Int32), .ref (ya 16), .ref (ya 17), .ref (ya 18), .ref (ya 19), .ref (ya 20), .ref (ya 21), .int (0 : Int32), .int (0 : Int32), .int (0 : Int32), .ref (ya 25), .ref (ya 26), .ref (ya 27), .ref (ya 28), .ref (ya 29), .ref (ya 30), .ref (ya 31), .ref (ya 32), .ref (ya 33), .ref (ya 34), .ref (ya 35), .int (0 : Int32), .int (0 : Int32), .ref (ya 38), .int (0 : Int32), .int (0 : Int32), .ref (ya 41), .ref (ya 42), .int (0 : Int32), .int (0 : Int32), .int (0 : Int32), .int (0 : Int32), .int (0 : Int32)]) rfl dX10_bends_2 (fun H locs hH => ?_)
  obtain ⟨f1, ef1⟩ : ∃ z : gF, z = va_up f y (.inr (10, [.int (0 : Int32), .ref (ya 1), .ref (ya 2), .ref (ya 3), .ref (ya 4), .ref (ya 5), .int (0 : Int32), .int (0 : Int32), .int (0 : Int32), .int (0 : Int32), .int (0 : Int32), .long (0 : Int64), .int (0 : Int32), .int (0 : Int32), .int (0 : Int32), .int (-1 : Int32), .ref (ya 16), .ref (ya 17), .ref (ya 18), .ref (ya 19), .ref (ya 20), .ref (ya 21), .int (0 : Int32), .int (0 : Int32), .int (0 : Int32), .ref (ya 25), .ref (ya 26), .ref (ya 27), .ref (ya 28), .ref (ya 29), .ref (ya 30), .ref (ya 31), .ref (ya 32), .ref (ya 33), .ref (ya 34), .ref (ya 35), .int (0 : Int32), .int (0 : Int32), .ref (ya 38), .int (0 : Int32), .int (0 : Int32), .ref (ya 41), .ref (ya 42), .int (0 : Int32), .int (0 : Int32), .int (0 : Int32), .int (0 : Int32), .int (0 : Int32)])) := ⟨_, rfl⟩
  have hH : gH E A L f1 s.heap H locs := by rw [ef1]; exact hH
  have h2 : f1 y = .inr (10, [.int (0 : Int32), .ref (ya 1), .ref (ya 2), .ref (ya 3), .ref (ya 4), .ref (ya 5), .int (0 : Int32), .int (0 : Int32), .int (0 : Int32), .int (0 : Int32), .int (0 : Int32), .long (0 : Int64), .int (0 : Int32), .int (0 : Int32), .int (0 : Int32), .int (-1 : Int32), .ref (ya 16), .ref (ya 17), .ref (ya 18), .ref (ya 19), .ref (ya 20), .ref (ya 21), .int (0 : Int32), .int (0 : Int32), .int (0 : Int32), .ref (ya 25), .ref (ya 26), .ref (ya 27), .ref (ya 28), .ref (ya 29), .ref (ya 30), .ref (ya 31), .ref (ya 32), .ref (ya 33), .ref (ya 34), .ref (ya 35), .int (0 : Int32), .int (0 : Int32), .ref (ya 38), .int (0 : Int32), .int (0 : Int32), .ref (ya 41), .ref (ya 42), .int (0 : Int32), .int (0 : Int32), .int (0 : Int32), .int (0 : Int32), .int (0 : Int32)]) := (congrFun ef1 y).trans (va_up_self _ _ _)
  refine lv_aload_n hx hb dX10_bends_5 rfl (lv_at hl 0 rfl) ?_
  refine lv_iload_n hx hb dX10_bends_6 rfl (lv_at hl 1 rfl) ?_
  refine lv_i2l (v := (p0).toInt64) hx hb dX10_bends_7 rfl ?_
  have h3 : f1 (ya 16) = .inl (E.2.2 1, 5, .inl (fun _ => 0)) := ((congrFun ef1 (ya 16)).trans (va_up_ne _ _ (g_neAO f_lines fy))).trans f_lines
  have h4 : f1 (ya 17) = .inl (E.2.2 1, 45, .inl (fun _ => 0)) := ((congrFun ef1 (ya 17)).trans (va_up_ne _ _ (g_neAO f_has fy))).trans f_has
  refine g_Vi C hl.1 hA hH (As := [.long (p0).toInt64]) (rest := []) (m_isFlight l E L f1 my h2 m_lines h3 m_has h4 (p0).toInt64) my_X10_isFlight wd274 my h2 rfl rfl rfl (Nat.le_of_ble_eq_true rfl) ⟨Nat.le_of_ble_eq_true rfl, Nat.le_of_ble_eq_true rfl⟩ ⟨Nat.le_of_ble_eq_true rfl, Nat.le_of_ble_eq_true rfl⟩ dX10_bends_8 (fun r7 L6 f5 H locs hp hH => ?_)
  obtain ⟨er7, rfl, rfl⟩ := hp
  subst er7
  refine lv_if_ne (tgt := 17) hx hb dX10_bends_11 (by decide) (fun h => absurd (by decide) h) (fun _ => ?_)
  refine lv_bipush (v := (-2 : Int32)) hx hb dX10_bends_14 (by decide) ?_
  refine g_iret C hr hH (Nat.le_of_ble_eq_true rfl) (Nat.le_of_ble_eq_true rfl) dX10_bends_16 ?_
  exact rfl
set_option maxHeartbeats 4000000 in
set_option maxRecDepth 100000 in
theorem m_way (l : Launch) (E : gE) (L : List Nat) (f : gF) {y : Nat} {ya : Nat → Nat} (my : y ∈ L) (fy : f y = .inr (10, [.int (0 : Int32), .ref (ya 1), .ref (ya 2), .ref (ya 3), .ref (ya 4), .ref (ya 5), .int (0 : Int32), .int (0 : Int32), .int (0 : Int32), .int (0 : Int32), .int (0 : Int32), .long (0 : Int64), .int (0 : Int32), .int (0 : Int32), .int (0 : Int32), .int (-1 : Int32), .ref (ya 16), .ref (ya 17), .ref (ya 18), .ref (ya 19), .ref (ya 20), .ref (ya 21), .int (0 : Int32), .int (0 : Int32), .int (0 : Int32), .ref (ya 25), .ref (ya 26), .ref (ya 27), .ref (ya 28), .ref (ya 29), .ref (ya 30), .ref (ya 31), .ref (ya 32), .ref (ya 33), .ref (ya 34), .ref (ya 35), .int (0 : Int32), .int (0 : Int32), .ref (ya 38), .int (0 : Int32), .int (0 : Int32), .ref (ya 41), .ref (ya 42), .int (0 : Int32), .int (0 : Int32), .int (0 : Int32), .int (0 : Int32), .int (0 : Int32)])) (m_lines : (ya 16) ∈ L) (f_lines : f (ya 16) = .inl (E.2.2 1, 5, .inl (fun _ => 0))) (m_has : (ya 17) ∈ L) (f_has : f (ya 17) = .inl (E.2.2 1, 45, .inl (fun _ => 0))) (p0 : Int32) : gMi l E yX10_way cX10_way 2 .int (gRm 6 0 0) [.ref y, .int p0] L f (fun r _ _ => r = (-2 : Int32)) := by
  refine gMi.intro (by decide) (Nat.le_of_ble_eq_true rfl) ?_
  intro p e s m below meth c A ls C hr hA hH hl
  have C : gC E cX10_way 2 RX10 p s m _ meth c := C
  have hl : lv_has ls 2 [(0, .ref y), (1, .int p0)] := hl
  have hx := C.1
  have hb := C.2.1
  refine lv_aload_n hx hb dX10_way_0 rfl (lv_at hl 0 rfl) ?_
  refine lv_iconst (v := (0 : Int32)) hx hb dX10_way_1 (by decide) ?_
  refine g_put C hH my fy iX10 tyX10 tyX10_ok nmX10 rfl 0 (by decide) wd270 rfl rfl rfl rfl (Nat.le_of_ble_eq_true rfl) (fs' := [.int (0 : Int32), .ref (ya 1), .ref (ya 2), .ref (ya 3), .ref (ya 4), .ref (ya 5), .int (0 : Int32), .int (0 : Int32), .int (0 : Int32), .int (0 : Int32), .int (0 : Int32), .long (0 : Int64), .int (0 : Int32), .int (0 : Int32), .int (0 : Int32), .int (-1 : Int32), .ref (ya 16), .ref (ya 17), .ref (ya 18), .ref (ya 19), .ref (ya 20), .ref (ya 21), .int (0 : Int32), .int (0 : Int32), .int (0 : Int32), .ref (ya 25), .ref (ya 26), .ref (ya 27), .ref (ya 28), .ref (ya 29), .ref (ya 30), .ref (ya 31), .ref (ya 32), .ref (ya 33), .ref (ya 34), .ref (ya 35), .int (0 : Int32), .int (0 : Int32), .ref (ya 38), .int (0 : Int32), .int (0 : Int32), .ref (ya 41), .ref (ya 42), .int (0 : Int32), .int (0 : Int32), .int (0 : Int32), .int (0 : Int32), .int (0 : Int32)]) rfl dX10_way_2 (fun H locs hH => ?_)
  obtain ⟨f1, ef1⟩ : ∃ z : gF, z = va_up f y (.inr (10, [.int (0 : Int32), .ref (ya 1), .ref (ya 2), .ref (ya 3), .ref (ya 4), .ref (ya 5), .int (0 : Int32), .int (0 : Int32), .int (0 : Int32), .int (0 : Int32), .int (0 : Int32), .long (0 : Int64), .int (0 : Int32), .int (0 : Int32), .int (0 : Int32), .int (-1 : Int32), .ref (ya 16), .ref (ya 17), .ref (ya 18), .ref (ya 19), .ref (ya 20), .ref (ya 21), .int (0 : Int32), .int (0 : Int32), .int (0 : Int32), .ref (ya 25), .ref (ya 26), .ref (ya 27), .ref (ya 28), .ref (ya 29), .ref (ya 30), .ref (ya 31), .ref (ya 32), .ref (ya 33), .ref (ya 34), .ref (ya 35), .int (0 : Int32), .int (0 : Int32), .ref (ya 38), .int (0 : Int32), .int (0 : Int32), .ref (ya 41), .ref (ya 42), .int (0 : Int32), .int (0 : Int32), .int (0 : Int32), .int (0 : Int32), .int (0 : Int32)])) := ⟨_, rfl⟩
  have hH : gH E A L f1 s.heap H locs := by rw [ef1]; exact hH
  have h2 : f1 y = .inr (10, [.int (0 : Int32), .ref (ya 1), .ref (ya 2), .ref (ya 3), .ref (ya 4), .ref (ya 5), .int (0 : Int32), .int (0 : Int32), .int (0 : Int32), .int (0 : Int32), .int (0 : Int32), .long (0 : Int64), .int (0 : Int32), .int (0 : Int32), .int (0 : Int32), .int (-1 : Int32), .ref (ya 16), .ref (ya 17), .ref (ya 18), .ref (ya 19), .ref (ya 20), .ref (ya 21), .int (0 : Int32), .int (0 : Int32), .int (0 : Int32), .ref (ya 25), .ref (ya 26), .ref (ya 27), .ref (ya 28), .ref (ya 29), .ref (ya 30), .ref (ya 31), .ref (ya 32), .ref (ya 33), .ref (ya 34), .ref (ya 35), .int (0 : Int32), .int (0 : Int32), .ref (ya 38), .int (0 : Int32), .int (0 : Int32), .ref (ya 41), .ref (ya 42), .int (0 : Int32), .int (0 : Int32), .int (0 : Int32), .int (0 : Int32), .int (0 : Int32)]) := (congrFun ef1 y).trans (va_up_self _ _ _)
  refine lv_aload_n hx hb dX10_way_5 rfl (lv_at hl 0 rfl) ?_
  refine lv_iload_n hx hb dX10_way_6 rfl (lv_at hl 1 rfl) ?_
  refine lv_i2l (v := (p0).toInt64) hx hb dX10_way_7 rfl ?_
  have h3 : f1 (ya 16) = .inl (E.2.2 1, 5, .inl (fun _ => 0)) := ((congrFun ef1 (ya 16)).trans (va_up_ne _ _ (g_neAO f_lines fy))).trans f_lines
  have h4 : f1 (ya 17) = .inl (E.2.2 1, 45, .inl (fun _ => 0)) := ((congrFun ef1 (ya 17)).trans (va_up_ne _ _ (g_neAO f_has fy))).trans f_has
  refine g_Vi C hl.1 hA hH (As := [.long (p0).toInt64]) (rest := []) (m_isFlight l E L f1 my h2 m_lines h3 m_has h4 (p0).toInt64) my_X10_isFlight wd274 my h2 rfl rfl rfl (Nat.le_of_ble_eq_true rfl) ⟨Nat.le_of_ble_eq_true rfl, Nat.le_of_ble_eq_true rfl⟩ ⟨Nat.le_of_ble_eq_true rfl, Nat.le_of_ble_eq_true rfl⟩ dX10_way_8 (fun r7 L6 f5 H locs hp hH => ?_)
  obtain ⟨er7, rfl, rfl⟩ := hp
  subst er7
  refine lv_if_ne (tgt := 17) hx hb dX10_way_11 (by decide) (fun h => absurd (by decide) h) (fun _ => ?_)
  refine lv_bipush (v := (-2 : Int32)) hx hb dX10_way_14 (by decide) ?_
  refine g_iret C hr hH (Nat.le_of_ble_eq_true rfl) (Nat.le_of_ble_eq_true rfl) dX10_way_16 ?_
  exact rfl
set_option maxHeartbeats 4000000 in
set_option maxRecDepth 100000 in
theorem m_over (l : Launch) (E : gE) (L : List Nat) (f : gF) {y : Nat} {ya : Nat → Nat} (my : y ∈ L) (fy : f y = .inr (10, [.int (0 : Int32), .ref (ya 1), .ref (ya 2), .ref (ya 3), .ref (ya 4), .ref (ya 5), .int (0 : Int32), .int (0 : Int32), .int (0 : Int32), .int (0 : Int32), .int (0 : Int32), .long (0 : Int64), .int (0 : Int32), .int (0 : Int32), .int (0 : Int32), .int (-1 : Int32), .ref (ya 16), .ref (ya 17), .ref (ya 18), .ref (ya 19), .ref (ya 20), .ref (ya 21), .int (0 : Int32), .int (0 : Int32), .int (0 : Int32), .ref (ya 25), .ref (ya 26), .ref (ya 27), .ref (ya 28), .ref (ya 29), .ref (ya 30), .ref (ya 31), .ref (ya 32), .ref (ya 33), .ref (ya 34), .ref (ya 35), .int (0 : Int32), .int (0 : Int32), .ref (ya 38), .int (0 : Int32), .int (0 : Int32), .ref (ya 41), .ref (ya 42), .int (0 : Int32), .int (0 : Int32), .int (0 : Int32), .int (0 : Int32), .int (0 : Int32)])) (m_lines : (ya 16) ∈ L) (f_lines : f (ya 16) = .inl (E.2.2 1, 5, .inl (fun _ => 0))) (m_has : (ya 17) ∈ L) (f_has : f (ya 17) = .inl (E.2.2 1, 45, .inl (fun _ => 0))) (p0 : Int32) : gMi l E yX10_over cX10_over 4 .int (gRm 6 0 0) [.ref y, .int p0] L f (fun r _ _ => r = (-2 : Int32)) := by
  refine gMi.intro (by decide) (Nat.le_of_ble_eq_true rfl) ?_
  intro p e s m below meth c A ls C hr hA hH hl
  have C : gC E cX10_over 4 RX10 p s m _ meth c := C
  have hl : lv_has ls 4 [(0, .ref y), (1, .int p0)] := hl
  have hx := C.1
  have hb := C.2.1
  refine lv_aload_n hx hb dX10_over_0 rfl (lv_at hl 0 rfl) ?_
  refine lv_iconst (v := (0 : Int32)) hx hb dX10_over_1 (by decide) ?_
  refine g_put C hH my fy iX10 tyX10 tyX10_ok nmX10 rfl 0 (by decide) wd270 rfl rfl rfl rfl (Nat.le_of_ble_eq_true rfl) (fs' := [.int (0 : Int32), .ref (ya 1), .ref (ya 2), .ref (ya 3), .ref (ya 4), .ref (ya 5), .int (0 : Int32), .int (0 : Int32), .int (0 : Int32), .int (0 : Int32), .int (0 : Int32), .long (0 : Int64), .int (0 : Int32), .int (0 : Int32), .int (0 : Int32), .int (-1 : Int32), .ref (ya 16), .ref (ya 17), .ref (ya 18), .ref (ya 19), .ref (ya 20), .ref (ya 21), .int (0 : Int32), .int (0 : Int32), .int (0 : Int32), .ref (ya 25), .ref (ya 26), .ref (ya 27), .ref (ya 28), .ref (ya 29), .ref (ya 30), .ref (ya 31), .ref (ya 32), .ref (ya 33), .ref (ya 34), .ref (ya 35), .int (0 : Int32), .int (0 : Int32), .ref (ya 38), .int (0 : Int32), .int (0 : Int32), .ref (ya 41), .ref (ya 42), .int (0 : Int32), .int (0 : Int32), .int (0 : Int32), .int (0 : Int32), .int (0 : Int32)]) rfl dX10_over_2 (fun H locs hH => ?_)
  obtain ⟨f1, ef1⟩ : ∃ z : gF, z = va_up f y (.inr (10, [.int (0 : Int32), .ref (ya 1), .ref (ya 2), .ref (ya 3), .ref (ya 4), .ref (ya 5), .int (0 : Int32), .int (0 : Int32), .int (0 : Int32), .int (0 : Int32), .int (0 : Int32), .long (0 : Int64), .int (0 : Int32), .int (0 : Int32), .int (0 : Int32), .int (-1 : Int32), .ref (ya 16), .ref (ya 17), .ref (ya 18), .ref (ya 19), .ref (ya 20), .ref (ya 21), .int (0 : Int32), .int (0 : Int32), .int (0 : Int32), .ref (ya 25), .ref (ya 26), .ref (ya 27), .ref (ya 28), .ref (ya 29), .ref (ya 30), .ref (ya 31), .ref (ya 32), .ref (ya 33), .ref (ya 34), .ref (ya 35), .int (0 : Int32), .int (0 : Int32), .ref (ya 38), .int (0 : Int32), .int (0 : Int32), .ref (ya 41), .ref (ya 42), .int (0 : Int32), .int (0 : Int32), .int (0 : Int32), .int (0 : Int32), .int (0 : Int32)])) := ⟨_, rfl⟩
  have hH : gH E A L f1 s.heap H locs := by rw [ef1]; exact hH
  have h2 : f1 y = .inr (10, [.int (0 : Int32), .ref (ya 1), .ref (ya 2), .ref (ya 3), .ref (ya 4), .ref (ya 5), .int (0 : Int32), .int (0 : Int32), .int (0 : Int32), .int (0 : Int32), .int (0 : Int32), .long (0 : Int64), .int (0 : Int32), .int (0 : Int32), .int (0 : Int32), .int (-1 : Int32), .ref (ya 16), .ref (ya 17), .ref (ya 18), .ref (ya 19), .ref (ya 20), .ref (ya 21), .int (0 : Int32), .int (0 : Int32), .int (0 : Int32), .ref (ya 25), .ref (ya 26), .ref (ya 27), .ref (ya 28), .ref (ya 29), .ref (ya 30), .ref (ya 31), .ref (ya 32), .ref (ya 33), .ref (ya 34), .ref (ya 35), .int (0 : Int32), .int (0 : Int32), .ref (ya 38), .int (0 : Int32), .int (0 : Int32), .ref (ya 41), .ref (ya 42), .int (0 : Int32), .int (0 : Int32), .int (0 : Int32), .int (0 : Int32), .int (0 : Int32)]) := (congrFun ef1 y).trans (va_up_self _ _ _)
  refine lv_aload_n hx hb dX10_over_5 rfl (lv_at hl 0 rfl) ?_
  refine lv_iload_n hx hb dX10_over_6 rfl (lv_at hl 1 rfl) ?_
  refine lv_i2l (v := (p0).toInt64) hx hb dX10_over_7 rfl ?_
  have h3 : f1 (ya 16) = .inl (E.2.2 1, 5, .inl (fun _ => 0)) := ((congrFun ef1 (ya 16)).trans (va_up_ne _ _ (g_neAO f_lines fy))).trans f_lines
  have h4 : f1 (ya 17) = .inl (E.2.2 1, 45, .inl (fun _ => 0)) := ((congrFun ef1 (ya 17)).trans (va_up_ne _ _ (g_neAO f_has fy))).trans f_has
  refine g_Vi C hl.1 hA hH (As := [.long (p0).toInt64]) (rest := []) (m_isCell l E L f1 my h2 m_lines h3 m_has h4 (p0).toInt64) my_X10_isCell wd278 my h2 rfl rfl rfl (Nat.le_of_ble_eq_true rfl) ⟨Nat.le_of_ble_eq_true rfl, Nat.le_of_ble_eq_true rfl⟩ ⟨Nat.le_of_ble_eq_true rfl, Nat.le_of_ble_eq_true rfl⟩ dX10_over_8 (fun r7 L6 f5 H locs hp hH => ?_)
  obtain ⟨er7, rfl, rfl⟩ := hp
  subst er7
  refine lv_if_ne (tgt := 17) hx hb dX10_over_11 (by decide) (fun h => absurd (by decide) h) (fun _ => ?_)
  refine lv_bipush (v := (-2 : Int32)) hx hb dX10_over_14 (by decide) ?_
  refine g_iret C hr hH (Nat.le_of_ble_eq_true rfl) (Nat.le_of_ble_eq_true rfl) dX10_over_16 ?_
  exact rfl
set_option maxHeartbeats 4000000 in
set_option maxRecDepth 100000 in
theorem m_geese (l : Launch) (E : gE) (L : List Nat) (f : gF) {y : Nat} {ya : Nat → Nat} (my : y ∈ L) (fy : f y = .inr (10, [.int (0 : Int32), .ref (ya 1), .ref (ya 2), .ref (ya 3), .ref (ya 4), .ref (ya 5), .int (0 : Int32), .int (0 : Int32), .int (0 : Int32), .int (0 : Int32), .int (0 : Int32), .long (0 : Int64), .int (0 : Int32), .int (0 : Int32), .int (0 : Int32), .int (-1 : Int32), .ref (ya 16), .ref (ya 17), .ref (ya 18), .ref (ya 19), .ref (ya 20), .ref (ya 21), .int (0 : Int32), .int (0 : Int32), .int (0 : Int32), .ref (ya 25), .ref (ya 26), .ref (ya 27), .ref (ya 28), .ref (ya 29), .ref (ya 30), .ref (ya 31), .ref (ya 32), .ref (ya 33), .ref (ya 34), .ref (ya 35), .int (0 : Int32), .int (0 : Int32), .ref (ya 38), .int (0 : Int32), .int (0 : Int32), .ref (ya 41), .ref (ya 42), .int (0 : Int32), .int (0 : Int32), .int (0 : Int32), .int (0 : Int32), .int (0 : Int32)])) (m_lines : (ya 16) ∈ L) (f_lines : f (ya 16) = .inl (E.2.2 1, 5, .inl (fun _ => 0))) (m_has : (ya 17) ∈ L) (f_has : f (ya 17) = .inl (E.2.2 1, 45, .inl (fun _ => 0))) (p0 p1 : Int32) : gMi l E yX10_geese cX10_geese 5 .int (gRm 6 0 0) [.ref y, .int p0, .int p1] L f (fun r _ _ => r = (-2 : Int32)) := by
  refine gMi.intro (by decide) (Nat.le_of_ble_eq_true rfl) ?_
  intro p e s m below meth c A ls C hr hA hH hl
  have C : gC E cX10_geese 5 RX10 p s m _ meth c := C
  have hl : lv_has ls 5 [(0, .ref y), (1, .int p0), (2, .int p1)] := hl
  have hx := C.1
  have hb := C.2.1
  refine lv_aload_n hx hb dX10_geese_0 rfl (lv_at hl 0 rfl) ?_
  refine lv_iconst (v := (0 : Int32)) hx hb dX10_geese_1 (by decide) ?_
  refine g_put C hH my fy iX10 tyX10 tyX10_ok nmX10 rfl 0 (by decide) wd270 rfl rfl rfl rfl (Nat.le_of_ble_eq_true rfl) (fs' := [.int (0 : Int32), .ref (ya 1), .ref (ya 2), .ref (ya 3), .ref (ya 4), .ref (ya 5), .int (0 : Int32), .int (0 : Int32), .int (0 : Int32), .int (0 : Int32), .int (0 : Int32), .long (0 : Int64), .int (0 : Int32), .int (0 : Int32), .int (0 : Int32), .int (-1 : Int32), .ref (ya 16), .ref (ya 17), .ref (ya 18), .ref (ya 19), .ref (ya 20), .ref (ya 21), .int (0 : Int32), .int (0 : Int32), .int (0 : Int32), .ref (ya 25), .ref (ya 26), .ref (ya 27), .ref (ya 28), .ref (ya 29), .ref (ya 30), .ref (ya 31), .ref (ya 32), .ref (ya 33), .ref (ya 34), .ref (ya 35), .int (0 : Int32), .int (0 : Int32), .ref (ya 38), .int (0 : Int32), .int (0 : Int32), .ref (ya 41), .ref (ya 42), .int (0 : Int32), .int (0 : Int32), .int (0 : Int32), .int (0 : Int32), .int (0 : Int32)]) rfl dX10_geese_2 (fun H locs hH => ?_)
  obtain ⟨f1, ef1⟩ : ∃ z : gF, z = va_up f y (.inr (10, [.int (0 : Int32), .ref (ya 1), .ref (ya 2), .ref (ya 3), .ref (ya 4), .ref (ya 5), .int (0 : Int32), .int (0 : Int32), .int (0 : Int32), .int (0 : Int32), .int (0 : Int32), .long (0 : Int64), .int (0 : Int32), .int (0 : Int32), .int (0 : Int32), .int (-1 : Int32), .ref (ya 16), .ref (ya 17), .ref (ya 18), .ref (ya 19), .ref (ya 20), .ref (ya 21), .int (0 : Int32), .int (0 : Int32), .int (0 : Int32), .ref (ya 25), .ref (ya 26), .ref (ya 27), .ref (ya 28), .ref (ya 29), .ref (ya 30), .ref (ya 31), .ref (ya 32), .ref (ya 33), .ref (ya 34), .ref (ya 35), .int (0 : Int32), .int (0 : Int32), .ref (ya 38), .int (0 : Int32), .int (0 : Int32), .ref (ya 41), .ref (ya 42), .int (0 : Int32), .int (0 : Int32), .int (0 : Int32), .int (0 : Int32), .int (0 : Int32)])) := ⟨_, rfl⟩
  have hH : gH E A L f1 s.heap H locs := by rw [ef1]; exact hH
  have h2 : f1 y = .inr (10, [.int (0 : Int32), .ref (ya 1), .ref (ya 2), .ref (ya 3), .ref (ya 4), .ref (ya 5), .int (0 : Int32), .int (0 : Int32), .int (0 : Int32), .int (0 : Int32), .int (0 : Int32), .long (0 : Int64), .int (0 : Int32), .int (0 : Int32), .int (0 : Int32), .int (-1 : Int32), .ref (ya 16), .ref (ya 17), .ref (ya 18), .ref (ya 19), .ref (ya 20), .ref (ya 21), .int (0 : Int32), .int (0 : Int32), .int (0 : Int32), .ref (ya 25), .ref (ya 26), .ref (ya 27), .ref (ya 28), .ref (ya 29), .ref (ya 30), .ref (ya 31), .ref (ya 32), .ref (ya 33), .ref (ya 34), .ref (ya 35), .int (0 : Int32), .int (0 : Int32), .ref (ya 38), .int (0 : Int32), .int (0 : Int32), .ref (ya 41), .ref (ya 42), .int (0 : Int32), .int (0 : Int32), .int (0 : Int32), .int (0 : Int32), .int (0 : Int32)]) := (congrFun ef1 y).trans (va_up_self _ _ _)
  refine lv_aload_n hx hb dX10_geese_5 rfl (lv_at hl 0 rfl) ?_
  refine lv_iload_n hx hb dX10_geese_6 rfl (lv_at hl 1 rfl) ?_
  refine lv_i2l (v := (p0).toInt64) hx hb dX10_geese_7 rfl ?_
  have h3 : f1 (ya 16) = .inl (E.2.2 1, 5, .inl (fun _ => 0)) := ((congrFun ef1 (ya 16)).trans (va_up_ne _ _ (g_neAO f_lines fy))).trans f_lines
  have h4 : f1 (ya 17) = .inl (E.2.2 1, 45, .inl (fun _ => 0)) := ((congrFun ef1 (ya 17)).trans (va_up_ne _ _ (g_neAO f_has fy))).trans f_has
  refine g_Vi C hl.1 hA hH (As := [.long (p0).toInt64]) (rest := []) (m_isCell l E L f1 my h2 m_lines h3 m_has h4 (p0).toInt64) my_X10_isCell wd278 my h2 rfl rfl rfl (Nat.le_of_ble_eq_true rfl) ⟨Nat.le_of_ble_eq_true rfl, Nat.le_of_ble_eq_true rfl⟩ ⟨Nat.le_of_ble_eq_true rfl, Nat.le_of_ble_eq_true rfl⟩ dX10_geese_8 (fun r7 L6 f5 H locs hp hH => ?_)
  obtain ⟨er7, rfl, rfl⟩ := hp
  subst er7
  refine lv_if_eq (tgt := 21) hx hb dX10_geese_11 (by decide) (fun _ => ?_) (fun h => absurd (by decide) h)
  refine lv_bipush (v := (-2 : Int32)) hx hb dX10_geese_21 (by decide) ?_
  refine g_iret C hr hH (Nat.le_of_ble_eq_true rfl) (Nat.le_of_ble_eq_true rfl) dX10_geese_23 ?_
  exact rfl
set_option maxHeartbeats 4000000 in
set_option maxRecDepth 100000 in
theorem m_hears (l : Launch) (E : gE) (L : List Nat) (f : gF) {y : Nat} {ya : Nat → Nat} (my : y ∈ L) (fy : f y = .inr (10, [.int (0 : Int32), .ref (ya 1), .ref (ya 2), .ref (ya 3), .ref (ya 4), .ref (ya 5), .int (0 : Int32), .int (0 : Int32), .int (0 : Int32), .int (0 : Int32), .int (0 : Int32), .long (0 : Int64), .int (0 : Int32), .int (0 : Int32), .int (0 : Int32), .int (-1 : Int32), .ref (ya 16), .ref (ya 17), .ref (ya 18), .ref (ya 19), .ref (ya 20), .ref (ya 21), .int (0 : Int32), .int (0 : Int32), .int (0 : Int32), .ref (ya 25), .ref (ya 26), .ref (ya 27), .ref (ya 28), .ref (ya 29), .ref (ya 30), .ref (ya 31), .ref (ya 32), .ref (ya 33), .ref (ya 34), .ref (ya 35), .int (0 : Int32), .int (0 : Int32), .ref (ya 38), .int (0 : Int32), .int (0 : Int32), .ref (ya 41), .ref (ya 42), .int (0 : Int32), .int (0 : Int32), .int (0 : Int32), .int (0 : Int32), .int (0 : Int32)])) (m_lines : (ya 16) ∈ L) (f_lines : f (ya 16) = .inl (E.2.2 1, 5, .inl (fun _ => 0))) (m_has : (ya 17) ∈ L) (f_has : f (ya 17) = .inl (E.2.2 1, 45, .inl (fun _ => 0))) (p0 p1 : Int32) : gMi l E yX10_hears cX10_hears 3 .int (gRm 6 0 0) [.ref y, .int p0, .int p1] L f (fun r _ _ => r = (-2 : Int32)) := by
  refine gMi.intro (by decide) (Nat.le_of_ble_eq_true rfl) ?_
  intro p e s m below meth c A ls C hr hA hH hl
  have C : gC E cX10_hears 3 RX10 p s m _ meth c := C
  have hl : lv_has ls 3 [(0, .ref y), (1, .int p0), (2, .int p1)] := hl
  have hx := C.1
  have hb := C.2.1
  refine lv_aload_n hx hb dX10_hears_0 rfl (lv_at hl 0 rfl) ?_
  refine lv_iconst (v := (0 : Int32)) hx hb dX10_hears_1 (by decide) ?_
  refine g_put C hH my fy iX10 tyX10 tyX10_ok nmX10 rfl 0 (by decide) wd270 rfl rfl rfl rfl (Nat.le_of_ble_eq_true rfl) (fs' := [.int (0 : Int32), .ref (ya 1), .ref (ya 2), .ref (ya 3), .ref (ya 4), .ref (ya 5), .int (0 : Int32), .int (0 : Int32), .int (0 : Int32), .int (0 : Int32), .int (0 : Int32), .long (0 : Int64), .int (0 : Int32), .int (0 : Int32), .int (0 : Int32), .int (-1 : Int32), .ref (ya 16), .ref (ya 17), .ref (ya 18), .ref (ya 19), .ref (ya 20), .ref (ya 21), .int (0 : Int32), .int (0 : Int32), .int (0 : Int32), .ref (ya 25), .ref (ya 26), .ref (ya 27), .ref (ya 28), .ref (ya 29), .ref (ya 30), .ref (ya 31), .ref (ya 32), .ref (ya 33), .ref (ya 34), .ref (ya 35), .int (0 : Int32), .int (0 : Int32), .ref (ya 38), .int (0 : Int32), .int (0 : Int32), .ref (ya 41), .ref (ya 42), .int (0 : Int32), .int (0 : Int32), .int (0 : Int32), .int (0 : Int32), .int (0 : Int32)]) rfl dX10_hears_2 (fun H locs hH => ?_)
  obtain ⟨f1, ef1⟩ : ∃ z : gF, z = va_up f y (.inr (10, [.int (0 : Int32), .ref (ya 1), .ref (ya 2), .ref (ya 3), .ref (ya 4), .ref (ya 5), .int (0 : Int32), .int (0 : Int32), .int (0 : Int32), .int (0 : Int32), .int (0 : Int32), .long (0 : Int64), .int (0 : Int32), .int (0 : Int32), .int (0 : Int32), .int (-1 : Int32), .ref (ya 16), .ref (ya 17), .ref (ya 18), .ref (ya 19), .ref (ya 20), .ref (ya 21), .int (0 : Int32), .int (0 : Int32), .int (0 : Int32), .ref (ya 25), .ref (ya 26), .ref (ya 27), .ref (ya 28), .ref (ya 29), .ref (ya 30), .ref (ya 31), .ref (ya 32), .ref (ya 33), .ref (ya 34), .ref (ya 35), .int (0 : Int32), .int (0 : Int32), .ref (ya 38), .int (0 : Int32), .int (0 : Int32), .ref (ya 41), .ref (ya 42), .int (0 : Int32), .int (0 : Int32), .int (0 : Int32), .int (0 : Int32), .int (0 : Int32)])) := ⟨_, rfl⟩
  have hH : gH E A L f1 s.heap H locs := by rw [ef1]; exact hH
  have h2 : f1 y = .inr (10, [.int (0 : Int32), .ref (ya 1), .ref (ya 2), .ref (ya 3), .ref (ya 4), .ref (ya 5), .int (0 : Int32), .int (0 : Int32), .int (0 : Int32), .int (0 : Int32), .int (0 : Int32), .long (0 : Int64), .int (0 : Int32), .int (0 : Int32), .int (0 : Int32), .int (-1 : Int32), .ref (ya 16), .ref (ya 17), .ref (ya 18), .ref (ya 19), .ref (ya 20), .ref (ya 21), .int (0 : Int32), .int (0 : Int32), .int (0 : Int32), .ref (ya 25), .ref (ya 26), .ref (ya 27), .ref (ya 28), .ref (ya 29), .ref (ya 30), .ref (ya 31), .ref (ya 32), .ref (ya 33), .ref (ya 34), .ref (ya 35), .int (0 : Int32), .int (0 : Int32), .ref (ya 38), .int (0 : Int32), .int (0 : Int32), .ref (ya 41), .ref (ya 42), .int (0 : Int32), .int (0 : Int32), .int (0 : Int32), .int (0 : Int32), .int (0 : Int32)]) := (congrFun ef1 y).trans (va_up_self _ _ _)
  refine lv_aload_n hx hb dX10_hears_5 rfl (lv_at hl 0 rfl) ?_
  refine lv_iload_n hx hb dX10_hears_6 rfl (lv_at hl 1 rfl) ?_
  refine lv_i2l (v := (p0).toInt64) hx hb dX10_hears_7 rfl ?_
  have h3 : f1 (ya 16) = .inl (E.2.2 1, 5, .inl (fun _ => 0)) := ((congrFun ef1 (ya 16)).trans (va_up_ne _ _ (g_neAO f_lines fy))).trans f_lines
  have h4 : f1 (ya 17) = .inl (E.2.2 1, 45, .inl (fun _ => 0)) := ((congrFun ef1 (ya 17)).trans (va_up_ne _ _ (g_neAO f_has fy))).trans f_has
  refine g_Vi C hl.1 hA hH (As := [.long (p0).toInt64]) (rest := []) (m_isMember l E L f1 my h2 m_lines h3 m_has h4 (p0).toInt64) my_X10_isMember wd262 my h2 rfl rfl rfl (Nat.le_of_ble_eq_true rfl) ⟨Nat.le_of_ble_eq_true rfl, Nat.le_of_ble_eq_true rfl⟩ ⟨Nat.le_of_ble_eq_true rfl, Nat.le_of_ble_eq_true rfl⟩ dX10_hears_8 (fun r7 L6 f5 H locs hp hH => ?_)
  obtain ⟨er7, rfl, rfl⟩ := hp
  subst er7
  refine lv_if_eq (tgt := 23) hx hb dX10_hears_11 (by decide) (fun _ => ?_) (fun h => absurd (by decide) h)
  refine lv_bipush (v := (-2 : Int32)) hx hb dX10_hears_23 (by decide) ?_
  refine g_iret C hr hH (Nat.le_of_ble_eq_true rfl) (Nat.le_of_ble_eq_true rfl) dX10_hears_25 ?_
  exact rfl
set_option maxHeartbeats 4000000 in
set_option maxRecDepth 100000 in
theorem m_heard (l : Launch) (E : gE) (L : List Nat) (f : gF) {y : Nat} {ya : Nat → Nat} (my : y ∈ L) (fy : f y = .inr (10, [.int (0 : Int32), .ref (ya 1), .ref (ya 2), .ref (ya 3), .ref (ya 4), .ref (ya 5), .int (0 : Int32), .int (0 : Int32), .int (0 : Int32), .int (0 : Int32), .int (0 : Int32), .long (0 : Int64), .int (0 : Int32), .int (0 : Int32), .int (0 : Int32), .int (-1 : Int32), .ref (ya 16), .ref (ya 17), .ref (ya 18), .ref (ya 19), .ref (ya 20), .ref (ya 21), .int (0 : Int32), .int (0 : Int32), .int (0 : Int32), .ref (ya 25), .ref (ya 26), .ref (ya 27), .ref (ya 28), .ref (ya 29), .ref (ya 30), .ref (ya 31), .ref (ya 32), .ref (ya 33), .ref (ya 34), .ref (ya 35), .int (0 : Int32), .int (0 : Int32), .ref (ya 38), .int (0 : Int32), .int (0 : Int32), .ref (ya 41), .ref (ya 42), .int (0 : Int32), .int (0 : Int32), .int (0 : Int32), .int (0 : Int32), .int (0 : Int32)])) (m_lines : (ya 16) ∈ L) (f_lines : f (ya 16) = .inl (E.2.2 1, 5, .inl (fun _ => 0))) (m_has : (ya 17) ∈ L) (f_has : f (ya 17) = .inl (E.2.2 1, 45, .inl (fun _ => 0))) (p0 : Int32) : gMi l E yX10_heard cX10_heard 2 .int (gRm 6 0 0) [.ref y, .int p0] L f (fun r _ _ => r = (-2 : Int32)) := by
  refine gMi.intro (by decide) (Nat.le_of_ble_eq_true rfl) ?_
  intro p e s m below meth c A ls C hr hA hH hl
  have C : gC E cX10_heard 2 RX10 p s m _ meth c := C
  have hl : lv_has ls 2 [(0, .ref y), (1, .int p0)] := hl
  have hx := C.1
  have hb := C.2.1
  refine lv_aload_n hx hb dX10_heard_0 rfl (lv_at hl 0 rfl) ?_
  refine lv_iconst (v := (0 : Int32)) hx hb dX10_heard_1 (by decide) ?_
  refine g_put C hH my fy iX10 tyX10 tyX10_ok nmX10 rfl 0 (by decide) wd270 rfl rfl rfl rfl (Nat.le_of_ble_eq_true rfl) (fs' := [.int (0 : Int32), .ref (ya 1), .ref (ya 2), .ref (ya 3), .ref (ya 4), .ref (ya 5), .int (0 : Int32), .int (0 : Int32), .int (0 : Int32), .int (0 : Int32), .int (0 : Int32), .long (0 : Int64), .int (0 : Int32), .int (0 : Int32), .int (0 : Int32), .int (-1 : Int32), .ref (ya 16), .ref (ya 17), .ref (ya 18), .ref (ya 19), .ref (ya 20), .ref (ya 21), .int (0 : Int32), .int (0 : Int32), .int (0 : Int32), .ref (ya 25), .ref (ya 26), .ref (ya 27), .ref (ya 28), .ref (ya 29), .ref (ya 30), .ref (ya 31), .ref (ya 32), .ref (ya 33), .ref (ya 34), .ref (ya 35), .int (0 : Int32), .int (0 : Int32), .ref (ya 38), .int (0 : Int32), .int (0 : Int32), .ref (ya 41), .ref (ya 42), .int (0 : Int32), .int (0 : Int32), .int (0 : Int32), .int (0 : Int32), .int (0 : Int32)]) rfl dX10_heard_2 (fun H locs hH => ?_)
  obtain ⟨f1, ef1⟩ : ∃ z : gF, z = va_up f y (.inr (10, [.int (0 : Int32), .ref (ya 1), .ref (ya 2), .ref (ya 3), .ref (ya 4), .ref (ya 5), .int (0 : Int32), .int (0 : Int32), .int (0 : Int32), .int (0 : Int32), .int (0 : Int32), .long (0 : Int64), .int (0 : Int32), .int (0 : Int32), .int (0 : Int32), .int (-1 : Int32), .ref (ya 16), .ref (ya 17), .ref (ya 18), .ref (ya 19), .ref (ya 20), .ref (ya 21), .int (0 : Int32), .int (0 : Int32), .int (0 : Int32), .ref (ya 25), .ref (ya 26), .ref (ya 27), .ref (ya 28), .ref (ya 29), .ref (ya 30), .ref (ya 31), .ref (ya 32), .ref (ya 33), .ref (ya 34), .ref (ya 35), .int (0 : Int32), .int (0 : Int32), .ref (ya 38), .int (0 : Int32), .int (0 : Int32), .ref (ya 41), .ref (ya 42), .int (0 : Int32), .int (0 : Int32), .int (0 : Int32), .int (0 : Int32), .int (0 : Int32)])) := ⟨_, rfl⟩
  have hH : gH E A L f1 s.heap H locs := by rw [ef1]; exact hH
  have h2 : f1 y = .inr (10, [.int (0 : Int32), .ref (ya 1), .ref (ya 2), .ref (ya 3), .ref (ya 4), .ref (ya 5), .int (0 : Int32), .int (0 : Int32), .int (0 : Int32), .int (0 : Int32), .int (0 : Int32), .long (0 : Int64), .int (0 : Int32), .int (0 : Int32), .int (0 : Int32), .int (-1 : Int32), .ref (ya 16), .ref (ya 17), .ref (ya 18), .ref (ya 19), .ref (ya 20), .ref (ya 21), .int (0 : Int32), .int (0 : Int32), .int (0 : Int32), .ref (ya 25), .ref (ya 26), .ref (ya 27), .ref (ya 28), .ref (ya 29), .ref (ya 30), .ref (ya 31), .ref (ya 32), .ref (ya 33), .ref (ya 34), .ref (ya 35), .int (0 : Int32), .int (0 : Int32), .ref (ya 38), .int (0 : Int32), .int (0 : Int32), .ref (ya 41), .ref (ya 42), .int (0 : Int32), .int (0 : Int32), .int (0 : Int32), .int (0 : Int32), .int (0 : Int32)]) := (congrFun ef1 y).trans (va_up_self _ _ _)
  refine lv_aload_n hx hb dX10_heard_5 rfl (lv_at hl 0 rfl) ?_
  refine lv_iload_n hx hb dX10_heard_6 rfl (lv_at hl 1 rfl) ?_
  refine lv_i2l (v := (p0).toInt64) hx hb dX10_heard_7 rfl ?_
  have h3 : f1 (ya 16) = .inl (E.2.2 1, 5, .inl (fun _ => 0)) := ((congrFun ef1 (ya 16)).trans (va_up_ne _ _ (g_neAO f_lines fy))).trans f_lines
  have h4 : f1 (ya 17) = .inl (E.2.2 1, 45, .inl (fun _ => 0)) := ((congrFun ef1 (ya 17)).trans (va_up_ne _ _ (g_neAO f_has fy))).trans f_has
  refine g_Vi C hl.1 hA hH (As := [.long (p0).toInt64]) (rest := []) (m_isMember l E L f1 my h2 m_lines h3 m_has h4 (p0).toInt64) my_X10_isMember wd262 my h2 rfl rfl rfl (Nat.le_of_ble_eq_true rfl) ⟨Nat.le_of_ble_eq_true rfl, Nat.le_of_ble_eq_true rfl⟩ ⟨Nat.le_of_ble_eq_true rfl, Nat.le_of_ble_eq_true rfl⟩ dX10_heard_8 (fun r7 L6 f5 H locs hp hH => ?_)
  obtain ⟨er7, rfl, rfl⟩ := hp
  subst er7
  refine lv_if_ne (tgt := 17) hx hb dX10_heard_11 (by decide) (fun h => absurd (by decide) h) (fun _ => ?_)
  refine lv_bipush (v := (-2 : Int32)) hx hb dX10_heard_14 (by decide) ?_
  refine g_iret C hr hH (Nat.le_of_ble_eq_true rfl) (Nat.le_of_ble_eq_true rfl) dX10_heard_16 ?_
  exact rfl
set_option maxHeartbeats 4000000 in
set_option maxRecDepth 100000 in
theorem m_ears (l : Launch) (E : gE) (L : List Nat) (f : gF) {y : Nat} {ya : Nat → Nat} (my : y ∈ L) (fy : f y = .inr (10, [.int (0 : Int32), .ref (ya 1), .ref (ya 2), .ref (ya 3), .ref (ya 4), .ref (ya 5), .int (0 : Int32), .int (0 : Int32), .int (0 : Int32), .int (0 : Int32), .int (0 : Int32), .long (0 : Int64), .int (0 : Int32), .int (0 : Int32), .int (0 : Int32), .int (-1 : Int32), .ref (ya 16), .ref (ya 17), .ref (ya 18), .ref (ya 19), .ref (ya 20), .ref (ya 21), .int (0 : Int32), .int (0 : Int32), .int (0 : Int32), .ref (ya 25), .ref (ya 26), .ref (ya 27), .ref (ya 28), .ref (ya 29), .ref (ya 30), .ref (ya 31), .ref (ya 32), .ref (ya 33), .ref (ya 34), .ref (ya 35), .int (0 : Int32), .int (0 : Int32), .ref (ya 38), .int (0 : Int32), .int (0 : Int32), .ref (ya 41), .ref (ya 42), .int (0 : Int32), .int (0 : Int32), .int (0 : Int32), .int (0 : Int32), .int (0 : Int32)])) (m_lines : (ya 16) ∈ L) (f_lines : f (ya 16) = .inl (E.2.2 1, 5, .inl (fun _ => 0))) (m_has : (ya 17) ∈ L) (f_has : f (ya 17) = .inl (E.2.2 1, 45, .inl (fun _ => 0))) (p0 : Int32) : gMi l E yX10_ears cX10_ears 2 .int (gRm 6 0 0) [.ref y, .int p0] L f (fun r _ _ => r = (-2 : Int32)) := by
  refine gMi.intro (by decide) (Nat.le_of_ble_eq_true rfl) ?_
  intro p e s m below meth c A ls C hr hA hH hl
  have C : gC E cX10_ears 2 RX10 p s m _ meth c := C
  have hl : lv_has ls 2 [(0, .ref y), (1, .int p0)] := hl
  have hx := C.1
  have hb := C.2.1
  refine lv_aload_n hx hb dX10_ears_0 rfl (lv_at hl 0 rfl) ?_
  refine lv_iconst (v := (0 : Int32)) hx hb dX10_ears_1 (by decide) ?_
  refine g_put C hH my fy iX10 tyX10 tyX10_ok nmX10 rfl 0 (by decide) wd270 rfl rfl rfl rfl (Nat.le_of_ble_eq_true rfl) (fs' := [.int (0 : Int32), .ref (ya 1), .ref (ya 2), .ref (ya 3), .ref (ya 4), .ref (ya 5), .int (0 : Int32), .int (0 : Int32), .int (0 : Int32), .int (0 : Int32), .int (0 : Int32), .long (0 : Int64), .int (0 : Int32), .int (0 : Int32), .int (0 : Int32), .int (-1 : Int32), .ref (ya 16), .ref (ya 17), .ref (ya 18), .ref (ya 19), .ref (ya 20), .ref (ya 21), .int (0 : Int32), .int (0 : Int32), .int (0 : Int32), .ref (ya 25), .ref (ya 26), .ref (ya 27), .ref (ya 28), .ref (ya 29), .ref (ya 30), .ref (ya 31), .ref (ya 32), .ref (ya 33), .ref (ya 34), .ref (ya 35), .int (0 : Int32), .int (0 : Int32), .ref (ya 38), .int (0 : Int32), .int (0 : Int32), .ref (ya 41), .ref (ya 42), .int (0 : Int32), .int (0 : Int32), .int (0 : Int32), .int (0 : Int32), .int (0 : Int32)]) rfl dX10_ears_2 (fun H locs hH => ?_)
  obtain ⟨f1, ef1⟩ : ∃ z : gF, z = va_up f y (.inr (10, [.int (0 : Int32), .ref (ya 1), .ref (ya 2), .ref (ya 3), .ref (ya 4), .ref (ya 5), .int (0 : Int32), .int (0 : Int32), .int (0 : Int32), .int (0 : Int32), .int (0 : Int32), .long (0 : Int64), .int (0 : Int32), .int (0 : Int32), .int (0 : Int32), .int (-1 : Int32), .ref (ya 16), .ref (ya 17), .ref (ya 18), .ref (ya 19), .ref (ya 20), .ref (ya 21), .int (0 : Int32), .int (0 : Int32), .int (0 : Int32), .ref (ya 25), .ref (ya 26), .ref (ya 27), .ref (ya 28), .ref (ya 29), .ref (ya 30), .ref (ya 31), .ref (ya 32), .ref (ya 33), .ref (ya 34), .ref (ya 35), .int (0 : Int32), .int (0 : Int32), .ref (ya 38), .int (0 : Int32), .int (0 : Int32), .ref (ya 41), .ref (ya 42), .int (0 : Int32), .int (0 : Int32), .int (0 : Int32), .int (0 : Int32), .int (0 : Int32)])) := ⟨_, rfl⟩
  have hH : gH E A L f1 s.heap H locs := by rw [ef1]; exact hH
  have h2 : f1 y = .inr (10, [.int (0 : Int32), .ref (ya 1), .ref (ya 2), .ref (ya 3), .ref (ya 4), .ref (ya 5), .int (0 : Int32), .int (0 : Int32), .int (0 : Int32), .int (0 : Int32), .int (0 : Int32), .long (0 : Int64), .int (0 : Int32), .int (0 : Int32), .int (0 : Int32), .int (-1 : Int32), .ref (ya 16), .ref (ya 17), .ref (ya 18), .ref (ya 19), .ref (ya 20), .ref (ya 21), .int (0 : Int32), .int (0 : Int32), .int (0 : Int32), .ref (ya 25), .ref (ya 26), .ref (ya 27), .ref (ya 28), .ref (ya 29), .ref (ya 30), .ref (ya 31), .ref (ya 32), .ref (ya 33), .ref (ya 34), .ref (ya 35), .int (0 : Int32), .int (0 : Int32), .ref (ya 38), .int (0 : Int32), .int (0 : Int32), .ref (ya 41), .ref (ya 42), .int (0 : Int32), .int (0 : Int32), .int (0 : Int32), .int (0 : Int32), .int (0 : Int32)]) := (congrFun ef1 y).trans (va_up_self _ _ _)
  refine lv_aload_n hx hb dX10_ears_5 rfl (lv_at hl 0 rfl) ?_
  refine lv_iload_n hx hb dX10_ears_6 rfl (lv_at hl 1 rfl) ?_
  refine lv_i2l (v := (p0).toInt64) hx hb dX10_ears_7 rfl ?_
  have h3 : f1 (ya 16) = .inl (E.2.2 1, 5, .inl (fun _ => 0)) := ((congrFun ef1 (ya 16)).trans (va_up_ne _ _ (g_neAO f_lines fy))).trans f_lines
  have h4 : f1 (ya 17) = .inl (E.2.2 1, 45, .inl (fun _ => 0)) := ((congrFun ef1 (ya 17)).trans (va_up_ne _ _ (g_neAO f_has fy))).trans f_has
  refine g_Vi C hl.1 hA hH (As := [.long (p0).toInt64]) (rest := []) (m_isCell l E L f1 my h2 m_lines h3 m_has h4 (p0).toInt64) my_X10_isCell wd278 my h2 rfl rfl rfl (Nat.le_of_ble_eq_true rfl) ⟨Nat.le_of_ble_eq_true rfl, Nat.le_of_ble_eq_true rfl⟩ ⟨Nat.le_of_ble_eq_true rfl, Nat.le_of_ble_eq_true rfl⟩ dX10_ears_8 (fun r7 L6 f5 H locs hp hH => ?_)
  obtain ⟨er7, rfl, rfl⟩ := hp
  subst er7
  refine lv_if_ne (tgt := 17) hx hb dX10_ears_11 (by decide) (fun h => absurd (by decide) h) (fun _ => ?_)
  refine lv_bipush (v := (-2 : Int32)) hx hb dX10_ears_14 (by decide) ?_
  refine g_iret C hr hH (Nat.le_of_ble_eq_true rfl) (Nat.le_of_ble_eq_true rfl) dX10_ears_16 ?_
  exact rfl
set_option maxHeartbeats 4000000 in
set_option maxRecDepth 100000 in
theorem m_loud (l : Launch) (E : gE) (L : List Nat) (f : gF) {y : Nat} {ya : Nat → Nat} (my : y ∈ L) (fy : f y = .inr (10, [.int (0 : Int32), .ref (ya 1), .ref (ya 2), .ref (ya 3), .ref (ya 4), .ref (ya 5), .int (0 : Int32), .int (0 : Int32), .int (0 : Int32), .int (0 : Int32), .int (0 : Int32), .long (0 : Int64), .int (0 : Int32), .int (0 : Int32), .int (0 : Int32), .int (-1 : Int32), .ref (ya 16), .ref (ya 17), .ref (ya 18), .ref (ya 19), .ref (ya 20), .ref (ya 21), .int (0 : Int32), .int (0 : Int32), .int (0 : Int32), .ref (ya 25), .ref (ya 26), .ref (ya 27), .ref (ya 28), .ref (ya 29), .ref (ya 30), .ref (ya 31), .ref (ya 32), .ref (ya 33), .ref (ya 34), .ref (ya 35), .int (0 : Int32), .int (0 : Int32), .ref (ya 38), .int (0 : Int32), .int (0 : Int32), .ref (ya 41), .ref (ya 42), .int (0 : Int32), .int (0 : Int32), .int (0 : Int32), .int (0 : Int32), .int (0 : Int32)])) (m_lines : (ya 16) ∈ L) (f_lines : f (ya 16) = .inl (E.2.2 1, 5, .inl (fun _ => 0))) (m_has : (ya 17) ∈ L) (f_has : f (ya 17) = .inl (E.2.2 1, 45, .inl (fun _ => 0))) : gMi l E yX10_loud cX10_loud 3 .int (gRm 6 0 0) [.ref y] L f (fun r _ _ => r = (-2 : Int32)) := by
  refine gMi.intro (by decide) (Nat.le_of_ble_eq_true rfl) ?_
  intro p e s m below meth c A ls C hr hA hH hl
  have C : gC E cX10_loud 3 RX10 p s m _ meth c := C
  have hl : lv_has ls 3 [(0, .ref y)] := hl
  have hx := C.1
  have hb := C.2.1
  refine lv_aload_n hx hb dX10_loud_0 rfl (lv_at hl 0 rfl) ?_
  refine lv_iconst (v := (0 : Int32)) hx hb dX10_loud_1 (by decide) ?_
  refine g_put C hH my fy iX10 tyX10 tyX10_ok nmX10 rfl 0 (by decide) wd270 rfl rfl rfl rfl (Nat.le_of_ble_eq_true rfl) (fs' := [.int (0 : Int32), .ref (ya 1), .ref (ya 2), .ref (ya 3), .ref (ya 4), .ref (ya 5), .int (0 : Int32), .int (0 : Int32), .int (0 : Int32), .int (0 : Int32), .int (0 : Int32), .long (0 : Int64), .int (0 : Int32), .int (0 : Int32), .int (0 : Int32), .int (-1 : Int32), .ref (ya 16), .ref (ya 17), .ref (ya 18), .ref (ya 19), .ref (ya 20), .ref (ya 21), .int (0 : Int32), .int (0 : Int32), .int (0 : Int32), .ref (ya 25), .ref (ya 26), .ref (ya 27), .ref (ya 28), .ref (ya 29), .ref (ya 30), .ref (ya 31), .ref (ya 32), .ref (ya 33), .ref (ya 34), .ref (ya 35), .int (0 : Int32), .int (0 : Int32), .ref (ya 38), .int (0 : Int32), .int (0 : Int32), .ref (ya 41), .ref (ya 42), .int (0 : Int32), .int (0 : Int32), .int (0 : Int32), .int (0 : Int32), .int (0 : Int32)]) rfl dX10_loud_2 (fun H locs hH => ?_)
  obtain ⟨f1, ef1⟩ : ∃ z : gF, z = va_up f y (.inr (10, [.int (0 : Int32), .ref (ya 1), .ref (ya 2), .ref (ya 3), .ref (ya 4), .ref (ya 5), .int (0 : Int32), .int (0 : Int32), .int (0 : Int32), .int (0 : Int32), .int (0 : Int32), .long (0 : Int64), .int (0 : Int32), .int (0 : Int32), .int (0 : Int32), .int (-1 : Int32), .ref (ya 16), .ref (ya 17), .ref (ya 18), .ref (ya 19), .ref (ya 20), .ref (ya 21), .int (0 : Int32), .int (0 : Int32), .int (0 : Int32), .ref (ya 25), .ref (ya 26), .ref (ya 27), .ref (ya 28), .ref (ya 29), .ref (ya 30), .ref (ya 31), .ref (ya 32), .ref (ya 33), .ref (ya 34), .ref (ya 35), .int (0 : Int32), .int (0 : Int32), .ref (ya 38), .int (0 : Int32), .int (0 : Int32), .ref (ya 41), .ref (ya 42), .int (0 : Int32), .int (0 : Int32), .int (0 : Int32), .int (0 : Int32), .int (0 : Int32)])) := ⟨_, rfl⟩
  have hH : gH E A L f1 s.heap H locs := by rw [ef1]; exact hH
  have h2 : f1 y = .inr (10, [.int (0 : Int32), .ref (ya 1), .ref (ya 2), .ref (ya 3), .ref (ya 4), .ref (ya 5), .int (0 : Int32), .int (0 : Int32), .int (0 : Int32), .int (0 : Int32), .int (0 : Int32), .long (0 : Int64), .int (0 : Int32), .int (0 : Int32), .int (0 : Int32), .int (-1 : Int32), .ref (ya 16), .ref (ya 17), .ref (ya 18), .ref (ya 19), .ref (ya 20), .ref (ya 21), .int (0 : Int32), .int (0 : Int32), .int (0 : Int32), .ref (ya 25), .ref (ya 26), .ref (ya 27), .ref (ya 28), .ref (ya 29), .ref (ya 30), .ref (ya 31), .ref (ya 32), .ref (ya 33), .ref (ya 34), .ref (ya 35), .int (0 : Int32), .int (0 : Int32), .ref (ya 38), .int (0 : Int32), .int (0 : Int32), .ref (ya 41), .ref (ya 42), .int (0 : Int32), .int (0 : Int32), .int (0 : Int32), .int (0 : Int32), .int (0 : Int32)]) := (congrFun ef1 y).trans (va_up_self _ _ _)
  refine lv_aload_n hx hb dX10_loud_5 rfl (lv_at hl 0 rfl) ?_
  have h3 : f1 (ya 16) = .inl (E.2.2 1, 5, .inl (fun _ => 0)) := ((congrFun ef1 (ya 16)).trans (va_up_ne _ _ (g_neAO f_lines fy))).trans f_lines
  have h4 : f1 (ya 17) = .inl (E.2.2 1, 45, .inl (fun _ => 0)) := ((congrFun ef1 (ya 17)).trans (va_up_ne _ _ (g_neAO f_has fy))).trans f_has
  refine g_Vi C hl.1 hA hH (As := []) (rest := []) (m_isLand l E L f1 my h2 m_lines h3 m_has h4) my_X10_isLand wd266 my h2 rfl rfl rfl (Nat.le_of_ble_eq_true rfl) ⟨Nat.le_of_ble_eq_true rfl, Nat.le_of_ble_eq_true rfl⟩ ⟨Nat.le_of_ble_eq_true rfl, Nat.le_of_ble_eq_true rfl⟩ dX10_loud_6 (fun r7 L6 f5 H locs hp hH => ?_)
  obtain ⟨er7, rfl, rfl⟩ := hp
  subst er7
  refine lv_if_ne (tgt := 15) hx hb dX10_loud_9 (by decide) (fun h => absurd (by decide) h) (fun _ => ?_)
  refine lv_bipush (v := (-2 : Int32)) hx hb dX10_loud_12 (by decide) ?_
  refine g_iret C hr hH (Nat.le_of_ble_eq_true rfl) (Nat.le_of_ble_eq_true rfl) dX10_loud_14 ?_
  exact rfl
set_option maxHeartbeats 4000000 in
set_option maxRecDepth 100000 in
theorem m_quiet (l : Launch) (E : gE) (L : List Nat) (f : gF) {y : Nat} {ya : Nat → Nat} (my : y ∈ L) (fy : f y = .inr (10, [.int (0 : Int32), .ref (ya 1), .ref (ya 2), .ref (ya 3), .ref (ya 4), .ref (ya 5), .int (0 : Int32), .int (0 : Int32), .int (0 : Int32), .int (0 : Int32), .int (0 : Int32), .long (0 : Int64), .int (0 : Int32), .int (0 : Int32), .int (0 : Int32), .int (-1 : Int32), .ref (ya 16), .ref (ya 17), .ref (ya 18), .ref (ya 19), .ref (ya 20), .ref (ya 21), .int (0 : Int32), .int (0 : Int32), .int (0 : Int32), .ref (ya 25), .ref (ya 26), .ref (ya 27), .ref (ya 28), .ref (ya 29), .ref (ya 30), .ref (ya 31), .ref (ya 32), .ref (ya 33), .ref (ya 34), .ref (ya 35), .int (0 : Int32), .int (0 : Int32), .ref (ya 38), .int (0 : Int32), .int (0 : Int32), .ref (ya 41), .ref (ya 42), .int (0 : Int32), .int (0 : Int32), .int (0 : Int32), .int (0 : Int32), .int (0 : Int32)])) (m_lines : (ya 16) ∈ L) (f_lines : f (ya 16) = .inl (E.2.2 1, 5, .inl (fun _ => 0))) (m_has : (ya 17) ∈ L) (f_has : f (ya 17) = .inl (E.2.2 1, 45, .inl (fun _ => 0))) : gMi l E yX10_quiet cX10_quiet 3 .int (gRm 6 0 0) [.ref y] L f (fun r _ _ => r = (-2 : Int32)) := by
  refine gMi.intro (by decide) (Nat.le_of_ble_eq_true rfl) ?_
  intro p e s m below meth c A ls C hr hA hH hl
  have C : gC E cX10_quiet 3 RX10 p s m _ meth c := C
  have hl : lv_has ls 3 [(0, .ref y)] := hl
  have hx := C.1
  have hb := C.2.1
  refine lv_aload_n hx hb dX10_quiet_0 rfl (lv_at hl 0 rfl) ?_
  refine lv_iconst (v := (0 : Int32)) hx hb dX10_quiet_1 (by decide) ?_
  refine g_put C hH my fy iX10 tyX10 tyX10_ok nmX10 rfl 0 (by decide) wd270 rfl rfl rfl rfl (Nat.le_of_ble_eq_true rfl) (fs' := [.int (0 : Int32), .ref (ya 1), .ref (ya 2), .ref (ya 3), .ref (ya 4), .ref (ya 5), .int (0 : Int32), .int (0 : Int32), .int (0 : Int32), .int (0 : Int32), .int (0 : Int32), .long (0 : Int64), .int (0 : Int32), .int (0 : Int32), .int (0 : Int32), .int (-1 : Int32), .ref (ya 16), .ref (ya 17), .ref (ya 18), .ref (ya 19), .ref (ya 20), .ref (ya 21), .int (0 : Int32), .int (0 : Int32), .int (0 : Int32), .ref (ya 25), .ref (ya 26), .ref (ya 27), .ref (ya 28), .ref (ya 29), .ref (ya 30), .ref (ya 31), .ref (ya 32), .ref (ya 33), .ref (ya 34), .ref (ya 35), .int (0 : Int32), .int (0 : Int32), .ref (ya 38), .int (0 : Int32), .int (0 : Int32), .ref (ya 41), .ref (ya 42), .int (0 : Int32), .int (0 : Int32), .int (0 : Int32), .int (0 : Int32), .int (0 : Int32)]) rfl dX10_quiet_2 (fun H locs hH => ?_)
  obtain ⟨f1, ef1⟩ : ∃ z : gF, z = va_up f y (.inr (10, [.int (0 : Int32), .ref (ya 1), .ref (ya 2), .ref (ya 3), .ref (ya 4), .ref (ya 5), .int (0 : Int32), .int (0 : Int32), .int (0 : Int32), .int (0 : Int32), .int (0 : Int32), .long (0 : Int64), .int (0 : Int32), .int (0 : Int32), .int (0 : Int32), .int (-1 : Int32), .ref (ya 16), .ref (ya 17), .ref (ya 18), .ref (ya 19), .ref (ya 20), .ref (ya 21), .int (0 : Int32), .int (0 : Int32), .int (0 : Int32), .ref (ya 25), .ref (ya 26), .ref (ya 27), .ref (ya 28), .ref (ya 29), .ref (ya 30), .ref (ya 31), .ref (ya 32), .ref (ya 33), .ref (ya 34), .ref (ya 35), .int (0 : Int32), .int (0 : Int32), .ref (ya 38), .int (0 : Int32), .int (0 : Int32), .ref (ya 41), .ref (ya 42), .int (0 : Int32), .int (0 : Int32), .int (0 : Int32), .int (0 : Int32), .int (0 : Int32)])) := ⟨_, rfl⟩
  have hH : gH E A L f1 s.heap H locs := by rw [ef1]; exact hH
  have h2 : f1 y = .inr (10, [.int (0 : Int32), .ref (ya 1), .ref (ya 2), .ref (ya 3), .ref (ya 4), .ref (ya 5), .int (0 : Int32), .int (0 : Int32), .int (0 : Int32), .int (0 : Int32), .int (0 : Int32), .long (0 : Int64), .int (0 : Int32), .int (0 : Int32), .int (0 : Int32), .int (-1 : Int32), .ref (ya 16), .ref (ya 17), .ref (ya 18), .ref (ya 19), .ref (ya 20), .ref (ya 21), .int (0 : Int32), .int (0 : Int32), .int (0 : Int32), .ref (ya 25), .ref (ya 26), .ref (ya 27), .ref (ya 28), .ref (ya 29), .ref (ya 30), .ref (ya 31), .ref (ya 32), .ref (ya 33), .ref (ya 34), .ref (ya 35), .int (0 : Int32), .int (0 : Int32), .ref (ya 38), .int (0 : Int32), .int (0 : Int32), .ref (ya 41), .ref (ya 42), .int (0 : Int32), .int (0 : Int32), .int (0 : Int32), .int (0 : Int32), .int (0 : Int32)]) := (congrFun ef1 y).trans (va_up_self _ _ _)
  refine lv_aload_n hx hb dX10_quiet_5 rfl (lv_at hl 0 rfl) ?_
  have h3 : f1 (ya 16) = .inl (E.2.2 1, 5, .inl (fun _ => 0)) := ((congrFun ef1 (ya 16)).trans (va_up_ne _ _ (g_neAO f_lines fy))).trans f_lines
  have h4 : f1 (ya 17) = .inl (E.2.2 1, 45, .inl (fun _ => 0)) := ((congrFun ef1 (ya 17)).trans (va_up_ne _ _ (g_neAO f_has fy))).trans f_has
  refine g_Vi C hl.1 hA hH (As := []) (rest := []) (m_isLand l E L f1 my h2 m_lines h3 m_has h4) my_X10_isLand wd266 my h2 rfl rfl rfl (Nat.le_of_ble_eq_true rfl) ⟨Nat.le_of_ble_eq_true rfl, Nat.le_of_ble_eq_true rfl⟩ ⟨Nat.le_of_ble_eq_true rfl, Nat.le_of_ble_eq_true rfl⟩ dX10_quiet_6 (fun r7 L6 f5 H locs hp hH => ?_)
  obtain ⟨er7, rfl, rfl⟩ := hp
  subst er7
  refine lv_if_ne (tgt := 15) hx hb dX10_quiet_9 (by decide) (fun h => absurd (by decide) h) (fun _ => ?_)
  refine lv_bipush (v := (-2 : Int32)) hx hb dX10_quiet_12 (by decide) ?_
  refine g_iret C hr hH (Nat.le_of_ble_eq_true rfl) (Nat.le_of_ble_eq_true rfl) dX10_quiet_14 ?_
  exact rfl
set_option maxHeartbeats 4000000 in
set_option maxRecDepth 100000 in
theorem m_served (l : Launch) (E : gE) (L : List Nat) (f : gF) {y : Nat} {ya : Nat → Nat} (my : y ∈ L) (fy : f y = .inr (10, [.int (0 : Int32), .ref (ya 1), .ref (ya 2), .ref (ya 3), .ref (ya 4), .ref (ya 5), .int (0 : Int32), .int (0 : Int32), .int (0 : Int32), .int (0 : Int32), .int (0 : Int32), .long (0 : Int64), .int (0 : Int32), .int (0 : Int32), .int (0 : Int32), .int (-1 : Int32), .ref (ya 16), .ref (ya 17), .ref (ya 18), .ref (ya 19), .ref (ya 20), .ref (ya 21), .int (0 : Int32), .int (0 : Int32), .int (0 : Int32), .ref (ya 25), .ref (ya 26), .ref (ya 27), .ref (ya 28), .ref (ya 29), .ref (ya 30), .ref (ya 31), .ref (ya 32), .ref (ya 33), .ref (ya 34), .ref (ya 35), .int (0 : Int32), .int (0 : Int32), .ref (ya 38), .int (0 : Int32), .int (0 : Int32), .ref (ya 41), .ref (ya 42), .int (0 : Int32), .int (0 : Int32), .int (0 : Int32), .int (0 : Int32), .int (0 : Int32)])) (m_lines : (ya 16) ∈ L) (f_lines : f (ya 16) = .inl (E.2.2 1, 5, .inl (fun _ => 0))) (m_has : (ya 17) ∈ L) (f_has : f (ya 17) = .inl (E.2.2 1, 45, .inl (fun _ => 0))) : gMi l E yX10_served cX10_served 1 .int (gRm 6 0 0) [.ref y] L f (fun r _ _ => r = (-2 : Int32)) := by
  refine gMi.intro (by decide) (Nat.le_of_ble_eq_true rfl) ?_
  intro p e s m below meth c A ls C hr hA hH hl
  have C : gC E cX10_served 1 RX10 p s m _ meth c := C
  have hl : lv_has ls 1 [(0, .ref y)] := hl
  have hx := C.1
  have hb := C.2.1
  refine lv_aload_n hx hb dX10_served_0 rfl (lv_at hl 0 rfl) ?_
  refine lv_iconst (v := (0 : Int32)) hx hb dX10_served_1 (by decide) ?_
  refine g_put C hH my fy iX10 tyX10 tyX10_ok nmX10 rfl 0 (by decide) wd270 rfl rfl rfl rfl (Nat.le_of_ble_eq_true rfl) (fs' := [.int (0 : Int32), .ref (ya 1), .ref (ya 2), .ref (ya 3), .ref (ya 4), .ref (ya 5), .int (0 : Int32), .int (0 : Int32), .int (0 : Int32), .int (0 : Int32), .int (0 : Int32), .long (0 : Int64), .int (0 : Int32), .int (0 : Int32), .int (0 : Int32), .int (-1 : Int32), .ref (ya 16), .ref (ya 17), .ref (ya 18), .ref (ya 19), .ref (ya 20), .ref (ya 21), .int (0 : Int32), .int (0 : Int32), .int (0 : Int32), .ref (ya 25), .ref (ya 26), .ref (ya 27), .ref (ya 28), .ref (ya 29), .ref (ya 30), .ref (ya 31), .ref (ya 32), .ref (ya 33), .ref (ya 34), .ref (ya 35), .int (0 : Int32), .int (0 : Int32), .ref (ya 38), .int (0 : Int32), .int (0 : Int32), .ref (ya 41), .ref (ya 42), .int (0 : Int32), .int (0 : Int32), .int (0 : Int32), .int (0 : Int32), .int (0 : Int32)]) rfl dX10_served_2 (fun H locs hH => ?_)
  obtain ⟨f1, ef1⟩ : ∃ z : gF, z = va_up f y (.inr (10, [.int (0 : Int32), .ref (ya 1), .ref (ya 2), .ref (ya 3), .ref (ya 4), .ref (ya 5), .int (0 : Int32), .int (0 : Int32), .int (0 : Int32), .int (0 : Int32), .int (0 : Int32), .long (0 : Int64), .int (0 : Int32), .int (0 : Int32), .int (0 : Int32), .int (-1 : Int32), .ref (ya 16), .ref (ya 17), .ref (ya 18), .ref (ya 19), .ref (ya 20), .ref (ya 21), .int (0 : Int32), .int (0 : Int32), .int (0 : Int32), .ref (ya 25), .ref (ya 26), .ref (ya 27), .ref (ya 28), .ref (ya 29), .ref (ya 30), .ref (ya 31), .ref (ya 32), .ref (ya 33), .ref (ya 34), .ref (ya 35), .int (0 : Int32), .int (0 : Int32), .ref (ya 38), .int (0 : Int32), .int (0 : Int32), .ref (ya 41), .ref (ya 42), .int (0 : Int32), .int (0 : Int32), .int (0 : Int32), .int (0 : Int32), .int (0 : Int32)])) := ⟨_, rfl⟩
  have hH : gH E A L f1 s.heap H locs := by rw [ef1]; exact hH
  have h2 : f1 y = .inr (10, [.int (0 : Int32), .ref (ya 1), .ref (ya 2), .ref (ya 3), .ref (ya 4), .ref (ya 5), .int (0 : Int32), .int (0 : Int32), .int (0 : Int32), .int (0 : Int32), .int (0 : Int32), .long (0 : Int64), .int (0 : Int32), .int (0 : Int32), .int (0 : Int32), .int (-1 : Int32), .ref (ya 16), .ref (ya 17), .ref (ya 18), .ref (ya 19), .ref (ya 20), .ref (ya 21), .int (0 : Int32), .int (0 : Int32), .int (0 : Int32), .ref (ya 25), .ref (ya 26), .ref (ya 27), .ref (ya 28), .ref (ya 29), .ref (ya 30), .ref (ya 31), .ref (ya 32), .ref (ya 33), .ref (ya 34), .ref (ya 35), .int (0 : Int32), .int (0 : Int32), .ref (ya 38), .int (0 : Int32), .int (0 : Int32), .ref (ya 41), .ref (ya 42), .int (0 : Int32), .int (0 : Int32), .int (0 : Int32), .int (0 : Int32), .int (0 : Int32)]) := (congrFun ef1 y).trans (va_up_self _ _ _)
  refine lv_aload_n hx hb dX10_served_5 rfl (lv_at hl 0 rfl) ?_
  have h3 : f1 (ya 16) = .inl (E.2.2 1, 5, .inl (fun _ => 0)) := ((congrFun ef1 (ya 16)).trans (va_up_ne _ _ (g_neAO f_lines fy))).trans f_lines
  have h4 : f1 (ya 17) = .inl (E.2.2 1, 45, .inl (fun _ => 0)) := ((congrFun ef1 (ya 17)).trans (va_up_ne _ _ (g_neAO f_has fy))).trans f_has
  refine g_Vi C hl.1 hA hH (As := []) (rest := []) (m_isLand l E L f1 my h2 m_lines h3 m_has h4) my_X10_isLand wd266 my h2 rfl rfl rfl (Nat.le_of_ble_eq_true rfl) ⟨Nat.le_of_ble_eq_true rfl, Nat.le_of_ble_eq_true rfl⟩ ⟨Nat.le_of_ble_eq_true rfl, Nat.le_of_ble_eq_true rfl⟩ dX10_served_6 (fun r7 L6 f5 H locs hp hH => ?_)
  obtain ⟨er7, rfl, rfl⟩ := hp
  subst er7
  refine lv_if_ne (tgt := 15) hx hb dX10_served_9 (by decide) (fun h => absurd (by decide) h) (fun _ => ?_)
  refine lv_bipush (v := (-2 : Int32)) hx hb dX10_served_12 (by decide) ?_
  refine g_iret C hr hH (Nat.le_of_ble_eq_true rfl) (Nat.le_of_ble_eq_true rfl) dX10_served_14 ?_
  exact rfl
set_option maxHeartbeats 4000000 in
set_option maxRecDepth 100000 in
theorem m_income (l : Launch) (E : gE) (L : List Nat) (f : gF) {y : Nat} {ya : Nat → Nat} (my : y ∈ L) (fy : f y = .inr (10, [.int (0 : Int32), .ref (ya 1), .ref (ya 2), .ref (ya 3), .ref (ya 4), .ref (ya 5), .int (0 : Int32), .int (0 : Int32), .int (0 : Int32), .int (0 : Int32), .int (0 : Int32), .long (0 : Int64), .int (0 : Int32), .int (0 : Int32), .int (0 : Int32), .int (-1 : Int32), .ref (ya 16), .ref (ya 17), .ref (ya 18), .ref (ya 19), .ref (ya 20), .ref (ya 21), .int (0 : Int32), .int (0 : Int32), .int (0 : Int32), .ref (ya 25), .ref (ya 26), .ref (ya 27), .ref (ya 28), .ref (ya 29), .ref (ya 30), .ref (ya 31), .ref (ya 32), .ref (ya 33), .ref (ya 34), .ref (ya 35), .int (0 : Int32), .int (0 : Int32), .ref (ya 38), .int (0 : Int32), .int (0 : Int32), .ref (ya 41), .ref (ya 42), .int (0 : Int32), .int (0 : Int32), .int (0 : Int32), .int (0 : Int32), .int (0 : Int32)])) (m_lines : (ya 16) ∈ L) (f_lines : f (ya 16) = .inl (E.2.2 1, 5, .inl (fun _ => 0))) (m_has : (ya 17) ∈ L) (f_has : f (ya 17) = .inl (E.2.2 1, 45, .inl (fun _ => 0))) : gMi l E yX10_income cX10_income 1 .int (gRm 6 0 0) [.ref y] L f (fun r _ _ => r = (-2 : Int32)) := by
  refine gMi.intro (by decide) (Nat.le_of_ble_eq_true rfl) ?_
  intro p e s m below meth c A ls C hr hA hH hl
  have C : gC E cX10_income 1 RX10 p s m _ meth c := C
  have hl : lv_has ls 1 [(0, .ref y)] := hl
  have hx := C.1
  have hb := C.2.1
  refine lv_aload_n hx hb dX10_income_0 rfl (lv_at hl 0 rfl) ?_
  refine lv_iconst (v := (0 : Int32)) hx hb dX10_income_1 (by decide) ?_
  refine g_put C hH my fy iX10 tyX10 tyX10_ok nmX10 rfl 0 (by decide) wd270 rfl rfl rfl rfl (Nat.le_of_ble_eq_true rfl) (fs' := [.int (0 : Int32), .ref (ya 1), .ref (ya 2), .ref (ya 3), .ref (ya 4), .ref (ya 5), .int (0 : Int32), .int (0 : Int32), .int (0 : Int32), .int (0 : Int32), .int (0 : Int32), .long (0 : Int64), .int (0 : Int32), .int (0 : Int32), .int (0 : Int32), .int (-1 : Int32), .ref (ya 16), .ref (ya 17), .ref (ya 18), .ref (ya 19), .ref (ya 20), .ref (ya 21), .int (0 : Int32), .int (0 : Int32), .int (0 : Int32), .ref (ya 25), .ref (ya 26), .ref (ya 27), .ref (ya 28), .ref (ya 29), .ref (ya 30), .ref (ya 31), .ref (ya 32), .ref (ya 33), .ref (ya 34), .ref (ya 35), .int (0 : Int32), .int (0 : Int32), .ref (ya 38), .int (0 : Int32), .int (0 : Int32), .ref (ya 41), .ref (ya 42), .int (0 : Int32), .int (0 : Int32), .int (0 : Int32), .int (0 : Int32), .int (0 : Int32)]) rfl dX10_income_2 (fun H locs hH => ?_)
  obtain ⟨f1, ef1⟩ : ∃ z : gF, z = va_up f y (.inr (10, [.int (0 : Int32), .ref (ya 1), .ref (ya 2), .ref (ya 3), .ref (ya 4), .ref (ya 5), .int (0 : Int32), .int (0 : Int32), .int (0 : Int32), .int (0 : Int32), .int (0 : Int32), .long (0 : Int64), .int (0 : Int32), .int (0 : Int32), .int (0 : Int32), .int (-1 : Int32), .ref (ya 16), .ref (ya 17), .ref (ya 18), .ref (ya 19), .ref (ya 20), .ref (ya 21), .int (0 : Int32), .int (0 : Int32), .int (0 : Int32), .ref (ya 25), .ref (ya 26), .ref (ya 27), .ref (ya 28), .ref (ya 29), .ref (ya 30), .ref (ya 31), .ref (ya 32), .ref (ya 33), .ref (ya 34), .ref (ya 35), .int (0 : Int32), .int (0 : Int32), .ref (ya 38), .int (0 : Int32), .int (0 : Int32), .ref (ya 41), .ref (ya 42), .int (0 : Int32), .int (0 : Int32), .int (0 : Int32), .int (0 : Int32), .int (0 : Int32)])) := ⟨_, rfl⟩
  have hH : gH E A L f1 s.heap H locs := by rw [ef1]; exact hH
  have h2 : f1 y = .inr (10, [.int (0 : Int32), .ref (ya 1), .ref (ya 2), .ref (ya 3), .ref (ya 4), .ref (ya 5), .int (0 : Int32), .int (0 : Int32), .int (0 : Int32), .int (0 : Int32), .int (0 : Int32), .long (0 : Int64), .int (0 : Int32), .int (0 : Int32), .int (0 : Int32), .int (-1 : Int32), .ref (ya 16), .ref (ya 17), .ref (ya 18), .ref (ya 19), .ref (ya 20), .ref (ya 21), .int (0 : Int32), .int (0 : Int32), .int (0 : Int32), .ref (ya 25), .ref (ya 26), .ref (ya 27), .ref (ya 28), .ref (ya 29), .ref (ya 30), .ref (ya 31), .ref (ya 32), .ref (ya 33), .ref (ya 34), .ref (ya 35), .int (0 : Int32), .int (0 : Int32), .ref (ya 38), .int (0 : Int32), .int (0 : Int32), .ref (ya 41), .ref (ya 42), .int (0 : Int32), .int (0 : Int32), .int (0 : Int32), .int (0 : Int32), .int (0 : Int32)]) := (congrFun ef1 y).trans (va_up_self _ _ _)
  refine lv_aload_n hx hb dX10_income_5 rfl (lv_at hl 0 rfl) ?_
  have h3 : f1 (ya 16) = .inl (E.2.2 1, 5, .inl (fun _ => 0)) := ((congrFun ef1 (ya 16)).trans (va_up_ne _ _ (g_neAO f_lines fy))).trans f_lines
  have h4 : f1 (ya 17) = .inl (E.2.2 1, 45, .inl (fun _ => 0)) := ((congrFun ef1 (ya 17)).trans (va_up_ne _ _ (g_neAO f_has fy))).trans f_has
  refine g_Vi C hl.1 hA hH (As := []) (rest := []) (m_isLand l E L f1 my h2 m_lines h3 m_has h4) my_X10_isLand wd266 my h2 rfl rfl rfl (Nat.le_of_ble_eq_true rfl) ⟨Nat.le_of_ble_eq_true rfl, Nat.le_of_ble_eq_true rfl⟩ ⟨Nat.le_of_ble_eq_true rfl, Nat.le_of_ble_eq_true rfl⟩ dX10_income_6 (fun r7 L6 f5 H locs hp hH => ?_)
  obtain ⟨er7, rfl, rfl⟩ := hp
  subst er7
  refine lv_if_ne (tgt := 15) hx hb dX10_income_9 (by decide) (fun h => absurd (by decide) h) (fun _ => ?_)
  refine lv_bipush (v := (-2 : Int32)) hx hb dX10_income_12 (by decide) ?_
  refine g_iret C hr hH (Nat.le_of_ble_eq_true rfl) (Nat.le_of_ble_eq_true rfl) dX10_income_14 ?_
  exact rfl
set_option maxHeartbeats 4000000 in
set_option maxRecDepth 100000 in
theorem m_unpaid (l : Launch) (E : gE) (L : List Nat) (f : gF) {y : Nat} {ya : Nat → Nat} (my : y ∈ L) (fy : f y = .inr (10, [.int (0 : Int32), .ref (ya 1), .ref (ya 2), .ref (ya 3), .ref (ya 4), .ref (ya 5), .int (0 : Int32), .int (0 : Int32), .int (0 : Int32), .int (0 : Int32), .int (0 : Int32), .long (0 : Int64), .int (0 : Int32), .int (0 : Int32), .int (0 : Int32), .int (-1 : Int32), .ref (ya 16), .ref (ya 17), .ref (ya 18), .ref (ya 19), .ref (ya 20), .ref (ya 21), .int (0 : Int32), .int (0 : Int32), .int (0 : Int32), .ref (ya 25), .ref (ya 26), .ref (ya 27), .ref (ya 28), .ref (ya 29), .ref (ya 30), .ref (ya 31), .ref (ya 32), .ref (ya 33), .ref (ya 34), .ref (ya 35), .int (0 : Int32), .int (0 : Int32), .ref (ya 38), .int (0 : Int32), .int (0 : Int32), .ref (ya 41), .ref (ya 42), .int (0 : Int32), .int (0 : Int32), .int (0 : Int32), .int (0 : Int32), .int (0 : Int32)])) (m_lines : (ya 16) ∈ L) (f_lines : f (ya 16) = .inl (E.2.2 1, 5, .inl (fun _ => 0))) (m_has : (ya 17) ∈ L) (f_has : f (ya 17) = .inl (E.2.2 1, 45, .inl (fun _ => 0))) : gMi l E yX10_unpaid cX10_unpaid 1 .int (gRm 6 0 0) [.ref y] L f (fun r _ _ => r = (-2 : Int32)) := by
  refine gMi.intro (by decide) (Nat.le_of_ble_eq_true rfl) ?_
  intro p e s m below meth c A ls C hr hA hH hl
  have C : gC E cX10_unpaid 1 RX10 p s m _ meth c := C
  have hl : lv_has ls 1 [(0, .ref y)] := hl
  have hx := C.1
  have hb := C.2.1
  refine lv_aload_n hx hb dX10_unpaid_0 rfl (lv_at hl 0 rfl) ?_
  refine lv_iconst (v := (0 : Int32)) hx hb dX10_unpaid_1 (by decide) ?_
  refine g_put C hH my fy iX10 tyX10 tyX10_ok nmX10 rfl 0 (by decide) wd270 rfl rfl rfl rfl (Nat.le_of_ble_eq_true rfl) (fs' := [.int (0 : Int32), .ref (ya 1), .ref (ya 2), .ref (ya 3), .ref (ya 4), .ref (ya 5), .int (0 : Int32), .int (0 : Int32), .int (0 : Int32), .int (0 : Int32), .int (0 : Int32), .long (0 : Int64), .int (0 : Int32), .int (0 : Int32), .int (0 : Int32), .int (-1 : Int32), .ref (ya 16), .ref (ya 17), .ref (ya 18), .ref (ya 19), .ref (ya 20), .ref (ya 21), .int (0 : Int32), .int (0 : Int32), .int (0 : Int32), .ref (ya 25), .ref (ya 26), .ref (ya 27), .ref (ya 28), .ref (ya 29), .ref (ya 30), .ref (ya 31), .ref (ya 32), .ref (ya 33), .ref (ya 34), .ref (ya 35), .int (0 : Int32), .int (0 : Int32), .ref (ya 38), .int (0 : Int32), .int (0 : Int32), .ref (ya 41), .ref (ya 42), .int (0 : Int32), .int (0 : Int32), .int (0 : Int32), .int (0 : Int32), .int (0 : Int32)]) rfl dX10_unpaid_2 (fun H locs hH => ?_)
  obtain ⟨f1, ef1⟩ : ∃ z : gF, z = va_up f y (.inr (10, [.int (0 : Int32), .ref (ya 1), .ref (ya 2), .ref (ya 3), .ref (ya 4), .ref (ya 5), .int (0 : Int32), .int (0 : Int32), .int (0 : Int32), .int (0 : Int32), .int (0 : Int32), .long (0 : Int64), .int (0 : Int32), .int (0 : Int32), .int (0 : Int32), .int (-1 : Int32), .ref (ya 16), .ref (ya 17), .ref (ya 18), .ref (ya 19), .ref (ya 20), .ref (ya 21), .int (0 : Int32), .int (0 : Int32), .int (0 : Int32), .ref (ya 25), .ref (ya 26), .ref (ya 27), .ref (ya 28), .ref (ya 29), .ref (ya 30), .ref (ya 31), .ref (ya 32), .ref (ya 33), .ref (ya 34), .ref (ya 35), .int (0 : Int32), .int (0 : Int32), .ref (ya 38), .int (0 : Int32), .int (0 : Int32), .ref (ya 41), .ref (ya 42), .int (0 : Int32), .int (0 : Int32), .int (0 : Int32), .int (0 : Int32), .int (0 : Int32)])) := ⟨_, rfl⟩
  have hH : gH E A L f1 s.heap H locs := by rw [ef1]; exact hH
  have h2 : f1 y = .inr (10, [.int (0 : Int32), .ref (ya 1), .ref (ya 2), .ref (ya 3), .ref (ya 4), .ref (ya 5), .int (0 : Int32), .int (0 : Int32), .int (0 : Int32), .int (0 : Int32), .int (0 : Int32), .long (0 : Int64), .int (0 : Int32), .int (0 : Int32), .int (0 : Int32), .int (-1 : Int32), .ref (ya 16), .ref (ya 17), .ref (ya 18), .ref (ya 19), .ref (ya 20), .ref (ya 21), .int (0 : Int32), .int (0 : Int32), .int (0 : Int32), .ref (ya 25), .ref (ya 26), .ref (ya 27), .ref (ya 28), .ref (ya 29), .ref (ya 30), .ref (ya 31), .ref (ya 32), .ref (ya 33), .ref (ya 34), .ref (ya 35), .int (0 : Int32), .int (0 : Int32), .ref (ya 38), .int (0 : Int32), .int (0 : Int32), .ref (ya 41), .ref (ya 42), .int (0 : Int32), .int (0 : Int32), .int (0 : Int32), .int (0 : Int32), .int (0 : Int32)]) := (congrFun ef1 y).trans (va_up_self _ _ _)
  refine lv_aload_n hx hb dX10_unpaid_5 rfl (lv_at hl 0 rfl) ?_
  have h3 : f1 (ya 16) = .inl (E.2.2 1, 5, .inl (fun _ => 0)) := ((congrFun ef1 (ya 16)).trans (va_up_ne _ _ (g_neAO f_lines fy))).trans f_lines
  have h4 : f1 (ya 17) = .inl (E.2.2 1, 45, .inl (fun _ => 0)) := ((congrFun ef1 (ya 17)).trans (va_up_ne _ _ (g_neAO f_has fy))).trans f_has
  refine g_Vi C hl.1 hA hH (As := []) (rest := []) (m_isLand l E L f1 my h2 m_lines h3 m_has h4) my_X10_isLand wd266 my h2 rfl rfl rfl (Nat.le_of_ble_eq_true rfl) ⟨Nat.le_of_ble_eq_true rfl, Nat.le_of_ble_eq_true rfl⟩ ⟨Nat.le_of_ble_eq_true rfl, Nat.le_of_ble_eq_true rfl⟩ dX10_unpaid_6 (fun r7 L6 f5 H locs hp hH => ?_)
  obtain ⟨er7, rfl, rfl⟩ := hp
  subst er7
  refine lv_if_ne (tgt := 15) hx hb dX10_unpaid_9 (by decide) (fun h => absurd (by decide) h) (fun _ => ?_)
  refine lv_bipush (v := (-2 : Int32)) hx hb dX10_unpaid_12 (by decide) ?_
  refine g_iret C hr hH (Nat.le_of_ble_eq_true rfl) (Nat.le_of_ble_eq_true rfl) dX10_unpaid_14 ?_
  exact rfl
set_option maxHeartbeats 4000000 in
set_option maxRecDepth 100000 in
theorem m_first (l : Launch) (E : gE) (L : List Nat) (f : gF) {y : Nat} {ya : Nat → Nat} (my : y ∈ L) (fy : f y = .inr (10, [.int (0 : Int32), .ref (ya 1), .ref (ya 2), .ref (ya 3), .ref (ya 4), .ref (ya 5), .int (0 : Int32), .int (0 : Int32), .int (0 : Int32), .int (0 : Int32), .int (0 : Int32), .long (0 : Int64), .int (0 : Int32), .int (0 : Int32), .int (0 : Int32), .int (-1 : Int32), .ref (ya 16), .ref (ya 17), .ref (ya 18), .ref (ya 19), .ref (ya 20), .ref (ya 21), .int (0 : Int32), .int (0 : Int32), .int (0 : Int32), .ref (ya 25), .ref (ya 26), .ref (ya 27), .ref (ya 28), .ref (ya 29), .ref (ya 30), .ref (ya 31), .ref (ya 32), .ref (ya 33), .ref (ya 34), .ref (ya 35), .int (0 : Int32), .int (0 : Int32), .ref (ya 38), .int (0 : Int32), .int (0 : Int32), .ref (ya 41), .ref (ya 42), .int (0 : Int32), .int (0 : Int32), .int (0 : Int32), .int (0 : Int32), .int (0 : Int32)])) (m_lines : (ya 16) ∈ L) (f_lines : f (ya 16) = .inl (E.2.2 1, 5, .inl (fun _ => 0))) (m_has : (ya 17) ∈ L) (f_has : f (ya 17) = .inl (E.2.2 1, 45, .inl (fun _ => 0))) : gMi l E yX10_first cX10_first 5 .int (gRm 6 0 0) [.ref y] L f (fun r _ _ => r = (-2 : Int32)) := by
  refine gMi.intro (by decide) (Nat.le_of_ble_eq_true rfl) ?_
  intro p e s m below meth c A ls C hr hA hH hl
  have C : gC E cX10_first 5 RX10 p s m _ meth c := C
  have hl : lv_has ls 5 [(0, .ref y)] := hl
  have hx := C.1
  have hb := C.2.1
  refine lv_aload_n hx hb dX10_first_0 rfl (lv_at hl 0 rfl) ?_
  refine lv_iconst (v := (0 : Int32)) hx hb dX10_first_1 (by decide) ?_
  refine g_put C hH my fy iX10 tyX10 tyX10_ok nmX10 rfl 0 (by decide) wd270 rfl rfl rfl rfl (Nat.le_of_ble_eq_true rfl) (fs' := [.int (0 : Int32), .ref (ya 1), .ref (ya 2), .ref (ya 3), .ref (ya 4), .ref (ya 5), .int (0 : Int32), .int (0 : Int32), .int (0 : Int32), .int (0 : Int32), .int (0 : Int32), .long (0 : Int64), .int (0 : Int32), .int (0 : Int32), .int (0 : Int32), .int (-1 : Int32), .ref (ya 16), .ref (ya 17), .ref (ya 18), .ref (ya 19), .ref (ya 20), .ref (ya 21), .int (0 : Int32), .int (0 : Int32), .int (0 : Int32), .ref (ya 25), .ref (ya 26), .ref (ya 27), .ref (ya 28), .ref (ya 29), .ref (ya 30), .ref (ya 31), .ref (ya 32), .ref (ya 33), .ref (ya 34), .ref (ya 35), .int (0 : Int32), .int (0 : Int32), .ref (ya 38), .int (0 : Int32), .int (0 : Int32), .ref (ya 41), .ref (ya 42), .int (0 : Int32), .int (0 : Int32), .int (0 : Int32), .int (0 : Int32), .int (0 : Int32)]) rfl dX10_first_2 (fun H locs hH => ?_)
  obtain ⟨f1, ef1⟩ : ∃ z : gF, z = va_up f y (.inr (10, [.int (0 : Int32), .ref (ya 1), .ref (ya 2), .ref (ya 3), .ref (ya 4), .ref (ya 5), .int (0 : Int32), .int (0 : Int32), .int (0 : Int32), .int (0 : Int32), .int (0 : Int32), .long (0 : Int64), .int (0 : Int32), .int (0 : Int32), .int (0 : Int32), .int (-1 : Int32), .ref (ya 16), .ref (ya 17), .ref (ya 18), .ref (ya 19), .ref (ya 20), .ref (ya 21), .int (0 : Int32), .int (0 : Int32), .int (0 : Int32), .ref (ya 25), .ref (ya 26), .ref (ya 27), .ref (ya 28), .ref (ya 29), .ref (ya 30), .ref (ya 31), .ref (ya 32), .ref (ya 33), .ref (ya 34), .ref (ya 35), .int (0 : Int32), .int (0 : Int32), .ref (ya 38), .int (0 : Int32), .int (0 : Int32), .ref (ya 41), .ref (ya 42), .int (0 : Int32), .int (0 : Int32), .int (0 : Int32), .int (0 : Int32), .int (0 : Int32)])) := ⟨_, rfl⟩
  have hH : gH E A L f1 s.heap H locs := by rw [ef1]; exact hH
  have h2 : f1 y = .inr (10, [.int (0 : Int32), .ref (ya 1), .ref (ya 2), .ref (ya 3), .ref (ya 4), .ref (ya 5), .int (0 : Int32), .int (0 : Int32), .int (0 : Int32), .int (0 : Int32), .int (0 : Int32), .long (0 : Int64), .int (0 : Int32), .int (0 : Int32), .int (0 : Int32), .int (-1 : Int32), .ref (ya 16), .ref (ya 17), .ref (ya 18), .ref (ya 19), .ref (ya 20), .ref (ya 21), .int (0 : Int32), .int (0 : Int32), .int (0 : Int32), .ref (ya 25), .ref (ya 26), .ref (ya 27), .ref (ya 28), .ref (ya 29), .ref (ya 30), .ref (ya 31), .ref (ya 32), .ref (ya 33), .ref (ya 34), .ref (ya 35), .int (0 : Int32), .int (0 : Int32), .ref (ya 38), .int (0 : Int32), .int (0 : Int32), .ref (ya 41), .ref (ya 42), .int (0 : Int32), .int (0 : Int32), .int (0 : Int32), .int (0 : Int32), .int (0 : Int32)]) := (congrFun ef1 y).trans (va_up_self _ _ _)
  refine lv_aload_n hx hb dX10_first_5 rfl (lv_at hl 0 rfl) ?_
  have h3 : f1 (ya 16) = .inl (E.2.2 1, 5, .inl (fun _ => 0)) := ((congrFun ef1 (ya 16)).trans (va_up_ne _ _ (g_neAO f_lines fy))).trans f_lines
  have h4 : f1 (ya 17) = .inl (E.2.2 1, 45, .inl (fun _ => 0)) := ((congrFun ef1 (ya 17)).trans (va_up_ne _ _ (g_neAO f_has fy))).trans f_has
  refine g_Vi C hl.1 hA hH (As := []) (rest := []) (m_isLand l E L f1 my h2 m_lines h3 m_has h4) my_X10_isLand wd266 my h2 rfl rfl rfl (Nat.le_of_ble_eq_true rfl) ⟨Nat.le_of_ble_eq_true rfl, Nat.le_of_ble_eq_true rfl⟩ ⟨Nat.le_of_ble_eq_true rfl, Nat.le_of_ble_eq_true rfl⟩ dX10_first_6 (fun r7 L6 f5 H locs hp hH => ?_)
  obtain ⟨er7, rfl, rfl⟩ := hp
  subst er7
  refine lv_if_ne (tgt := 15) hx hb dX10_first_9 (by decide) (fun h => absurd (by decide) h) (fun _ => ?_)
  refine lv_bipush (v := (-2 : Int32)) hx hb dX10_first_12 (by decide) ?_
  refine g_iret C hr hH (Nat.le_of_ble_eq_true rfl) (Nat.le_of_ble_eq_true rfl) dX10_first_14 ?_
  exact rfl
set_option maxHeartbeats 4000000 in
set_option maxRecDepth 100000 in
theorem m_lacks (l : Launch) (E : gE) (L : List Nat) (f : gF) {y : Nat} {ya : Nat → Nat} (my : y ∈ L) (fy : f y = .inr (10, [.int (0 : Int32), .ref (ya 1), .ref (ya 2), .ref (ya 3), .ref (ya 4), .ref (ya 5), .int (0 : Int32), .int (0 : Int32), .int (0 : Int32), .int (0 : Int32), .int (0 : Int32), .long (0 : Int64), .int (0 : Int32), .int (0 : Int32), .int (0 : Int32), .int (-1 : Int32), .ref (ya 16), .ref (ya 17), .ref (ya 18), .ref (ya 19), .ref (ya 20), .ref (ya 21), .int (0 : Int32), .int (0 : Int32), .int (0 : Int32), .ref (ya 25), .ref (ya 26), .ref (ya 27), .ref (ya 28), .ref (ya 29), .ref (ya 30), .ref (ya 31), .ref (ya 32), .ref (ya 33), .ref (ya 34), .ref (ya 35), .int (0 : Int32), .int (0 : Int32), .ref (ya 38), .int (0 : Int32), .int (0 : Int32), .ref (ya 41), .ref (ya 42), .int (0 : Int32), .int (0 : Int32), .int (0 : Int32), .int (0 : Int32), .int (0 : Int32)])) (m_lines : (ya 16) ∈ L) (f_lines : f (ya 16) = .inl (E.2.2 1, 5, .inl (fun _ => 0))) (m_has : (ya 17) ∈ L) (f_has : f (ya 17) = .inl (E.2.2 1, 45, .inl (fun _ => 0))) : gMi l E yX10_lacks cX10_lacks 4 .int (gRm 6 0 0) [.ref y] L f (fun r _ _ => r = (-2 : Int32)) := by
  refine gMi.intro (by decide) (Nat.le_of_ble_eq_true rfl) ?_
  intro p e s m below meth c A ls C hr hA hH hl
  have C : gC E cX10_lacks 4 RX10 p s m _ meth c := C
  have hl : lv_has ls 4 [(0, .ref y)] := hl
  have hx := C.1
  have hb := C.2.1
  refine lv_aload_n hx hb dX10_lacks_0 rfl (lv_at hl 0 rfl) ?_
  refine lv_iconst (v := (0 : Int32)) hx hb dX10_lacks_1 (by decide) ?_
  refine g_put C hH my fy iX10 tyX10 tyX10_ok nmX10 rfl 0 (by decide) wd270 rfl rfl rfl rfl (Nat.le_of_ble_eq_true rfl) (fs' := [.int (0 : Int32), .ref (ya 1), .ref (ya 2), .ref (ya 3), .ref (ya 4), .ref (ya 5), .int (0 : Int32), .int (0 : Int32), .int (0 : Int32), .int (0 : Int32), .int (0 : Int32), .long (0 : Int64), .int (0 : Int32), .int (0 : Int32), .int (0 : Int32), .int (-1 : Int32), .ref (ya 16), .ref (ya 17), .ref (ya 18), .ref (ya 19), .ref (ya 20), .ref (ya 21), .int (0 : Int32), .int (0 : Int32), .int (0 : Int32), .ref (ya 25), .ref (ya 26), .ref (ya 27), .ref (ya 28), .ref (ya 29), .ref (ya 30), .ref (ya 31), .ref (ya 32), .ref (ya 33), .ref (ya 34), .ref (ya 35), .int (0 : Int32), .int (0 : Int32), .ref (ya 38), .int (0 : Int32), .int (0 : Int32), .ref (ya 41), .ref (ya 42), .int (0 : Int32), .int (0 : Int32), .int (0 : Int32), .int (0 : Int32), .int (0 : Int32)]) rfl dX10_lacks_2 (fun H locs hH => ?_)
  obtain ⟨f1, ef1⟩ : ∃ z : gF, z = va_up f y (.inr (10, [.int (0 : Int32), .ref (ya 1), .ref (ya 2), .ref (ya 3), .ref (ya 4), .ref (ya 5), .int (0 : Int32), .int (0 : Int32), .int (0 : Int32), .int (0 : Int32), .int (0 : Int32), .long (0 : Int64), .int (0 : Int32), .int (0 : Int32), .int (0 : Int32), .int (-1 : Int32), .ref (ya 16), .ref (ya 17), .ref (ya 18), .ref (ya 19), .ref (ya 20), .ref (ya 21), .int (0 : Int32), .int (0 : Int32), .int (0 : Int32), .ref (ya 25), .ref (ya 26), .ref (ya 27), .ref (ya 28), .ref (ya 29), .ref (ya 30), .ref (ya 31), .ref (ya 32), .ref (ya 33), .ref (ya 34), .ref (ya 35), .int (0 : Int32), .int (0 : Int32), .ref (ya 38), .int (0 : Int32), .int (0 : Int32), .ref (ya 41), .ref (ya 42), .int (0 : Int32), .int (0 : Int32), .int (0 : Int32), .int (0 : Int32), .int (0 : Int32)])) := ⟨_, rfl⟩
  have hH : gH E A L f1 s.heap H locs := by rw [ef1]; exact hH
  have h2 : f1 y = .inr (10, [.int (0 : Int32), .ref (ya 1), .ref (ya 2), .ref (ya 3), .ref (ya 4), .ref (ya 5), .int (0 : Int32), .int (0 : Int32), .int (0 : Int32), .int (0 : Int32), .int (0 : Int32), .long (0 : Int64), .int (0 : Int32), .int (0 : Int32), .int (0 : Int32), .int (-1 : Int32), .ref (ya 16), .ref (ya 17), .ref (ya 18), .ref (ya 19), .ref (ya 20), .ref (ya 21), .int (0 : Int32), .int (0 : Int32), .int (0 : Int32), .ref (ya 25), .ref (ya 26), .ref (ya 27), .ref (ya 28), .ref (ya 29), .ref (ya 30), .ref (ya 31), .ref (ya 32), .ref (ya 33), .ref (ya 34), .ref (ya 35), .int (0 : Int32), .int (0 : Int32), .ref (ya 38), .int (0 : Int32), .int (0 : Int32), .ref (ya 41), .ref (ya 42), .int (0 : Int32), .int (0 : Int32), .int (0 : Int32), .int (0 : Int32), .int (0 : Int32)]) := (congrFun ef1 y).trans (va_up_self _ _ _)
  refine lv_aload_n hx hb dX10_lacks_5 rfl (lv_at hl 0 rfl) ?_
  have h3 : f1 (ya 16) = .inl (E.2.2 1, 5, .inl (fun _ => 0)) := ((congrFun ef1 (ya 16)).trans (va_up_ne _ _ (g_neAO f_lines fy))).trans f_lines
  have h4 : f1 (ya 17) = .inl (E.2.2 1, 45, .inl (fun _ => 0)) := ((congrFun ef1 (ya 17)).trans (va_up_ne _ _ (g_neAO f_has fy))).trans f_has
  refine g_Vi C hl.1 hA hH (As := []) (rest := []) (m_isLand l E L f1 my h2 m_lines h3 m_has h4) my_X10_isLand wd266 my h2 rfl rfl rfl (Nat.le_of_ble_eq_true rfl) ⟨Nat.le_of_ble_eq_true rfl, Nat.le_of_ble_eq_true rfl⟩ ⟨Nat.le_of_ble_eq_true rfl, Nat.le_of_ble_eq_true rfl⟩ dX10_lacks_6 (fun r7 L6 f5 H locs hp hH => ?_)
  obtain ⟨er7, rfl, rfl⟩ := hp
  subst er7
  refine lv_if_ne (tgt := 15) hx hb dX10_lacks_9 (by decide) (fun h => absurd (by decide) h) (fun _ => ?_)
  refine lv_bipush (v := (-2 : Int32)) hx hb dX10_lacks_12 (by decide) ?_
  refine g_iret C hr hH (Nat.le_of_ble_eq_true rfl) (Nat.le_of_ble_eq_true rfl) dX10_lacks_14 ?_
  exact rfl
set_option maxHeartbeats 4000000 in
set_option maxRecDepth 100000 in
theorem m_near (l : Launch) (E : gE) (L : List Nat) (f : gF) {y : Nat} {ya : Nat → Nat} (my : y ∈ L) (fy : f y = .inr (10, [.int (0 : Int32), .ref (ya 1), .ref (ya 2), .ref (ya 3), .ref (ya 4), .ref (ya 5), .int (0 : Int32), .int (0 : Int32), .int (0 : Int32), .int (0 : Int32), .int (0 : Int32), .long (0 : Int64), .int (0 : Int32), .int (0 : Int32), .int (0 : Int32), .int (-1 : Int32), .ref (ya 16), .ref (ya 17), .ref (ya 18), .ref (ya 19), .ref (ya 20), .ref (ya 21), .int (0 : Int32), .int (0 : Int32), .int (0 : Int32), .ref (ya 25), .ref (ya 26), .ref (ya 27), .ref (ya 28), .ref (ya 29), .ref (ya 30), .ref (ya 31), .ref (ya 32), .ref (ya 33), .ref (ya 34), .ref (ya 35), .int (0 : Int32), .int (0 : Int32), .ref (ya 38), .int (0 : Int32), .int (0 : Int32), .ref (ya 41), .ref (ya 42), .int (0 : Int32), .int (0 : Int32), .int (0 : Int32), .int (0 : Int32), .int (0 : Int32)])) (m_lines : (ya 16) ∈ L) (f_lines : f (ya 16) = .inl (E.2.2 1, 5, .inl (fun _ => 0))) (m_has : (ya 17) ∈ L) (f_has : f (ya 17) = .inl (E.2.2 1, 45, .inl (fun _ => 0))) (p0 : Int32) : gMi l E yX10_near cX10_near 4 .int (gRm 6 0 0) [.ref y, .int p0] L f (fun r _ _ => r = (-2 : Int32)) := by
  refine gMi.intro (by decide) (Nat.le_of_ble_eq_true rfl) ?_
  intro p e s m below meth c A ls C hr hA hH hl
  have C : gC E cX10_near 4 RX10 p s m _ meth c := C
  have hl : lv_has ls 4 [(0, .ref y), (1, .int p0)] := hl
  have hx := C.1
  have hb := C.2.1
  refine lv_aload_n hx hb dX10_near_0 rfl (lv_at hl 0 rfl) ?_
  refine lv_iconst (v := (0 : Int32)) hx hb dX10_near_1 (by decide) ?_
  refine g_put C hH my fy iX10 tyX10 tyX10_ok nmX10 rfl 0 (by decide) wd270 rfl rfl rfl rfl (Nat.le_of_ble_eq_true rfl) (fs' := [.int (0 : Int32), .ref (ya 1), .ref (ya 2), .ref (ya 3), .ref (ya 4), .ref (ya 5), .int (0 : Int32), .int (0 : Int32), .int (0 : Int32), .int (0 : Int32), .int (0 : Int32), .long (0 : Int64), .int (0 : Int32), .int (0 : Int32), .int (0 : Int32), .int (-1 : Int32), .ref (ya 16), .ref (ya 17), .ref (ya 18), .ref (ya 19), .ref (ya 20), .ref (ya 21), .int (0 : Int32), .int (0 : Int32), .int (0 : Int32), .ref (ya 25), .ref (ya 26), .ref (ya 27), .ref (ya 28), .ref (ya 29), .ref (ya 30), .ref (ya 31), .ref (ya 32), .ref (ya 33), .ref (ya 34), .ref (ya 35), .int (0 : Int32), .int (0 : Int32), .ref (ya 38), .int (0 : Int32), .int (0 : Int32), .ref (ya 41), .ref (ya 42), .int (0 : Int32), .int (0 : Int32), .int (0 : Int32), .int (0 : Int32), .int (0 : Int32)]) rfl dX10_near_2 (fun H locs hH => ?_)
  obtain ⟨f1, ef1⟩ : ∃ z : gF, z = va_up f y (.inr (10, [.int (0 : Int32), .ref (ya 1), .ref (ya 2), .ref (ya 3), .ref (ya 4), .ref (ya 5), .int (0 : Int32), .int (0 : Int32), .int (0 : Int32), .int (0 : Int32), .int (0 : Int32), .long (0 : Int64), .int (0 : Int32), .int (0 : Int32), .int (0 : Int32), .int (-1 : Int32), .ref (ya 16), .ref (ya 17), .ref (ya 18), .ref (ya 19), .ref (ya 20), .ref (ya 21), .int (0 : Int32), .int (0 : Int32), .int (0 : Int32), .ref (ya 25), .ref (ya 26), .ref (ya 27), .ref (ya 28), .ref (ya 29), .ref (ya 30), .ref (ya 31), .ref (ya 32), .ref (ya 33), .ref (ya 34), .ref (ya 35), .int (0 : Int32), .int (0 : Int32), .ref (ya 38), .int (0 : Int32), .int (0 : Int32), .ref (ya 41), .ref (ya 42), .int (0 : Int32), .int (0 : Int32), .int (0 : Int32), .int (0 : Int32), .int (0 : Int32)])) := ⟨_, rfl⟩
  have hH : gH E A L f1 s.heap H locs := by rw [ef1]; exact hH
  have h2 : f1 y = .inr (10, [.int (0 : Int32), .ref (ya 1), .ref (ya 2), .ref (ya 3), .ref (ya 4), .ref (ya 5), .int (0 : Int32), .int (0 : Int32), .int (0 : Int32), .int (0 : Int32), .int (0 : Int32), .long (0 : Int64), .int (0 : Int32), .int (0 : Int32), .int (0 : Int32), .int (-1 : Int32), .ref (ya 16), .ref (ya 17), .ref (ya 18), .ref (ya 19), .ref (ya 20), .ref (ya 21), .int (0 : Int32), .int (0 : Int32), .int (0 : Int32), .ref (ya 25), .ref (ya 26), .ref (ya 27), .ref (ya 28), .ref (ya 29), .ref (ya 30), .ref (ya 31), .ref (ya 32), .ref (ya 33), .ref (ya 34), .ref (ya 35), .int (0 : Int32), .int (0 : Int32), .ref (ya 38), .int (0 : Int32), .int (0 : Int32), .ref (ya 41), .ref (ya 42), .int (0 : Int32), .int (0 : Int32), .int (0 : Int32), .int (0 : Int32), .int (0 : Int32)]) := (congrFun ef1 y).trans (va_up_self _ _ _)
  refine lv_aload_n hx hb dX10_near_5 rfl (lv_at hl 0 rfl) ?_
  refine lv_iload_n hx hb dX10_near_6 rfl (lv_at hl 1 rfl) ?_
  refine lv_i2l (v := (p0).toInt64) hx hb dX10_near_7 rfl ?_
  have h3 : f1 (ya 16) = .inl (E.2.2 1, 5, .inl (fun _ => 0)) := ((congrFun ef1 (ya 16)).trans (va_up_ne _ _ (g_neAO f_lines fy))).trans f_lines
  have h4 : f1 (ya 17) = .inl (E.2.2 1, 45, .inl (fun _ => 0)) := ((congrFun ef1 (ya 17)).trans (va_up_ne _ _ (g_neAO f_has fy))).trans f_has
  refine g_Vi C hl.1 hA hH (As := [.long (p0).toInt64]) (rest := []) (m_isMember l E L f1 my h2 m_lines h3 m_has h4 (p0).toInt64) my_X10_isMember wd262 my h2 rfl rfl rfl (Nat.le_of_ble_eq_true rfl) ⟨Nat.le_of_ble_eq_true rfl, Nat.le_of_ble_eq_true rfl⟩ ⟨Nat.le_of_ble_eq_true rfl, Nat.le_of_ble_eq_true rfl⟩ dX10_near_8 (fun r7 L6 f5 H locs hp hH => ?_)
  obtain ⟨er7, rfl, rfl⟩ := hp
  subst er7
  refine lv_if_ne (tgt := 17) hx hb dX10_near_11 (by decide) (fun h => absurd (by decide) h) (fun _ => ?_)
  refine lv_bipush (v := (-2 : Int32)) hx hb dX10_near_14 (by decide) ?_
  refine g_iret C hr hH (Nat.le_of_ble_eq_true rfl) (Nat.le_of_ble_eq_true rfl) dX10_near_16 ?_
  exact rfl
set_option maxHeartbeats 4000000 in
set_option maxRecDepth 100000 in
theorem m_lone (l : Launch) (E : gE) (L : List Nat) (f : gF) {y : Nat} {ya : Nat → Nat} (my : y ∈ L) (fy : f y = .inr (10, [.int (0 : Int32), .ref (ya 1), .ref (ya 2), .ref (ya 3), .ref (ya 4), .ref (ya 5), .int (0 : Int32), .int (0 : Int32), .int (0 : Int32), .int (0 : Int32), .int (0 : Int32), .long (0 : Int64), .int (0 : Int32), .int (0 : Int32), .int (0 : Int32), .int (-1 : Int32), .ref (ya 16), .ref (ya 17), .ref (ya 18), .ref (ya 19), .ref (ya 20), .ref (ya 21), .int (0 : Int32), .int (0 : Int32), .int (0 : Int32), .ref (ya 25), .ref (ya 26), .ref (ya 27), .ref (ya 28), .ref (ya 29), .ref (ya 30), .ref (ya 31), .ref (ya 32), .ref (ya 33), .ref (ya 34), .ref (ya 35), .int (0 : Int32), .int (0 : Int32), .ref (ya 38), .int (0 : Int32), .int (0 : Int32), .ref (ya 41), .ref (ya 42), .int (0 : Int32), .int (0 : Int32), .int (0 : Int32), .int (0 : Int32), .int (0 : Int32)])) (m_lines : (ya 16) ∈ L) (f_lines : f (ya 16) = .inl (E.2.2 1, 5, .inl (fun _ => 0))) (m_has : (ya 17) ∈ L) (f_has : f (ya 17) = .inl (E.2.2 1, 45, .inl (fun _ => 0))) : gMi l E yX10_lone cX10_lone 3 .int (gRm 6 0 0) [.ref y] L f (fun r _ _ => r = (-2 : Int32)) := by
  refine gMi.intro (by decide) (Nat.le_of_ble_eq_true rfl) ?_
  intro p e s m below meth c A ls C hr hA hH hl
  have C : gC E cX10_lone 3 RX10 p s m _ meth c := C
  have hl : lv_has ls 3 [(0, .ref y)] := hl
  have hx := C.1
  have hb := C.2.1
  refine lv_aload_n hx hb dX10_lone_0 rfl (lv_at hl 0 rfl) ?_
  refine lv_iconst (v := (0 : Int32)) hx hb dX10_lone_1 (by decide) ?_
  refine g_put C hH my fy iX10 tyX10 tyX10_ok nmX10 rfl 0 (by decide) wd270 rfl rfl rfl rfl (Nat.le_of_ble_eq_true rfl) (fs' := [.int (0 : Int32), .ref (ya 1), .ref (ya 2), .ref (ya 3), .ref (ya 4), .ref (ya 5), .int (0 : Int32), .int (0 : Int32), .int (0 : Int32), .int (0 : Int32), .int (0 : Int32), .long (0 : Int64), .int (0 : Int32), .int (0 : Int32), .int (0 : Int32), .int (-1 : Int32), .ref (ya 16), .ref (ya 17), .ref (ya 18), .ref (ya 19), .ref (ya 20), .ref (ya 21), .int (0 : Int32), .int (0 : Int32), .int (0 : Int32), .ref (ya 25), .ref (ya 26), .ref (ya 27), .ref (ya 28), .ref (ya 29), .ref (ya 30), .ref (ya 31), .ref (ya 32), .ref (ya 33), .ref (ya 34), .ref (ya 35), .int (0 : Int32), .int (0 : Int32), .ref (ya 38), .int (0 : Int32), .int (0 : Int32), .ref (ya 41), .ref (ya 42), .int (0 : Int32), .int (0 : Int32), .int (0 : Int32), .int (0 : Int32), .int (0 : Int32)]) rfl dX10_lone_2 (fun H locs hH => ?_)
  obtain ⟨f1, ef1⟩ : ∃ z : gF, z = va_up f y (.inr (10, [.int (0 : Int32), .ref (ya 1), .ref (ya 2), .ref (ya 3), .ref (ya 4), .ref (ya 5), .int (0 : Int32), .int (0 : Int32), .int (0 : Int32), .int (0 : Int32), .int (0 : Int32), .long (0 : Int64), .int (0 : Int32), .int (0 : Int32), .int (0 : Int32), .int (-1 : Int32), .ref (ya 16), .ref (ya 17), .ref (ya 18), .ref (ya 19), .ref (ya 20), .ref (ya 21), .int (0 : Int32), .int (0 : Int32), .int (0 : Int32), .ref (ya 25), .ref (ya 26), .ref (ya 27), .ref (ya 28), .ref (ya 29), .ref (ya 30), .ref (ya 31), .ref (ya 32), .ref (ya 33), .ref (ya 34), .ref (ya 35), .int (0 : Int32), .int (0 : Int32), .ref (ya 38), .int (0 : Int32), .int (0 : Int32), .ref (ya 41), .ref (ya 42), .int (0 : Int32), .int (0 : Int32), .int (0 : Int32), .int (0 : Int32), .int (0 : Int32)])) := ⟨_, rfl⟩
  have hH : gH E A L f1 s.heap H locs := by rw [ef1]; exact hH
  have h2 : f1 y = .inr (10, [.int (0 : Int32), .ref (ya 1), .ref (ya 2), .ref (ya 3), .ref (ya 4), .ref (ya 5), .int (0 : Int32), .int (0 : Int32), .int (0 : Int32), .int (0 : Int32), .int (0 : Int32), .long (0 : Int64), .int (0 : Int32), .int (0 : Int32), .int (0 : Int32), .int (-1 : Int32), .ref (ya 16), .ref (ya 17), .ref (ya 18), .ref (ya 19), .ref (ya 20), .ref (ya 21), .int (0 : Int32), .int (0 : Int32), .int (0 : Int32), .ref (ya 25), .ref (ya 26), .ref (ya 27), .ref (ya 28), .ref (ya 29), .ref (ya 30), .ref (ya 31), .ref (ya 32), .ref (ya 33), .ref (ya 34), .ref (ya 35), .int (0 : Int32), .int (0 : Int32), .ref (ya 38), .int (0 : Int32), .int (0 : Int32), .ref (ya 41), .ref (ya 42), .int (0 : Int32), .int (0 : Int32), .int (0 : Int32), .int (0 : Int32), .int (0 : Int32)]) := (congrFun ef1 y).trans (va_up_self _ _ _)
  refine lv_aload_n hx hb dX10_lone_5 rfl (lv_at hl 0 rfl) ?_
  have h3 : f1 (ya 16) = .inl (E.2.2 1, 5, .inl (fun _ => 0)) := ((congrFun ef1 (ya 16)).trans (va_up_ne _ _ (g_neAO f_lines fy))).trans f_lines
  have h4 : f1 (ya 17) = .inl (E.2.2 1, 45, .inl (fun _ => 0)) := ((congrFun ef1 (ya 17)).trans (va_up_ne _ _ (g_neAO f_has fy))).trans f_has
  refine g_Vi C hl.1 hA hH (As := []) (rest := []) (m_isLand l E L f1 my h2 m_lines h3 m_has h4) my_X10_isLand wd266 my h2 rfl rfl rfl (Nat.le_of_ble_eq_true rfl) ⟨Nat.le_of_ble_eq_true rfl, Nat.le_of_ble_eq_true rfl⟩ ⟨Nat.le_of_ble_eq_true rfl, Nat.le_of_ble_eq_true rfl⟩ dX10_lone_6 (fun r7 L6 f5 H locs hp hH => ?_)
  obtain ⟨er7, rfl, rfl⟩ := hp
  subst er7
  refine lv_if_ne (tgt := 15) hx hb dX10_lone_9 (by decide) (fun h => absurd (by decide) h) (fun _ => ?_)
  refine lv_bipush (v := (-2 : Int32)) hx hb dX10_lone_12 (by decide) ?_
  refine g_iret C hr hH (Nat.le_of_ble_eq_true rfl) (Nat.le_of_ble_eq_true rfl) dX10_lone_14 ?_
  exact rfl
set_option maxHeartbeats 4000000 in
set_option maxRecDepth 100000 in
theorem m_meets (l : Launch) (E : gE) (L : List Nat) (f : gF) {y : Nat} {ya : Nat → Nat} (my : y ∈ L) (fy : f y = .inr (10, [.int (0 : Int32), .ref (ya 1), .ref (ya 2), .ref (ya 3), .ref (ya 4), .ref (ya 5), .int (0 : Int32), .int (0 : Int32), .int (0 : Int32), .int (0 : Int32), .int (0 : Int32), .long (0 : Int64), .int (0 : Int32), .int (0 : Int32), .int (0 : Int32), .int (-1 : Int32), .ref (ya 16), .ref (ya 17), .ref (ya 18), .ref (ya 19), .ref (ya 20), .ref (ya 21), .int (0 : Int32), .int (0 : Int32), .int (0 : Int32), .ref (ya 25), .ref (ya 26), .ref (ya 27), .ref (ya 28), .ref (ya 29), .ref (ya 30), .ref (ya 31), .ref (ya 32), .ref (ya 33), .ref (ya 34), .ref (ya 35), .int (0 : Int32), .int (0 : Int32), .ref (ya 38), .int (0 : Int32), .int (0 : Int32), .ref (ya 41), .ref (ya 42), .int (0 : Int32), .int (0 : Int32), .int (0 : Int32), .int (0 : Int32), .int (0 : Int32)])) (m_lines : (ya 16) ∈ L) (f_lines : f (ya 16) = .inl (E.2.2 1, 5, .inl (fun _ => 0))) (m_has : (ya 17) ∈ L) (f_has : f (ya 17) = .inl (E.2.2 1, 45, .inl (fun _ => 0))) (p0 p1 : Int32) : gMi l E yX10_meets cX10_meets 4 .int (gRm 6 0 0) [.ref y, .int p0, .int p1] L f (fun r _ _ => r = (-2 : Int32)) := by
  refine gMi.intro (by decide) (Nat.le_of_ble_eq_true rfl) ?_
  intro p e s m below meth c A ls C hr hA hH hl
  have C : gC E cX10_meets 4 RX10 p s m _ meth c := C
  have hl : lv_has ls 4 [(0, .ref y), (1, .int p0), (2, .int p1)] := hl
  have hx := C.1
  have hb := C.2.1
  refine lv_aload_n hx hb dX10_meets_0 rfl (lv_at hl 0 rfl) ?_
  refine lv_iconst (v := (0 : Int32)) hx hb dX10_meets_1 (by decide) ?_
  refine g_put C hH my fy iX10 tyX10 tyX10_ok nmX10 rfl 0 (by decide) wd270 rfl rfl rfl rfl (Nat.le_of_ble_eq_true rfl) (fs' := [.int (0 : Int32), .ref (ya 1), .ref (ya 2), .ref (ya 3), .ref (ya 4), .ref (ya 5), .int (0 : Int32), .int (0 : Int32), .int (0 : Int32), .int (0 : Int32), .int (0 : Int32), .long (0 : Int64), .int (0 : Int32), .int (0 : Int32), .int (0 : Int32), .int (-1 : Int32), .ref (ya 16), .ref (ya 17), .ref (ya 18), .ref (ya 19), .ref (ya 20), .ref (ya 21), .int (0 : Int32), .int (0 : Int32), .int (0 : Int32), .ref (ya 25), .ref (ya 26), .ref (ya 27), .ref (ya 28), .ref (ya 29), .ref (ya 30), .ref (ya 31), .ref (ya 32), .ref (ya 33), .ref (ya 34), .ref (ya 35), .int (0 : Int32), .int (0 : Int32), .ref (ya 38), .int (0 : Int32), .int (0 : Int32), .ref (ya 41), .ref (ya 42), .int (0 : Int32), .int (0 : Int32), .int (0 : Int32), .int (0 : Int32), .int (0 : Int32)]) rfl dX10_meets_2 (fun H locs hH => ?_)
  obtain ⟨f1, ef1⟩ : ∃ z : gF, z = va_up f y (.inr (10, [.int (0 : Int32), .ref (ya 1), .ref (ya 2), .ref (ya 3), .ref (ya 4), .ref (ya 5), .int (0 : Int32), .int (0 : Int32), .int (0 : Int32), .int (0 : Int32), .int (0 : Int32), .long (0 : Int64), .int (0 : Int32), .int (0 : Int32), .int (0 : Int32), .int (-1 : Int32), .ref (ya 16), .ref (ya 17), .ref (ya 18), .ref (ya 19), .ref (ya 20), .ref (ya 21), .int (0 : Int32), .int (0 : Int32), .int (0 : Int32), .ref (ya 25), .ref (ya 26), .ref (ya 27), .ref (ya 28), .ref (ya 29), .ref (ya 30), .ref (ya 31), .ref (ya 32), .ref (ya 33), .ref (ya 34), .ref (ya 35), .int (0 : Int32), .int (0 : Int32), .ref (ya 38), .int (0 : Int32), .int (0 : Int32), .ref (ya 41), .ref (ya 42), .int (0 : Int32), .int (0 : Int32), .int (0 : Int32), .int (0 : Int32), .int (0 : Int32)])) := ⟨_, rfl⟩
  have hH : gH E A L f1 s.heap H locs := by rw [ef1]; exact hH
  have h2 : f1 y = .inr (10, [.int (0 : Int32), .ref (ya 1), .ref (ya 2), .ref (ya 3), .ref (ya 4), .ref (ya 5), .int (0 : Int32), .int (0 : Int32), .int (0 : Int32), .int (0 : Int32), .int (0 : Int32), .long (0 : Int64), .int (0 : Int32), .int (0 : Int32), .int (0 : Int32), .int (-1 : Int32), .ref (ya 16), .ref (ya 17), .ref (ya 18), .ref (ya 19), .ref (ya 20), .ref (ya 21), .int (0 : Int32), .int (0 : Int32), .int (0 : Int32), .ref (ya 25), .ref (ya 26), .ref (ya 27), .ref (ya 28), .ref (ya 29), .ref (ya 30), .ref (ya 31), .ref (ya 32), .ref (ya 33), .ref (ya 34), .ref (ya 35), .int (0 : Int32), .int (0 : Int32), .ref (ya 38), .int (0 : Int32), .int (0 : Int32), .ref (ya 41), .ref (ya 42), .int (0 : Int32), .int (0 : Int32), .int (0 : Int32), .int (0 : Int32), .int (0 : Int32)]) := (congrFun ef1 y).trans (va_up_self _ _ _)
  refine lv_aload_n hx hb dX10_meets_5 rfl (lv_at hl 0 rfl) ?_
  refine lv_iload_n hx hb dX10_meets_6 rfl (lv_at hl 1 rfl) ?_
  refine lv_i2l (v := (p0).toInt64) hx hb dX10_meets_7 rfl ?_
  have h3 : f1 (ya 16) = .inl (E.2.2 1, 5, .inl (fun _ => 0)) := ((congrFun ef1 (ya 16)).trans (va_up_ne _ _ (g_neAO f_lines fy))).trans f_lines
  have h4 : f1 (ya 17) = .inl (E.2.2 1, 45, .inl (fun _ => 0)) := ((congrFun ef1 (ya 17)).trans (va_up_ne _ _ (g_neAO f_has fy))).trans f_has
  refine g_Vi C hl.1 hA hH (As := [.long (p0).toInt64]) (rest := []) (m_isFlight l E L f1 my h2 m_lines h3 m_has h4 (p0).toInt64) my_X10_isFlight wd274 my h2 rfl rfl rfl (Nat.le_of_ble_eq_true rfl) ⟨Nat.le_of_ble_eq_true rfl, Nat.le_of_ble_eq_true rfl⟩ ⟨Nat.le_of_ble_eq_true rfl, Nat.le_of_ble_eq_true rfl⟩ dX10_meets_8 (fun r7 L6 f5 H locs hp hH => ?_)
  obtain ⟨er7, rfl, rfl⟩ := hp
  subst er7
  refine lv_if_eq (tgt := 23) hx hb dX10_meets_11 (by decide) (fun _ => ?_) (fun h => absurd (by decide) h)
  refine lv_bipush (v := (-2 : Int32)) hx hb dX10_meets_23 (by decide) ?_
  refine g_iret C hr hH (Nat.le_of_ble_eq_true rfl) (Nat.le_of_ble_eq_true rfl) dX10_meets_25 ?_
  exact rfl
set_option maxHeartbeats 4000000 in
set_option maxRecDepth 100000 in
theorem m_spare (l : Launch) (E : gE) (L : List Nat) (f : gF) {y : Nat} {ya : Nat → Nat} (my : y ∈ L) (fy : f y = .inr (10, [.int (0 : Int32), .ref (ya 1), .ref (ya 2), .ref (ya 3), .ref (ya 4), .ref (ya 5), .int (0 : Int32), .int (0 : Int32), .int (0 : Int32), .int (0 : Int32), .int (0 : Int32), .long (0 : Int64), .int (0 : Int32), .int (0 : Int32), .int (0 : Int32), .int (-1 : Int32), .ref (ya 16), .ref (ya 17), .ref (ya 18), .ref (ya 19), .ref (ya 20), .ref (ya 21), .int (0 : Int32), .int (0 : Int32), .int (0 : Int32), .ref (ya 25), .ref (ya 26), .ref (ya 27), .ref (ya 28), .ref (ya 29), .ref (ya 30), .ref (ya 31), .ref (ya 32), .ref (ya 33), .ref (ya 34), .ref (ya 35), .int (0 : Int32), .int (0 : Int32), .ref (ya 38), .int (0 : Int32), .int (0 : Int32), .ref (ya 41), .ref (ya 42), .int (0 : Int32), .int (0 : Int32), .int (0 : Int32), .int (0 : Int32), .int (0 : Int32)])) (m_lines : (ya 16) ∈ L) (f_lines : f (ya 16) = .inl (E.2.2 1, 5, .inl (fun _ => 0))) (m_has : (ya 17) ∈ L) (f_has : f (ya 17) = .inl (E.2.2 1, 45, .inl (fun _ => 0))) : gMi l E yX10_spare cX10_spare 3 .int (gRm 6 0 0) [.ref y] L f (fun r _ _ => r = (-2 : Int32)) := by
  refine gMi.intro (by decide) (Nat.le_of_ble_eq_true rfl) ?_
  intro p e s m below meth c A ls C hr hA hH hl
  have C : gC E cX10_spare 3 RX10 p s m _ meth c := C
  have hl : lv_has ls 3 [(0, .ref y)] := hl
  have hx := C.1
  have hb := C.2.1
  refine lv_aload_n hx hb dX10_spare_0 rfl (lv_at hl 0 rfl) ?_
  refine lv_iconst (v := (0 : Int32)) hx hb dX10_spare_1 (by decide) ?_
  refine g_put C hH my fy iX10 tyX10 tyX10_ok nmX10 rfl 0 (by decide) wd270 rfl rfl rfl rfl (Nat.le_of_ble_eq_true rfl) (fs' := [.int (0 : Int32), .ref (ya 1), .ref (ya 2), .ref (ya 3), .ref (ya 4), .ref (ya 5), .int (0 : Int32), .int (0 : Int32), .int (0 : Int32), .int (0 : Int32), .int (0 : Int32), .long (0 : Int64), .int (0 : Int32), .int (0 : Int32), .int (0 : Int32), .int (-1 : Int32), .ref (ya 16), .ref (ya 17), .ref (ya 18), .ref (ya 19), .ref (ya 20), .ref (ya 21), .int (0 : Int32), .int (0 : Int32), .int (0 : Int32), .ref (ya 25), .ref (ya 26), .ref (ya 27), .ref (ya 28), .ref (ya 29), .ref (ya 30), .ref (ya 31), .ref (ya 32), .ref (ya 33), .ref (ya 34), .ref (ya 35), .int (0 : Int32), .int (0 : Int32), .ref (ya 38), .int (0 : Int32), .int (0 : Int32), .ref (ya 41), .ref (ya 42), .int (0 : Int32), .int (0 : Int32), .int (0 : Int32), .int (0 : Int32), .int (0 : Int32)]) rfl dX10_spare_2 (fun H locs hH => ?_)
  obtain ⟨f1, ef1⟩ : ∃ z : gF, z = va_up f y (.inr (10, [.int (0 : Int32), .ref (ya 1), .ref (ya 2), .ref (ya 3), .ref (ya 4), .ref (ya 5), .int (0 : Int32), .int (0 : Int32), .int (0 : Int32), .int (0 : Int32), .int (0 : Int32), .long (0 : Int64), .int (0 : Int32), .int (0 : Int32), .int (0 : Int32), .int (-1 : Int32), .ref (ya 16), .ref (ya 17), .ref (ya 18), .ref (ya 19), .ref (ya 20), .ref (ya 21), .int (0 : Int32), .int (0 : Int32), .int (0 : Int32), .ref (ya 25), .ref (ya 26), .ref (ya 27), .ref (ya 28), .ref (ya 29), .ref (ya 30), .ref (ya 31), .ref (ya 32), .ref (ya 33), .ref (ya 34), .ref (ya 35), .int (0 : Int32), .int (0 : Int32), .ref (ya 38), .int (0 : Int32), .int (0 : Int32), .ref (ya 41), .ref (ya 42), .int (0 : Int32), .int (0 : Int32), .int (0 : Int32), .int (0 : Int32), .int (0 : Int32)])) := ⟨_, rfl⟩
  have hH : gH E A L f1 s.heap H locs := by rw [ef1]; exact hH
  have h2 : f1 y = .inr (10, [.int (0 : Int32), .ref (ya 1), .ref (ya 2), .ref (ya 3), .ref (ya 4), .ref (ya 5), .int (0 : Int32), .int (0 : Int32), .int (0 : Int32), .int (0 : Int32), .int (0 : Int32), .long (0 : Int64), .int (0 : Int32), .int (0 : Int32), .int (0 : Int32), .int (-1 : Int32), .ref (ya 16), .ref (ya 17), .ref (ya 18), .ref (ya 19), .ref (ya 20), .ref (ya 21), .int (0 : Int32), .int (0 : Int32), .int (0 : Int32), .ref (ya 25), .ref (ya 26), .ref (ya 27), .ref (ya 28), .ref (ya 29), .ref (ya 30), .ref (ya 31), .ref (ya 32), .ref (ya 33), .ref (ya 34), .ref (ya 35), .int (0 : Int32), .int (0 : Int32), .ref (ya 38), .int (0 : Int32), .int (0 : Int32), .ref (ya 41), .ref (ya 42), .int (0 : Int32), .int (0 : Int32), .int (0 : Int32), .int (0 : Int32), .int (0 : Int32)]) := (congrFun ef1 y).trans (va_up_self _ _ _)
  refine lv_aload_n hx hb dX10_spare_5 rfl (lv_at hl 0 rfl) ?_
  have h3 : f1 (ya 16) = .inl (E.2.2 1, 5, .inl (fun _ => 0)) := ((congrFun ef1 (ya 16)).trans (va_up_ne _ _ (g_neAO f_lines fy))).trans f_lines
  have h4 : f1 (ya 17) = .inl (E.2.2 1, 45, .inl (fun _ => 0)) := ((congrFun ef1 (ya 17)).trans (va_up_ne _ _ (g_neAO f_has fy))).trans f_has
  refine g_Vi C hl.1 hA hH (As := []) (rest := []) (m_isLand l E L f1 my h2 m_lines h3 m_has h4) my_X10_isLand wd266 my h2 rfl rfl rfl (Nat.le_of_ble_eq_true rfl) ⟨Nat.le_of_ble_eq_true rfl, Nat.le_of_ble_eq_true rfl⟩ ⟨Nat.le_of_ble_eq_true rfl, Nat.le_of_ble_eq_true rfl⟩ dX10_spare_6 (fun r7 L6 f5 H locs hp hH => ?_)
  obtain ⟨er7, rfl, rfl⟩ := hp
  subst er7
  refine lv_if_ne (tgt := 15) hx hb dX10_spare_9 (by decide) (fun h => absurd (by decide) h) (fun _ => ?_)
  refine lv_bipush (v := (-2 : Int32)) hx hb dX10_spare_12 (by decide) ?_
  refine g_iret C hr hH (Nat.le_of_ble_eq_true rfl) (Nat.le_of_ble_eq_true rfl) dX10_spare_14 ?_
  exact rfl
set_option maxHeartbeats 4000000 in
set_option maxRecDepth 100000 in
theorem m_calls (l : Launch) (E : gE) (L : List Nat) (f : gF) {y : Nat} {ya : Nat → Nat} (my : y ∈ L) (fy : f y = .inr (10, [.int (0 : Int32), .ref (ya 1), .ref (ya 2), .ref (ya 3), .ref (ya 4), .ref (ya 5), .int (0 : Int32), .int (0 : Int32), .int (0 : Int32), .int (0 : Int32), .int (0 : Int32), .long (0 : Int64), .int (0 : Int32), .int (0 : Int32), .int (0 : Int32), .int (-1 : Int32), .ref (ya 16), .ref (ya 17), .ref (ya 18), .ref (ya 19), .ref (ya 20), .ref (ya 21), .int (0 : Int32), .int (0 : Int32), .int (0 : Int32), .ref (ya 25), .ref (ya 26), .ref (ya 27), .ref (ya 28), .ref (ya 29), .ref (ya 30), .ref (ya 31), .ref (ya 32), .ref (ya 33), .ref (ya 34), .ref (ya 35), .int (0 : Int32), .int (0 : Int32), .ref (ya 38), .int (0 : Int32), .int (0 : Int32), .ref (ya 41), .ref (ya 42), .int (0 : Int32), .int (0 : Int32), .int (0 : Int32), .int (0 : Int32), .int (0 : Int32)])) (m_lines : (ya 16) ∈ L) (f_lines : f (ya 16) = .inl (E.2.2 1, 5, .inl (fun _ => 0))) (m_has : (ya 17) ∈ L) (f_has : f (ya 17) = .inl (E.2.2 1, 45, .inl (fun _ => 0))) (p0 : Int32) : gMi l E yX10_calls cX10_calls 4 .int (gRm 6 0 0) [.ref y, .int p0] L f (fun r _ _ => r = (-2 : Int32)) := by
  refine gMi.intro (by decide) (Nat.le_of_ble_eq_true rfl) ?_
  intro p e s m below meth c A ls C hr hA hH hl
  have C : gC E cX10_calls 4 RX10 p s m _ meth c := C
  have hl : lv_has ls 4 [(0, .ref y), (1, .int p0)] := hl
  have hx := C.1
  have hb := C.2.1
  refine lv_aload_n hx hb dX10_calls_0 rfl (lv_at hl 0 rfl) ?_
  refine lv_iconst (v := (0 : Int32)) hx hb dX10_calls_1 (by decide) ?_
  refine g_put C hH my fy iX10 tyX10 tyX10_ok nmX10 rfl 0 (by decide) wd270 rfl rfl rfl rfl (Nat.le_of_ble_eq_true rfl) (fs' := [.int (0 : Int32), .ref (ya 1), .ref (ya 2), .ref (ya 3), .ref (ya 4), .ref (ya 5), .int (0 : Int32), .int (0 : Int32), .int (0 : Int32), .int (0 : Int32), .int (0 : Int32), .long (0 : Int64), .int (0 : Int32), .int (0 : Int32), .int (0 : Int32), .int (-1 : Int32), .ref (ya 16), .ref (ya 17), .ref (ya 18), .ref (ya 19), .ref (ya 20), .ref (ya 21), .int (0 : Int32), .int (0 : Int32), .int (0 : Int32), .ref (ya 25), .ref (ya 26), .ref (ya 27), .ref (ya 28), .ref (ya 29), .ref (ya 30), .ref (ya 31), .ref (ya 32), .ref (ya 33), .ref (ya 34), .ref (ya 35), .int (0 : Int32), .int (0 : Int32), .ref (ya 38), .int (0 : Int32), .int (0 : Int32), .ref (ya 41), .ref (ya 42), .int (0 : Int32), .int (0 : Int32), .int (0 : Int32), .int (0 : Int32), .int (0 : Int32)]) rfl dX10_calls_2 (fun H locs hH => ?_)
  obtain ⟨f1, ef1⟩ : ∃ z : gF, z = va_up f y (.inr (10, [.int (0 : Int32), .ref (ya 1), .ref (ya 2), .ref (ya 3), .ref (ya 4), .ref (ya 5), .int (0 : Int32), .int (0 : Int32), .int (0 : Int32), .int (0 : Int32), .int (0 : Int32), .long (0 : Int64), .int (0 : Int32), .int (0 : Int32), .int (0 : Int32), .int (-1 : Int32), .ref (ya 16), .ref (ya 17), .ref (ya 18), .ref (ya 19), .ref (ya 20), .ref (ya 21), .int (0 : Int32), .int (0 : Int32), .int (0 : Int32), .ref (ya 25), .ref (ya 26), .ref (ya 27), .ref (ya 28), .ref (ya 29), .ref (ya 30), .ref (ya 31), .ref (ya 32), .ref (ya 33), .ref (ya 34), .ref (ya 35), .int (0 : Int32), .int (0 : Int32), .ref (ya 38), .int (0 : Int32), .int (0 : Int32), .ref (ya 41), .ref (ya 42), .int (0 : Int32), .int (0 : Int32), .int (0 : Int32), .int (0 : Int32), .int (0 : Int32)])) := ⟨_, rfl⟩
  have hH : gH E A L f1 s.heap H locs := by rw [ef1]; exact hH
  have h2 : f1 y = .inr (10, [.int (0 : Int32), .ref (ya 1), .ref (ya 2), .ref (ya 3), .ref (ya 4), .ref (ya 5), .int (0 : Int32), .int (0 : Int32), .int (0 : Int32), .int (0 : Int32), .int (0 : Int32), .long (0 : Int64), .int (0 : Int32), .int (0 : Int32), .int (0 : Int32), .int (-1 : Int32), .ref (ya 16), .ref (ya 17), .ref (ya 18), .ref (ya 19), .ref (ya 20), .ref (ya 21), .int (0 : Int32), .int (0 : Int32), .int (0 : Int32), .ref (ya 25), .ref (ya 26), .ref (ya 27), .ref (ya 28), .ref (ya 29), .ref (ya 30), .ref (ya 31), .ref (ya 32), .ref (ya 33), .ref (ya 34), .ref (ya 35), .int (0 : Int32), .int (0 : Int32), .ref (ya 38), .int (0 : Int32), .int (0 : Int32), .ref (ya 41), .ref (ya 42), .int (0 : Int32), .int (0 : Int32), .int (0 : Int32), .int (0 : Int32), .int (0 : Int32)]) := (congrFun ef1 y).trans (va_up_self _ _ _)
  refine lv_aload_n hx hb dX10_calls_5 rfl (lv_at hl 0 rfl) ?_
  have h3 : f1 (ya 16) = .inl (E.2.2 1, 5, .inl (fun _ => 0)) := ((congrFun ef1 (ya 16)).trans (va_up_ne _ _ (g_neAO f_lines fy))).trans f_lines
  have h4 : f1 (ya 17) = .inl (E.2.2 1, 45, .inl (fun _ => 0)) := ((congrFun ef1 (ya 17)).trans (va_up_ne _ _ (g_neAO f_has fy))).trans f_has
  refine g_Vi C hl.1 hA hH (As := []) (rest := []) (m_isLand l E L f1 my h2 m_lines h3 m_has h4) my_X10_isLand wd266 my h2 rfl rfl rfl (Nat.le_of_ble_eq_true rfl) ⟨Nat.le_of_ble_eq_true rfl, Nat.le_of_ble_eq_true rfl⟩ ⟨Nat.le_of_ble_eq_true rfl, Nat.le_of_ble_eq_true rfl⟩ dX10_calls_6 (fun r7 L6 f5 H locs hp hH => ?_)
  obtain ⟨er7, rfl, rfl⟩ := hp
  subst er7
  refine lv_if_eq (tgt := 19) hx hb dX10_calls_9 (by decide) (fun _ => ?_) (fun h => absurd (by decide) h)
  refine lv_bipush (v := (-2 : Int32)) hx hb dX10_calls_19 (by decide) ?_
  refine g_iret C hr hH (Nat.le_of_ble_eq_true rfl) (Nat.le_of_ble_eq_true rfl) dX10_calls_21 ?_
  exact rfl
set_option maxHeartbeats 4000000 in
set_option maxRecDepth 100000 in
theorem m_farthest (l : Launch) (E : gE) (L : List Nat) (f : gF) {y : Nat} {ya : Nat → Nat} (my : y ∈ L) (fy : f y = .inr (10, [.int (0 : Int32), .ref (ya 1), .ref (ya 2), .ref (ya 3), .ref (ya 4), .ref (ya 5), .int (0 : Int32), .int (0 : Int32), .int (0 : Int32), .int (0 : Int32), .int (0 : Int32), .long (0 : Int64), .int (0 : Int32), .int (0 : Int32), .int (0 : Int32), .int (-1 : Int32), .ref (ya 16), .ref (ya 17), .ref (ya 18), .ref (ya 19), .ref (ya 20), .ref (ya 21), .int (0 : Int32), .int (0 : Int32), .int (0 : Int32), .ref (ya 25), .ref (ya 26), .ref (ya 27), .ref (ya 28), .ref (ya 29), .ref (ya 30), .ref (ya 31), .ref (ya 32), .ref (ya 33), .ref (ya 34), .ref (ya 35), .int (0 : Int32), .int (0 : Int32), .ref (ya 38), .int (0 : Int32), .int (0 : Int32), .ref (ya 41), .ref (ya 42), .int (0 : Int32), .int (0 : Int32), .int (0 : Int32), .int (0 : Int32), .int (0 : Int32)])) (m_lines : (ya 16) ∈ L) (f_lines : f (ya 16) = .inl (E.2.2 1, 5, .inl (fun _ => 0))) (m_has : (ya 17) ∈ L) (f_has : f (ya 17) = .inl (E.2.2 1, 45, .inl (fun _ => 0))) (p0 : Int32) : gMi l E yX10_farthest cX10_farthest 4 .int (gRm 6 0 0) [.ref y, .int p0] L f (fun r _ _ => r = (-2 : Int32)) := by
  refine gMi.intro (by decide) (Nat.le_of_ble_eq_true rfl) ?_
  intro p e s m below meth c A ls C hr hA hH hl
  have C : gC E cX10_farthest 4 RX10 p s m _ meth c := C
  have hl : lv_has ls 4 [(0, .ref y), (1, .int p0)] := hl
  have hx := C.1
  have hb := C.2.1
  refine lv_aload_n hx hb dX10_farthest_0 rfl (lv_at hl 0 rfl) ?_
  refine lv_iconst (v := (0 : Int32)) hx hb dX10_farthest_1 (by decide) ?_
  refine g_put C hH my fy iX10 tyX10 tyX10_ok nmX10 rfl 0 (by decide) wd270 rfl rfl rfl rfl (Nat.le_of_ble_eq_true rfl) (fs' := [.int (0 : Int32), .ref (ya 1), .ref (ya 2), .ref (ya 3), .ref (ya 4), .ref (ya 5), .int (0 : Int32), .int (0 : Int32), .int (0 : Int32), .int (0 : Int32), .int (0 : Int32), .long (0 : Int64), .int (0 : Int32), .int (0 : Int32), .int (0 : Int32), .int (-1 : Int32), .ref (ya 16), .ref (ya 17), .ref (ya 18), .ref (ya 19), .ref (ya 20), .ref (ya 21), .int (0 : Int32), .int (0 : Int32), .int (0 : Int32), .ref (ya 25), .ref (ya 26), .ref (ya 27), .ref (ya 28), .ref (ya 29), .ref (ya 30), .ref (ya 31), .ref (ya 32), .ref (ya 33), .ref (ya 34), .ref (ya 35), .int (0 : Int32), .int (0 : Int32), .ref (ya 38), .int (0 : Int32), .int (0 : Int32), .ref (ya 41), .ref (ya 42), .int (0 : Int32), .int (0 : Int32), .int (0 : Int32), .int (0 : Int32), .int (0 : Int32)]) rfl dX10_farthest_2 (fun H locs hH => ?_)
  obtain ⟨f1, ef1⟩ : ∃ z : gF, z = va_up f y (.inr (10, [.int (0 : Int32), .ref (ya 1), .ref (ya 2), .ref (ya 3), .ref (ya 4), .ref (ya 5), .int (0 : Int32), .int (0 : Int32), .int (0 : Int32), .int (0 : Int32), .int (0 : Int32), .long (0 : Int64), .int (0 : Int32), .int (0 : Int32), .int (0 : Int32), .int (-1 : Int32), .ref (ya 16), .ref (ya 17), .ref (ya 18), .ref (ya 19), .ref (ya 20), .ref (ya 21), .int (0 : Int32), .int (0 : Int32), .int (0 : Int32), .ref (ya 25), .ref (ya 26), .ref (ya 27), .ref (ya 28), .ref (ya 29), .ref (ya 30), .ref (ya 31), .ref (ya 32), .ref (ya 33), .ref (ya 34), .ref (ya 35), .int (0 : Int32), .int (0 : Int32), .ref (ya 38), .int (0 : Int32), .int (0 : Int32), .ref (ya 41), .ref (ya 42), .int (0 : Int32), .int (0 : Int32), .int (0 : Int32), .int (0 : Int32), .int (0 : Int32)])) := ⟨_, rfl⟩
  have hH : gH E A L f1 s.heap H locs := by rw [ef1]; exact hH
  have h2 : f1 y = .inr (10, [.int (0 : Int32), .ref (ya 1), .ref (ya 2), .ref (ya 3), .ref (ya 4), .ref (ya 5), .int (0 : Int32), .int (0 : Int32), .int (0 : Int32), .int (0 : Int32), .int (0 : Int32), .long (0 : Int64), .int (0 : Int32), .int (0 : Int32), .int (0 : Int32), .int (-1 : Int32), .ref (ya 16), .ref (ya 17), .ref (ya 18), .ref (ya 19), .ref (ya 20), .ref (ya 21), .int (0 : Int32), .int (0 : Int32), .int (0 : Int32), .ref (ya 25), .ref (ya 26), .ref (ya 27), .ref (ya 28), .ref (ya 29), .ref (ya 30), .ref (ya 31), .ref (ya 32), .ref (ya 33), .ref (ya 34), .ref (ya 35), .int (0 : Int32), .int (0 : Int32), .ref (ya 38), .int (0 : Int32), .int (0 : Int32), .ref (ya 41), .ref (ya 42), .int (0 : Int32), .int (0 : Int32), .int (0 : Int32), .int (0 : Int32), .int (0 : Int32)]) := (congrFun ef1 y).trans (va_up_self _ _ _)
  refine lv_aload_n hx hb dX10_farthest_5 rfl (lv_at hl 0 rfl) ?_
  refine lv_iload_n hx hb dX10_farthest_6 rfl (lv_at hl 1 rfl) ?_
  refine lv_i2l (v := (p0).toInt64) hx hb dX10_farthest_7 rfl ?_
  have h3 : f1 (ya 16) = .inl (E.2.2 1, 5, .inl (fun _ => 0)) := ((congrFun ef1 (ya 16)).trans (va_up_ne _ _ (g_neAO f_lines fy))).trans f_lines
  have h4 : f1 (ya 17) = .inl (E.2.2 1, 45, .inl (fun _ => 0)) := ((congrFun ef1 (ya 17)).trans (va_up_ne _ _ (g_neAO f_has fy))).trans f_has
  refine g_Vi C hl.1 hA hH (As := [.long (p0).toInt64]) (rest := []) (m_isFlight l E L f1 my h2 m_lines h3 m_has h4 (p0).toInt64) my_X10_isFlight wd274 my h2 rfl rfl rfl (Nat.le_of_ble_eq_true rfl) ⟨Nat.le_of_ble_eq_true rfl, Nat.le_of_ble_eq_true rfl⟩ ⟨Nat.le_of_ble_eq_true rfl, Nat.le_of_ble_eq_true rfl⟩ dX10_farthest_8 (fun r7 L6 f5 H locs hp hH => ?_)
  obtain ⟨er7, rfl, rfl⟩ := hp
  subst er7
  refine lv_if_ne (tgt := 17) hx hb dX10_farthest_11 (by decide) (fun h => absurd (by decide) h) (fun _ => ?_)
  refine lv_bipush (v := (-2 : Int32)) hx hb dX10_farthest_14 (by decide) ?_
  refine g_iret C hr hH (Nat.le_of_ble_eq_true rfl) (Nat.le_of_ble_eq_true rfl) dX10_farthest_16 ?_
  exact rfl
set_option maxHeartbeats 4000000 in
set_option maxRecDepth 100000 in
theorem m_fewest (l : Launch) (E : gE) (L : List Nat) (f : gF) {y : Nat} {ya : Nat → Nat} (my : y ∈ L) (fy : f y = .inr (10, [.int (0 : Int32), .ref (ya 1), .ref (ya 2), .ref (ya 3), .ref (ya 4), .ref (ya 5), .int (0 : Int32), .int (0 : Int32), .int (0 : Int32), .int (0 : Int32), .int (0 : Int32), .long (0 : Int64), .int (0 : Int32), .int (0 : Int32), .int (0 : Int32), .int (-1 : Int32), .ref (ya 16), .ref (ya 17), .ref (ya 18), .ref (ya 19), .ref (ya 20), .ref (ya 21), .int (0 : Int32), .int (0 : Int32), .int (0 : Int32), .ref (ya 25), .ref (ya 26), .ref (ya 27), .ref (ya 28), .ref (ya 29), .ref (ya 30), .ref (ya 31), .ref (ya 32), .ref (ya 33), .ref (ya 34), .ref (ya 35), .int (0 : Int32), .int (0 : Int32), .ref (ya 38), .int (0 : Int32), .int (0 : Int32), .ref (ya 41), .ref (ya 42), .int (0 : Int32), .int (0 : Int32), .int (0 : Int32), .int (0 : Int32), .int (0 : Int32)])) (m_lines : (ya 16) ∈ L) (f_lines : f (ya 16) = .inl (E.2.2 1, 5, .inl (fun _ => 0))) (m_has : (ya 17) ∈ L) (f_has : f (ya 17) = .inl (E.2.2 1, 45, .inl (fun _ => 0))) (p0 : Int32) : gMi l E yX10_fewest cX10_fewest 2 .int (gRm 6 0 0) [.ref y, .int p0] L f (fun r _ _ => r = (-2 : Int32)) := by
  refine gMi.intro (by decide) (Nat.le_of_ble_eq_true rfl) ?_
  intro p e s m below meth c A ls C hr hA hH hl
  have C : gC E cX10_fewest 2 RX10 p s m _ meth c := C
  have hl : lv_has ls 2 [(0, .ref y), (1, .int p0)] := hl
  have hx := C.1
  have hb := C.2.1
  refine lv_aload_n hx hb dX10_fewest_0 rfl (lv_at hl 0 rfl) ?_
  refine lv_iconst (v := (0 : Int32)) hx hb dX10_fewest_1 (by decide) ?_
  refine g_put C hH my fy iX10 tyX10 tyX10_ok nmX10 rfl 0 (by decide) wd270 rfl rfl rfl rfl (Nat.le_of_ble_eq_true rfl) (fs' := [.int (0 : Int32), .ref (ya 1), .ref (ya 2), .ref (ya 3), .ref (ya 4), .ref (ya 5), .int (0 : Int32), .int (0 : Int32), .int (0 : Int32), .int (0 : Int32), .int (0 : Int32), .long (0 : Int64), .int (0 : Int32), .int (0 : Int32), .int (0 : Int32), .int (-1 : Int32), .ref (ya 16), .ref (ya 17), .ref (ya 18), .ref (ya 19), .ref (ya 20), .ref (ya 21), .int (0 : Int32), .int (0 : Int32), .int (0 : Int32), .ref (ya 25), .ref (ya 26), .ref (ya 27), .ref (ya 28), .ref (ya 29), .ref (ya 30), .ref (ya 31), .ref (ya 32), .ref (ya 33), .ref (ya 34), .ref (ya 35), .int (0 : Int32), .int (0 : Int32), .ref (ya 38), .int (0 : Int32), .int (0 : Int32), .ref (ya 41), .ref (ya 42), .int (0 : Int32), .int (0 : Int32), .int (0 : Int32), .int (0 : Int32), .int (0 : Int32)]) rfl dX10_fewest_2 (fun H locs hH => ?_)
  obtain ⟨f1, ef1⟩ : ∃ z : gF, z = va_up f y (.inr (10, [.int (0 : Int32), .ref (ya 1), .ref (ya 2), .ref (ya 3), .ref (ya 4), .ref (ya 5), .int (0 : Int32), .int (0 : Int32), .int (0 : Int32), .int (0 : Int32), .int (0 : Int32), .long (0 : Int64), .int (0 : Int32), .int (0 : Int32), .int (0 : Int32), .int (-1 : Int32), .ref (ya 16), .ref (ya 17), .ref (ya 18), .ref (ya 19), .ref (ya 20), .ref (ya 21), .int (0 : Int32), .int (0 : Int32), .int (0 : Int32), .ref (ya 25), .ref (ya 26), .ref (ya 27), .ref (ya 28), .ref (ya 29), .ref (ya 30), .ref (ya 31), .ref (ya 32), .ref (ya 33), .ref (ya 34), .ref (ya 35), .int (0 : Int32), .int (0 : Int32), .ref (ya 38), .int (0 : Int32), .int (0 : Int32), .ref (ya 41), .ref (ya 42), .int (0 : Int32), .int (0 : Int32), .int (0 : Int32), .int (0 : Int32), .int (0 : Int32)])) := ⟨_, rfl⟩
  have hH : gH E A L f1 s.heap H locs := by rw [ef1]; exact hH
  have h2 : f1 y = .inr (10, [.int (0 : Int32), .ref (ya 1), .ref (ya 2), .ref (ya 3), .ref (ya 4), .ref (ya 5), .int (0 : Int32), .int (0 : Int32), .int (0 : Int32), .int (0 : Int32), .int (0 : Int32), .long (0 : Int64), .int (0 : Int32), .int (0 : Int32), .int (0 : Int32), .int (-1 : Int32), .ref (ya 16), .ref (ya 17), .ref (ya 18), .ref (ya 19), .ref (ya 20), .ref (ya 21), .int (0 : Int32), .int (0 : Int32), .int (0 : Int32), .ref (ya 25), .ref (ya 26), .ref (ya 27), .ref (ya 28), .ref (ya 29), .ref (ya 30), .ref (ya 31), .ref (ya 32), .ref (ya 33), .ref (ya 34), .ref (ya 35), .int (0 : Int32), .int (0 : Int32), .ref (ya 38), .int (0 : Int32), .int (0 : Int32), .ref (ya 41), .ref (ya 42), .int (0 : Int32), .int (0 : Int32), .int (0 : Int32), .int (0 : Int32), .int (0 : Int32)]) := (congrFun ef1 y).trans (va_up_self _ _ _)
  refine lv_aload_n hx hb dX10_fewest_5 rfl (lv_at hl 0 rfl) ?_
  refine lv_iload_n hx hb dX10_fewest_6 rfl (lv_at hl 1 rfl) ?_
  have h3 : f1 (ya 16) = .inl (E.2.2 1, 5, .inl (fun _ => 0)) := ((congrFun ef1 (ya 16)).trans (va_up_ne _ _ (g_neAO f_lines fy))).trans f_lines
  have h4 : f1 (ya 17) = .inl (E.2.2 1, 45, .inl (fun _ => 0)) := ((congrFun ef1 (ya 17)).trans (va_up_ne _ _ (g_neAO f_has fy))).trans f_has
  refine g_Vi C hl.1 hA hH (As := [.int p0]) (rest := []) (m_isSet l E L f1 my h2 m_lines h3 m_has h4 p0) my_X10_isSet wd282 my h2 rfl rfl rfl (Nat.le_of_ble_eq_true rfl) ⟨Nat.le_of_ble_eq_true rfl, Nat.le_of_ble_eq_true rfl⟩ ⟨Nat.le_of_ble_eq_true rfl, Nat.le_of_ble_eq_true rfl⟩ dX10_fewest_7 (fun r7 L6 f5 H locs hp hH => ?_)
  obtain ⟨er7, rfl, rfl⟩ := hp
  subst er7
  refine lv_if_ne (tgt := 16) hx hb dX10_fewest_10 (by decide) (fun h => absurd (by decide) h) (fun _ => ?_)
  refine lv_bipush (v := (-2 : Int32)) hx hb dX10_fewest_13 (by decide) ?_
  refine g_iret C hr hH (Nat.le_of_ble_eq_true rfl) (Nat.le_of_ble_eq_true rfl) dX10_fewest_15 ?_
  exact rfl
set_option maxHeartbeats 4000000 in
set_option maxRecDepth 100000 in
theorem m_lights (l : Launch) (E : gE) (L : List Nat) (f : gF) {y : Nat} {ya : Nat → Nat} (my : y ∈ L) (fy : f y = .inr (10, [.int (0 : Int32), .ref (ya 1), .ref (ya 2), .ref (ya 3), .ref (ya 4), .ref (ya 5), .int (0 : Int32), .int (0 : Int32), .int (0 : Int32), .int (0 : Int32), .int (0 : Int32), .long (0 : Int64), .int (0 : Int32), .int (0 : Int32), .int (0 : Int32), .int (-1 : Int32), .ref (ya 16), .ref (ya 17), .ref (ya 18), .ref (ya 19), .ref (ya 20), .ref (ya 21), .int (0 : Int32), .int (0 : Int32), .int (0 : Int32), .ref (ya 25), .ref (ya 26), .ref (ya 27), .ref (ya 28), .ref (ya 29), .ref (ya 30), .ref (ya 31), .ref (ya 32), .ref (ya 33), .ref (ya 34), .ref (ya 35), .int (0 : Int32), .int (0 : Int32), .ref (ya 38), .int (0 : Int32), .int (0 : Int32), .ref (ya 41), .ref (ya 42), .int (0 : Int32), .int (0 : Int32), .int (0 : Int32), .int (0 : Int32), .int (0 : Int32)])) (m_lines : (ya 16) ∈ L) (f_lines : f (ya 16) = .inl (E.2.2 1, 5, .inl (fun _ => 0))) (m_has : (ya 17) ∈ L) (f_has : f (ya 17) = .inl (E.2.2 1, 45, .inl (fun _ => 0))) (p0 : Int32) : gMi l E yX10_lights cX10_lights 2 .int (gRm 6 0 0) [.ref y, .int p0] L f (fun r _ _ => r = (-2 : Int32)) := by
  refine gMi.intro (by decide) (Nat.le_of_ble_eq_true rfl) ?_
  intro p e s m below meth c A ls C hr hA hH hl
  have C : gC E cX10_lights 2 RX10 p s m _ meth c := C
  have hl : lv_has ls 2 [(0, .ref y), (1, .int p0)] := hl
  have hx := C.1
  have hb := C.2.1
  refine lv_aload_n hx hb dX10_lights_0 rfl (lv_at hl 0 rfl) ?_
  refine lv_iconst (v := (0 : Int32)) hx hb dX10_lights_1 (by decide) ?_
  refine g_put C hH my fy iX10 tyX10 tyX10_ok nmX10 rfl 0 (by decide) wd270 rfl rfl rfl rfl (Nat.le_of_ble_eq_true rfl) (fs' := [.int (0 : Int32), .ref (ya 1), .ref (ya 2), .ref (ya 3), .ref (ya 4), .ref (ya 5), .int (0 : Int32), .int (0 : Int32), .int (0 : Int32), .int (0 : Int32), .int (0 : Int32), .long (0 : Int64), .int (0 : Int32), .int (0 : Int32), .int (0 : Int32), .int (-1 : Int32), .ref (ya 16), .ref (ya 17), .ref (ya 18), .ref (ya 19), .ref (ya 20), .ref (ya 21), .int (0 : Int32), .int (0 : Int32), .int (0 : Int32), .ref (ya 25), .ref (ya 26), .ref (ya 27), .ref (ya 28), .ref (ya 29), .ref (ya 30), .ref (ya 31), .ref (ya 32), .ref (ya 33), .ref (ya 34), .ref (ya 35), .int (0 : Int32), .int (0 : Int32), .ref (ya 38), .int (0 : Int32), .int (0 : Int32), .ref (ya 41), .ref (ya 42), .int (0 : Int32), .int (0 : Int32), .int (0 : Int32), .int (0 : Int32), .int (0 : Int32)]) rfl dX10_lights_2 (fun H locs hH => ?_)
  obtain ⟨f1, ef1⟩ : ∃ z : gF, z = va_up f y (.inr (10, [.int (0 : Int32), .ref (ya 1), .ref (ya 2), .ref (ya 3), .ref (ya 4), .ref (ya 5), .int (0 : Int32), .int (0 : Int32), .int (0 : Int32), .int (0 : Int32), .int (0 : Int32), .long (0 : Int64), .int (0 : Int32), .int (0 : Int32), .int (0 : Int32), .int (-1 : Int32), .ref (ya 16), .ref (ya 17), .ref (ya 18), .ref (ya 19), .ref (ya 20), .ref (ya 21), .int (0 : Int32), .int (0 : Int32), .int (0 : Int32), .ref (ya 25), .ref (ya 26), .ref (ya 27), .ref (ya 28), .ref (ya 29), .ref (ya 30), .ref (ya 31), .ref (ya 32), .ref (ya 33), .ref (ya 34), .ref (ya 35), .int (0 : Int32), .int (0 : Int32), .ref (ya 38), .int (0 : Int32), .int (0 : Int32), .ref (ya 41), .ref (ya 42), .int (0 : Int32), .int (0 : Int32), .int (0 : Int32), .int (0 : Int32), .int (0 : Int32)])) := ⟨_, rfl⟩
  have hH : gH E A L f1 s.heap H locs := by rw [ef1]; exact hH
  have h2 : f1 y = .inr (10, [.int (0 : Int32), .ref (ya 1), .ref (ya 2), .ref (ya 3), .ref (ya 4), .ref (ya 5), .int (0 : Int32), .int (0 : Int32), .int (0 : Int32), .int (0 : Int32), .int (0 : Int32), .long (0 : Int64), .int (0 : Int32), .int (0 : Int32), .int (0 : Int32), .int (-1 : Int32), .ref (ya 16), .ref (ya 17), .ref (ya 18), .ref (ya 19), .ref (ya 20), .ref (ya 21), .int (0 : Int32), .int (0 : Int32), .int (0 : Int32), .ref (ya 25), .ref (ya 26), .ref (ya 27), .ref (ya 28), .ref (ya 29), .ref (ya 30), .ref (ya 31), .ref (ya 32), .ref (ya 33), .ref (ya 34), .ref (ya 35), .int (0 : Int32), .int (0 : Int32), .ref (ya 38), .int (0 : Int32), .int (0 : Int32), .ref (ya 41), .ref (ya 42), .int (0 : Int32), .int (0 : Int32), .int (0 : Int32), .int (0 : Int32), .int (0 : Int32)]) := (congrFun ef1 y).trans (va_up_self _ _ _)
  refine lv_aload_n hx hb dX10_lights_5 rfl (lv_at hl 0 rfl) ?_
  refine lv_iload_n hx hb dX10_lights_6 rfl (lv_at hl 1 rfl) ?_
  have h3 : f1 (ya 16) = .inl (E.2.2 1, 5, .inl (fun _ => 0)) := ((congrFun ef1 (ya 16)).trans (va_up_ne _ _ (g_neAO f_lines fy))).trans f_lines
  have h4 : f1 (ya 17) = .inl (E.2.2 1, 45, .inl (fun _ => 0)) := ((congrFun ef1 (ya 17)).trans (va_up_ne _ _ (g_neAO f_has fy))).trans f_has
  refine g_Vi C hl.1 hA hH (As := [.int p0]) (rest := []) (m_isSet l E L f1 my h2 m_lines h3 m_has h4 p0) my_X10_isSet wd282 my h2 rfl rfl rfl (Nat.le_of_ble_eq_true rfl) ⟨Nat.le_of_ble_eq_true rfl, Nat.le_of_ble_eq_true rfl⟩ ⟨Nat.le_of_ble_eq_true rfl, Nat.le_of_ble_eq_true rfl⟩ dX10_lights_7 (fun r7 L6 f5 H locs hp hH => ?_)
  obtain ⟨er7, rfl, rfl⟩ := hp
  subst er7
  refine lv_if_ne (tgt := 16) hx hb dX10_lights_10 (by decide) (fun h => absurd (by decide) h) (fun _ => ?_)
  refine lv_bipush (v := (-2 : Int32)) hx hb dX10_lights_13 (by decide) ?_
  refine g_iret C hr hH (Nat.le_of_ble_eq_true rfl) (Nat.le_of_ble_eq_true rfl) dX10_lights_15 ?_
  exact rfl
set_option maxHeartbeats 4000000 in
set_option maxRecDepth 100000 in
theorem m_best (l : Launch) (E : gE) (L : List Nat) (f : gF) {y : Nat} {ya : Nat → Nat} (my : y ∈ L) (fy : f y = .inr (10, [.int (0 : Int32), .ref (ya 1), .ref (ya 2), .ref (ya 3), .ref (ya 4), .ref (ya 5), .int (0 : Int32), .int (0 : Int32), .int (0 : Int32), .int (0 : Int32), .int (0 : Int32), .long (0 : Int64), .int (0 : Int32), .int (0 : Int32), .int (0 : Int32), .int (-1 : Int32), .ref (ya 16), .ref (ya 17), .ref (ya 18), .ref (ya 19), .ref (ya 20), .ref (ya 21), .int (0 : Int32), .int (0 : Int32), .int (0 : Int32), .ref (ya 25), .ref (ya 26), .ref (ya 27), .ref (ya 28), .ref (ya 29), .ref (ya 30), .ref (ya 31), .ref (ya 32), .ref (ya 33), .ref (ya 34), .ref (ya 35), .int (0 : Int32), .int (0 : Int32), .ref (ya 38), .int (0 : Int32), .int (0 : Int32), .ref (ya 41), .ref (ya 42), .int (0 : Int32), .int (0 : Int32), .int (0 : Int32), .int (0 : Int32), .int (0 : Int32)])) (m_lines : (ya 16) ∈ L) (f_lines : f (ya 16) = .inl (E.2.2 1, 5, .inl (fun _ => 0))) (m_has : (ya 17) ∈ L) (f_has : f (ya 17) = .inl (E.2.2 1, 45, .inl (fun _ => 0))) (p0 : Int32) : gMi l E yX10_best cX10_best 2 .int (gRm 6 0 0) [.ref y, .int p0] L f (fun r _ _ => r = (-2 : Int32)) := by
  refine gMi.intro (by decide) (Nat.le_of_ble_eq_true rfl) ?_
  intro p e s m below meth c A ls C hr hA hH hl
  have C : gC E cX10_best 2 RX10 p s m _ meth c := C
  have hl : lv_has ls 2 [(0, .ref y), (1, .int p0)] := hl
  have hx := C.1
  have hb := C.2.1
  refine lv_aload_n hx hb dX10_best_0 rfl (lv_at hl 0 rfl) ?_
  refine lv_iconst (v := (0 : Int32)) hx hb dX10_best_1 (by decide) ?_
  refine g_put C hH my fy iX10 tyX10 tyX10_ok nmX10 rfl 0 (by decide) wd270 rfl rfl rfl rfl (Nat.le_of_ble_eq_true rfl) (fs' := [.int (0 : Int32), .ref (ya 1), .ref (ya 2), .ref (ya 3), .ref (ya 4), .ref (ya 5), .int (0 : Int32), .int (0 : Int32), .int (0 : Int32), .int (0 : Int32), .int (0 : Int32), .long (0 : Int64), .int (0 : Int32), .int (0 : Int32), .int (0 : Int32), .int (-1 : Int32), .ref (ya 16), .ref (ya 17), .ref (ya 18), .ref (ya 19), .ref (ya 20), .ref (ya 21), .int (0 : Int32), .int (0 : Int32), .int (0 : Int32), .ref (ya 25), .ref (ya 26), .ref (ya 27), .ref (ya 28), .ref (ya 29), .ref (ya 30), .ref (ya 31), .ref (ya 32), .ref (ya 33), .ref (ya 34), .ref (ya 35), .int (0 : Int32), .int (0 : Int32), .ref (ya 38), .int (0 : Int32), .int (0 : Int32), .ref (ya 41), .ref (ya 42), .int (0 : Int32), .int (0 : Int32), .int (0 : Int32), .int (0 : Int32), .int (0 : Int32)]) rfl dX10_best_2 (fun H locs hH => ?_)
  obtain ⟨f1, ef1⟩ : ∃ z : gF, z = va_up f y (.inr (10, [.int (0 : Int32), .ref (ya 1), .ref (ya 2), .ref (ya 3), .ref (ya 4), .ref (ya 5), .int (0 : Int32), .int (0 : Int32), .int (0 : Int32), .int (0 : Int32), .int (0 : Int32), .long (0 : Int64), .int (0 : Int32), .int (0 : Int32), .int (0 : Int32), .int (-1 : Int32), .ref (ya 16), .ref (ya 17), .ref (ya 18), .ref (ya 19), .ref (ya 20), .ref (ya 21), .int (0 : Int32), .int (0 : Int32), .int (0 : Int32), .ref (ya 25), .ref (ya 26), .ref (ya 27), .ref (ya 28), .ref (ya 29), .ref (ya 30), .ref (ya 31), .ref (ya 32), .ref (ya 33), .ref (ya 34), .ref (ya 35), .int (0 : Int32), .int (0 : Int32), .ref (ya 38), .int (0 : Int32), .int (0 : Int32), .ref (ya 41), .ref (ya 42), .int (0 : Int32), .int (0 : Int32), .int (0 : Int32), .int (0 : Int32), .int (0 : Int32)])) := ⟨_, rfl⟩
  have hH : gH E A L f1 s.heap H locs := by rw [ef1]; exact hH
  have h2 : f1 y = .inr (10, [.int (0 : Int32), .ref (ya 1), .ref (ya 2), .ref (ya 3), .ref (ya 4), .ref (ya 5), .int (0 : Int32), .int (0 : Int32), .int (0 : Int32), .int (0 : Int32), .int (0 : Int32), .long (0 : Int64), .int (0 : Int32), .int (0 : Int32), .int (0 : Int32), .int (-1 : Int32), .ref (ya 16), .ref (ya 17), .ref (ya 18), .ref (ya 19), .ref (ya 20), .ref (ya 21), .int (0 : Int32), .int (0 : Int32), .int (0 : Int32), .ref (ya 25), .ref (ya 26), .ref (ya 27), .ref (ya 28), .ref (ya 29), .ref (ya 30), .ref (ya 31), .ref (ya 32), .ref (ya 33), .ref (ya 34), .ref (ya 35), .int (0 : Int32), .int (0 : Int32), .ref (ya 38), .int (0 : Int32), .int (0 : Int32), .ref (ya 41), .ref (ya 42), .int (0 : Int32), .int (0 : Int32), .int (0 : Int32), .int (0 : Int32), .int (0 : Int32)]) := (congrFun ef1 y).trans (va_up_self _ _ _)
  refine lv_aload_n hx hb dX10_best_5 rfl (lv_at hl 0 rfl) ?_
  refine lv_iload_n hx hb dX10_best_6 rfl (lv_at hl 1 rfl) ?_
  have h3 : f1 (ya 16) = .inl (E.2.2 1, 5, .inl (fun _ => 0)) := ((congrFun ef1 (ya 16)).trans (va_up_ne _ _ (g_neAO f_lines fy))).trans f_lines
  have h4 : f1 (ya 17) = .inl (E.2.2 1, 45, .inl (fun _ => 0)) := ((congrFun ef1 (ya 17)).trans (va_up_ne _ _ (g_neAO f_has fy))).trans f_has
  refine g_Vi C hl.1 hA hH (As := [.int p0]) (rest := []) (m_isMany l E L f1 my h2 m_lines h3 m_has h4 p0) my_X10_isMany wd286 my h2 rfl rfl rfl (Nat.le_of_ble_eq_true rfl) ⟨Nat.le_of_ble_eq_true rfl, Nat.le_of_ble_eq_true rfl⟩ ⟨Nat.le_of_ble_eq_true rfl, Nat.le_of_ble_eq_true rfl⟩ dX10_best_7 (fun r7 L6 f5 H locs hp hH => ?_)
  obtain ⟨er7, rfl, rfl⟩ := hp
  subst er7
  refine lv_if_ne (tgt := 16) hx hb dX10_best_10 (by decide) (fun h => absurd (by decide) h) (fun _ => ?_)
  refine lv_bipush (v := (-2 : Int32)) hx hb dX10_best_13 (by decide) ?_
  refine g_iret C hr hH (Nat.le_of_ble_eq_true rfl) (Nat.le_of_ble_eq_true rfl) dX10_best_15 ?_
  exact rfl
set_option maxHeartbeats 4000000 in
set_option maxRecDepth 100000 in
theorem m_bests (l : Launch) (E : gE) (L : List Nat) (f : gF) {y : Nat} {ya : Nat → Nat} (my : y ∈ L) (fy : f y = .inr (10, [.int (0 : Int32), .ref (ya 1), .ref (ya 2), .ref (ya 3), .ref (ya 4), .ref (ya 5), .int (0 : Int32), .int (0 : Int32), .int (0 : Int32), .int (0 : Int32), .int (0 : Int32), .long (0 : Int64), .int (0 : Int32), .int (0 : Int32), .int (0 : Int32), .int (-1 : Int32), .ref (ya 16), .ref (ya 17), .ref (ya 18), .ref (ya 19), .ref (ya 20), .ref (ya 21), .int (0 : Int32), .int (0 : Int32), .int (0 : Int32), .ref (ya 25), .ref (ya 26), .ref (ya 27), .ref (ya 28), .ref (ya 29), .ref (ya 30), .ref (ya 31), .ref (ya 32), .ref (ya 33), .ref (ya 34), .ref (ya 35), .int (0 : Int32), .int (0 : Int32), .ref (ya 38), .int (0 : Int32), .int (0 : Int32), .ref (ya 41), .ref (ya 42), .int (0 : Int32), .int (0 : Int32), .int (0 : Int32), .int (0 : Int32), .int (0 : Int32)])) (m_lines : (ya 16) ∈ L) (f_lines : f (ya 16) = .inl (E.2.2 1, 5, .inl (fun _ => 0))) (m_has : (ya 17) ∈ L) (f_has : f (ya 17) = .inl (E.2.2 1, 45, .inl (fun _ => 0))) (p0 : Int32) : gMi l E yX10_bests cX10_bests 2 .int (gRm 6 0 0) [.ref y, .int p0] L f (fun r _ _ => r = (-2 : Int32)) := by
  refine gMi.intro (by decide) (Nat.le_of_ble_eq_true rfl) ?_
  intro p e s m below meth c A ls C hr hA hH hl
  have C : gC E cX10_bests 2 RX10 p s m _ meth c := C
  have hl : lv_has ls 2 [(0, .ref y), (1, .int p0)] := hl
  have hx := C.1
  have hb := C.2.1
  refine lv_aload_n hx hb dX10_bests_0 rfl (lv_at hl 0 rfl) ?_
  refine lv_iconst (v := (0 : Int32)) hx hb dX10_bests_1 (by decide) ?_
  refine g_put C hH my fy iX10 tyX10 tyX10_ok nmX10 rfl 0 (by decide) wd270 rfl rfl rfl rfl (Nat.le_of_ble_eq_true rfl) (fs' := [.int (0 : Int32), .ref (ya 1), .ref (ya 2), .ref (ya 3), .ref (ya 4), .ref (ya 5), .int (0 : Int32), .int (0 : Int32), .int (0 : Int32), .int (0 : Int32), .int (0 : Int32), .long (0 : Int64), .int (0 : Int32), .int (0 : Int32), .int (0 : Int32), .int (-1 : Int32), .ref (ya 16), .ref (ya 17), .ref (ya 18), .ref (ya 19), .ref (ya 20), .ref (ya 21), .int (0 : Int32), .int (0 : Int32), .int (0 : Int32), .ref (ya 25), .ref (ya 26), .ref (ya 27), .ref (ya 28), .ref (ya 29), .ref (ya 30), .ref (ya 31), .ref (ya 32), .ref (ya 33), .ref (ya 34), .ref (ya 35), .int (0 : Int32), .int (0 : Int32), .ref (ya 38), .int (0 : Int32), .int (0 : Int32), .ref (ya 41), .ref (ya 42), .int (0 : Int32), .int (0 : Int32), .int (0 : Int32), .int (0 : Int32), .int (0 : Int32)]) rfl dX10_bests_2 (fun H locs hH => ?_)
  obtain ⟨f1, ef1⟩ : ∃ z : gF, z = va_up f y (.inr (10, [.int (0 : Int32), .ref (ya 1), .ref (ya 2), .ref (ya 3), .ref (ya 4), .ref (ya 5), .int (0 : Int32), .int (0 : Int32), .int (0 : Int32), .int (0 : Int32), .int (0 : Int32), .long (0 : Int64), .int (0 : Int32), .int (0 : Int32), .int (0 : Int32), .int (-1 : Int32), .ref (ya 16), .ref (ya 17), .ref (ya 18), .ref (ya 19), .ref (ya 20), .ref (ya 21), .int (0 : Int32), .int (0 : Int32), .int (0 : Int32), .ref (ya 25), .ref (ya 26), .ref (ya 27), .ref (ya 28), .ref (ya 29), .ref (ya 30), .ref (ya 31), .ref (ya 32), .ref (ya 33), .ref (ya 34), .ref (ya 35), .int (0 : Int32), .int (0 : Int32), .ref (ya 38), .int (0 : Int32), .int (0 : Int32), .ref (ya 41), .ref (ya 42), .int (0 : Int32), .int (0 : Int32), .int (0 : Int32), .int (0 : Int32), .int (0 : Int32)])) := ⟨_, rfl⟩
  have hH : gH E A L f1 s.heap H locs := by rw [ef1]; exact hH
  have h2 : f1 y = .inr (10, [.int (0 : Int32), .ref (ya 1), .ref (ya 2), .ref (ya 3), .ref (ya 4), .ref (ya 5), .int (0 : Int32), .int (0 : Int32), .int (0 : Int32), .int (0 : Int32), .int (0 : Int32), .long (0 : Int64), .int (0 : Int32), .int (0 : Int32), .int (0 : Int32), .int (-1 : Int32), .ref (ya 16), .ref (ya 17), .ref (ya 18), .ref (ya 19), .ref (ya 20), .ref (ya 21), .int (0 : Int32), .int (0 : Int32), .int (0 : Int32), .ref (ya 25), .ref (ya 26), .ref (ya 27), .ref (ya 28), .ref (ya 29), .ref (ya 30), .ref (ya 31), .ref (ya 32), .ref (ya 33), .ref (ya 34), .ref (ya 35), .int (0 : Int32), .int (0 : Int32), .ref (ya 38), .int (0 : Int32), .int (0 : Int32), .ref (ya 41), .ref (ya 42), .int (0 : Int32), .int (0 : Int32), .int (0 : Int32), .int (0 : Int32), .int (0 : Int32)]) := (congrFun ef1 y).trans (va_up_self _ _ _)
  refine lv_aload_n hx hb dX10_bests_5 rfl (lv_at hl 0 rfl) ?_
  refine lv_iload_n hx hb dX10_bests_6 rfl (lv_at hl 1 rfl) ?_
  have h3 : f1 (ya 16) = .inl (E.2.2 1, 5, .inl (fun _ => 0)) := ((congrFun ef1 (ya 16)).trans (va_up_ne _ _ (g_neAO f_lines fy))).trans f_lines
  have h4 : f1 (ya 17) = .inl (E.2.2 1, 45, .inl (fun _ => 0)) := ((congrFun ef1 (ya 17)).trans (va_up_ne _ _ (g_neAO f_has fy))).trans f_has
  refine g_Vi C hl.1 hA hH (As := [.int p0]) (rest := []) (m_isMany l E L f1 my h2 m_lines h3 m_has h4 p0) my_X10_isMany wd286 my h2 rfl rfl rfl (Nat.le_of_ble_eq_true rfl) ⟨Nat.le_of_ble_eq_true rfl, Nat.le_of_ble_eq_true rfl⟩ ⟨Nat.le_of_ble_eq_true rfl, Nat.le_of_ble_eq_true rfl⟩ dX10_bests_7 (fun r7 L6 f5 H locs hp hH => ?_)
  obtain ⟨er7, rfl, rfl⟩ := hp
  subst er7
  refine lv_if_ne (tgt := 16) hx hb dX10_bests_10 (by decide) (fun h => absurd (by decide) h) (fun _ => ?_)
  refine lv_bipush (v := (-2 : Int32)) hx hb dX10_bests_13 (by decide) ?_
  refine g_iret C hr hH (Nat.le_of_ble_eq_true rfl) (Nat.le_of_ble_eq_true rfl) dX10_bests_15 ?_
  exact rfl
set_option maxHeartbeats 4000000 in
set_option maxRecDepth 100000 in
theorem m_most (l : Launch) (E : gE) (L : List Nat) (f : gF) {y : Nat} {ya : Nat → Nat} (my : y ∈ L) (fy : f y = .inr (10, [.int (0 : Int32), .ref (ya 1), .ref (ya 2), .ref (ya 3), .ref (ya 4), .ref (ya 5), .int (0 : Int32), .int (0 : Int32), .int (0 : Int32), .int (0 : Int32), .int (0 : Int32), .long (0 : Int64), .int (0 : Int32), .int (0 : Int32), .int (0 : Int32), .int (-1 : Int32), .ref (ya 16), .ref (ya 17), .ref (ya 18), .ref (ya 19), .ref (ya 20), .ref (ya 21), .int (0 : Int32), .int (0 : Int32), .int (0 : Int32), .ref (ya 25), .ref (ya 26), .ref (ya 27), .ref (ya 28), .ref (ya 29), .ref (ya 30), .ref (ya 31), .ref (ya 32), .ref (ya 33), .ref (ya 34), .ref (ya 35), .int (0 : Int32), .int (0 : Int32), .ref (ya 38), .int (0 : Int32), .int (0 : Int32), .ref (ya 41), .ref (ya 42), .int (0 : Int32), .int (0 : Int32), .int (0 : Int32), .int (0 : Int32), .int (0 : Int32)])) (m_lines : (ya 16) ∈ L) (f_lines : f (ya 16) = .inl (E.2.2 1, 5, .inl (fun _ => 0))) (m_has : (ya 17) ∈ L) (f_has : f (ya 17) = .inl (E.2.2 1, 45, .inl (fun _ => 0))) (p0 : Int32) : gMi l E yX10_most cX10_most 2 .int (gRm 6 0 0) [.ref y, .int p0] L f (fun r _ _ => r = (-2 : Int32)) := by
  refine gMi.intro (by decide) (Nat.le_of_ble_eq_true rfl) ?_
  intro p e s m below meth c A ls C hr hA hH hl
  have C : gC E cX10_most 2 RX10 p s m _ meth c := C
  have hl : lv_has ls 2 [(0, .ref y), (1, .int p0)] := hl
  have hx := C.1
  have hb := C.2.1
  refine lv_aload_n hx hb dX10_most_0 rfl (lv_at hl 0 rfl) ?_
  refine lv_iconst (v := (0 : Int32)) hx hb dX10_most_1 (by decide) ?_
  refine g_put C hH my fy iX10 tyX10 tyX10_ok nmX10 rfl 0 (by decide) wd270 rfl rfl rfl rfl (Nat.le_of_ble_eq_true rfl) (fs' := [.int (0 : Int32), .ref (ya 1), .ref (ya 2), .ref (ya 3), .ref (ya 4), .ref (ya 5), .int (0 : Int32), .int (0 : Int32), .int (0 : Int32), .int (0 : Int32), .int (0 : Int32), .long (0 : Int64), .int (0 : Int32), .int (0 : Int32), .int (0 : Int32), .int (-1 : Int32), .ref (ya 16), .ref (ya 17), .ref (ya 18), .ref (ya 19), .ref (ya 20), .ref (ya 21), .int (0 : Int32), .int (0 : Int32), .int (0 : Int32), .ref (ya 25), .ref (ya 26), .ref (ya 27), .ref (ya 28), .ref (ya 29), .ref (ya 30), .ref (ya 31), .ref (ya 32), .ref (ya 33), .ref (ya 34), .ref (ya 35), .int (0 : Int32), .int (0 : Int32), .ref (ya 38), .int (0 : Int32), .int (0 : Int32), .ref (ya 41), .ref (ya 42), .int (0 : Int32), .int (0 : Int32), .int (0 : Int32), .int (0 : Int32), .int (0 : Int32)]) rfl dX10_most_2 (fun H locs hH => ?_)
  obtain ⟨f1, ef1⟩ : ∃ z : gF, z = va_up f y (.inr (10, [.int (0 : Int32), .ref (ya 1), .ref (ya 2), .ref (ya 3), .ref (ya 4), .ref (ya 5), .int (0 : Int32), .int (0 : Int32), .int (0 : Int32), .int (0 : Int32), .int (0 : Int32), .long (0 : Int64), .int (0 : Int32), .int (0 : Int32), .int (0 : Int32), .int (-1 : Int32), .ref (ya 16), .ref (ya 17), .ref (ya 18), .ref (ya 19), .ref (ya 20), .ref (ya 21), .int (0 : Int32), .int (0 : Int32), .int (0 : Int32), .ref (ya 25), .ref (ya 26), .ref (ya 27), .ref (ya 28), .ref (ya 29), .ref (ya 30), .ref (ya 31), .ref (ya 32), .ref (ya 33), .ref (ya 34), .ref (ya 35), .int (0 : Int32), .int (0 : Int32), .ref (ya 38), .int (0 : Int32), .int (0 : Int32), .ref (ya 41), .ref (ya 42), .int (0 : Int32), .int (0 : Int32), .int (0 : Int32), .int (0 : Int32), .int (0 : Int32)])) := ⟨_, rfl⟩
  have hH : gH E A L f1 s.heap H locs := by rw [ef1]; exact hH
  have h2 : f1 y = .inr (10, [.int (0 : Int32), .ref (ya 1), .ref (ya 2), .ref (ya 3), .ref (ya 4), .ref (ya 5), .int (0 : Int32), .int (0 : Int32), .int (0 : Int32), .int (0 : Int32), .int (0 : Int32), .long (0 : Int64), .int (0 : Int32), .int (0 : Int32), .int (0 : Int32), .int (-1 : Int32), .ref (ya 16), .ref (ya 17), .ref (ya 18), .ref (ya 19), .ref (ya 20), .ref (ya 21), .int (0 : Int32), .int (0 : Int32), .int (0 : Int32), .ref (ya 25), .ref (ya 26), .ref (ya 27), .ref (ya 28), .ref (ya 29), .ref (ya 30), .ref (ya 31), .ref (ya 32), .ref (ya 33), .ref (ya 34), .ref (ya 35), .int (0 : Int32), .int (0 : Int32), .ref (ya 38), .int (0 : Int32), .int (0 : Int32), .ref (ya 41), .ref (ya 42), .int (0 : Int32), .int (0 : Int32), .int (0 : Int32), .int (0 : Int32), .int (0 : Int32)]) := (congrFun ef1 y).trans (va_up_self _ _ _)
  refine lv_aload_n hx hb dX10_most_5 rfl (lv_at hl 0 rfl) ?_
  refine lv_iload_n hx hb dX10_most_6 rfl (lv_at hl 1 rfl) ?_
  have h3 : f1 (ya 16) = .inl (E.2.2 1, 5, .inl (fun _ => 0)) := ((congrFun ef1 (ya 16)).trans (va_up_ne _ _ (g_neAO f_lines fy))).trans f_lines
  have h4 : f1 (ya 17) = .inl (E.2.2 1, 45, .inl (fun _ => 0)) := ((congrFun ef1 (ya 17)).trans (va_up_ne _ _ (g_neAO f_has fy))).trans f_has
  refine g_Vi C hl.1 hA hH (As := [.int p0]) (rest := []) (m_isMany l E L f1 my h2 m_lines h3 m_has h4 p0) my_X10_isMany wd286 my h2 rfl rfl rfl (Nat.le_of_ble_eq_true rfl) ⟨Nat.le_of_ble_eq_true rfl, Nat.le_of_ble_eq_true rfl⟩ ⟨Nat.le_of_ble_eq_true rfl, Nat.le_of_ble_eq_true rfl⟩ dX10_most_7 (fun r7 L6 f5 H locs hp hH => ?_)
  obtain ⟨er7, rfl, rfl⟩ := hp
  subst er7
  refine lv_if_ne (tgt := 16) hx hb dX10_most_10 (by decide) (fun h => absurd (by decide) h) (fun _ => ?_)
  refine lv_bipush (v := (-2 : Int32)) hx hb dX10_most_13 (by decide) ?_
  refine g_iret C hr hH (Nat.le_of_ble_eq_true rfl) (Nat.le_of_ble_eq_true rfl) dX10_most_15 ?_
  exact rfl
set_option maxHeartbeats 4000000 in
set_option maxRecDepth 100000 in
theorem m_more (l : Launch) (E : gE) (L : List Nat) (f : gF) {y : Nat} {ya : Nat → Nat} (my : y ∈ L) (fy : f y = .inr (10, [.int (0 : Int32), .ref (ya 1), .ref (ya 2), .ref (ya 3), .ref (ya 4), .ref (ya 5), .int (0 : Int32), .int (0 : Int32), .int (0 : Int32), .int (0 : Int32), .int (0 : Int32), .long (0 : Int64), .int (0 : Int32), .int (0 : Int32), .int (0 : Int32), .int (-1 : Int32), .ref (ya 16), .ref (ya 17), .ref (ya 18), .ref (ya 19), .ref (ya 20), .ref (ya 21), .int (0 : Int32), .int (0 : Int32), .int (0 : Int32), .ref (ya 25), .ref (ya 26), .ref (ya 27), .ref (ya 28), .ref (ya 29), .ref (ya 30), .ref (ya 31), .ref (ya 32), .ref (ya 33), .ref (ya 34), .ref (ya 35), .int (0 : Int32), .int (0 : Int32), .ref (ya 38), .int (0 : Int32), .int (0 : Int32), .ref (ya 41), .ref (ya 42), .int (0 : Int32), .int (0 : Int32), .int (0 : Int32), .int (0 : Int32), .int (0 : Int32)])) (m_lines : (ya 16) ∈ L) (f_lines : f (ya 16) = .inl (E.2.2 1, 5, .inl (fun _ => 0))) (m_has : (ya 17) ∈ L) (f_has : f (ya 17) = .inl (E.2.2 1, 45, .inl (fun _ => 0))) : gMi l E yX10_more cX10_more 1 .int (gRm 6 0 0) [.ref y] L f (fun r _ _ => r = (-2 : Int32)) := by
  refine gMi.intro (by decide) (Nat.le_of_ble_eq_true rfl) ?_
  intro p e s m below meth c A ls C hr hA hH hl
  have C : gC E cX10_more 1 RX10 p s m _ meth c := C
  have hl : lv_has ls 1 [(0, .ref y)] := hl
  have hx := C.1
  have hb := C.2.1
  refine lv_aload_n hx hb dX10_more_0 rfl (lv_at hl 0 rfl) ?_
  refine lv_iconst (v := (0 : Int32)) hx hb dX10_more_1 (by decide) ?_
  refine g_put C hH my fy iX10 tyX10 tyX10_ok nmX10 rfl 0 (by decide) wd270 rfl rfl rfl rfl (Nat.le_of_ble_eq_true rfl) (fs' := [.int (0 : Int32), .ref (ya 1), .ref (ya 2), .ref (ya 3), .ref (ya 4), .ref (ya 5), .int (0 : Int32), .int (0 : Int32), .int (0 : Int32), .int (0 : Int32), .int (0 : Int32), .long (0 : Int64), .int (0 : Int32), .int (0 : Int32), .int (0 : Int32), .int (-1 : Int32), .ref (ya 16), .ref (ya 17), .ref (ya 18), .ref (ya 19), .ref (ya 20), .ref (ya 21), .int (0 : Int32), .int (0 : Int32), .int (0 : Int32), .ref (ya 25), .ref (ya 26), .ref (ya 27), .ref (ya 28), .ref (ya 29), .ref (ya 30), .ref (ya 31), .ref (ya 32), .ref (ya 33), .ref (ya 34), .ref (ya 35), .int (0 : Int32), .int (0 : Int32), .ref (ya 38), .int (0 : Int32), .int (0 : Int32), .ref (ya 41), .ref (ya 42), .int (0 : Int32), .int (0 : Int32), .int (0 : Int32), .int (0 : Int32), .int (0 : Int32)]) rfl dX10_more_2 (fun H locs hH => ?_)
  obtain ⟨f1, ef1⟩ : ∃ z : gF, z = va_up f y (.inr (10, [.int (0 : Int32), .ref (ya 1), .ref (ya 2), .ref (ya 3), .ref (ya 4), .ref (ya 5), .int (0 : Int32), .int (0 : Int32), .int (0 : Int32), .int (0 : Int32), .int (0 : Int32), .long (0 : Int64), .int (0 : Int32), .int (0 : Int32), .int (0 : Int32), .int (-1 : Int32), .ref (ya 16), .ref (ya 17), .ref (ya 18), .ref (ya 19), .ref (ya 20), .ref (ya 21), .int (0 : Int32), .int (0 : Int32), .int (0 : Int32), .ref (ya 25), .ref (ya 26), .ref (ya 27), .ref (ya 28), .ref (ya 29), .ref (ya 30), .ref (ya 31), .ref (ya 32), .ref (ya 33), .ref (ya 34), .ref (ya 35), .int (0 : Int32), .int (0 : Int32), .ref (ya 38), .int (0 : Int32), .int (0 : Int32), .ref (ya 41), .ref (ya 42), .int (0 : Int32), .int (0 : Int32), .int (0 : Int32), .int (0 : Int32), .int (0 : Int32)])) := ⟨_, rfl⟩
  have hH : gH E A L f1 s.heap H locs := by rw [ef1]; exact hH
  have h2 : f1 y = .inr (10, [.int (0 : Int32), .ref (ya 1), .ref (ya 2), .ref (ya 3), .ref (ya 4), .ref (ya 5), .int (0 : Int32), .int (0 : Int32), .int (0 : Int32), .int (0 : Int32), .int (0 : Int32), .long (0 : Int64), .int (0 : Int32), .int (0 : Int32), .int (0 : Int32), .int (-1 : Int32), .ref (ya 16), .ref (ya 17), .ref (ya 18), .ref (ya 19), .ref (ya 20), .ref (ya 21), .int (0 : Int32), .int (0 : Int32), .int (0 : Int32), .ref (ya 25), .ref (ya 26), .ref (ya 27), .ref (ya 28), .ref (ya 29), .ref (ya 30), .ref (ya 31), .ref (ya 32), .ref (ya 33), .ref (ya 34), .ref (ya 35), .int (0 : Int32), .int (0 : Int32), .ref (ya 38), .int (0 : Int32), .int (0 : Int32), .ref (ya 41), .ref (ya 42), .int (0 : Int32), .int (0 : Int32), .int (0 : Int32), .int (0 : Int32), .int (0 : Int32)]) := (congrFun ef1 y).trans (va_up_self _ _ _)
  refine lv_aload_n hx hb dX10_more_5 rfl (lv_at hl 0 rfl) ?_
  have h3 : f1 (ya 16) = .inl (E.2.2 1, 5, .inl (fun _ => 0)) := ((congrFun ef1 (ya 16)).trans (va_up_ne _ _ (g_neAO f_lines fy))).trans f_lines
  have h4 : f1 (ya 17) = .inl (E.2.2 1, 45, .inl (fun _ => 0)) := ((congrFun ef1 (ya 17)).trans (va_up_ne _ _ (g_neAO f_has fy))).trans f_has
  refine g_Vi C hl.1 hA hH (As := []) (rest := []) (m_isLand l E L f1 my h2 m_lines h3 m_has h4) my_X10_isLand wd266 my h2 rfl rfl rfl (Nat.le_of_ble_eq_true rfl) ⟨Nat.le_of_ble_eq_true rfl, Nat.le_of_ble_eq_true rfl⟩ ⟨Nat.le_of_ble_eq_true rfl, Nat.le_of_ble_eq_true rfl⟩ dX10_more_6 (fun r7 L6 f5 H locs hp hH => ?_)
  obtain ⟨er7, rfl, rfl⟩ := hp
  subst er7
  refine lv_if_eq (tgt := 20) hx hb dX10_more_9 (by decide) (fun _ => ?_) (fun h => absurd (by decide) h)
  refine lv_bipush (v := (-2 : Int32)) hx hb dX10_more_20 (by decide) ?_
  refine g_iret C hr hH (Nat.le_of_ble_eq_true rfl) (Nat.le_of_ble_eq_true rfl) dX10_more_22 ?_
  exact rfl
set_option maxHeartbeats 4000000 in
set_option maxRecDepth 100000 in
theorem m_less (l : Launch) (E : gE) (L : List Nat) (f : gF) {y : Nat} {ya : Nat → Nat} (my : y ∈ L) (fy : f y = .inr (10, [.int (0 : Int32), .ref (ya 1), .ref (ya 2), .ref (ya 3), .ref (ya 4), .ref (ya 5), .int (0 : Int32), .int (0 : Int32), .int (0 : Int32), .int (0 : Int32), .int (0 : Int32), .long (0 : Int64), .int (0 : Int32), .int (0 : Int32), .int (0 : Int32), .int (-1 : Int32), .ref (ya 16), .ref (ya 17), .ref (ya 18), .ref (ya 19), .ref (ya 20), .ref (ya 21), .int (0 : Int32), .int (0 : Int32), .int (0 : Int32), .ref (ya 25), .ref (ya 26), .ref (ya 27), .ref (ya 28), .ref (ya 29), .ref (ya 30), .ref (ya 31), .ref (ya 32), .ref (ya 33), .ref (ya 34), .ref (ya 35), .int (0 : Int32), .int (0 : Int32), .ref (ya 38), .int (0 : Int32), .int (0 : Int32), .ref (ya 41), .ref (ya 42), .int (0 : Int32), .int (0 : Int32), .int (0 : Int32), .int (0 : Int32), .int (0 : Int32)])) (m_lines : (ya 16) ∈ L) (f_lines : f (ya 16) = .inl (E.2.2 1, 5, .inl (fun _ => 0))) (m_has : (ya 17) ∈ L) (f_has : f (ya 17) = .inl (E.2.2 1, 45, .inl (fun _ => 0))) : gMi l E yX10_less cX10_less 1 .int (gRm 6 0 0) [.ref y] L f (fun r _ _ => r = (-2 : Int32)) := by
  refine gMi.intro (by decide) (Nat.le_of_ble_eq_true rfl) ?_
  intro p e s m below meth c A ls C hr hA hH hl
  have C : gC E cX10_less 1 RX10 p s m _ meth c := C
  have hl : lv_has ls 1 [(0, .ref y)] := hl
  have hx := C.1
  have hb := C.2.1
  refine lv_aload_n hx hb dX10_less_0 rfl (lv_at hl 0 rfl) ?_
  refine lv_iconst (v := (0 : Int32)) hx hb dX10_less_1 (by decide) ?_
  refine g_put C hH my fy iX10 tyX10 tyX10_ok nmX10 rfl 0 (by decide) wd270 rfl rfl rfl rfl (Nat.le_of_ble_eq_true rfl) (fs' := [.int (0 : Int32), .ref (ya 1), .ref (ya 2), .ref (ya 3), .ref (ya 4), .ref (ya 5), .int (0 : Int32), .int (0 : Int32), .int (0 : Int32), .int (0 : Int32), .int (0 : Int32), .long (0 : Int64), .int (0 : Int32), .int (0 : Int32), .int (0 : Int32), .int (-1 : Int32), .ref (ya 16), .ref (ya 17), .ref (ya 18), .ref (ya 19), .ref (ya 20), .ref (ya 21), .int (0 : Int32), .int (0 : Int32), .int (0 : Int32), .ref (ya 25), .ref (ya 26), .ref (ya 27), .ref (ya 28), .ref (ya 29), .ref (ya 30), .ref (ya 31), .ref (ya 32), .ref (ya 33), .ref (ya 34), .ref (ya 35), .int (0 : Int32), .int (0 : Int32), .ref (ya 38), .int (0 : Int32), .int (0 : Int32), .ref (ya 41), .ref (ya 42), .int (0 : Int32), .int (0 : Int32), .int (0 : Int32), .int (0 : Int32), .int (0 : Int32)]) rfl dX10_less_2 (fun H locs hH => ?_)
  obtain ⟨f1, ef1⟩ : ∃ z : gF, z = va_up f y (.inr (10, [.int (0 : Int32), .ref (ya 1), .ref (ya 2), .ref (ya 3), .ref (ya 4), .ref (ya 5), .int (0 : Int32), .int (0 : Int32), .int (0 : Int32), .int (0 : Int32), .int (0 : Int32), .long (0 : Int64), .int (0 : Int32), .int (0 : Int32), .int (0 : Int32), .int (-1 : Int32), .ref (ya 16), .ref (ya 17), .ref (ya 18), .ref (ya 19), .ref (ya 20), .ref (ya 21), .int (0 : Int32), .int (0 : Int32), .int (0 : Int32), .ref (ya 25), .ref (ya 26), .ref (ya 27), .ref (ya 28), .ref (ya 29), .ref (ya 30), .ref (ya 31), .ref (ya 32), .ref (ya 33), .ref (ya 34), .ref (ya 35), .int (0 : Int32), .int (0 : Int32), .ref (ya 38), .int (0 : Int32), .int (0 : Int32), .ref (ya 41), .ref (ya 42), .int (0 : Int32), .int (0 : Int32), .int (0 : Int32), .int (0 : Int32), .int (0 : Int32)])) := ⟨_, rfl⟩
  have hH : gH E A L f1 s.heap H locs := by rw [ef1]; exact hH
  have h2 : f1 y = .inr (10, [.int (0 : Int32), .ref (ya 1), .ref (ya 2), .ref (ya 3), .ref (ya 4), .ref (ya 5), .int (0 : Int32), .int (0 : Int32), .int (0 : Int32), .int (0 : Int32), .int (0 : Int32), .long (0 : Int64), .int (0 : Int32), .int (0 : Int32), .int (0 : Int32), .int (-1 : Int32), .ref (ya 16), .ref (ya 17), .ref (ya 18), .ref (ya 19), .ref (ya 20), .ref (ya 21), .int (0 : Int32), .int (0 : Int32), .int (0 : Int32), .ref (ya 25), .ref (ya 26), .ref (ya 27), .ref (ya 28), .ref (ya 29), .ref (ya 30), .ref (ya 31), .ref (ya 32), .ref (ya 33), .ref (ya 34), .ref (ya 35), .int (0 : Int32), .int (0 : Int32), .ref (ya 38), .int (0 : Int32), .int (0 : Int32), .ref (ya 41), .ref (ya 42), .int (0 : Int32), .int (0 : Int32), .int (0 : Int32), .int (0 : Int32), .int (0 : Int32)]) := (congrFun ef1 y).trans (va_up_self _ _ _)
  refine lv_aload_n hx hb dX10_less_5 rfl (lv_at hl 0 rfl) ?_
  have h3 : f1 (ya 16) = .inl (E.2.2 1, 5, .inl (fun _ => 0)) := ((congrFun ef1 (ya 16)).trans (va_up_ne _ _ (g_neAO f_lines fy))).trans f_lines
  have h4 : f1 (ya 17) = .inl (E.2.2 1, 45, .inl (fun _ => 0)) := ((congrFun ef1 (ya 17)).trans (va_up_ne _ _ (g_neAO f_has fy))).trans f_has
  refine g_Vi C hl.1 hA hH (As := []) (rest := []) (m_isLand l E L f1 my h2 m_lines h3 m_has h4) my_X10_isLand wd266 my h2 rfl rfl rfl (Nat.le_of_ble_eq_true rfl) ⟨Nat.le_of_ble_eq_true rfl, Nat.le_of_ble_eq_true rfl⟩ ⟨Nat.le_of_ble_eq_true rfl, Nat.le_of_ble_eq_true rfl⟩ dX10_less_6 (fun r7 L6 f5 H locs hp hH => ?_)
  obtain ⟨er7, rfl, rfl⟩ := hp
  subst er7
  refine lv_if_eq (tgt := 20) hx hb dX10_less_9 (by decide) (fun _ => ?_) (fun h => absurd (by decide) h)
  refine lv_bipush (v := (-2 : Int32)) hx hb dX10_less_20 (by decide) ?_
  refine g_iret C hr hH (Nat.le_of_ble_eq_true rfl) (Nat.le_of_ble_eq_true rfl) dX10_less_22 ?_
  exact rfl
set_option maxHeartbeats 4000000 in
set_option maxRecDepth 100000 in
theorem m_by (l : Launch) (E : gE) (L : List Nat) (f : gF) {y : Nat} {ya : Nat → Nat} (my : y ∈ L) (fy : f y = .inr (10, [.int (0 : Int32), .ref (ya 1), .ref (ya 2), .ref (ya 3), .ref (ya 4), .ref (ya 5), .int (0 : Int32), .int (0 : Int32), .int (0 : Int32), .int (0 : Int32), .int (0 : Int32), .long (0 : Int64), .int (0 : Int32), .int (0 : Int32), .int (0 : Int32), .int (-1 : Int32), .ref (ya 16), .ref (ya 17), .ref (ya 18), .ref (ya 19), .ref (ya 20), .ref (ya 21), .int (0 : Int32), .int (0 : Int32), .int (0 : Int32), .ref (ya 25), .ref (ya 26), .ref (ya 27), .ref (ya 28), .ref (ya 29), .ref (ya 30), .ref (ya 31), .ref (ya 32), .ref (ya 33), .ref (ya 34), .ref (ya 35), .int (0 : Int32), .int (0 : Int32), .ref (ya 38), .int (0 : Int32), .int (0 : Int32), .ref (ya 41), .ref (ya 42), .int (0 : Int32), .int (0 : Int32), .int (0 : Int32), .int (0 : Int32), .int (0 : Int32)])) (m_lines : (ya 16) ∈ L) (f_lines : f (ya 16) = .inl (E.2.2 1, 5, .inl (fun _ => 0))) (m_has : (ya 17) ∈ L) (f_has : f (ya 17) = .inl (E.2.2 1, 45, .inl (fun _ => 0))) (p0 : Int32) : gMi l E yX10_by cX10_by 2 .int (gRm 6 0 0) [.ref y, .int p0] L f (fun r _ _ => r = (-2 : Int32)) := by
  refine gMi.intro (by decide) (Nat.le_of_ble_eq_true rfl) ?_
  intro p e s m below meth c A ls C hr hA hH hl
  have C : gC E cX10_by 2 RX10 p s m _ meth c := C
  have hl : lv_has ls 2 [(0, .ref y), (1, .int p0)] := hl
  have hx := C.1
  have hb := C.2.1
  refine lv_aload_n hx hb dX10_by_0 rfl (lv_at hl 0 rfl) ?_
  refine lv_iconst (v := (0 : Int32)) hx hb dX10_by_1 (by decide) ?_
  refine g_put C hH my fy iX10 tyX10 tyX10_ok nmX10 rfl 0 (by decide) wd270 rfl rfl rfl rfl (Nat.le_of_ble_eq_true rfl) (fs' := [.int (0 : Int32), .ref (ya 1), .ref (ya 2), .ref (ya 3), .ref (ya 4), .ref (ya 5), .int (0 : Int32), .int (0 : Int32), .int (0 : Int32), .int (0 : Int32), .int (0 : Int32), .long (0 : Int64), .int (0 : Int32), .int (0 : Int32), .int (0 : Int32), .int (-1 : Int32), .ref (ya 16), .ref (ya 17), .ref (ya 18), .ref (ya 19), .ref (ya 20), .ref (ya 21), .int (0 : Int32), .int (0 : Int32), .int (0 : Int32), .ref (ya 25), .ref (ya 26), .ref (ya 27), .ref (ya 28), .ref (ya 29), .ref (ya 30), .ref (ya 31), .ref (ya 32), .ref (ya 33), .ref (ya 34), .ref (ya 35), .int (0 : Int32), .int (0 : Int32), .ref (ya 38), .int (0 : Int32), .int (0 : Int32), .ref (ya 41), .ref (ya 42), .int (0 : Int32), .int (0 : Int32), .int (0 : Int32), .int (0 : Int32), .int (0 : Int32)]) rfl dX10_by_2 (fun H locs hH => ?_)
  obtain ⟨f1, ef1⟩ : ∃ z : gF, z = va_up f y (.inr (10, [.int (0 : Int32), .ref (ya 1), .ref (ya 2), .ref (ya 3), .ref (ya 4), .ref (ya 5), .int (0 : Int32), .int (0 : Int32), .int (0 : Int32), .int (0 : Int32), .int (0 : Int32), .long (0 : Int64), .int (0 : Int32), .int (0 : Int32), .int (0 : Int32), .int (-1 : Int32), .ref (ya 16), .ref (ya 17), .ref (ya 18), .ref (ya 19), .ref (ya 20), .ref (ya 21), .int (0 : Int32), .int (0 : Int32), .int (0 : Int32), .ref (ya 25), .ref (ya 26), .ref (ya 27), .ref (ya 28), .ref (ya 29), .ref (ya 30), .ref (ya 31), .ref (ya 32), .ref (ya 33), .ref (ya 34), .ref (ya 35), .int (0 : Int32), .int (0 : Int32), .ref (ya 38), .int (0 : Int32), .int (0 : Int32), .ref (ya 41), .ref (ya 42), .int (0 : Int32), .int (0 : Int32), .int (0 : Int32), .int (0 : Int32), .int (0 : Int32)])) := ⟨_, rfl⟩
  have hH : gH E A L f1 s.heap H locs := by rw [ef1]; exact hH
  have h2 : f1 y = .inr (10, [.int (0 : Int32), .ref (ya 1), .ref (ya 2), .ref (ya 3), .ref (ya 4), .ref (ya 5), .int (0 : Int32), .int (0 : Int32), .int (0 : Int32), .int (0 : Int32), .int (0 : Int32), .long (0 : Int64), .int (0 : Int32), .int (0 : Int32), .int (0 : Int32), .int (-1 : Int32), .ref (ya 16), .ref (ya 17), .ref (ya 18), .ref (ya 19), .ref (ya 20), .ref (ya 21), .int (0 : Int32), .int (0 : Int32), .int (0 : Int32), .ref (ya 25), .ref (ya 26), .ref (ya 27), .ref (ya 28), .ref (ya 29), .ref (ya 30), .ref (ya 31), .ref (ya 32), .ref (ya 33), .ref (ya 34), .ref (ya 35), .int (0 : Int32), .int (0 : Int32), .ref (ya 38), .int (0 : Int32), .int (0 : Int32), .ref (ya 41), .ref (ya 42), .int (0 : Int32), .int (0 : Int32), .int (0 : Int32), .int (0 : Int32), .int (0 : Int32)]) := (congrFun ef1 y).trans (va_up_self _ _ _)
  refine lv_aload_n hx hb dX10_by_5 rfl (lv_at hl 0 rfl) ?_
  refine lv_iload_n hx hb dX10_by_6 rfl (lv_at hl 1 rfl) ?_
  have h3 : f1 (ya 16) = .inl (E.2.2 1, 5, .inl (fun _ => 0)) := ((congrFun ef1 (ya 16)).trans (va_up_ne _ _ (g_neAO f_lines fy))).trans f_lines
  have h4 : f1 (ya 17) = .inl (E.2.2 1, 45, .inl (fun _ => 0)) := ((congrFun ef1 (ya 17)).trans (va_up_ne _ _ (g_neAO f_has fy))).trans f_has
  refine g_Vi C hl.1 hA hH (As := [.int p0]) (rest := []) (m_isLaw l E L f1 my h2 m_lines h3 m_has h4 p0) my_X10_isLaw wd290 my h2 rfl rfl rfl (Nat.le_of_ble_eq_true rfl) ⟨Nat.le_of_ble_eq_true rfl, Nat.le_of_ble_eq_true rfl⟩ ⟨Nat.le_of_ble_eq_true rfl, Nat.le_of_ble_eq_true rfl⟩ dX10_by_7 (fun r7 L6 f5 H locs hp hH => ?_)
  obtain ⟨er7, rfl, rfl⟩ := hp
  subst er7
  refine lv_if_eq (tgt := 21) hx hb dX10_by_10 (by decide) (fun _ => ?_) (fun h => absurd (by decide) h)
  refine lv_bipush (v := (-2 : Int32)) hx hb dX10_by_21 (by decide) ?_
  refine g_iret C hr hH (Nat.le_of_ble_eq_true rfl) (Nat.le_of_ble_eq_true rfl) dX10_by_23 ?_
  exact rfl
set_option maxHeartbeats 4000000 in
set_option maxRecDepth 100000 in
theorem m_law (l : Launch) (E : gE) (L : List Nat) (f : gF) {y : Nat} {ya : Nat → Nat} (my : y ∈ L) (fy : f y = .inr (10, [.int (0 : Int32), .ref (ya 1), .ref (ya 2), .ref (ya 3), .ref (ya 4), .ref (ya 5), .int (0 : Int32), .int (0 : Int32), .int (0 : Int32), .int (0 : Int32), .int (0 : Int32), .long (0 : Int64), .int (0 : Int32), .int (0 : Int32), .int (0 : Int32), .int (-1 : Int32), .ref (ya 16), .ref (ya 17), .ref (ya 18), .ref (ya 19), .ref (ya 20), .ref (ya 21), .int (0 : Int32), .int (0 : Int32), .int (0 : Int32), .ref (ya 25), .ref (ya 26), .ref (ya 27), .ref (ya 28), .ref (ya 29), .ref (ya 30), .ref (ya 31), .ref (ya 32), .ref (ya 33), .ref (ya 34), .ref (ya 35), .int (0 : Int32), .int (0 : Int32), .ref (ya 38), .int (0 : Int32), .int (0 : Int32), .ref (ya 41), .ref (ya 42), .int (0 : Int32), .int (0 : Int32), .int (0 : Int32), .int (0 : Int32), .int (0 : Int32)])) (m_lines : (ya 16) ∈ L) (f_lines : f (ya 16) = .inl (E.2.2 1, 5, .inl (fun _ => 0))) (m_has : (ya 17) ∈ L) (f_has : f (ya 17) = .inl (E.2.2 1, 45, .inl (fun _ => 0))) : gMi l E yX10_law cX10_law 3 .int (gRm 6 0 0) [.ref y] L f (fun r _ _ => r = (-2 : Int32)) := by
  refine gMi.intro (by decide) (Nat.le_of_ble_eq_true rfl) ?_
  intro p e s m below meth c A ls C hr hA hH hl
  have C : gC E cX10_law 3 RX10 p s m _ meth c := C
  have hl : lv_has ls 3 [(0, .ref y)] := hl
  have hx := C.1
  have hb := C.2.1
  refine lv_aload_n hx hb dX10_law_0 rfl (lv_at hl 0 rfl) ?_
  refine lv_iconst (v := (0 : Int32)) hx hb dX10_law_1 (by decide) ?_
  refine g_put C hH my fy iX10 tyX10 tyX10_ok nmX10 rfl 0 (by decide) wd270 rfl rfl rfl rfl (Nat.le_of_ble_eq_true rfl) (fs' := [.int (0 : Int32), .ref (ya 1), .ref (ya 2), .ref (ya 3), .ref (ya 4), .ref (ya 5), .int (0 : Int32), .int (0 : Int32), .int (0 : Int32), .int (0 : Int32), .int (0 : Int32), .long (0 : Int64), .int (0 : Int32), .int (0 : Int32), .int (0 : Int32), .int (-1 : Int32), .ref (ya 16), .ref (ya 17), .ref (ya 18), .ref (ya 19), .ref (ya 20), .ref (ya 21), .int (0 : Int32), .int (0 : Int32), .int (0 : Int32), .ref (ya 25), .ref (ya 26), .ref (ya 27), .ref (ya 28), .ref (ya 29), .ref (ya 30), .ref (ya 31), .ref (ya 32), .ref (ya 33), .ref (ya 34), .ref (ya 35), .int (0 : Int32), .int (0 : Int32), .ref (ya 38), .int (0 : Int32), .int (0 : Int32), .ref (ya 41), .ref (ya 42), .int (0 : Int32), .int (0 : Int32), .int (0 : Int32), .int (0 : Int32), .int (0 : Int32)]) rfl dX10_law_2 (fun H locs hH => ?_)
  obtain ⟨f1, ef1⟩ : ∃ z : gF, z = va_up f y (.inr (10, [.int (0 : Int32), .ref (ya 1), .ref (ya 2), .ref (ya 3), .ref (ya 4), .ref (ya 5), .int (0 : Int32), .int (0 : Int32), .int (0 : Int32), .int (0 : Int32), .int (0 : Int32), .long (0 : Int64), .int (0 : Int32), .int (0 : Int32), .int (0 : Int32), .int (-1 : Int32), .ref (ya 16), .ref (ya 17), .ref (ya 18), .ref (ya 19), .ref (ya 20), .ref (ya 21), .int (0 : Int32), .int (0 : Int32), .int (0 : Int32), .ref (ya 25), .ref (ya 26), .ref (ya 27), .ref (ya 28), .ref (ya 29), .ref (ya 30), .ref (ya 31), .ref (ya 32), .ref (ya 33), .ref (ya 34), .ref (ya 35), .int (0 : Int32), .int (0 : Int32), .ref (ya 38), .int (0 : Int32), .int (0 : Int32), .ref (ya 41), .ref (ya 42), .int (0 : Int32), .int (0 : Int32), .int (0 : Int32), .int (0 : Int32), .int (0 : Int32)])) := ⟨_, rfl⟩
  have hH : gH E A L f1 s.heap H locs := by rw [ef1]; exact hH
  have h2 : f1 y = .inr (10, [.int (0 : Int32), .ref (ya 1), .ref (ya 2), .ref (ya 3), .ref (ya 4), .ref (ya 5), .int (0 : Int32), .int (0 : Int32), .int (0 : Int32), .int (0 : Int32), .int (0 : Int32), .long (0 : Int64), .int (0 : Int32), .int (0 : Int32), .int (0 : Int32), .int (-1 : Int32), .ref (ya 16), .ref (ya 17), .ref (ya 18), .ref (ya 19), .ref (ya 20), .ref (ya 21), .int (0 : Int32), .int (0 : Int32), .int (0 : Int32), .ref (ya 25), .ref (ya 26), .ref (ya 27), .ref (ya 28), .ref (ya 29), .ref (ya 30), .ref (ya 31), .ref (ya 32), .ref (ya 33), .ref (ya 34), .ref (ya 35), .int (0 : Int32), .int (0 : Int32), .ref (ya 38), .int (0 : Int32), .int (0 : Int32), .ref (ya 41), .ref (ya 42), .int (0 : Int32), .int (0 : Int32), .int (0 : Int32), .int (0 : Int32), .int (0 : Int32)]) := (congrFun ef1 y).trans (va_up_self _ _ _)
  refine lv_aload_n hx hb dX10_law_5 rfl (lv_at hl 0 rfl) ?_
  have h3 : f1 (ya 16) = .inl (E.2.2 1, 5, .inl (fun _ => 0)) := ((congrFun ef1 (ya 16)).trans (va_up_ne _ _ (g_neAO f_lines fy))).trans f_lines
  have h4 : f1 (ya 17) = .inl (E.2.2 1, 45, .inl (fun _ => 0)) := ((congrFun ef1 (ya 17)).trans (va_up_ne _ _ (g_neAO f_has fy))).trans f_has
  refine g_Vi C hl.1 hA hH (As := []) (rest := []) (m_isLand l E L f1 my h2 m_lines h3 m_has h4) my_X10_isLand wd266 my h2 rfl rfl rfl (Nat.le_of_ble_eq_true rfl) ⟨Nat.le_of_ble_eq_true rfl, Nat.le_of_ble_eq_true rfl⟩ ⟨Nat.le_of_ble_eq_true rfl, Nat.le_of_ble_eq_true rfl⟩ dX10_law_6 (fun r7 L6 f5 H locs hp hH => ?_)
  obtain ⟨er7, rfl, rfl⟩ := hp
  subst er7
  refine lv_if_ne (tgt := 15) hx hb dX10_law_9 (by decide) (fun h => absurd (by decide) h) (fun _ => ?_)
  refine lv_bipush (v := (-2 : Int32)) hx hb dX10_law_12 (by decide) ?_
  refine g_iret C hr hH (Nat.le_of_ble_eq_true rfl) (Nat.le_of_ble_eq_true rfl) dX10_law_14 ?_
  exact rfl
set_option maxHeartbeats 4000000 in
set_option maxRecDepth 100000 in
theorem m_laws (l : Launch) (E : gE) (L : List Nat) (f : gF) {y : Nat} {ya : Nat → Nat} (my : y ∈ L) (fy : f y = .inr (10, [.int (0 : Int32), .ref (ya 1), .ref (ya 2), .ref (ya 3), .ref (ya 4), .ref (ya 5), .int (0 : Int32), .int (0 : Int32), .int (0 : Int32), .int (0 : Int32), .int (0 : Int32), .long (0 : Int64), .int (0 : Int32), .int (0 : Int32), .int (0 : Int32), .int (-1 : Int32), .ref (ya 16), .ref (ya 17), .ref (ya 18), .ref (ya 19), .ref (ya 20), .ref (ya 21), .int (0 : Int32), .int (0 : Int32), .int (0 : Int32), .ref (ya 25), .ref (ya 26), .ref (ya 27), .ref (ya 28), .ref (ya 29), .ref (ya 30), .ref (ya 31), .ref (ya 32), .ref (ya 33), .ref (ya 34), .ref (ya 35), .int (0 : Int32), .int (0 : Int32), .ref (ya 38), .int (0 : Int32), .int (0 : Int32), .ref (ya 41), .ref (ya 42), .int (0 : Int32), .int (0 : Int32), .int (0 : Int32), .int (0 : Int32), .int (0 : Int32)])) (m_lines : (ya 16) ∈ L) (f_lines : f (ya 16) = .inl (E.2.2 1, 5, .inl (fun _ => 0))) (m_has : (ya 17) ∈ L) (f_has : f (ya 17) = .inl (E.2.2 1, 45, .inl (fun _ => 0))) (p0 : Int32) : gMi l E yX10_laws cX10_laws 3 .int (gRm 6 0 0) [.ref y, .int p0] L f (fun r _ _ => r = (-2 : Int32)) := by
  refine gMi.intro (by decide) (Nat.le_of_ble_eq_true rfl) ?_
  intro p e s m below meth c A ls C hr hA hH hl
  have C : gC E cX10_laws 3 RX10 p s m _ meth c := C
  have hl : lv_has ls 3 [(0, .ref y), (1, .int p0)] := hl
  have hx := C.1
  have hb := C.2.1
  refine lv_aload_n hx hb dX10_laws_0 rfl (lv_at hl 0 rfl) ?_
  refine lv_iconst (v := (0 : Int32)) hx hb dX10_laws_1 (by decide) ?_
  refine g_put C hH my fy iX10 tyX10 tyX10_ok nmX10 rfl 0 (by decide) wd270 rfl rfl rfl rfl (Nat.le_of_ble_eq_true rfl) (fs' := [.int (0 : Int32), .ref (ya 1), .ref (ya 2), .ref (ya 3), .ref (ya 4), .ref (ya 5), .int (0 : Int32), .int (0 : Int32), .int (0 : Int32), .int (0 : Int32), .int (0 : Int32), .long (0 : Int64), .int (0 : Int32), .int (0 : Int32), .int (0 : Int32), .int (-1 : Int32), .ref (ya 16), .ref (ya 17), .ref (ya 18), .ref (ya 19), .ref (ya 20), .ref (ya 21), .int (0 : Int32), .int (0 : Int32), .int (0 : Int32), .ref (ya 25), .ref (ya 26), .ref (ya 27), .ref (ya 28), .ref (ya 29), .ref (ya 30), .ref (ya 31), .ref (ya 32), .ref (ya 33), .ref (ya 34), .ref (ya 35), .int (0 : Int32), .int (0 : Int32), .ref (ya 38), .int (0 : Int32), .int (0 : Int32), .ref (ya 41), .ref (ya 42), .int (0 : Int32), .int (0 : Int32), .int (0 : Int32), .int (0 : Int32), .int (0 : Int32)]) rfl dX10_laws_2 (fun H locs hH => ?_)
  obtain ⟨f1, ef1⟩ : ∃ z : gF, z = va_up f y (.inr (10, [.int (0 : Int32), .ref (ya 1), .ref (ya 2), .ref (ya 3), .ref (ya 4), .ref (ya 5), .int (0 : Int32), .int (0 : Int32), .int (0 : Int32), .int (0 : Int32), .int (0 : Int32), .long (0 : Int64), .int (0 : Int32), .int (0 : Int32), .int (0 : Int32), .int (-1 : Int32), .ref (ya 16), .ref (ya 17), .ref (ya 18), .ref (ya 19), .ref (ya 20), .ref (ya 21), .int (0 : Int32), .int (0 : Int32), .int (0 : Int32), .ref (ya 25), .ref (ya 26), .ref (ya 27), .ref (ya 28), .ref (ya 29), .ref (ya 30), .ref (ya 31), .ref (ya 32), .ref (ya 33), .ref (ya 34), .ref (ya 35), .int (0 : Int32), .int (0 : Int32), .ref (ya 38), .int (0 : Int32), .int (0 : Int32), .ref (ya 41), .ref (ya 42), .int (0 : Int32), .int (0 : Int32), .int (0 : Int32), .int (0 : Int32), .int (0 : Int32)])) := ⟨_, rfl⟩
  have hH : gH E A L f1 s.heap H locs := by rw [ef1]; exact hH
  have h2 : f1 y = .inr (10, [.int (0 : Int32), .ref (ya 1), .ref (ya 2), .ref (ya 3), .ref (ya 4), .ref (ya 5), .int (0 : Int32), .int (0 : Int32), .int (0 : Int32), .int (0 : Int32), .int (0 : Int32), .long (0 : Int64), .int (0 : Int32), .int (0 : Int32), .int (0 : Int32), .int (-1 : Int32), .ref (ya 16), .ref (ya 17), .ref (ya 18), .ref (ya 19), .ref (ya 20), .ref (ya 21), .int (0 : Int32), .int (0 : Int32), .int (0 : Int32), .ref (ya 25), .ref (ya 26), .ref (ya 27), .ref (ya 28), .ref (ya 29), .ref (ya 30), .ref (ya 31), .ref (ya 32), .ref (ya 33), .ref (ya 34), .ref (ya 35), .int (0 : Int32), .int (0 : Int32), .ref (ya 38), .int (0 : Int32), .int (0 : Int32), .ref (ya 41), .ref (ya 42), .int (0 : Int32), .int (0 : Int32), .int (0 : Int32), .int (0 : Int32), .int (0 : Int32)]) := (congrFun ef1 y).trans (va_up_self _ _ _)
  refine lv_aload_n hx hb dX10_laws_5 rfl (lv_at hl 0 rfl) ?_
  refine lv_iload_n hx hb dX10_laws_6 rfl (lv_at hl 1 rfl) ?_
  have h3 : f1 (ya 16) = .inl (E.2.2 1, 5, .inl (fun _ => 0)) := ((congrFun ef1 (ya 16)).trans (va_up_ne _ _ (g_neAO f_lines fy))).trans f_lines
  have h4 : f1 (ya 17) = .inl (E.2.2 1, 45, .inl (fun _ => 0)) := ((congrFun ef1 (ya 17)).trans (va_up_ne _ _ (g_neAO f_has fy))).trans f_has
  refine g_Vi C hl.1 hA hH (As := [.int p0]) (rest := []) (m_whyNotLaws l E L f1 my h2 m_lines h3 m_has h4 p0) my_X10_whyNotLaws wd294 my h2 rfl rfl rfl (Nat.le_of_ble_eq_true rfl) ⟨Nat.le_of_ble_eq_true rfl, Nat.le_of_ble_eq_true rfl⟩ ⟨Nat.le_of_ble_eq_true rfl, Nat.le_of_ble_eq_true rfl⟩ dX10_laws_7 (fun r7 L6 f5 H locs hp hH => ?_)
  obtain ⟨er7, rfl, rfl⟩ := hp
  subst er7
  refine lv_istore_n (lv' := [(2, .int (-2 : Int32)), (0, .ref y), (1, .int p0)]) hx hb dX10_laws_10 rfl hl (by decide) rfl (fun ls hl => ?_)
  refine lv_iload_n hx hb dX10_laws_11 rfl (lv_at hl 0 rfl) ?_
  refine lv_if_eq (tgt := 19) hx hb dX10_laws_12 (by decide) (fun h => absurd h (by decide)) (fun _ => ?_)
  refine lv_iload_n hx hb dX10_laws_15 rfl (lv_at hl 0 rfl) ?_
  refine lv_goto (tgt := 24) hx hb dX10_laws_16 (by decide) ?_
  refine g_iret C hr hH (Nat.le_of_ble_eq_true rfl) (Nat.le_of_ble_eq_true rfl) dX10_laws_24 ?_
  exact rfl
set_option maxHeartbeats 4000000 in
set_option maxRecDepth 100000 in
theorem m_ask (l : Launch) (E : gE) (L : List Nat) (f : gF) {y : Nat} {ya : Nat → Nat} (my : y ∈ L) (fy : f y = .inr (10, [.int (0 : Int32), .ref (ya 1), .ref (ya 2), .ref (ya 3), .ref (ya 4), .ref (ya 5), .int (0 : Int32), .int (0 : Int32), .int (0 : Int32), .int (0 : Int32), .int (0 : Int32), .long (0 : Int64), .int (0 : Int32), .int (0 : Int32), .int (0 : Int32), .int (-1 : Int32), .ref (ya 16), .ref (ya 17), .ref (ya 18), .ref (ya 19), .ref (ya 20), .ref (ya 21), .int (0 : Int32), .int (0 : Int32), .int (0 : Int32), .ref (ya 25), .ref (ya 26), .ref (ya 27), .ref (ya 28), .ref (ya 29), .ref (ya 30), .ref (ya 31), .ref (ya 32), .ref (ya 33), .ref (ya 34), .ref (ya 35), .int (0 : Int32), .int (0 : Int32), .ref (ya 38), .int (0 : Int32), .int (0 : Int32), .ref (ya 41), .ref (ya 42), .int (0 : Int32), .int (0 : Int32), .int (0 : Int32), .int (0 : Int32), .int (0 : Int32)])) (m_lines : (ya 16) ∈ L) (f_lines : f (ya 16) = .inl (E.2.2 1, 5, .inl (fun _ => 0))) (m_has : (ya 17) ∈ L) (f_has : f (ya 17) = .inl (E.2.2 1, 45, .inl (fun _ => 0))) (p0 : Int32) : gMi l E yX10_ask cX10_ask 10 .int (gRm 6 0 0) [.ref y, .int p0] L f (fun r _ _ => r = (-2 : Int32)) := by
  refine gMi.intro (by decide) (Nat.le_of_ble_eq_true rfl) ?_
  intro p e s m below meth c A ls C hr hA hH hl
  have C : gC E cX10_ask 10 RX10 p s m _ meth c := C
  have hl : lv_has ls 10 [(0, .ref y), (1, .int p0)] := hl
  have hx := C.1
  have hb := C.2.1
  refine lv_aload_n hx hb dX10_ask_0 rfl (lv_at hl 0 rfl) ?_
  refine lv_iconst (v := (0 : Int32)) hx hb dX10_ask_1 (by decide) ?_
  refine g_put C hH my fy iX10 tyX10 tyX10_ok nmX10 rfl 0 (by decide) wd270 rfl rfl rfl rfl (Nat.le_of_ble_eq_true rfl) (fs' := [.int (0 : Int32), .ref (ya 1), .ref (ya 2), .ref (ya 3), .ref (ya 4), .ref (ya 5), .int (0 : Int32), .int (0 : Int32), .int (0 : Int32), .int (0 : Int32), .int (0 : Int32), .long (0 : Int64), .int (0 : Int32), .int (0 : Int32), .int (0 : Int32), .int (-1 : Int32), .ref (ya 16), .ref (ya 17), .ref (ya 18), .ref (ya 19), .ref (ya 20), .ref (ya 21), .int (0 : Int32), .int (0 : Int32), .int (0 : Int32), .ref (ya 25), .ref (ya 26), .ref (ya 27), .ref (ya 28), .ref (ya 29), .ref (ya 30), .ref (ya 31), .ref (ya 32), .ref (ya 33), .ref (ya 34), .ref (ya 35), .int (0 : Int32), .int (0 : Int32), .ref (ya 38), .int (0 : Int32), .int (0 : Int32), .ref (ya 41), .ref (ya 42), .int (0 : Int32), .int (0 : Int32), .int (0 : Int32), .int (0 : Int32), .int (0 : Int32)]) rfl dX10_ask_2 (fun H locs hH => ?_)
  obtain ⟨f1, ef1⟩ : ∃ z : gF, z = va_up f y (.inr (10, [.int (0 : Int32), .ref (ya 1), .ref (ya 2), .ref (ya 3), .ref (ya 4), .ref (ya 5), .int (0 : Int32), .int (0 : Int32), .int (0 : Int32), .int (0 : Int32), .int (0 : Int32), .long (0 : Int64), .int (0 : Int32), .int (0 : Int32), .int (0 : Int32), .int (-1 : Int32), .ref (ya 16), .ref (ya 17), .ref (ya 18), .ref (ya 19), .ref (ya 20), .ref (ya 21), .int (0 : Int32), .int (0 : Int32), .int (0 : Int32), .ref (ya 25), .ref (ya 26), .ref (ya 27), .ref (ya 28), .ref (ya 29), .ref (ya 30), .ref (ya 31), .ref (ya 32), .ref (ya 33), .ref (ya 34), .ref (ya 35), .int (0 : Int32), .int (0 : Int32), .ref (ya 38), .int (0 : Int32), .int (0 : Int32), .ref (ya 41), .ref (ya 42), .int (0 : Int32), .int (0 : Int32), .int (0 : Int32), .int (0 : Int32), .int (0 : Int32)])) := ⟨_, rfl⟩
  have hH : gH E A L f1 s.heap H locs := by rw [ef1]; exact hH
  have h2 : f1 y = .inr (10, [.int (0 : Int32), .ref (ya 1), .ref (ya 2), .ref (ya 3), .ref (ya 4), .ref (ya 5), .int (0 : Int32), .int (0 : Int32), .int (0 : Int32), .int (0 : Int32), .int (0 : Int32), .long (0 : Int64), .int (0 : Int32), .int (0 : Int32), .int (0 : Int32), .int (-1 : Int32), .ref (ya 16), .ref (ya 17), .ref (ya 18), .ref (ya 19), .ref (ya 20), .ref (ya 21), .int (0 : Int32), .int (0 : Int32), .int (0 : Int32), .ref (ya 25), .ref (ya 26), .ref (ya 27), .ref (ya 28), .ref (ya 29), .ref (ya 30), .ref (ya 31), .ref (ya 32), .ref (ya 33), .ref (ya 34), .ref (ya 35), .int (0 : Int32), .int (0 : Int32), .ref (ya 38), .int (0 : Int32), .int (0 : Int32), .ref (ya 41), .ref (ya 42), .int (0 : Int32), .int (0 : Int32), .int (0 : Int32), .int (0 : Int32), .int (0 : Int32)]) := (congrFun ef1 y).trans (va_up_self _ _ _)
  refine lv_aload_n hx hb dX10_ask_5 rfl (lv_at hl 0 rfl) ?_
  refine lv_iload_n hx hb dX10_ask_6 rfl (lv_at hl 1 rfl) ?_
  have h3 : f1 (ya 16) = .inl (E.2.2 1, 5, .inl (fun _ => 0)) := ((congrFun ef1 (ya 16)).trans (va_up_ne _ _ (g_neAO f_lines fy))).trans f_lines
  have h4 : f1 (ya 17) = .inl (E.2.2 1, 45, .inl (fun _ => 0)) := ((congrFun ef1 (ya 17)).trans (va_up_ne _ _ (g_neAO f_has fy))).trans f_has
  refine g_Vi C hl.1 hA hH (As := [.int p0]) (rest := []) (m_whyNotLaws l E L f1 my h2 m_lines h3 m_has h4 p0) my_X10_whyNotLaws wd294 my h2 rfl rfl rfl (Nat.le_of_ble_eq_true rfl) ⟨Nat.le_of_ble_eq_true rfl, Nat.le_of_ble_eq_true rfl⟩ ⟨Nat.le_of_ble_eq_true rfl, Nat.le_of_ble_eq_true rfl⟩ dX10_ask_7 (fun r7 L6 f5 H locs hp hH => ?_)
  obtain ⟨er7, rfl, rfl⟩ := hp
  subst er7
  refine lv_istore_n (lv' := [(2, .int (-2 : Int32)), (0, .ref y), (1, .int p0)]) hx hb dX10_ask_10 rfl hl (by decide) rfl (fun ls hl => ?_)
  refine lv_iload_n hx hb dX10_ask_11 rfl (lv_at hl 0 rfl) ?_
  refine lv_if_eq (tgt := 17) hx hb dX10_ask_12 (by decide) (fun h => absurd h (by decide)) (fun _ => ?_)
  refine lv_iload_n hx hb dX10_ask_15 rfl (lv_at hl 0 rfl) ?_
  refine g_iret C hr hH (Nat.le_of_ble_eq_true rfl) (Nat.le_of_ble_eq_true rfl) dX10_ask_16 ?_
  exact rfl
set_option maxHeartbeats 4000000 in
set_option maxRecDepth 100000 in
theorem m_began (l : Launch) (E : gE) (L : List Nat) (f : gF) {y : Nat} {ya : Nat → Nat} (my : y ∈ L) (fy : f y = .inr (10, [.int (0 : Int32), .ref (ya 1), .ref (ya 2), .ref (ya 3), .ref (ya 4), .ref (ya 5), .int (0 : Int32), .int (0 : Int32), .int (0 : Int32), .int (0 : Int32), .int (0 : Int32), .long (0 : Int64), .int (0 : Int32), .int (0 : Int32), .int (0 : Int32), .int (-1 : Int32), .ref (ya 16), .ref (ya 17), .ref (ya 18), .ref (ya 19), .ref (ya 20), .ref (ya 21), .int (0 : Int32), .int (0 : Int32), .int (0 : Int32), .ref (ya 25), .ref (ya 26), .ref (ya 27), .ref (ya 28), .ref (ya 29), .ref (ya 30), .ref (ya 31), .ref (ya 32), .ref (ya 33), .ref (ya 34), .ref (ya 35), .int (0 : Int32), .int (0 : Int32), .ref (ya 38), .int (0 : Int32), .int (0 : Int32), .ref (ya 41), .ref (ya 42), .int (0 : Int32), .int (0 : Int32), .int (0 : Int32), .int (0 : Int32), .int (0 : Int32)])) (m_lines : (ya 16) ∈ L) (f_lines : f (ya 16) = .inl (E.2.2 1, 5, .inl (fun _ => 0))) (m_has : (ya 17) ∈ L) (f_has : f (ya 17) = .inl (E.2.2 1, 45, .inl (fun _ => 0))) (p0 : Int32) : gMi l E yX10_began cX10_began 3 .int (gRm 6 0 0) [.ref y, .int p0] L f (fun r _ _ => r = (-2 : Int32)) := by
  refine gMi.intro (by decide) (Nat.le_of_ble_eq_true rfl) ?_
  intro p e s m below meth c A ls C hr hA hH hl
  have C : gC E cX10_began 3 RX10 p s m _ meth c := C
  have hl : lv_has ls 3 [(0, .ref y), (1, .int p0)] := hl
  have hx := C.1
  have hb := C.2.1
  refine lv_aload_n hx hb dX10_began_0 rfl (lv_at hl 0 rfl) ?_
  refine lv_iconst (v := (0 : Int32)) hx hb dX10_began_1 (by decide) ?_
  refine g_put C hH my fy iX10 tyX10 tyX10_ok nmX10 rfl 0 (by decide) wd270 rfl rfl rfl rfl (Nat.le_of_ble_eq_true rfl) (fs' := [.int (0 : Int32), .ref (ya 1), .ref (ya 2), .ref (ya 3), .ref (ya 4), .ref (ya 5), .int (0 : Int32), .int (0 : Int32), .int (0 : Int32), .int (0 : Int32), .int (0 : Int32), .long (0 : Int64), .int (0 : Int32), .int (0 : Int32), .int (0 : Int32), .int (-1 : Int32), .ref (ya 16), .ref (ya 17), .ref (ya 18), .ref (ya 19), .ref (ya 20), .ref (ya 21), .int (0 : Int32), .int (0 : Int32), .int (0 : Int32), .ref (ya 25), .ref (ya 26), .ref (ya 27), .ref (ya 28), .ref (ya 29), .ref (ya 30), .ref (ya 31), .ref (ya 32), .ref (ya 33), .ref (ya 34), .ref (ya 35), .int (0 : Int32), .int (0 : Int32), .ref (ya 38), .int (0 : Int32), .int (0 : Int32), .ref (ya 41), .ref (ya 42), .int (0 : Int32), .int (0 : Int32), .int (0 : Int32), .int (0 : Int32), .int (0 : Int32)]) rfl dX10_began_2 (fun H locs hH => ?_)
  obtain ⟨f1, ef1⟩ : ∃ z : gF, z = va_up f y (.inr (10, [.int (0 : Int32), .ref (ya 1), .ref (ya 2), .ref (ya 3), .ref (ya 4), .ref (ya 5), .int (0 : Int32), .int (0 : Int32), .int (0 : Int32), .int (0 : Int32), .int (0 : Int32), .long (0 : Int64), .int (0 : Int32), .int (0 : Int32), .int (0 : Int32), .int (-1 : Int32), .ref (ya 16), .ref (ya 17), .ref (ya 18), .ref (ya 19), .ref (ya 20), .ref (ya 21), .int (0 : Int32), .int (0 : Int32), .int (0 : Int32), .ref (ya 25), .ref (ya 26), .ref (ya 27), .ref (ya 28), .ref (ya 29), .ref (ya 30), .ref (ya 31), .ref (ya 32), .ref (ya 33), .ref (ya 34), .ref (ya 35), .int (0 : Int32), .int (0 : Int32), .ref (ya 38), .int (0 : Int32), .int (0 : Int32), .ref (ya 41), .ref (ya 42), .int (0 : Int32), .int (0 : Int32), .int (0 : Int32), .int (0 : Int32), .int (0 : Int32)])) := ⟨_, rfl⟩
  have hH : gH E A L f1 s.heap H locs := by rw [ef1]; exact hH
  have h2 : f1 y = .inr (10, [.int (0 : Int32), .ref (ya 1), .ref (ya 2), .ref (ya 3), .ref (ya 4), .ref (ya 5), .int (0 : Int32), .int (0 : Int32), .int (0 : Int32), .int (0 : Int32), .int (0 : Int32), .long (0 : Int64), .int (0 : Int32), .int (0 : Int32), .int (0 : Int32), .int (-1 : Int32), .ref (ya 16), .ref (ya 17), .ref (ya 18), .ref (ya 19), .ref (ya 20), .ref (ya 21), .int (0 : Int32), .int (0 : Int32), .int (0 : Int32), .ref (ya 25), .ref (ya 26), .ref (ya 27), .ref (ya 28), .ref (ya 29), .ref (ya 30), .ref (ya 31), .ref (ya 32), .ref (ya 33), .ref (ya 34), .ref (ya 35), .int (0 : Int32), .int (0 : Int32), .ref (ya 38), .int (0 : Int32), .int (0 : Int32), .ref (ya 41), .ref (ya 42), .int (0 : Int32), .int (0 : Int32), .int (0 : Int32), .int (0 : Int32), .int (0 : Int32)]) := (congrFun ef1 y).trans (va_up_self _ _ _)
  refine lv_aload_n hx hb dX10_began_5 rfl (lv_at hl 0 rfl) ?_
  refine lv_iload_n hx hb dX10_began_6 rfl (lv_at hl 1 rfl) ?_
  have h3 : f1 (ya 16) = .inl (E.2.2 1, 5, .inl (fun _ => 0)) := ((congrFun ef1 (ya 16)).trans (va_up_ne _ _ (g_neAO f_lines fy))).trans f_lines
  have h4 : f1 (ya 17) = .inl (E.2.2 1, 45, .inl (fun _ => 0)) := ((congrFun ef1 (ya 17)).trans (va_up_ne _ _ (g_neAO f_has fy))).trans f_has
  refine g_Vi C hl.1 hA hH (As := [.int p0]) (rest := []) (m_whyNotBegan l E L f1 my h2 m_lines h3 m_has h4 p0) my_X10_whyNotBegan wd298 my h2 rfl rfl rfl (Nat.le_of_ble_eq_true rfl) ⟨Nat.le_of_ble_eq_true rfl, Nat.le_of_ble_eq_true rfl⟩ ⟨Nat.le_of_ble_eq_true rfl, Nat.le_of_ble_eq_true rfl⟩ dX10_began_7 (fun r7 L6 f5 H locs hp hH => ?_)
  obtain ⟨er7, rfl, rfl⟩ := hp
  subst er7
  refine lv_istore_n (lv' := [(2, .int (-2 : Int32)), (0, .ref y), (1, .int p0)]) hx hb dX10_began_10 rfl hl (by decide) rfl (fun ls hl => ?_)
  refine lv_iload_n hx hb dX10_began_11 rfl (lv_at hl 0 rfl) ?_
  refine lv_if_eq (tgt := 17) hx hb dX10_began_12 (by decide) (fun h => absurd h (by decide)) (fun _ => ?_)
  refine lv_iload_n hx hb dX10_began_15 rfl (lv_at hl 0 rfl) ?_
  refine g_iret C hr hH (Nat.le_of_ble_eq_true rfl) (Nat.le_of_ble_eq_true rfl) dX10_began_16 ?_
  exact rfl
set_option maxHeartbeats 4000000 in
set_option maxRecDepth 100000 in
theorem m_spots (l : Launch) (E : gE) (L : List Nat) (f : gF) {y : Nat} {ya : Nat → Nat} (my : y ∈ L) (fy : f y = .inr (10, [.int (0 : Int32), .ref (ya 1), .ref (ya 2), .ref (ya 3), .ref (ya 4), .ref (ya 5), .int (0 : Int32), .int (0 : Int32), .int (0 : Int32), .int (0 : Int32), .int (0 : Int32), .long (0 : Int64), .int (0 : Int32), .int (0 : Int32), .int (0 : Int32), .int (-1 : Int32), .ref (ya 16), .ref (ya 17), .ref (ya 18), .ref (ya 19), .ref (ya 20), .ref (ya 21), .int (0 : Int32), .int (0 : Int32), .int (0 : Int32), .ref (ya 25), .ref (ya 26), .ref (ya 27), .ref (ya 28), .ref (ya 29), .ref (ya 30), .ref (ya 31), .ref (ya 32), .ref (ya 33), .ref (ya 34), .ref (ya 35), .int (0 : Int32), .int (0 : Int32), .ref (ya 38), .int (0 : Int32), .int (0 : Int32), .ref (ya 41), .ref (ya 42), .int (0 : Int32), .int (0 : Int32), .int (0 : Int32), .int (0 : Int32), .int (0 : Int32)])) (m_lines : (ya 16) ∈ L) (f_lines : f (ya 16) = .inl (E.2.2 1, 5, .inl (fun _ => 0))) (m_has : (ya 17) ∈ L) (f_has : f (ya 17) = .inl (E.2.2 1, 45, .inl (fun _ => 0))) (p0 : Int32) : gMi l E yX10_spots cX10_spots 3 .int (gRm 6 0 0) [.ref y, .int p0] L f (fun r _ _ => r = (-2 : Int32)) := by
  refine gMi.intro (by decide) (Nat.le_of_ble_eq_true rfl) ?_
  intro p e s m below meth c A ls C hr hA hH hl
  have C : gC E cX10_spots 3 RX10 p s m _ meth c := C
  have hl : lv_has ls 3 [(0, .ref y), (1, .int p0)] := hl
  have hx := C.1
  have hb := C.2.1
  refine lv_aload_n hx hb dX10_spots_0 rfl (lv_at hl 0 rfl) ?_
  refine lv_iconst (v := (0 : Int32)) hx hb dX10_spots_1 (by decide) ?_
  refine g_put C hH my fy iX10 tyX10 tyX10_ok nmX10 rfl 0 (by decide) wd270 rfl rfl rfl rfl (Nat.le_of_ble_eq_true rfl) (fs' := [.int (0 : Int32), .ref (ya 1), .ref (ya 2), .ref (ya 3), .ref (ya 4), .ref (ya 5), .int (0 : Int32), .int (0 : Int32), .int (0 : Int32), .int (0 : Int32), .int (0 : Int32), .long (0 : Int64), .int (0 : Int32), .int (0 : Int32), .int (0 : Int32), .int (-1 : Int32), .ref (ya 16), .ref (ya 17), .ref (ya 18), .ref (ya 19), .ref (ya 20), .ref (ya 21), .int (0 : Int32), .int (0 : Int32), .int (0 : Int32), .ref (ya 25), .ref (ya 26), .ref (ya 27), .ref (ya 28), .ref (ya 29), .ref (ya 30), .ref (ya 31), .ref (ya 32), .ref (ya 33), .ref (ya 34), .ref (ya 35), .int (0 : Int32), .int (0 : Int32), .ref (ya 38), .int (0 : Int32), .int (0 : Int32), .ref (ya 41), .ref (ya 42), .int (0 : Int32), .int (0 : Int32), .int (0 : Int32), .int (0 : Int32), .int (0 : Int32)]) rfl dX10_spots_2 (fun H locs hH => ?_)
  obtain ⟨f1, ef1⟩ : ∃ z : gF, z = va_up f y (.inr (10, [.int (0 : Int32), .ref (ya 1), .ref (ya 2), .ref (ya 3), .ref (ya 4), .ref (ya 5), .int (0 : Int32), .int (0 : Int32), .int (0 : Int32), .int (0 : Int32), .int (0 : Int32), .long (0 : Int64), .int (0 : Int32), .int (0 : Int32), .int (0 : Int32), .int (-1 : Int32), .ref (ya 16), .ref (ya 17), .ref (ya 18), .ref (ya 19), .ref (ya 20), .ref (ya 21), .int (0 : Int32), .int (0 : Int32), .int (0 : Int32), .ref (ya 25), .ref (ya 26), .ref (ya 27), .ref (ya 28), .ref (ya 29), .ref (ya 30), .ref (ya 31), .ref (ya 32), .ref (ya 33), .ref (ya 34), .ref (ya 35), .int (0 : Int32), .int (0 : Int32), .ref (ya 38), .int (0 : Int32), .int (0 : Int32), .ref (ya 41), .ref (ya 42), .int (0 : Int32), .int (0 : Int32), .int (0 : Int32), .int (0 : Int32), .int (0 : Int32)])) := ⟨_, rfl⟩
  have hH : gH E A L f1 s.heap H locs := by rw [ef1]; exact hH
  have h2 : f1 y = .inr (10, [.int (0 : Int32), .ref (ya 1), .ref (ya 2), .ref (ya 3), .ref (ya 4), .ref (ya 5), .int (0 : Int32), .int (0 : Int32), .int (0 : Int32), .int (0 : Int32), .int (0 : Int32), .long (0 : Int64), .int (0 : Int32), .int (0 : Int32), .int (0 : Int32), .int (-1 : Int32), .ref (ya 16), .ref (ya 17), .ref (ya 18), .ref (ya 19), .ref (ya 20), .ref (ya 21), .int (0 : Int32), .int (0 : Int32), .int (0 : Int32), .ref (ya 25), .ref (ya 26), .ref (ya 27), .ref (ya 28), .ref (ya 29), .ref (ya 30), .ref (ya 31), .ref (ya 32), .ref (ya 33), .ref (ya 34), .ref (ya 35), .int (0 : Int32), .int (0 : Int32), .ref (ya 38), .int (0 : Int32), .int (0 : Int32), .ref (ya 41), .ref (ya 42), .int (0 : Int32), .int (0 : Int32), .int (0 : Int32), .int (0 : Int32), .int (0 : Int32)]) := (congrFun ef1 y).trans (va_up_self _ _ _)
  refine lv_aload_n hx hb dX10_spots_5 rfl (lv_at hl 0 rfl) ?_
  refine lv_iload_n hx hb dX10_spots_6 rfl (lv_at hl 1 rfl) ?_
  have h3 : f1 (ya 16) = .inl (E.2.2 1, 5, .inl (fun _ => 0)) := ((congrFun ef1 (ya 16)).trans (va_up_ne _ _ (g_neAO f_lines fy))).trans f_lines
  have h4 : f1 (ya 17) = .inl (E.2.2 1, 45, .inl (fun _ => 0)) := ((congrFun ef1 (ya 17)).trans (va_up_ne _ _ (g_neAO f_has fy))).trans f_has
  refine g_Vi C hl.1 hA hH (As := [.int p0]) (rest := []) (m_whyNotBegan l E L f1 my h2 m_lines h3 m_has h4 p0) my_X10_whyNotBegan wd298 my h2 rfl rfl rfl (Nat.le_of_ble_eq_true rfl) ⟨Nat.le_of_ble_eq_true rfl, Nat.le_of_ble_eq_true rfl⟩ ⟨Nat.le_of_ble_eq_true rfl, Nat.le_of_ble_eq_true rfl⟩ dX10_spots_7 (fun r7 L6 f5 H locs hp hH => ?_)
  obtain ⟨er7, rfl, rfl⟩ := hp
  subst er7
  refine lv_istore_n (lv' := [(2, .int (-2 : Int32)), (0, .ref y), (1, .int p0)]) hx hb dX10_spots_10 rfl hl (by decide) rfl (fun ls hl => ?_)
  refine lv_iload_n hx hb dX10_spots_11 rfl (lv_at hl 0 rfl) ?_
  refine lv_if_eq (tgt := 17) hx hb dX10_spots_12 (by decide) (fun h => absurd h (by decide)) (fun _ => ?_)
  refine lv_iload_n hx hb dX10_spots_15 rfl (lv_at hl 0 rfl) ?_
  refine g_iret C hr hH (Nat.le_of_ble_eq_true rfl) (Nat.le_of_ble_eq_true rfl) dX10_spots_16 ?_
  exact rfl
set_option maxHeartbeats 4000000 in
set_option maxRecDepth 100000 in
theorem m_who (l : Launch) (E : gE) (L : List Nat) (f : gF) {y : Nat} {ya : Nat → Nat} (my : y ∈ L) (fy : f y = .inr (10, [.int (0 : Int32), .ref (ya 1), .ref (ya 2), .ref (ya 3), .ref (ya 4), .ref (ya 5), .int (0 : Int32), .int (0 : Int32), .int (0 : Int32), .int (0 : Int32), .int (0 : Int32), .long (0 : Int64), .int (0 : Int32), .int (0 : Int32), .int (0 : Int32), .int (-1 : Int32), .ref (ya 16), .ref (ya 17), .ref (ya 18), .ref (ya 19), .ref (ya 20), .ref (ya 21), .int (0 : Int32), .int (0 : Int32), .int (0 : Int32), .ref (ya 25), .ref (ya 26), .ref (ya 27), .ref (ya 28), .ref (ya 29), .ref (ya 30), .ref (ya 31), .ref (ya 32), .ref (ya 33), .ref (ya 34), .ref (ya 35), .int (0 : Int32), .int (0 : Int32), .ref (ya 38), .int (0 : Int32), .int (0 : Int32), .ref (ya 41), .ref (ya 42), .int (0 : Int32), .int (0 : Int32), .int (0 : Int32), .int (0 : Int32), .int (0 : Int32)])) (m_lines : (ya 16) ∈ L) (f_lines : f (ya 16) = .inl (E.2.2 1, 5, .inl (fun _ => 0))) (m_has : (ya 17) ∈ L) (f_has : f (ya 17) = .inl (E.2.2 1, 45, .inl (fun _ => 0))) (p0 : Int32) : gMi l E yX10_who cX10_who 3 .int (gRm 6 0 0) [.ref y, .int p0] L f (fun r _ _ => r = (-2 : Int32)) := by
  refine gMi.intro (by decide) (Nat.le_of_ble_eq_true rfl) ?_
  intro p e s m below meth c A ls C hr hA hH hl
  have C : gC E cX10_who 3 RX10 p s m _ meth c := C
  have hl : lv_has ls 3 [(0, .ref y), (1, .int p0)] := hl
  have hx := C.1
  have hb := C.2.1
  refine lv_aload_n hx hb dX10_who_0 rfl (lv_at hl 0 rfl) ?_
  refine lv_iconst (v := (0 : Int32)) hx hb dX10_who_1 (by decide) ?_
  refine g_put C hH my fy iX10 tyX10 tyX10_ok nmX10 rfl 0 (by decide) wd270 rfl rfl rfl rfl (Nat.le_of_ble_eq_true rfl) (fs' := [.int (0 : Int32), .ref (ya 1), .ref (ya 2), .ref (ya 3), .ref (ya 4), .ref (ya 5), .int (0 : Int32), .int (0 : Int32), .int (0 : Int32), .int (0 : Int32), .int (0 : Int32), .long (0 : Int64), .int (0 : Int32), .int (0 : Int32), .int (0 : Int32), .int (-1 : Int32), .ref (ya 16), .ref (ya 17), .ref (ya 18), .ref (ya 19), .ref (ya 20), .ref (ya 21), .int (0 : Int32), .int (0 : Int32), .int (0 : Int32), .ref (ya 25), .ref (ya 26), .ref (ya 27), .ref (ya 28), .ref (ya 29), .ref (ya 30), .ref (ya 31), .ref (ya 32), .ref (ya 33), .ref (ya 34), .ref (ya 35), .int (0 : Int32), .int (0 : Int32), .ref (ya 38), .int (0 : Int32), .int (0 : Int32), .ref (ya 41), .ref (ya 42), .int (0 : Int32), .int (0 : Int32), .int (0 : Int32), .int (0 : Int32), .int (0 : Int32)]) rfl dX10_who_2 (fun H locs hH => ?_)
  obtain ⟨f1, ef1⟩ : ∃ z : gF, z = va_up f y (.inr (10, [.int (0 : Int32), .ref (ya 1), .ref (ya 2), .ref (ya 3), .ref (ya 4), .ref (ya 5), .int (0 : Int32), .int (0 : Int32), .int (0 : Int32), .int (0 : Int32), .int (0 : Int32), .long (0 : Int64), .int (0 : Int32), .int (0 : Int32), .int (0 : Int32), .int (-1 : Int32), .ref (ya 16), .ref (ya 17), .ref (ya 18), .ref (ya 19), .ref (ya 20), .ref (ya 21), .int (0 : Int32), .int (0 : Int32), .int (0 : Int32), .ref (ya 25), .ref (ya 26), .ref (ya 27), .ref (ya 28), .ref (ya 29), .ref (ya 30), .ref (ya 31), .ref (ya 32), .ref (ya 33), .ref (ya 34), .ref (ya 35), .int (0 : Int32), .int (0 : Int32), .ref (ya 38), .int (0 : Int32), .int (0 : Int32), .ref (ya 41), .ref (ya 42), .int (0 : Int32), .int (0 : Int32), .int (0 : Int32), .int (0 : Int32), .int (0 : Int32)])) := ⟨_, rfl⟩
  have hH : gH E A L f1 s.heap H locs := by rw [ef1]; exact hH
  have h2 : f1 y = .inr (10, [.int (0 : Int32), .ref (ya 1), .ref (ya 2), .ref (ya 3), .ref (ya 4), .ref (ya 5), .int (0 : Int32), .int (0 : Int32), .int (0 : Int32), .int (0 : Int32), .int (0 : Int32), .long (0 : Int64), .int (0 : Int32), .int (0 : Int32), .int (0 : Int32), .int (-1 : Int32), .ref (ya 16), .ref (ya 17), .ref (ya 18), .ref (ya 19), .ref (ya 20), .ref (ya 21), .int (0 : Int32), .int (0 : Int32), .int (0 : Int32), .ref (ya 25), .ref (ya 26), .ref (ya 27), .ref (ya 28), .ref (ya 29), .ref (ya 30), .ref (ya 31), .ref (ya 32), .ref (ya 33), .ref (ya 34), .ref (ya 35), .int (0 : Int32), .int (0 : Int32), .ref (ya 38), .int (0 : Int32), .int (0 : Int32), .ref (ya 41), .ref (ya 42), .int (0 : Int32), .int (0 : Int32), .int (0 : Int32), .int (0 : Int32), .int (0 : Int32)]) := (congrFun ef1 y).trans (va_up_self _ _ _)
  refine lv_aload_n hx hb dX10_who_5 rfl (lv_at hl 0 rfl) ?_
  refine lv_iload_n hx hb dX10_who_6 rfl (lv_at hl 1 rfl) ?_
  have h3 : f1 (ya 16) = .inl (E.2.2 1, 5, .inl (fun _ => 0)) := ((congrFun ef1 (ya 16)).trans (va_up_ne _ _ (g_neAO f_lines fy))).trans f_lines
  have h4 : f1 (ya 17) = .inl (E.2.2 1, 45, .inl (fun _ => 0)) := ((congrFun ef1 (ya 17)).trans (va_up_ne _ _ (g_neAO f_has fy))).trans f_has
  refine g_Vi C hl.1 hA hH (As := [.int p0]) (rest := []) (m_whyNotBegan l E L f1 my h2 m_lines h3 m_has h4 p0) my_X10_whyNotBegan wd298 my h2 rfl rfl rfl (Nat.le_of_ble_eq_true rfl) ⟨Nat.le_of_ble_eq_true rfl, Nat.le_of_ble_eq_true rfl⟩ ⟨Nat.le_of_ble_eq_true rfl, Nat.le_of_ble_eq_true rfl⟩ dX10_who_7 (fun r7 L6 f5 H locs hp hH => ?_)
  obtain ⟨er7, rfl, rfl⟩ := hp
  subst er7
  refine lv_istore_n (lv' := [(2, .int (-2 : Int32)), (0, .ref y), (1, .int p0)]) hx hb dX10_who_10 rfl hl (by decide) rfl (fun ls hl => ?_)
  refine lv_iload_n hx hb dX10_who_11 rfl (lv_at hl 0 rfl) ?_
  refine lv_if_eq (tgt := 17) hx hb dX10_who_12 (by decide) (fun h => absurd h (by decide)) (fun _ => ?_)
  refine lv_iload_n hx hb dX10_who_15 rfl (lv_at hl 0 rfl) ?_
  refine g_iret C hr hH (Nat.le_of_ble_eq_true rfl) (Nat.le_of_ble_eq_true rfl) dX10_who_16 ?_
  exact rfl
set_option maxHeartbeats 4000000 in
set_option maxRecDepth 100000 in
theorem m_leaves (l : Launch) (E : gE) (L : List Nat) (f : gF) {y : Nat} {ya : Nat → Nat} (my : y ∈ L) (fy : f y = .inr (10, [.int (0 : Int32), .ref (ya 1), .ref (ya 2), .ref (ya 3), .ref (ya 4), .ref (ya 5), .int (0 : Int32), .int (0 : Int32), .int (0 : Int32), .int (0 : Int32), .int (0 : Int32), .long (0 : Int64), .int (0 : Int32), .int (0 : Int32), .int (0 : Int32), .int (-1 : Int32), .ref (ya 16), .ref (ya 17), .ref (ya 18), .ref (ya 19), .ref (ya 20), .ref (ya 21), .int (0 : Int32), .int (0 : Int32), .int (0 : Int32), .ref (ya 25), .ref (ya 26), .ref (ya 27), .ref (ya 28), .ref (ya 29), .ref (ya 30), .ref (ya 31), .ref (ya 32), .ref (ya 33), .ref (ya 34), .ref (ya 35), .int (0 : Int32), .int (0 : Int32), .ref (ya 38), .int (0 : Int32), .int (0 : Int32), .ref (ya 41), .ref (ya 42), .int (0 : Int32), .int (0 : Int32), .int (0 : Int32), .int (0 : Int32), .int (0 : Int32)])) (m_lines : (ya 16) ∈ L) (f_lines : f (ya 16) = .inl (E.2.2 1, 5, .inl (fun _ => 0))) (m_has : (ya 17) ∈ L) (f_has : f (ya 17) = .inl (E.2.2 1, 45, .inl (fun _ => 0))) (p0 : Int32) : gMi l E yX10_leaves cX10_leaves 3 .int (gRm 6 0 0) [.ref y, .int p0] L f (fun r _ _ => r = (-2 : Int32)) := by
  refine gMi.intro (by decide) (Nat.le_of_ble_eq_true rfl) ?_
  intro p e s m below meth c A ls C hr hA hH hl
  have C : gC E cX10_leaves 3 RX10 p s m _ meth c := C
  have hl : lv_has ls 3 [(0, .ref y), (1, .int p0)] := hl
  have hx := C.1
  have hb := C.2.1
  refine lv_aload_n hx hb dX10_leaves_0 rfl (lv_at hl 0 rfl) ?_
  refine lv_iconst (v := (0 : Int32)) hx hb dX10_leaves_1 (by decide) ?_
  refine g_put C hH my fy iX10 tyX10 tyX10_ok nmX10 rfl 0 (by decide) wd270 rfl rfl rfl rfl (Nat.le_of_ble_eq_true rfl) (fs' := [.int (0 : Int32), .ref (ya 1), .ref (ya 2), .ref (ya 3), .ref (ya 4), .ref (ya 5), .int (0 : Int32), .int (0 : Int32), .int (0 : Int32), .int (0 : Int32), .int (0 : Int32), .long (0 : Int64), .int (0 : Int32), .int (0 : Int32), .int (0 : Int32), .int (-1 : Int32), .ref (ya 16), .ref (ya 17), .ref (ya 18), .ref (ya 19), .ref (ya 20), .ref (ya 21), .int (0 : Int32), .int (0 : Int32), .int (0 : Int32), .ref (ya 25), .ref (ya 26), .ref (ya 27), .ref (ya 28), .ref (ya 29), .ref (ya 30), .ref (ya 31), .ref (ya 32), .ref (ya 33), .ref (ya 34), .ref (ya 35), .int (0 : Int32), .int (0 : Int32), .ref (ya 38), .int (0 : Int32), .int (0 : Int32), .ref (ya 41), .ref (ya 42), .int (0 : Int32), .int (0 : Int32), .int (0 : Int32), .int (0 : Int32), .int (0 : Int32)]) rfl dX10_leaves_2 (fun H locs hH => ?_)
  obtain ⟨f1, ef1⟩ : ∃ z : gF, z = va_up f y (.inr (10, [.int (0 : Int32), .ref (ya 1), .ref (ya 2), .ref (ya 3), .ref (ya 4), .ref (ya 5), .int (0 : Int32), .int (0 : Int32), .int (0 : Int32), .int (0 : Int32), .int (0 : Int32), .long (0 : Int64), .int (0 : Int32), .int (0 : Int32), .int (0 : Int32), .int (-1 : Int32), .ref (ya 16), .ref (ya 17), .ref (ya 18), .ref (ya 19), .ref (ya 20), .ref (ya 21), .int (0 : Int32), .int (0 : Int32), .int (0 : Int32), .ref (ya 25), .ref (ya 26), .ref (ya 27), .ref (ya 28), .ref (ya 29), .ref (ya 30), .ref (ya 31), .ref (ya 32), .ref (ya 33), .ref (ya 34), .ref (ya 35), .int (0 : Int32), .int (0 : Int32), .ref (ya 38), .int (0 : Int32), .int (0 : Int32), .ref (ya 41), .ref (ya 42), .int (0 : Int32), .int (0 : Int32), .int (0 : Int32), .int (0 : Int32), .int (0 : Int32)])) := ⟨_, rfl⟩
  have hH : gH E A L f1 s.heap H locs := by rw [ef1]; exact hH
  have h2 : f1 y = .inr (10, [.int (0 : Int32), .ref (ya 1), .ref (ya 2), .ref (ya 3), .ref (ya 4), .ref (ya 5), .int (0 : Int32), .int (0 : Int32), .int (0 : Int32), .int (0 : Int32), .int (0 : Int32), .long (0 : Int64), .int (0 : Int32), .int (0 : Int32), .int (0 : Int32), .int (-1 : Int32), .ref (ya 16), .ref (ya 17), .ref (ya 18), .ref (ya 19), .ref (ya 20), .ref (ya 21), .int (0 : Int32), .int (0 : Int32), .int (0 : Int32), .ref (ya 25), .ref (ya 26), .ref (ya 27), .ref (ya 28), .ref (ya 29), .ref (ya 30), .ref (ya 31), .ref (ya 32), .ref (ya 33), .ref (ya 34), .ref (ya 35), .int (0 : Int32), .int (0 : Int32), .ref (ya 38), .int (0 : Int32), .int (0 : Int32), .ref (ya 41), .ref (ya 42), .int (0 : Int32), .int (0 : Int32), .int (0 : Int32), .int (0 : Int32), .int (0 : Int32)]) := (congrFun ef1 y).trans (va_up_self _ _ _)
  refine lv_aload_n hx hb dX10_leaves_5 rfl (lv_at hl 0 rfl) ?_
  refine lv_iload_n hx hb dX10_leaves_6 rfl (lv_at hl 1 rfl) ?_
  have h3 : f1 (ya 16) = .inl (E.2.2 1, 5, .inl (fun _ => 0)) := ((congrFun ef1 (ya 16)).trans (va_up_ne _ _ (g_neAO f_lines fy))).trans f_lines
  have h4 : f1 (ya 17) = .inl (E.2.2 1, 45, .inl (fun _ => 0)) := ((congrFun ef1 (ya 17)).trans (va_up_ne _ _ (g_neAO f_has fy))).trans f_has
  refine g_Vi C hl.1 hA hH (As := [.int p0]) (rest := []) (m_whyNotBegan l E L f1 my h2 m_lines h3 m_has h4 p0) my_X10_whyNotBegan wd298 my h2 rfl rfl rfl (Nat.le_of_ble_eq_true rfl) ⟨Nat.le_of_ble_eq_true rfl, Nat.le_of_ble_eq_true rfl⟩ ⟨Nat.le_of_ble_eq_true rfl, Nat.le_of_ble_eq_true rfl⟩ dX10_leaves_7 (fun r7 L6 f5 H locs hp hH => ?_)
  obtain ⟨er7, rfl, rfl⟩ := hp
  subst er7
  refine lv_istore_n (lv' := [(2, .int (-2 : Int32)), (0, .ref y), (1, .int p0)]) hx hb dX10_leaves_10 rfl hl (by decide) rfl (fun ls hl => ?_)
  refine lv_iload_n hx hb dX10_leaves_11 rfl (lv_at hl 0 rfl) ?_
  refine lv_if_eq (tgt := 17) hx hb dX10_leaves_12 (by decide) (fun h => absurd h (by decide)) (fun _ => ?_)
  refine lv_iload_n hx hb dX10_leaves_15 rfl (lv_at hl 0 rfl) ?_
  refine g_iret C hr hH (Nat.le_of_ble_eq_true rfl) (Nat.le_of_ble_eq_true rfl) dX10_leaves_16 ?_
  exact rfl
set_option maxHeartbeats 4000000 in
set_option maxRecDepth 100000 in
theorem m_odds (l : Launch) (E : gE) (L : List Nat) (f : gF) {y : Nat} {ya : Nat → Nat} (my : y ∈ L) (fy : f y = .inr (10, [.int (0 : Int32), .ref (ya 1), .ref (ya 2), .ref (ya 3), .ref (ya 4), .ref (ya 5), .int (0 : Int32), .int (0 : Int32), .int (0 : Int32), .int (0 : Int32), .int (0 : Int32), .long (0 : Int64), .int (0 : Int32), .int (0 : Int32), .int (0 : Int32), .int (-1 : Int32), .ref (ya 16), .ref (ya 17), .ref (ya 18), .ref (ya 19), .ref (ya 20), .ref (ya 21), .int (0 : Int32), .int (0 : Int32), .int (0 : Int32), .ref (ya 25), .ref (ya 26), .ref (ya 27), .ref (ya 28), .ref (ya 29), .ref (ya 30), .ref (ya 31), .ref (ya 32), .ref (ya 33), .ref (ya 34), .ref (ya 35), .int (0 : Int32), .int (0 : Int32), .ref (ya 38), .int (0 : Int32), .int (0 : Int32), .ref (ya 41), .ref (ya 42), .int (0 : Int32), .int (0 : Int32), .int (0 : Int32), .int (0 : Int32), .int (0 : Int32)])) (m_lines : (ya 16) ∈ L) (f_lines : f (ya 16) = .inl (E.2.2 1, 5, .inl (fun _ => 0))) (m_has : (ya 17) ∈ L) (f_has : f (ya 17) = .inl (E.2.2 1, 45, .inl (fun _ => 0))) (p0 p1 p2 : Int32) : gMi l E yX10_odds cX10_odds 5 .int (gRm 6 0 0) [.ref y, .int p0, .int p1, .int p2] L f (fun r _ _ => r = (-2 : Int32)) := by
  refine gMi.intro (by decide) (Nat.le_of_ble_eq_true rfl) ?_
  intro p e s m below meth c A ls C hr hA hH hl
  have C : gC E cX10_odds 5 RX10 p s m _ meth c := C
  have hl : lv_has ls 5 [(0, .ref y), (1, .int p0), (2, .int p1), (3, .int p2)] := hl
  have hx := C.1
  have hb := C.2.1
  refine lv_aload_n hx hb dX10_odds_0 rfl (lv_at hl 0 rfl) ?_
  refine lv_iconst (v := (0 : Int32)) hx hb dX10_odds_1 (by decide) ?_
  refine g_put C hH my fy iX10 tyX10 tyX10_ok nmX10 rfl 0 (by decide) wd270 rfl rfl rfl rfl (Nat.le_of_ble_eq_true rfl) (fs' := [.int (0 : Int32), .ref (ya 1), .ref (ya 2), .ref (ya 3), .ref (ya 4), .ref (ya 5), .int (0 : Int32), .int (0 : Int32), .int (0 : Int32), .int (0 : Int32), .int (0 : Int32), .long (0 : Int64), .int (0 : Int32), .int (0 : Int32), .int (0 : Int32), .int (-1 : Int32), .ref (ya 16), .ref (ya 17), .ref (ya 18), .ref (ya 19), .ref (ya 20), .ref (ya 21), .int (0 : Int32), .int (0 : Int32), .int (0 : Int32), .ref (ya 25), .ref (ya 26), .ref (ya 27), .ref (ya 28), .ref (ya 29), .ref (ya 30), .ref (ya 31), .ref (ya 32), .ref (ya 33), .ref (ya 34), .ref (ya 35), .int (0 : Int32), .int (0 : Int32), .ref (ya 38), .int (0 : Int32), .int (0 : Int32), .ref (ya 41), .ref (ya 42), .int (0 : Int32), .int (0 : Int32), .int (0 : Int32), .int (0 : Int32), .int (0 : Int32)]) rfl dX10_odds_2 (fun H locs hH => ?_)
  obtain ⟨f1, ef1⟩ : ∃ z : gF, z = va_up f y (.inr (10, [.int (0 : Int32), .ref (ya 1), .ref (ya 2), .ref (ya 3), .ref (ya 4), .ref (ya 5), .int (0 : Int32), .int (0 : Int32), .int (0 : Int32), .int (0 : Int32), .int (0 : Int32), .long (0 : Int64), .int (0 : Int32), .int (0 : Int32), .int (0 : Int32), .int (-1 : Int32), .ref (ya 16), .ref (ya 17), .ref (ya 18), .ref (ya 19), .ref (ya 20), .ref (ya 21), .int (0 : Int32), .int (0 : Int32), .int (0 : Int32), .ref (ya 25), .ref (ya 26), .ref (ya 27), .ref (ya 28), .ref (ya 29), .ref (ya 30), .ref (ya 31), .ref (ya 32), .ref (ya 33), .ref (ya 34), .ref (ya 35), .int (0 : Int32), .int (0 : Int32), .ref (ya 38), .int (0 : Int32), .int (0 : Int32), .ref (ya 41), .ref (ya 42), .int (0 : Int32), .int (0 : Int32), .int (0 : Int32), .int (0 : Int32), .int (0 : Int32)])) := ⟨_, rfl⟩
  have hH : gH E A L f1 s.heap H locs := by rw [ef1]; exact hH
  have h2 : f1 y = .inr (10, [.int (0 : Int32), .ref (ya 1), .ref (ya 2), .ref (ya 3), .ref (ya 4), .ref (ya 5), .int (0 : Int32), .int (0 : Int32), .int (0 : Int32), .int (0 : Int32), .int (0 : Int32), .long (0 : Int64), .int (0 : Int32), .int (0 : Int32), .int (0 : Int32), .int (-1 : Int32), .ref (ya 16), .ref (ya 17), .ref (ya 18), .ref (ya 19), .ref (ya 20), .ref (ya 21), .int (0 : Int32), .int (0 : Int32), .int (0 : Int32), .ref (ya 25), .ref (ya 26), .ref (ya 27), .ref (ya 28), .ref (ya 29), .ref (ya 30), .ref (ya 31), .ref (ya 32), .ref (ya 33), .ref (ya 34), .ref (ya 35), .int (0 : Int32), .int (0 : Int32), .ref (ya 38), .int (0 : Int32), .int (0 : Int32), .ref (ya 41), .ref (ya 42), .int (0 : Int32), .int (0 : Int32), .int (0 : Int32), .int (0 : Int32), .int (0 : Int32)]) := (congrFun ef1 y).trans (va_up_self _ _ _)
  refine lv_aload_n hx hb dX10_odds_5 rfl (lv_at hl 0 rfl) ?_
  refine lv_iload_n hx hb dX10_odds_6 rfl (lv_at hl 2 rfl) ?_
  refine lv_i2l (v := (p1).toInt64) hx hb dX10_odds_7 rfl ?_
  have h3 : f1 (ya 16) = .inl (E.2.2 1, 5, .inl (fun _ => 0)) := ((congrFun ef1 (ya 16)).trans (va_up_ne _ _ (g_neAO f_lines fy))).trans f_lines
  have h4 : f1 (ya 17) = .inl (E.2.2 1, 45, .inl (fun _ => 0)) := ((congrFun ef1 (ya 17)).trans (va_up_ne _ _ (g_neAO f_has fy))).trans f_has
  refine g_Vi C hl.1 hA hH (As := [.long (p1).toInt64]) (rest := []) (m_isMember l E L f1 my h2 m_lines h3 m_has h4 (p1).toInt64) my_X10_isMember wd262 my h2 rfl rfl rfl (Nat.le_of_ble_eq_true rfl) ⟨Nat.le_of_ble_eq_true rfl, Nat.le_of_ble_eq_true rfl⟩ ⟨Nat.le_of_ble_eq_true rfl, Nat.le_of_ble_eq_true rfl⟩ dX10_odds_8 (fun r7 L6 f5 H locs hp hH => ?_)
  obtain ⟨er7, rfl, rfl⟩ := hp
  subst er7
  refine lv_if_eq (tgt := 29) hx hb dX10_odds_11 (by decide) (fun _ => ?_) (fun h => absurd (by decide) h)
  refine lv_bipush (v := (-2 : Int32)) hx hb dX10_odds_29 (by decide) ?_
  refine lv_istore (lv' := [(4, .int (-2 : Int32)), (0, .ref y), (1, .int p0), (2, .int p1), (3, .int p2)]) hx hb dX10_odds_31 hl (by decide) rfl (fun ls hl => ?_)
  refine lv_iload hx hb dX10_odds_33 (lv_at hl 0 rfl) ?_
  refine lv_if_eq (tgt := 41) hx hb dX10_odds_35 (by decide) (fun h => absurd h (by decide)) (fun _ => ?_)
  refine lv_iload hx hb dX10_odds_38 (lv_at hl 0 rfl) ?_
  refine g_iret C hr hH (Nat.le_of_ble_eq_true rfl) (Nat.le_of_ble_eq_true rfl) dX10_odds_40 ?_
  exact rfl
set_option maxHeartbeats 4000000 in
set_option maxRecDepth 100000 in
theorem m_homes (l : Launch) (E : gE) (L : List Nat) (f : gF) {y : Nat} {ya : Nat → Nat} (my : y ∈ L) (fy : f y = .inr (10, [.int (0 : Int32), .ref (ya 1), .ref (ya 2), .ref (ya 3), .ref (ya 4), .ref (ya 5), .int (0 : Int32), .int (0 : Int32), .int (0 : Int32), .int (0 : Int32), .int (0 : Int32), .long (0 : Int64), .int (0 : Int32), .int (0 : Int32), .int (0 : Int32), .int (-1 : Int32), .ref (ya 16), .ref (ya 17), .ref (ya 18), .ref (ya 19), .ref (ya 20), .ref (ya 21), .int (0 : Int32), .int (0 : Int32), .int (0 : Int32), .ref (ya 25), .ref (ya 26), .ref (ya 27), .ref (ya 28), .ref (ya 29), .ref (ya 30), .ref (ya 31), .ref (ya 32), .ref (ya 33), .ref (ya 34), .ref (ya 35), .int (0 : Int32), .int (0 : Int32), .ref (ya 38), .int (0 : Int32), .int (0 : Int32), .ref (ya 41), .ref (ya 42), .int (0 : Int32), .int (0 : Int32), .int (0 : Int32), .int (0 : Int32), .int (0 : Int32)])) (m_lines : (ya 16) ∈ L) (f_lines : f (ya 16) = .inl (E.2.2 1, 5, .inl (fun _ => 0))) (m_has : (ya 17) ∈ L) (f_has : f (ya 17) = .inl (E.2.2 1, 45, .inl (fun _ => 0))) : gMi l E yX10_homes cX10_homes 1 .int (gRm 6 0 0) [.ref y] L f (fun r _ _ => r = (-2 : Int32)) := by
  refine gMi.intro (by decide) (Nat.le_of_ble_eq_true rfl) ?_
  intro p e s m below meth c A ls C hr hA hH hl
  have C : gC E cX10_homes 1 RX10 p s m _ meth c := C
  have hl : lv_has ls 1 [(0, .ref y)] := hl
  have hx := C.1
  have hb := C.2.1
  refine lv_aload_n hx hb dX10_homes_0 rfl (lv_at hl 0 rfl) ?_
  refine lv_iconst (v := (0 : Int32)) hx hb dX10_homes_1 (by decide) ?_
  refine g_put C hH my fy iX10 tyX10 tyX10_ok nmX10 rfl 0 (by decide) wd270 rfl rfl rfl rfl (Nat.le_of_ble_eq_true rfl) (fs' := [.int (0 : Int32), .ref (ya 1), .ref (ya 2), .ref (ya 3), .ref (ya 4), .ref (ya 5), .int (0 : Int32), .int (0 : Int32), .int (0 : Int32), .int (0 : Int32), .int (0 : Int32), .long (0 : Int64), .int (0 : Int32), .int (0 : Int32), .int (0 : Int32), .int (-1 : Int32), .ref (ya 16), .ref (ya 17), .ref (ya 18), .ref (ya 19), .ref (ya 20), .ref (ya 21), .int (0 : Int32), .int (0 : Int32), .int (0 : Int32), .ref (ya 25), .ref (ya 26), .ref (ya 27), .ref (ya 28), .ref (ya 29), .ref (ya 30), .ref (ya 31), .ref (ya 32), .ref (ya 33), .ref (ya 34), .ref (ya 35), .int (0 : Int32), .int (0 : Int32), .ref (ya 38), .int (0 : Int32), .int (0 : Int32), .ref (ya 41), .ref (ya 42), .int (0 : Int32), .int (0 : Int32), .int (0 : Int32), .int (0 : Int32), .int (0 : Int32)]) rfl dX10_homes_2 (fun H locs hH => ?_)
  obtain ⟨f1, ef1⟩ : ∃ z : gF, z = va_up f y (.inr (10, [.int (0 : Int32), .ref (ya 1), .ref (ya 2), .ref (ya 3), .ref (ya 4), .ref (ya 5), .int (0 : Int32), .int (0 : Int32), .int (0 : Int32), .int (0 : Int32), .int (0 : Int32), .long (0 : Int64), .int (0 : Int32), .int (0 : Int32), .int (0 : Int32), .int (-1 : Int32), .ref (ya 16), .ref (ya 17), .ref (ya 18), .ref (ya 19), .ref (ya 20), .ref (ya 21), .int (0 : Int32), .int (0 : Int32), .int (0 : Int32), .ref (ya 25), .ref (ya 26), .ref (ya 27), .ref (ya 28), .ref (ya 29), .ref (ya 30), .ref (ya 31), .ref (ya 32), .ref (ya 33), .ref (ya 34), .ref (ya 35), .int (0 : Int32), .int (0 : Int32), .ref (ya 38), .int (0 : Int32), .int (0 : Int32), .ref (ya 41), .ref (ya 42), .int (0 : Int32), .int (0 : Int32), .int (0 : Int32), .int (0 : Int32), .int (0 : Int32)])) := ⟨_, rfl⟩
  have hH : gH E A L f1 s.heap H locs := by rw [ef1]; exact hH
  have h2 : f1 y = .inr (10, [.int (0 : Int32), .ref (ya 1), .ref (ya 2), .ref (ya 3), .ref (ya 4), .ref (ya 5), .int (0 : Int32), .int (0 : Int32), .int (0 : Int32), .int (0 : Int32), .int (0 : Int32), .long (0 : Int64), .int (0 : Int32), .int (0 : Int32), .int (0 : Int32), .int (-1 : Int32), .ref (ya 16), .ref (ya 17), .ref (ya 18), .ref (ya 19), .ref (ya 20), .ref (ya 21), .int (0 : Int32), .int (0 : Int32), .int (0 : Int32), .ref (ya 25), .ref (ya 26), .ref (ya 27), .ref (ya 28), .ref (ya 29), .ref (ya 30), .ref (ya 31), .ref (ya 32), .ref (ya 33), .ref (ya 34), .ref (ya 35), .int (0 : Int32), .int (0 : Int32), .ref (ya 38), .int (0 : Int32), .int (0 : Int32), .ref (ya 41), .ref (ya 42), .int (0 : Int32), .int (0 : Int32), .int (0 : Int32), .int (0 : Int32), .int (0 : Int32)]) := (congrFun ef1 y).trans (va_up_self _ _ _)
  refine lv_aload_n hx hb dX10_homes_5 rfl (lv_at hl 0 rfl) ?_
  have h3 : f1 (ya 16) = .inl (E.2.2 1, 5, .inl (fun _ => 0)) := ((congrFun ef1 (ya 16)).trans (va_up_ne _ _ (g_neAO f_lines fy))).trans f_lines
  have h4 : f1 (ya 17) = .inl (E.2.2 1, 45, .inl (fun _ => 0)) := ((congrFun ef1 (ya 17)).trans (va_up_ne _ _ (g_neAO f_has fy))).trans f_has
  refine g_Vi C hl.1 hA hH (As := []) (rest := []) (m_isLand l E L f1 my h2 m_lines h3 m_has h4) my_X10_isLand wd266 my h2 rfl rfl rfl (Nat.le_of_ble_eq_true rfl) ⟨Nat.le_of_ble_eq_true rfl, Nat.le_of_ble_eq_true rfl⟩ ⟨Nat.le_of_ble_eq_true rfl, Nat.le_of_ble_eq_true rfl⟩ dX10_homes_6 (fun r7 L6 f5 H locs hp hH => ?_)
  obtain ⟨er7, rfl, rfl⟩ := hp
  subst er7
  refine lv_if_ne (tgt := 15) hx hb dX10_homes_9 (by decide) (fun h => absurd (by decide) h) (fun _ => ?_)
  refine lv_bipush (v := (-2 : Int32)) hx hb dX10_homes_12 (by decide) ?_
  refine g_iret C hr hH (Nat.le_of_ble_eq_true rfl) (Nat.le_of_ble_eq_true rfl) dX10_homes_14 ?_
  exact rfl
set_option maxHeartbeats 4000000 in
set_option maxRecDepth 100000 in
theorem m_home (l : Launch) (E : gE) (L : List Nat) (f : gF) {y : Nat} {ya : Nat → Nat} (my : y ∈ L) (fy : f y = .inr (10, [.int (0 : Int32), .ref (ya 1), .ref (ya 2), .ref (ya 3), .ref (ya 4), .ref (ya 5), .int (0 : Int32), .int (0 : Int32), .int (0 : Int32), .int (0 : Int32), .int (0 : Int32), .long (0 : Int64), .int (0 : Int32), .int (0 : Int32), .int (0 : Int32), .int (-1 : Int32), .ref (ya 16), .ref (ya 17), .ref (ya 18), .ref (ya 19), .ref (ya 20), .ref (ya 21), .int (0 : Int32), .int (0 : Int32), .int (0 : Int32), .ref (ya 25), .ref (ya 26), .ref (ya 27), .ref (ya 28), .ref (ya 29), .ref (ya 30), .ref (ya 31), .ref (ya 32), .ref (ya 33), .ref (ya 34), .ref (ya 35), .int (0 : Int32), .int (0 : Int32), .ref (ya 38), .int (0 : Int32), .int (0 : Int32), .ref (ya 41), .ref (ya 42), .int (0 : Int32), .int (0 : Int32), .int (0 : Int32), .int (0 : Int32), .int (0 : Int32)])) (m_lines : (ya 16) ∈ L) (f_lines : f (ya 16) = .inl (E.2.2 1, 5, .inl (fun _ => 0))) (m_has : (ya 17) ∈ L) (f_has : f (ya 17) = .inl (E.2.2 1, 45, .inl (fun _ => 0))) (p0 : Int32) : gMi l E yX10_home cX10_home 2 .int (gRm 6 0 0) [.ref y, .int p0] L f (fun r _ _ => r = (-2 : Int32)) := by
  refine gMi.intro (by decide) (Nat.le_of_ble_eq_true rfl) ?_
  intro p e s m below meth c A ls C hr hA hH hl
  have C : gC E cX10_home 2 RX10 p s m _ meth c := C
  have hl : lv_has ls 2 [(0, .ref y), (1, .int p0)] := hl
  have hx := C.1
  have hb := C.2.1
  refine lv_aload_n hx hb dX10_home_0 rfl (lv_at hl 0 rfl) ?_
  refine lv_iconst (v := (0 : Int32)) hx hb dX10_home_1 (by decide) ?_
  refine g_put C hH my fy iX10 tyX10 tyX10_ok nmX10 rfl 0 (by decide) wd270 rfl rfl rfl rfl (Nat.le_of_ble_eq_true rfl) (fs' := [.int (0 : Int32), .ref (ya 1), .ref (ya 2), .ref (ya 3), .ref (ya 4), .ref (ya 5), .int (0 : Int32), .int (0 : Int32), .int (0 : Int32), .int (0 : Int32), .int (0 : Int32), .long (0 : Int64), .int (0 : Int32), .int (0 : Int32), .int (0 : Int32), .int (-1 : Int32), .ref (ya 16), .ref (ya 17), .ref (ya 18), .ref (ya 19), .ref (ya 20), .ref (ya 21), .int (0 : Int32), .int (0 : Int32), .int (0 : Int32), .ref (ya 25), .ref (ya 26), .ref (ya 27), .ref (ya 28), .ref (ya 29), .ref (ya 30), .ref (ya 31), .ref (ya 32), .ref (ya 33), .ref (ya 34), .ref (ya 35), .int (0 : Int32), .int (0 : Int32), .ref (ya 38), .int (0 : Int32), .int (0 : Int32), .ref (ya 41), .ref (ya 42), .int (0 : Int32), .int (0 : Int32), .int (0 : Int32), .int (0 : Int32), .int (0 : Int32)]) rfl dX10_home_2 (fun H locs hH => ?_)
  obtain ⟨f1, ef1⟩ : ∃ z : gF, z = va_up f y (.inr (10, [.int (0 : Int32), .ref (ya 1), .ref (ya 2), .ref (ya 3), .ref (ya 4), .ref (ya 5), .int (0 : Int32), .int (0 : Int32), .int (0 : Int32), .int (0 : Int32), .int (0 : Int32), .long (0 : Int64), .int (0 : Int32), .int (0 : Int32), .int (0 : Int32), .int (-1 : Int32), .ref (ya 16), .ref (ya 17), .ref (ya 18), .ref (ya 19), .ref (ya 20), .ref (ya 21), .int (0 : Int32), .int (0 : Int32), .int (0 : Int32), .ref (ya 25), .ref (ya 26), .ref (ya 27), .ref (ya 28), .ref (ya 29), .ref (ya 30), .ref (ya 31), .ref (ya 32), .ref (ya 33), .ref (ya 34), .ref (ya 35), .int (0 : Int32), .int (0 : Int32), .ref (ya 38), .int (0 : Int32), .int (0 : Int32), .ref (ya 41), .ref (ya 42), .int (0 : Int32), .int (0 : Int32), .int (0 : Int32), .int (0 : Int32), .int (0 : Int32)])) := ⟨_, rfl⟩
  have hH : gH E A L f1 s.heap H locs := by rw [ef1]; exact hH
  have h2 : f1 y = .inr (10, [.int (0 : Int32), .ref (ya 1), .ref (ya 2), .ref (ya 3), .ref (ya 4), .ref (ya 5), .int (0 : Int32), .int (0 : Int32), .int (0 : Int32), .int (0 : Int32), .int (0 : Int32), .long (0 : Int64), .int (0 : Int32), .int (0 : Int32), .int (0 : Int32), .int (-1 : Int32), .ref (ya 16), .ref (ya 17), .ref (ya 18), .ref (ya 19), .ref (ya 20), .ref (ya 21), .int (0 : Int32), .int (0 : Int32), .int (0 : Int32), .ref (ya 25), .ref (ya 26), .ref (ya 27), .ref (ya 28), .ref (ya 29), .ref (ya 30), .ref (ya 31), .ref (ya 32), .ref (ya 33), .ref (ya 34), .ref (ya 35), .int (0 : Int32), .int (0 : Int32), .ref (ya 38), .int (0 : Int32), .int (0 : Int32), .ref (ya 41), .ref (ya 42), .int (0 : Int32), .int (0 : Int32), .int (0 : Int32), .int (0 : Int32), .int (0 : Int32)]) := (congrFun ef1 y).trans (va_up_self _ _ _)
  refine lv_aload_n hx hb dX10_home_5 rfl (lv_at hl 0 rfl) ?_
  refine lv_iload_n hx hb dX10_home_6 rfl (lv_at hl 1 rfl) ?_
  refine lv_i2l (v := (p0).toInt64) hx hb dX10_home_7 rfl ?_
  have h3 : f1 (ya 16) = .inl (E.2.2 1, 5, .inl (fun _ => 0)) := ((congrFun ef1 (ya 16)).trans (va_up_ne _ _ (g_neAO f_lines fy))).trans f_lines
  have h4 : f1 (ya 17) = .inl (E.2.2 1, 45, .inl (fun _ => 0)) := ((congrFun ef1 (ya 17)).trans (va_up_ne _ _ (g_neAO f_has fy))).trans f_has
  refine g_Vi C hl.1 hA hH (As := [.long (p0).toInt64]) (rest := []) (m_isMember l E L f1 my h2 m_lines h3 m_has h4 (p0).toInt64) my_X10_isMember wd262 my h2 rfl rfl rfl (Nat.le_of_ble_eq_true rfl) ⟨Nat.le_of_ble_eq_true rfl, Nat.le_of_ble_eq_true rfl⟩ ⟨Nat.le_of_ble_eq_true rfl, Nat.le_of_ble_eq_true rfl⟩ dX10_home_8 (fun r7 L6 f5 H locs hp hH => ?_)
  obtain ⟨er7, rfl, rfl⟩ := hp
  subst er7
  refine lv_if_ne (tgt := 17) hx hb dX10_home_11 (by decide) (fun h => absurd (by decide) h) (fun _ => ?_)
  refine lv_bipush (v := (-2 : Int32)) hx hb dX10_home_14 (by decide) ?_
  refine g_iret C hr hH (Nat.le_of_ble_eq_true rfl) (Nat.le_of_ble_eq_true rfl) dX10_home_16 ?_
  exact rfl
set_option maxHeartbeats 4000000 in
set_option maxRecDepth 100000 in
theorem m_swaps (l : Launch) (E : gE) (L : List Nat) (f : gF) {y : Nat} {ya : Nat → Nat} (my : y ∈ L) (fy : f y = .inr (10, [.int (0 : Int32), .ref (ya 1), .ref (ya 2), .ref (ya 3), .ref (ya 4), .ref (ya 5), .int (0 : Int32), .int (0 : Int32), .int (0 : Int32), .int (0 : Int32), .int (0 : Int32), .long (0 : Int64), .int (0 : Int32), .int (0 : Int32), .int (0 : Int32), .int (-1 : Int32), .ref (ya 16), .ref (ya 17), .ref (ya 18), .ref (ya 19), .ref (ya 20), .ref (ya 21), .int (0 : Int32), .int (0 : Int32), .int (0 : Int32), .ref (ya 25), .ref (ya 26), .ref (ya 27), .ref (ya 28), .ref (ya 29), .ref (ya 30), .ref (ya 31), .ref (ya 32), .ref (ya 33), .ref (ya 34), .ref (ya 35), .int (0 : Int32), .int (0 : Int32), .ref (ya 38), .int (0 : Int32), .int (0 : Int32), .ref (ya 41), .ref (ya 42), .int (0 : Int32), .int (0 : Int32), .int (0 : Int32), .int (0 : Int32), .int (0 : Int32)])) (m_lines : (ya 16) ∈ L) (f_lines : f (ya 16) = .inl (E.2.2 1, 5, .inl (fun _ => 0))) (m_has : (ya 17) ∈ L) (f_has : f (ya 17) = .inl (E.2.2 1, 45, .inl (fun _ => 0))) : gMi l E yX10_swaps cX10_swaps 1 .int (gRm 6 0 0) [.ref y] L f (fun r _ _ => r = (-2 : Int32)) := by
  refine gMi.intro (by decide) (Nat.le_of_ble_eq_true rfl) ?_
  intro p e s m below meth c A ls C hr hA hH hl
  have C : gC E cX10_swaps 1 RX10 p s m _ meth c := C
  have hl : lv_has ls 1 [(0, .ref y)] := hl
  have hx := C.1
  have hb := C.2.1
  refine lv_aload_n hx hb dX10_swaps_0 rfl (lv_at hl 0 rfl) ?_
  refine lv_iconst (v := (0 : Int32)) hx hb dX10_swaps_1 (by decide) ?_
  refine g_put C hH my fy iX10 tyX10 tyX10_ok nmX10 rfl 0 (by decide) wd270 rfl rfl rfl rfl (Nat.le_of_ble_eq_true rfl) (fs' := [.int (0 : Int32), .ref (ya 1), .ref (ya 2), .ref (ya 3), .ref (ya 4), .ref (ya 5), .int (0 : Int32), .int (0 : Int32), .int (0 : Int32), .int (0 : Int32), .int (0 : Int32), .long (0 : Int64), .int (0 : Int32), .int (0 : Int32), .int (0 : Int32), .int (-1 : Int32), .ref (ya 16), .ref (ya 17), .ref (ya 18), .ref (ya 19), .ref (ya 20), .ref (ya 21), .int (0 : Int32), .int (0 : Int32), .int (0 : Int32), .ref (ya 25), .ref (ya 26), .ref (ya 27), .ref (ya 28), .ref (ya 29), .ref (ya 30), .ref (ya 31), .ref (ya 32), .ref (ya 33), .ref (ya 34), .ref (ya 35), .int (0 : Int32), .int (0 : Int32), .ref (ya 38), .int (0 : Int32), .int (0 : Int32), .ref (ya 41), .ref (ya 42), .int (0 : Int32), .int (0 : Int32), .int (0 : Int32), .int (0 : Int32), .int (0 : Int32)]) rfl dX10_swaps_2 (fun H locs hH => ?_)
  obtain ⟨f1, ef1⟩ : ∃ z : gF, z = va_up f y (.inr (10, [.int (0 : Int32), .ref (ya 1), .ref (ya 2), .ref (ya 3), .ref (ya 4), .ref (ya 5), .int (0 : Int32), .int (0 : Int32), .int (0 : Int32), .int (0 : Int32), .int (0 : Int32), .long (0 : Int64), .int (0 : Int32), .int (0 : Int32), .int (0 : Int32), .int (-1 : Int32), .ref (ya 16), .ref (ya 17), .ref (ya 18), .ref (ya 19), .ref (ya 20), .ref (ya 21), .int (0 : Int32), .int (0 : Int32), .int (0 : Int32), .ref (ya 25), .ref (ya 26), .ref (ya 27), .ref (ya 28), .ref (ya 29), .ref (ya 30), .ref (ya 31), .ref (ya 32), .ref (ya 33), .ref (ya 34), .ref (ya 35), .int (0 : Int32), .int (0 : Int32), .ref (ya 38), .int (0 : Int32), .int (0 : Int32), .ref (ya 41), .ref (ya 42), .int (0 : Int32), .int (0 : Int32), .int (0 : Int32), .int (0 : Int32), .int (0 : Int32)])) := ⟨_, rfl⟩
  have hH : gH E A L f1 s.heap H locs := by rw [ef1]; exact hH
  have h2 : f1 y = .inr (10, [.int (0 : Int32), .ref (ya 1), .ref (ya 2), .ref (ya 3), .ref (ya 4), .ref (ya 5), .int (0 : Int32), .int (0 : Int32), .int (0 : Int32), .int (0 : Int32), .int (0 : Int32), .long (0 : Int64), .int (0 : Int32), .int (0 : Int32), .int (0 : Int32), .int (-1 : Int32), .ref (ya 16), .ref (ya 17), .ref (ya 18), .ref (ya 19), .ref (ya 20), .ref (ya 21), .int (0 : Int32), .int (0 : Int32), .int (0 : Int32), .ref (ya 25), .ref (ya 26), .ref (ya 27), .ref (ya 28), .ref (ya 29), .ref (ya 30), .ref (ya 31), .ref (ya 32), .ref (ya 33), .ref (ya 34), .ref (ya 35), .int (0 : Int32), .int (0 : Int32), .ref (ya 38), .int (0 : Int32), .int (0 : Int32), .ref (ya 41), .ref (ya 42), .int (0 : Int32), .int (0 : Int32), .int (0 : Int32), .int (0 : Int32), .int (0 : Int32)]) := (congrFun ef1 y).trans (va_up_self _ _ _)
  refine lv_aload_n hx hb dX10_swaps_5 rfl (lv_at hl 0 rfl) ?_
  have h3 : f1 (ya 16) = .inl (E.2.2 1, 5, .inl (fun _ => 0)) := ((congrFun ef1 (ya 16)).trans (va_up_ne _ _ (g_neAO f_lines fy))).trans f_lines
  have h4 : f1 (ya 17) = .inl (E.2.2 1, 45, .inl (fun _ => 0)) := ((congrFun ef1 (ya 17)).trans (va_up_ne _ _ (g_neAO f_has fy))).trans f_has
  refine g_Vi C hl.1 hA hH (As := []) (rest := []) (m_isLand l E L f1 my h2 m_lines h3 m_has h4) my_X10_isLand wd266 my h2 rfl rfl rfl (Nat.le_of_ble_eq_true rfl) ⟨Nat.le_of_ble_eq_true rfl, Nat.le_of_ble_eq_true rfl⟩ ⟨Nat.le_of_ble_eq_true rfl, Nat.le_of_ble_eq_true rfl⟩ dX10_swaps_6 (fun r7 L6 f5 H locs hp hH => ?_)
  obtain ⟨er7, rfl, rfl⟩ := hp
  subst er7
  refine lv_if_eq (tgt := 19) hx hb dX10_swaps_9 (by decide) (fun _ => ?_) (fun h => absurd (by decide) h)
  refine lv_bipush (v := (-2 : Int32)) hx hb dX10_swaps_19 (by decide) ?_
  refine g_iret C hr hH (Nat.le_of_ble_eq_true rfl) (Nat.le_of_ble_eq_true rfl) dX10_swaps_21 ?_
  exact rfl
set_option maxHeartbeats 4000000 in
set_option maxRecDepth 100000 in
theorem m_swap (l : Launch) (E : gE) (L : List Nat) (f : gF) {y : Nat} {ya : Nat → Nat} (my : y ∈ L) (fy : f y = .inr (10, [.int (0 : Int32), .ref (ya 1), .ref (ya 2), .ref (ya 3), .ref (ya 4), .ref (ya 5), .int (0 : Int32), .int (0 : Int32), .int (0 : Int32), .int (0 : Int32), .int (0 : Int32), .long (0 : Int64), .int (0 : Int32), .int (0 : Int32), .int (0 : Int32), .int (-1 : Int32), .ref (ya 16), .ref (ya 17), .ref (ya 18), .ref (ya 19), .ref (ya 20), .ref (ya 21), .int (0 : Int32), .int (0 : Int32), .int (0 : Int32), .ref (ya 25), .ref (ya 26), .ref (ya 27), .ref (ya 28), .ref (ya 29), .ref (ya 30), .ref (ya 31), .ref (ya 32), .ref (ya 33), .ref (ya 34), .ref (ya 35), .int (0 : Int32), .int (0 : Int32), .ref (ya 38), .int (0 : Int32), .int (0 : Int32), .ref (ya 41), .ref (ya 42), .int (0 : Int32), .int (0 : Int32), .int (0 : Int32), .int (0 : Int32), .int (0 : Int32)])) (m_lines : (ya 16) ∈ L) (f_lines : f (ya 16) = .inl (E.2.2 1, 5, .inl (fun _ => 0))) (m_has : (ya 17) ∈ L) (f_has : f (ya 17) = .inl (E.2.2 1, 45, .inl (fun _ => 0))) : gMi l E yX10_swap cX10_swap 1 .int (gRm 6 0 0) [.ref y] L f (fun r _ _ => r = (-2 : Int32)) := by
  refine gMi.intro (by decide) (Nat.le_of_ble_eq_true rfl) ?_
  intro p e s m below meth c A ls C hr hA hH hl
  have C : gC E cX10_swap 1 RX10 p s m _ meth c := C
  have hl : lv_has ls 1 [(0, .ref y)] := hl
  have hx := C.1
  have hb := C.2.1
  refine lv_aload_n hx hb dX10_swap_0 rfl (lv_at hl 0 rfl) ?_
  refine lv_iconst (v := (0 : Int32)) hx hb dX10_swap_1 (by decide) ?_
  refine g_put C hH my fy iX10 tyX10 tyX10_ok nmX10 rfl 0 (by decide) wd270 rfl rfl rfl rfl (Nat.le_of_ble_eq_true rfl) (fs' := [.int (0 : Int32), .ref (ya 1), .ref (ya 2), .ref (ya 3), .ref (ya 4), .ref (ya 5), .int (0 : Int32), .int (0 : Int32), .int (0 : Int32), .int (0 : Int32), .int (0 : Int32), .long (0 : Int64), .int (0 : Int32), .int (0 : Int32), .int (0 : Int32), .int (-1 : Int32), .ref (ya 16), .ref (ya 17), .ref (ya 18), .ref (ya 19), .ref (ya 20), .ref (ya 21), .int (0 : Int32), .int (0 : Int32), .int (0 : Int32), .ref (ya 25), .ref (ya 26), .ref (ya 27), .ref (ya 28), .ref (ya 29), .ref (ya 30), .ref (ya 31), .ref (ya 32), .ref (ya 33), .ref (ya 34), .ref (ya 35), .int (0 : Int32), .int (0 : Int32), .ref (ya 38), .int (0 : Int32), .int (0 : Int32), .ref (ya 41), .ref (ya 42), .int (0 : Int32), .int (0 : Int32), .int (0 : Int32), .int (0 : Int32), .int (0 : Int32)]) rfl dX10_swap_2 (fun H locs hH => ?_)
  obtain ⟨f1, ef1⟩ : ∃ z : gF, z = va_up f y (.inr (10, [.int (0 : Int32), .ref (ya 1), .ref (ya 2), .ref (ya 3), .ref (ya 4), .ref (ya 5), .int (0 : Int32), .int (0 : Int32), .int (0 : Int32), .int (0 : Int32), .int (0 : Int32), .long (0 : Int64), .int (0 : Int32), .int (0 : Int32), .int (0 : Int32), .int (-1 : Int32), .ref (ya 16), .ref (ya 17), .ref (ya 18), .ref (ya 19), .ref (ya 20), .ref (ya 21), .int (0 : Int32), .int (0 : Int32), .int (0 : Int32), .ref (ya 25), .ref (ya 26), .ref (ya 27), .ref (ya 28), .ref (ya 29), .ref (ya 30), .ref (ya 31), .ref (ya 32), .ref (ya 33), .ref (ya 34), .ref (ya 35), .int (0 : Int32), .int (0 : Int32), .ref (ya 38), .int (0 : Int32), .int (0 : Int32), .ref (ya 41), .ref (ya 42), .int (0 : Int32), .int (0 : Int32), .int (0 : Int32), .int (0 : Int32), .int (0 : Int32)])) := ⟨_, rfl⟩
  have hH : gH E A L f1 s.heap H locs := by rw [ef1]; exact hH
  have h2 : f1 y = .inr (10, [.int (0 : Int32), .ref (ya 1), .ref (ya 2), .ref (ya 3), .ref (ya 4), .ref (ya 5), .int (0 : Int32), .int (0 : Int32), .int (0 : Int32), .int (0 : Int32), .int (0 : Int32), .long (0 : Int64), .int (0 : Int32), .int (0 : Int32), .int (0 : Int32), .int (-1 : Int32), .ref (ya 16), .ref (ya 17), .ref (ya 18), .ref (ya 19), .ref (ya 20), .ref (ya 21), .int (0 : Int32), .int (0 : Int32), .int (0 : Int32), .ref (ya 25), .ref (ya 26), .ref (ya 27), .ref (ya 28), .ref (ya 29), .ref (ya 30), .ref (ya 31), .ref (ya 32), .ref (ya 33), .ref (ya 34), .ref (ya 35), .int (0 : Int32), .int (0 : Int32), .ref (ya 38), .int (0 : Int32), .int (0 : Int32), .ref (ya 41), .ref (ya 42), .int (0 : Int32), .int (0 : Int32), .int (0 : Int32), .int (0 : Int32), .int (0 : Int32)]) := (congrFun ef1 y).trans (va_up_self _ _ _)
  refine lv_aload_n hx hb dX10_swap_5 rfl (lv_at hl 0 rfl) ?_
  have h3 : f1 (ya 16) = .inl (E.2.2 1, 5, .inl (fun _ => 0)) := ((congrFun ef1 (ya 16)).trans (va_up_ne _ _ (g_neAO f_lines fy))).trans f_lines
  have h4 : f1 (ya 17) = .inl (E.2.2 1, 45, .inl (fun _ => 0)) := ((congrFun ef1 (ya 17)).trans (va_up_ne _ _ (g_neAO f_has fy))).trans f_has
  refine g_Vi C hl.1 hA hH (As := []) (rest := []) (m_isLand l E L f1 my h2 m_lines h3 m_has h4) my_X10_isLand wd266 my h2 rfl rfl rfl (Nat.le_of_ble_eq_true rfl) ⟨Nat.le_of_ble_eq_true rfl, Nat.le_of_ble_eq_true rfl⟩ ⟨Nat.le_of_ble_eq_true rfl, Nat.le_of_ble_eq_true rfl⟩ dX10_swap_6 (fun r7 L6 f5 H locs hp hH => ?_)
  obtain ⟨er7, rfl, rfl⟩ := hp
  subst er7
  refine lv_if_ne (tgt := 15) hx hb dX10_swap_9 (by decide) (fun h => absurd (by decide) h) (fun _ => ?_)
  refine lv_bipush (v := (-2 : Int32)) hx hb dX10_swap_12 (by decide) ?_
  refine g_iret C hr hH (Nat.le_of_ble_eq_true rfl) (Nat.le_of_ble_eq_true rfl) dX10_swap_14 ?_
  exact rfl
set_option maxHeartbeats 4000000 in
set_option maxRecDepth 100000 in
theorem m_price (l : Launch) (E : gE) (L : List Nat) (f : gF) {y : Nat} {ya : Nat → Nat} (my : y ∈ L) (fy : f y = .inr (10, [.int (0 : Int32), .ref (ya 1), .ref (ya 2), .ref (ya 3), .ref (ya 4), .ref (ya 5), .int (0 : Int32), .int (0 : Int32), .int (0 : Int32), .int (0 : Int32), .int (0 : Int32), .long (0 : Int64), .int (0 : Int32), .int (0 : Int32), .int (0 : Int32), .int (-1 : Int32), .ref (ya 16), .ref (ya 17), .ref (ya 18), .ref (ya 19), .ref (ya 20), .ref (ya 21), .int (0 : Int32), .int (0 : Int32), .int (0 : Int32), .ref (ya 25), .ref (ya 26), .ref (ya 27), .ref (ya 28), .ref (ya 29), .ref (ya 30), .ref (ya 31), .ref (ya 32), .ref (ya 33), .ref (ya 34), .ref (ya 35), .int (0 : Int32), .int (0 : Int32), .ref (ya 38), .int (0 : Int32), .int (0 : Int32), .ref (ya 41), .ref (ya 42), .int (0 : Int32), .int (0 : Int32), .int (0 : Int32), .int (0 : Int32), .int (0 : Int32)])) (m_lines : (ya 16) ∈ L) (f_lines : f (ya 16) = .inl (E.2.2 1, 5, .inl (fun _ => 0))) (m_has : (ya 17) ∈ L) (f_has : f (ya 17) = .inl (E.2.2 1, 45, .inl (fun _ => 0))) (p0 : Int32) : gMi l E yX10_price cX10_price 3 .int (gRm 6 0 0) [.ref y, .int p0] L f (fun r _ _ => r = (-2 : Int32)) := by
  refine gMi.intro (by decide) (Nat.le_of_ble_eq_true rfl) ?_
  intro p e s m below meth c A ls C hr hA hH hl
  have C : gC E cX10_price 3 RX10 p s m _ meth c := C
  have hl : lv_has ls 3 [(0, .ref y), (1, .int p0)] := hl
  have hx := C.1
  have hb := C.2.1
  refine lv_aload_n hx hb dX10_price_0 rfl (lv_at hl 0 rfl) ?_
  refine lv_iconst (v := (0 : Int32)) hx hb dX10_price_1 (by decide) ?_
  refine g_put C hH my fy iX10 tyX10 tyX10_ok nmX10 rfl 0 (by decide) wd270 rfl rfl rfl rfl (Nat.le_of_ble_eq_true rfl) (fs' := [.int (0 : Int32), .ref (ya 1), .ref (ya 2), .ref (ya 3), .ref (ya 4), .ref (ya 5), .int (0 : Int32), .int (0 : Int32), .int (0 : Int32), .int (0 : Int32), .int (0 : Int32), .long (0 : Int64), .int (0 : Int32), .int (0 : Int32), .int (0 : Int32), .int (-1 : Int32), .ref (ya 16), .ref (ya 17), .ref (ya 18), .ref (ya 19), .ref (ya 20), .ref (ya 21), .int (0 : Int32), .int (0 : Int32), .int (0 : Int32), .ref (ya 25), .ref (ya 26), .ref (ya 27), .ref (ya 28), .ref (ya 29), .ref (ya 30), .ref (ya 31), .ref (ya 32), .ref (ya 33), .ref (ya 34), .ref (ya 35), .int (0 : Int32), .int (0 : Int32), .ref (ya 38), .int (0 : Int32), .int (0 : Int32), .ref (ya 41), .ref (ya 42), .int (0 : Int32), .int (0 : Int32), .int (0 : Int32), .int (0 : Int32), .int (0 : Int32)]) rfl dX10_price_2 (fun H locs hH => ?_)
  obtain ⟨f1, ef1⟩ : ∃ z : gF, z = va_up f y (.inr (10, [.int (0 : Int32), .ref (ya 1), .ref (ya 2), .ref (ya 3), .ref (ya 4), .ref (ya 5), .int (0 : Int32), .int (0 : Int32), .int (0 : Int32), .int (0 : Int32), .int (0 : Int32), .long (0 : Int64), .int (0 : Int32), .int (0 : Int32), .int (0 : Int32), .int (-1 : Int32), .ref (ya 16), .ref (ya 17), .ref (ya 18), .ref (ya 19), .ref (ya 20), .ref (ya 21), .int (0 : Int32), .int (0 : Int32), .int (0 : Int32), .ref (ya 25), .ref (ya 26), .ref (ya 27), .ref (ya 28), .ref (ya 29), .ref (ya 30), .ref (ya 31), .ref (ya 32), .ref (ya 33), .ref (ya 34), .ref (ya 35), .int (0 : Int32), .int (0 : Int32), .ref (ya 38), .int (0 : Int32), .int (0 : Int32), .ref (ya 41), .ref (ya 42), .int (0 : Int32), .int (0 : Int32), .int (0 : Int32), .int (0 : Int32), .int (0 : Int32)])) := ⟨_, rfl⟩
  have hH : gH E A L f1 s.heap H locs := by rw [ef1]; exact hH
  have h2 : f1 y = .inr (10, [.int (0 : Int32), .ref (ya 1), .ref (ya 2), .ref (ya 3), .ref (ya 4), .ref (ya 5), .int (0 : Int32), .int (0 : Int32), .int (0 : Int32), .int (0 : Int32), .int (0 : Int32), .long (0 : Int64), .int (0 : Int32), .int (0 : Int32), .int (0 : Int32), .int (-1 : Int32), .ref (ya 16), .ref (ya 17), .ref (ya 18), .ref (ya 19), .ref (ya 20), .ref (ya 21), .int (0 : Int32), .int (0 : Int32), .int (0 : Int32), .ref (ya 25), .ref (ya 26), .ref (ya 27), .ref (ya 28), .ref (ya 29), .ref (ya 30), .ref (ya 31), .ref (ya 32), .ref (ya 33), .ref (ya 34), .ref (ya 35), .int (0 : Int32), .int (0 : Int32), .ref (ya 38), .int (0 : Int32), .int (0 : Int32), .ref (ya 41), .ref (ya 42), .int (0 : Int32), .int (0 : Int32), .int (0 : Int32), .int (0 : Int32), .int (0 : Int32)]) := (congrFun ef1 y).trans (va_up_self _ _ _)
  refine lv_aload_n hx hb dX10_price_5 rfl (lv_at hl 0 rfl) ?_
  have h3 : f1 (ya 16) = .inl (E.2.2 1, 5, .inl (fun _ => 0)) := ((congrFun ef1 (ya 16)).trans (va_up_ne _ _ (g_neAO f_lines fy))).trans f_lines
  have h4 : f1 (ya 17) = .inl (E.2.2 1, 45, .inl (fun _ => 0)) := ((congrFun ef1 (ya 17)).trans (va_up_ne _ _ (g_neAO f_has fy))).trans f_has
  refine g_Vi C hl.1 hA hH (As := []) (rest := []) (m_isLand l E L f1 my h2 m_lines h3 m_has h4) my_X10_isLand wd266 my h2 rfl rfl rfl (Nat.le_of_ble_eq_true rfl) ⟨Nat.le_of_ble_eq_true rfl, Nat.le_of_ble_eq_true rfl⟩ ⟨Nat.le_of_ble_eq_true rfl, Nat.le_of_ble_eq_true rfl⟩ dX10_price_6 (fun r7 L6 f5 H locs hp hH => ?_)
  obtain ⟨er7, rfl, rfl⟩ := hp
  subst er7
  refine lv_if_eq (tgt := 24) hx hb dX10_price_9 (by decide) (fun _ => ?_) (fun h => absurd (by decide) h)
  refine lv_bipush (v := (-2 : Int32)) hx hb dX10_price_24 (by decide) ?_
  refine g_iret C hr hH (Nat.le_of_ble_eq_true rfl) (Nat.le_of_ble_eq_true rfl) dX10_price_26 ?_
  exact rfl
set_option maxHeartbeats 4000000 in
set_option maxRecDepth 100000 in
theorem m_cut (l : Launch) (E : gE) (L : List Nat) (f : gF) {y : Nat} {ya : Nat → Nat} (my : y ∈ L) (fy : f y = .inr (10, [.int (0 : Int32), .ref (ya 1), .ref (ya 2), .ref (ya 3), .ref (ya 4), .ref (ya 5), .int (0 : Int32), .int (0 : Int32), .int (0 : Int32), .int (0 : Int32), .int (0 : Int32), .long (0 : Int64), .int (0 : Int32), .int (0 : Int32), .int (0 : Int32), .int (-1 : Int32), .ref (ya 16), .ref (ya 17), .ref (ya 18), .ref (ya 19), .ref (ya 20), .ref (ya 21), .int (0 : Int32), .int (0 : Int32), .int (0 : Int32), .ref (ya 25), .ref (ya 26), .ref (ya 27), .ref (ya 28), .ref (ya 29), .ref (ya 30), .ref (ya 31), .ref (ya 32), .ref (ya 33), .ref (ya 34), .ref (ya 35), .int (0 : Int32), .int (0 : Int32), .ref (ya 38), .int (0 : Int32), .int (0 : Int32), .ref (ya 41), .ref (ya 42), .int (0 : Int32), .int (0 : Int32), .int (0 : Int32), .int (0 : Int32), .int (0 : Int32)])) (m_lines : (ya 16) ∈ L) (f_lines : f (ya 16) = .inl (E.2.2 1, 5, .inl (fun _ => 0))) (m_has : (ya 17) ∈ L) (f_has : f (ya 17) = .inl (E.2.2 1, 45, .inl (fun _ => 0))) (p0 p1 : Int32) : gMi l E yX10_cut_ cX10_cut_ 4 .int (gRm 6 0 0) [.ref y, .int p0, .int p1] L f (fun r _ _ => r = (-2 : Int32)) := by
  refine gMi.intro (by decide) (Nat.le_of_ble_eq_true rfl) ?_
  intro p e s m below meth c A ls C hr hA hH hl
  have C : gC E cX10_cut_ 4 RX10 p s m _ meth c := C
  have hl : lv_has ls 4 [(0, .ref y), (1, .int p0), (2, .int p1)] := hl
  have hx := C.1
  have hb := C.2.1
  refine lv_aload_n hx hb dX10_cut__0 rfl (lv_at hl 0 rfl) ?_
  refine lv_iconst (v := (0 : Int32)) hx hb dX10_cut__1 (by decide) ?_
  refine g_put C hH my fy iX10 tyX10 tyX10_ok nmX10 rfl 0 (by decide) wd270 rfl rfl rfl rfl (Nat.le_of_ble_eq_true rfl) (fs' := [.int (0 : Int32), .ref (ya 1), .ref (ya 2), .ref (ya 3), .ref (ya 4), .ref (ya 5), .int (0 : Int32), .int (0 : Int32), .int (0 : Int32), .int (0 : Int32), .int (0 : Int32), .long (0 : Int64), .int (0 : Int32), .int (0 : Int32), .int (0 : Int32), .int (-1 : Int32), .ref (ya 16), .ref (ya 17), .ref (ya 18), .ref (ya 19), .ref (ya 20), .ref (ya 21), .int (0 : Int32), .int (0 : Int32), .int (0 : Int32), .ref (ya 25), .ref (ya 26), .ref (ya 27), .ref (ya 28), .ref (ya 29), .ref (ya 30), .ref (ya 31), .ref (ya 32), .ref (ya 33), .ref (ya 34), .ref (ya 35), .int (0 : Int32), .int (0 : Int32), .ref (ya 38), .int (0 : Int32), .int (0 : Int32), .ref (ya 41), .ref (ya 42), .int (0 : Int32), .int (0 : Int32), .int (0 : Int32), .int (0 : Int32), .int (0 : Int32)]) rfl dX10_cut__2 (fun H locs hH => ?_)
  obtain ⟨f1, ef1⟩ : ∃ z : gF, z = va_up f y (.inr (10, [.int (0 : Int32), .ref (ya 1), .ref (ya 2), .ref (ya 3), .ref (ya 4), .ref (ya 5), .int (0 : Int32), .int (0 : Int32), .int (0 : Int32), .int (0 : Int32), .int (0 : Int32), .long (0 : Int64), .int (0 : Int32), .int (0 : Int32), .int (0 : Int32), .int (-1 : Int32), .ref (ya 16), .ref (ya 17), .ref (ya 18), .ref (ya 19), .ref (ya 20), .ref (ya 21), .int (0 : Int32), .int (0 : Int32), .int (0 : Int32), .ref (ya 25), .ref (ya 26), .ref (ya 27), .ref (ya 28), .ref (ya 29), .ref (ya 30), .ref (ya 31), .ref (ya 32), .ref (ya 33), .ref (ya 34), .ref (ya 35), .int (0 : Int32), .int (0 : Int32), .ref (ya 38), .int (0 : Int32), .int (0 : Int32), .ref (ya 41), .ref (ya 42), .int (0 : Int32), .int (0 : Int32), .int (0 : Int32), .int (0 : Int32), .int (0 : Int32)])) := ⟨_, rfl⟩
  have hH : gH E A L f1 s.heap H locs := by rw [ef1]; exact hH
  have h2 : f1 y = .inr (10, [.int (0 : Int32), .ref (ya 1), .ref (ya 2), .ref (ya 3), .ref (ya 4), .ref (ya 5), .int (0 : Int32), .int (0 : Int32), .int (0 : Int32), .int (0 : Int32), .int (0 : Int32), .long (0 : Int64), .int (0 : Int32), .int (0 : Int32), .int (0 : Int32), .int (-1 : Int32), .ref (ya 16), .ref (ya 17), .ref (ya 18), .ref (ya 19), .ref (ya 20), .ref (ya 21), .int (0 : Int32), .int (0 : Int32), .int (0 : Int32), .ref (ya 25), .ref (ya 26), .ref (ya 27), .ref (ya 28), .ref (ya 29), .ref (ya 30), .ref (ya 31), .ref (ya 32), .ref (ya 33), .ref (ya 34), .ref (ya 35), .int (0 : Int32), .int (0 : Int32), .ref (ya 38), .int (0 : Int32), .int (0 : Int32), .ref (ya 41), .ref (ya 42), .int (0 : Int32), .int (0 : Int32), .int (0 : Int32), .int (0 : Int32), .int (0 : Int32)]) := (congrFun ef1 y).trans (va_up_self _ _ _)
  refine lv_aload_n hx hb dX10_cut__5 rfl (lv_at hl 0 rfl) ?_
  refine lv_iload_n hx hb dX10_cut__6 rfl (lv_at hl 1 rfl) ?_
  refine lv_i2l (v := (p0).toInt64) hx hb dX10_cut__7 rfl ?_
  have h3 : f1 (ya 16) = .inl (E.2.2 1, 5, .inl (fun _ => 0)) := ((congrFun ef1 (ya 16)).trans (va_up_ne _ _ (g_neAO f_lines fy))).trans f_lines
  have h4 : f1 (ya 17) = .inl (E.2.2 1, 45, .inl (fun _ => 0)) := ((congrFun ef1 (ya 17)).trans (va_up_ne _ _ (g_neAO f_has fy))).trans f_has
  refine g_Vi C hl.1 hA hH (As := [.long (p0).toInt64]) (rest := []) (m_isMember l E L f1 my h2 m_lines h3 m_has h4 (p0).toInt64) my_X10_isMember wd262 my h2 rfl rfl rfl (Nat.le_of_ble_eq_true rfl) ⟨Nat.le_of_ble_eq_true rfl, Nat.le_of_ble_eq_true rfl⟩ ⟨Nat.le_of_ble_eq_true rfl, Nat.le_of_ble_eq_true rfl⟩ dX10_cut__8 (fun r7 L6 f5 H locs hp hH => ?_)
  obtain ⟨er7, rfl, rfl⟩ := hp
  subst er7
  refine lv_if_eq (tgt := 21) hx hb dX10_cut__11 (by decide) (fun _ => ?_) (fun h => absurd (by decide) h)
  refine lv_bipush (v := (-2 : Int32)) hx hb dX10_cut__21 (by decide) ?_
  refine g_iret C hr hH (Nat.le_of_ble_eq_true rfl) (Nat.le_of_ble_eq_true rfl) dX10_cut__23 ?_
  exact rfl
set_option maxHeartbeats 4000000 in
set_option maxRecDepth 100000 in
theorem m_rests (l : Launch) (E : gE) (L : List Nat) (f : gF) {y : Nat} {ya : Nat → Nat} (my : y ∈ L) (fy : f y = .inr (10, [.int (0 : Int32), .ref (ya 1), .ref (ya 2), .ref (ya 3), .ref (ya 4), .ref (ya 5), .int (0 : Int32), .int (0 : Int32), .int (0 : Int32), .int (0 : Int32), .int (0 : Int32), .long (0 : Int64), .int (0 : Int32), .int (0 : Int32), .int (0 : Int32), .int (-1 : Int32), .ref (ya 16), .ref (ya 17), .ref (ya 18), .ref (ya 19), .ref (ya 20), .ref (ya 21), .int (0 : Int32), .int (0 : Int32), .int (0 : Int32), .ref (ya 25), .ref (ya 26), .ref (ya 27), .ref (ya 28), .ref (ya 29), .ref (ya 30), .ref (ya 31), .ref (ya 32), .ref (ya 33), .ref (ya 34), .ref (ya 35), .int (0 : Int32), .int (0 : Int32), .ref (ya 38), .int (0 : Int32), .int (0 : Int32), .ref (ya 41), .ref (ya 42), .int (0 : Int32), .int (0 : Int32), .int (0 : Int32), .int (0 : Int32), .int (0 : Int32)])) (m_lines : (ya 16) ∈ L) (f_lines : f (ya 16) = .inl (E.2.2 1, 5, .inl (fun _ => 0))) (m_has : (ya 17) ∈ L) (f_has : f (ya 17) = .inl (E.2.2 1, 45, .inl (fun _ => 0))) (p0 p1 : Int32) : gMi l E yX10_rests cX10_rests 8 .int (gRm 6 0 0) [.ref y, .int p0, .int p1] L f (fun r _ _ => r = (-2 : Int32)) := by
  refine gMi.intro (by decide) (Nat.le_of_ble_eq_true rfl) ?_
  intro p e s m below meth c A ls C hr hA hH hl
  have C : gC E cX10_rests 8 RX10 p s m _ meth c := C
  have hl : lv_has ls 8 [(0, .ref y), (1, .int p0), (2, .int p1)] := hl
  have hx := C.1
  have hb := C.2.1
  refine lv_aload_n hx hb dX10_rests_0 rfl (lv_at hl 0 rfl) ?_
  refine lv_iconst (v := (0 : Int32)) hx hb dX10_rests_1 (by decide) ?_
  refine g_put C hH my fy iX10 tyX10 tyX10_ok nmX10 rfl 0 (by decide) wd270 rfl rfl rfl rfl (Nat.le_of_ble_eq_true rfl) (fs' := [.int (0 : Int32), .ref (ya 1), .ref (ya 2), .ref (ya 3), .ref (ya 4), .ref (ya 5), .int (0 : Int32), .int (0 : Int32), .int (0 : Int32), .int (0 : Int32), .int (0 : Int32), .long (0 : Int64), .int (0 : Int32), .int (0 : Int32), .int (0 : Int32), .int (-1 : Int32), .ref (ya 16), .ref (ya 17), .ref (ya 18), .ref (ya 19), .ref (ya 20), .ref (ya 21), .int (0 : Int32), .int (0 : Int32), .int (0 : Int32), .ref (ya 25), .ref (ya 26), .ref (ya 27), .ref (ya 28), .ref (ya 29), .ref (ya 30), .ref (ya 31), .ref (ya 32), .ref (ya 33), .ref (ya 34), .ref (ya 35), .int (0 : Int32), .int (0 : Int32), .ref (ya 38), .int (0 : Int32), .int (0 : Int32), .ref (ya 41), .ref (ya 42), .int (0 : Int32), .int (0 : Int32), .int (0 : Int32), .int (0 : Int32), .int (0 : Int32)]) rfl dX10_rests_2 (fun H locs hH => ?_)
  obtain ⟨f1, ef1⟩ : ∃ z : gF, z = va_up f y (.inr (10, [.int (0 : Int32), .ref (ya 1), .ref (ya 2), .ref (ya 3), .ref (ya 4), .ref (ya 5), .int (0 : Int32), .int (0 : Int32), .int (0 : Int32), .int (0 : Int32), .int (0 : Int32), .long (0 : Int64), .int (0 : Int32), .int (0 : Int32), .int (0 : Int32), .int (-1 : Int32), .ref (ya 16), .ref (ya 17), .ref (ya 18), .ref (ya 19), .ref (ya 20), .ref (ya 21), .int (0 : Int32), .int (0 : Int32), .int (0 : Int32), .ref (ya 25), .ref (ya 26), .ref (ya 27), .ref (ya 28), .ref (ya 29), .ref (ya 30), .ref (ya 31), .ref (ya 32), .ref (ya 33), .ref (ya 34), .ref (ya 35), .int (0 : Int32), .int (0 : Int32), .ref (ya 38), .int (0 : Int32), .int (0 : Int32), .ref (ya 41), .ref (ya 42), .int (0 : Int32), .int (0 : Int32), .int (0 : Int32), .int (0 : Int32), .int (0 : Int32)])) := ⟨_, rfl⟩
  have hH : gH E A L f1 s.heap H locs := by rw [ef1]; exact hH
  have h2 : f1 y = .inr (10, [.int (0 : Int32), .ref (ya 1), .ref (ya 2), .ref (ya 3), .ref (ya 4), .ref (ya 5), .int (0 : Int32), .int (0 : Int32), .int (0 : Int32), .int (0 : Int32), .int (0 : Int32), .long (0 : Int64), .int (0 : Int32), .int (0 : Int32), .int (0 : Int32), .int (-1 : Int32), .ref (ya 16), .ref (ya 17), .ref (ya 18), .ref (ya 19), .ref (ya 20), .ref (ya 21), .int (0 : Int32), .int (0 : Int32), .int (0 : Int32), .ref (ya 25), .ref (ya 26), .ref (ya 27), .ref (ya 28), .ref (ya 29), .ref (ya 30), .ref (ya 31), .ref (ya 32), .ref (ya 33), .ref (ya 34), .ref (ya 35), .int (0 : Int32), .int (0 : Int32), .ref (ya 38), .int (0 : Int32), .int (0 : Int32), .ref (ya 41), .ref (ya 42), .int (0 : Int32), .int (0 : Int32), .int (0 : Int32), .int (0 : Int32), .int (0 : Int32)]) := (congrFun ef1 y).trans (va_up_self _ _ _)
  refine lv_aload_n hx hb dX10_rests_5 rfl (lv_at hl 0 rfl) ?_
  refine lv_iload_n hx hb dX10_rests_6 rfl (lv_at hl 1 rfl) ?_
  refine lv_iload_n hx hb dX10_rests_7 rfl (lv_at hl 2 rfl) ?_
  have h3 : f1 (ya 16) = .inl (E.2.2 1, 5, .inl (fun _ => 0)) := ((congrFun ef1 (ya 16)).trans (va_up_ne _ _ (g_neAO f_lines fy))).trans f_lines
  have h4 : f1 (ya 17) = .inl (E.2.2 1, 45, .inl (fun _ => 0)) := ((congrFun ef1 (ya 17)).trans (va_up_ne _ _ (g_neAO f_has fy))).trans f_has
  refine g_Vi C hl.1 hA hH (As := [.int p0, .int p1]) (rest := []) (m_areTwo l E L f1 my h2 m_lines h3 m_has h4 p0 p1) my_X10_areTwo wd302 my h2 rfl rfl rfl (Nat.le_of_ble_eq_true rfl) ⟨Nat.le_of_ble_eq_true rfl, Nat.le_of_ble_eq_true rfl⟩ ⟨Nat.le_of_ble_eq_true rfl, Nat.le_of_ble_eq_true rfl⟩ dX10_rests_8 (fun r7 L6 f5 H locs hp hH => ?_)
  obtain ⟨er7, rfl, rfl⟩ := hp
  subst er7
  refine lv_if_ne (tgt := 17) hx hb dX10_rests_11 (by decide) (fun h => absurd (by decide) h) (fun _ => ?_)
  refine lv_bipush (v := (-2 : Int32)) hx hb dX10_rests_14 (by decide) ?_
  refine g_iret C hr hH (Nat.le_of_ble_eq_true rfl) (Nat.le_of_ble_eq_true rfl) dX10_rests_16 ?_
  exact rfl
set_option maxHeartbeats 4000000 in
set_option maxRecDepth 100000 in
theorem m_chance (l : Launch) (E : gE) (L : List Nat) (f : gF) {y : Nat} {ya : Nat → Nat} (my : y ∈ L) (fy : f y = .inr (10, [.int (0 : Int32), .ref (ya 1), .ref (ya 2), .ref (ya 3), .ref (ya 4), .ref (ya 5), .int (0 : Int32), .int (0 : Int32), .int (0 : Int32), .int (0 : Int32), .int (0 : Int32), .long (0 : Int64), .int (0 : Int32), .int (0 : Int32), .int (0 : Int32), .int (-1 : Int32), .ref (ya 16), .ref (ya 17), .ref (ya 18), .ref (ya 19), .ref (ya 20), .ref (ya 21), .int (0 : Int32), .int (0 : Int32), .int (0 : Int32), .ref (ya 25), .ref (ya 26), .ref (ya 27), .ref (ya 28), .ref (ya 29), .ref (ya 30), .ref (ya 31), .ref (ya 32), .ref (ya 33), .ref (ya 34), .ref (ya 35), .int (0 : Int32), .int (0 : Int32), .ref (ya 38), .int (0 : Int32), .int (0 : Int32), .ref (ya 41), .ref (ya 42), .int (0 : Int32), .int (0 : Int32), .int (0 : Int32), .int (0 : Int32), .int (0 : Int32)])) (m_lines : (ya 16) ∈ L) (f_lines : f (ya 16) = .inl (E.2.2 1, 5, .inl (fun _ => 0))) (m_has : (ya 17) ∈ L) (f_has : f (ya 17) = .inl (E.2.2 1, 45, .inl (fun _ => 0))) (p0 p1 : Int32) : gMi l E yX10_chance cX10_chance 3 .int (gRm 6 0 0) [.ref y, .int p0, .int p1] L f (fun r _ _ => r = (-2 : Int32)) := by
  refine gMi.intro (by decide) (Nat.le_of_ble_eq_true rfl) ?_
  intro p e s m below meth c A ls C hr hA hH hl
  have C : gC E cX10_chance 3 RX10 p s m _ meth c := C
  have hl : lv_has ls 3 [(0, .ref y), (1, .int p0), (2, .int p1)] := hl
  have hx := C.1
  have hb := C.2.1
  refine lv_aload_n hx hb dX10_chance_0 rfl (lv_at hl 0 rfl) ?_
  refine lv_iconst (v := (0 : Int32)) hx hb dX10_chance_1 (by decide) ?_
  refine g_put C hH my fy iX10 tyX10 tyX10_ok nmX10 rfl 0 (by decide) wd270 rfl rfl rfl rfl (Nat.le_of_ble_eq_true rfl) (fs' := [.int (0 : Int32), .ref (ya 1), .ref (ya 2), .ref (ya 3), .ref (ya 4), .ref (ya 5), .int (0 : Int32), .int (0 : Int32), .int (0 : Int32), .int (0 : Int32), .int (0 : Int32), .long (0 : Int64), .int (0 : Int32), .int (0 : Int32), .int (0 : Int32), .int (-1 : Int32), .ref (ya 16), .ref (ya 17), .ref (ya 18), .ref (ya 19), .ref (ya 20), .ref (ya 21), .int (0 : Int32), .int (0 : Int32), .int (0 : Int32), .ref (ya 25), .ref (ya 26), .ref (ya 27), .ref (ya 28), .ref (ya 29), .ref (ya 30), .ref (ya 31), .ref (ya 32), .ref (ya 33), .ref (ya 34), .ref (ya 35), .int (0 : Int32), .int (0 : Int32), .ref (ya 38), .int (0 : Int32), .int (0 : Int32), .ref (ya 41), .ref (ya 42), .int (0 : Int32), .int (0 : Int32), .int (0 : Int32), .int (0 : Int32), .int (0 : Int32)]) rfl dX10_chance_2 (fun H locs hH => ?_)
  obtain ⟨f1, ef1⟩ : ∃ z : gF, z = va_up f y (.inr (10, [.int (0 : Int32), .ref (ya 1), .ref (ya 2), .ref (ya 3), .ref (ya 4), .ref (ya 5), .int (0 : Int32), .int (0 : Int32), .int (0 : Int32), .int (0 : Int32), .int (0 : Int32), .long (0 : Int64), .int (0 : Int32), .int (0 : Int32), .int (0 : Int32), .int (-1 : Int32), .ref (ya 16), .ref (ya 17), .ref (ya 18), .ref (ya 19), .ref (ya 20), .ref (ya 21), .int (0 : Int32), .int (0 : Int32), .int (0 : Int32), .ref (ya 25), .ref (ya 26), .ref (ya 27), .ref (ya 28), .ref (ya 29), .ref (ya 30), .ref (ya 31), .ref (ya 32), .ref (ya 33), .ref (ya 34), .ref (ya 35), .int (0 : Int32), .int (0 : Int32), .ref (ya 38), .int (0 : Int32), .int (0 : Int32), .ref (ya 41), .ref (ya 42), .int (0 : Int32), .int (0 : Int32), .int (0 : Int32), .int (0 : Int32), .int (0 : Int32)])) := ⟨_, rfl⟩
  have hH : gH E A L f1 s.heap H locs := by rw [ef1]; exact hH
  have h2 : f1 y = .inr (10, [.int (0 : Int32), .ref (ya 1), .ref (ya 2), .ref (ya 3), .ref (ya 4), .ref (ya 5), .int (0 : Int32), .int (0 : Int32), .int (0 : Int32), .int (0 : Int32), .int (0 : Int32), .long (0 : Int64), .int (0 : Int32), .int (0 : Int32), .int (0 : Int32), .int (-1 : Int32), .ref (ya 16), .ref (ya 17), .ref (ya 18), .ref (ya 19), .ref (ya 20), .ref (ya 21), .int (0 : Int32), .int (0 : Int32), .int (0 : Int32), .ref (ya 25), .ref (ya 26), .ref (ya 27), .ref (ya 28), .ref (ya 29), .ref (ya 30), .ref (ya 31), .ref (ya 32), .ref (ya 33), .ref (ya 34), .ref (ya 35), .int (0 : Int32), .int (0 : Int32), .ref (ya 38), .int (0 : Int32), .int (0 : Int32), .ref (ya 41), .ref (ya 42), .int (0 : Int32), .int (0 : Int32), .int (0 : Int32), .int (0 : Int32), .int (0 : Int32)]) := (congrFun ef1 y).trans (va_up_self _ _ _)
  refine lv_aload_n hx hb dX10_chance_5 rfl (lv_at hl 0 rfl) ?_
  refine lv_iload_n hx hb dX10_chance_6 rfl (lv_at hl 1 rfl) ?_
  refine lv_i2l (v := (p0).toInt64) hx hb dX10_chance_7 rfl ?_
  have h3 : f1 (ya 16) = .inl (E.2.2 1, 5, .inl (fun _ => 0)) := ((congrFun ef1 (ya 16)).trans (va_up_ne _ _ (g_neAO f_lines fy))).trans f_lines
  have h4 : f1 (ya 17) = .inl (E.2.2 1, 45, .inl (fun _ => 0)) := ((congrFun ef1 (ya 17)).trans (va_up_ne _ _ (g_neAO f_has fy))).trans f_has
  refine g_Vi C hl.1 hA hH (As := [.long (p0).toInt64]) (rest := []) (m_isMember l E L f1 my h2 m_lines h3 m_has h4 (p0).toInt64) my_X10_isMember wd262 my h2 rfl rfl rfl (Nat.le_of_ble_eq_true rfl) ⟨Nat.le_of_ble_eq_true rfl, Nat.le_of_ble_eq_true rfl⟩ ⟨Nat.le_of_ble_eq_true rfl, Nat.le_of_ble_eq_true rfl⟩ dX10_chance_8 (fun r7 L6 f5 H locs hp hH => ?_)
  obtain ⟨er7, rfl, rfl⟩ := hp
  subst er7
  refine lv_if_eq (tgt := 37) hx hb dX10_chance_11 (by decide) (fun _ => ?_) (fun h => absurd (by decide) h)
  refine lv_bipush (v := (-2 : Int32)) hx hb dX10_chance_37 (by decide) ?_
  refine g_iret C hr hH (Nat.le_of_ble_eq_true rfl) (Nat.le_of_ble_eq_true rfl) dX10_chance_39 ?_
  exact rfl
set_option maxHeartbeats 4000000 in
set_option maxRecDepth 100000 in
theorem m_mean (l : Launch) (E : gE) (L : List Nat) (f : gF) {y : Nat} {ya : Nat → Nat} (my : y ∈ L) (fy : f y = .inr (10, [.int (0 : Int32), .ref (ya 1), .ref (ya 2), .ref (ya 3), .ref (ya 4), .ref (ya 5), .int (0 : Int32), .int (0 : Int32), .int (0 : Int32), .int (0 : Int32), .int (0 : Int32), .long (0 : Int64), .int (0 : Int32), .int (0 : Int32), .int (0 : Int32), .int (-1 : Int32), .ref (ya 16), .ref (ya 17), .ref (ya 18), .ref (ya 19), .ref (ya 20), .ref (ya 21), .int (0 : Int32), .int (0 : Int32), .int (0 : Int32), .ref (ya 25), .ref (ya 26), .ref (ya 27), .ref (ya 28), .ref (ya 29), .ref (ya 30), .ref (ya 31), .ref (ya 32), .ref (ya 33), .ref (ya 34), .ref (ya 35), .int (0 : Int32), .int (0 : Int32), .ref (ya 38), .int (0 : Int32), .int (0 : Int32), .ref (ya 41), .ref (ya 42), .int (0 : Int32), .int (0 : Int32), .int (0 : Int32), .int (0 : Int32), .int (0 : Int32)])) (m_lines : (ya 16) ∈ L) (f_lines : f (ya 16) = .inl (E.2.2 1, 5, .inl (fun _ => 0))) (m_has : (ya 17) ∈ L) (f_has : f (ya 17) = .inl (E.2.2 1, 45, .inl (fun _ => 0))) (p0 : Int32) : gMi l E yX10_mean cX10_mean 2 .int (gRm 6 0 0) [.ref y, .int p0] L f (fun r _ _ => r = (-2 : Int32)) := by
  refine gMi.intro (by decide) (Nat.le_of_ble_eq_true rfl) ?_
  intro p e s m below meth c A ls C hr hA hH hl
  have C : gC E cX10_mean 2 RX10 p s m _ meth c := C
  have hl : lv_has ls 2 [(0, .ref y), (1, .int p0)] := hl
  have hx := C.1
  have hb := C.2.1
  refine lv_aload_n hx hb dX10_mean_0 rfl (lv_at hl 0 rfl) ?_
  refine lv_iconst (v := (0 : Int32)) hx hb dX10_mean_1 (by decide) ?_
  refine g_put C hH my fy iX10 tyX10 tyX10_ok nmX10 rfl 0 (by decide) wd270 rfl rfl rfl rfl (Nat.le_of_ble_eq_true rfl) (fs' := [.int (0 : Int32), .ref (ya 1), .ref (ya 2), .ref (ya 3), .ref (ya 4), .ref (ya 5), .int (0 : Int32), .int (0 : Int32), .int (0 : Int32), .int (0 : Int32), .int (0 : Int32), .long (0 : Int64), .int (0 : Int32), .int (0 : Int32), .int (0 : Int32), .int (-1 : Int32), .ref (ya 16), .ref (ya 17), .ref (ya 18), .ref (ya 19), .ref (ya 20), .ref (ya 21), .int (0 : Int32), .int (0 : Int32), .int (0 : Int32), .ref (ya 25), .ref (ya 26), .ref (ya 27), .ref (ya 28), .ref (ya 29), .ref (ya 30), .ref (ya 31), .ref (ya 32), .ref (ya 33), .ref (ya 34), .ref (ya 35), .int (0 : Int32), .int (0 : Int32), .ref (ya 38), .int (0 : Int32), .int (0 : Int32), .ref (ya 41), .ref (ya 42), .int (0 : Int32), .int (0 : Int32), .int (0 : Int32), .int (0 : Int32), .int (0 : Int32)]) rfl dX10_mean_2 (fun H locs hH => ?_)
  obtain ⟨f1, ef1⟩ : ∃ z : gF, z = va_up f y (.inr (10, [.int (0 : Int32), .ref (ya 1), .ref (ya 2), .ref (ya 3), .ref (ya 4), .ref (ya 5), .int (0 : Int32), .int (0 : Int32), .int (0 : Int32), .int (0 : Int32), .int (0 : Int32), .long (0 : Int64), .int (0 : Int32), .int (0 : Int32), .int (0 : Int32), .int (-1 : Int32), .ref (ya 16), .ref (ya 17), .ref (ya 18), .ref (ya 19), .ref (ya 20), .ref (ya 21), .int (0 : Int32), .int (0 : Int32), .int (0 : Int32), .ref (ya 25), .ref (ya 26), .ref (ya 27), .ref (ya 28), .ref (ya 29), .ref (ya 30), .ref (ya 31), .ref (ya 32), .ref (ya 33), .ref (ya 34), .ref (ya 35), .int (0 : Int32), .int (0 : Int32), .ref (ya 38), .int (0 : Int32), .int (0 : Int32), .ref (ya 41), .ref (ya 42), .int (0 : Int32), .int (0 : Int32), .int (0 : Int32), .int (0 : Int32), .int (0 : Int32)])) := ⟨_, rfl⟩
  have hH : gH E A L f1 s.heap H locs := by rw [ef1]; exact hH
  have h2 : f1 y = .inr (10, [.int (0 : Int32), .ref (ya 1), .ref (ya 2), .ref (ya 3), .ref (ya 4), .ref (ya 5), .int (0 : Int32), .int (0 : Int32), .int (0 : Int32), .int (0 : Int32), .int (0 : Int32), .long (0 : Int64), .int (0 : Int32), .int (0 : Int32), .int (0 : Int32), .int (-1 : Int32), .ref (ya 16), .ref (ya 17), .ref (ya 18), .ref (ya 19), .ref (ya 20), .ref (ya 21), .int (0 : Int32), .int (0 : Int32), .int (0 : Int32), .ref (ya 25), .ref (ya 26), .ref (ya 27), .ref (ya 28), .ref (ya 29), .ref (ya 30), .ref (ya 31), .ref (ya 32), .ref (ya 33), .ref (ya 34), .ref (ya 35), .int (0 : Int32), .int (0 : Int32), .ref (ya 38), .int (0 : Int32), .int (0 : Int32), .ref (ya 41), .ref (ya 42), .int (0 : Int32), .int (0 : Int32), .int (0 : Int32), .int (0 : Int32), .int (0 : Int32)]) := (congrFun ef1 y).trans (va_up_self _ _ _)
  refine lv_aload_n hx hb dX10_mean_5 rfl (lv_at hl 0 rfl) ?_
  have h3 : f1 (ya 16) = .inl (E.2.2 1, 5, .inl (fun _ => 0)) := ((congrFun ef1 (ya 16)).trans (va_up_ne _ _ (g_neAO f_lines fy))).trans f_lines
  have h4 : f1 (ya 17) = .inl (E.2.2 1, 45, .inl (fun _ => 0)) := ((congrFun ef1 (ya 17)).trans (va_up_ne _ _ (g_neAO f_has fy))).trans f_has
  refine g_Vi C hl.1 hA hH (As := []) (rest := []) (m_isLand l E L f1 my h2 m_lines h3 m_has h4) my_X10_isLand wd266 my h2 rfl rfl rfl (Nat.le_of_ble_eq_true rfl) ⟨Nat.le_of_ble_eq_true rfl, Nat.le_of_ble_eq_true rfl⟩ ⟨Nat.le_of_ble_eq_true rfl, Nat.le_of_ble_eq_true rfl⟩ dX10_mean_6 (fun r7 L6 f5 H locs hp hH => ?_)
  obtain ⟨er7, rfl, rfl⟩ := hp
  subst er7
  refine lv_if_eq (tgt := 35) hx hb dX10_mean_9 (by decide) (fun _ => ?_) (fun h => absurd (by decide) h)
  refine lv_bipush (v := (-2 : Int32)) hx hb dX10_mean_35 (by decide) ?_
  refine g_iret C hr hH (Nat.le_of_ble_eq_true rfl) (Nat.le_of_ble_eq_true rfl) dX10_mean_37 ?_
  exact rfl
set_option maxHeartbeats 4000000 in
set_option maxRecDepth 100000 in
theorem m_flown (l : Launch) (E : gE) (L : List Nat) (f : gF) {y : Nat} {ya : Nat → Nat} (my : y ∈ L) (fy : f y = .inr (10, [.int (0 : Int32), .ref (ya 1), .ref (ya 2), .ref (ya 3), .ref (ya 4), .ref (ya 5), .int (0 : Int32), .int (0 : Int32), .int (0 : Int32), .int (0 : Int32), .int (0 : Int32), .long (0 : Int64), .int (0 : Int32), .int (0 : Int32), .int (0 : Int32), .int (-1 : Int32), .ref (ya 16), .ref (ya 17), .ref (ya 18), .ref (ya 19), .ref (ya 20), .ref (ya 21), .int (0 : Int32), .int (0 : Int32), .int (0 : Int32), .ref (ya 25), .ref (ya 26), .ref (ya 27), .ref (ya 28), .ref (ya 29), .ref (ya 30), .ref (ya 31), .ref (ya 32), .ref (ya 33), .ref (ya 34), .ref (ya 35), .int (0 : Int32), .int (0 : Int32), .ref (ya 38), .int (0 : Int32), .int (0 : Int32), .ref (ya 41), .ref (ya 42), .int (0 : Int32), .int (0 : Int32), .int (0 : Int32), .int (0 : Int32), .int (0 : Int32)])) (m_lines : (ya 16) ∈ L) (f_lines : f (ya 16) = .inl (E.2.2 1, 5, .inl (fun _ => 0))) (m_has : (ya 17) ∈ L) (f_has : f (ya 17) = .inl (E.2.2 1, 45, .inl (fun _ => 0))) (p0 p1 : Int32) : gMi l E yX10_flown cX10_flown 5 .int (gRm 6 0 0) [.ref y, .int p0, .int p1] L f (fun r _ _ => r = (-2 : Int32)) := by
  refine gMi.intro (by decide) (Nat.le_of_ble_eq_true rfl) ?_
  intro p e s m below meth c A ls C hr hA hH hl
  have C : gC E cX10_flown 5 RX10 p s m _ meth c := C
  have hl : lv_has ls 5 [(0, .ref y), (1, .int p0), (2, .int p1)] := hl
  have hx := C.1
  have hb := C.2.1
  refine lv_aload_n hx hb dX10_flown_0 rfl (lv_at hl 0 rfl) ?_
  refine lv_iconst (v := (0 : Int32)) hx hb dX10_flown_1 (by decide) ?_
  refine g_put C hH my fy iX10 tyX10 tyX10_ok nmX10 rfl 0 (by decide) wd270 rfl rfl rfl rfl (Nat.le_of_ble_eq_true rfl) (fs' := [.int (0 : Int32), .ref (ya 1), .ref (ya 2), .ref (ya 3), .ref (ya 4), .ref (ya 5), .int (0 : Int32), .int (0 : Int32), .int (0 : Int32), .int (0 : Int32), .int (0 : Int32), .long (0 : Int64), .int (0 : Int32), .int (0 : Int32), .int (0 : Int32), .int (-1 : Int32), .ref (ya 16), .ref (ya 17), .ref (ya 18), .ref (ya 19), .ref (ya 20), .ref (ya 21), .int (0 : Int32), .int (0 : Int32), .int (0 : Int32), .ref (ya 25), .ref (ya 26), .ref (ya 27), .ref (ya 28), .ref (ya 29), .ref (ya 30), .ref (ya 31), .ref (ya 32), .ref (ya 33), .ref (ya 34), .ref (ya 35), .int (0 : Int32), .int (0 : Int32), .ref (ya 38), .int (0 : Int32), .int (0 : Int32), .ref (ya 41), .ref (ya 42), .int (0 : Int32), .int (0 : Int32), .int (0 : Int32), .int (0 : Int32), .int (0 : Int32)]) rfl dX10_flown_2 (fun H locs hH => ?_)
  obtain ⟨f1, ef1⟩ : ∃ z : gF, z = va_up f y (.inr (10, [.int (0 : Int32), .ref (ya 1), .ref (ya 2), .ref (ya 3), .ref (ya 4), .ref (ya 5), .int (0 : Int32), .int (0 : Int32), .int (0 : Int32), .int (0 : Int32), .int (0 : Int32), .long (0 : Int64), .int (0 : Int32), .int (0 : Int32), .int (0 : Int32), .int (-1 : Int32), .ref (ya 16), .ref (ya 17), .ref (ya 18), .ref (ya 19), .ref (ya 20), .ref (ya 21), .int (0 : Int32), .int (0 : Int32), .int (0 : Int32), .ref (ya 25), .ref (ya 26), .ref (ya 27), .ref (ya 28), .ref (ya 29), .ref (ya 30), .ref (ya 31), .ref (ya 32), .ref (ya 33), .ref (ya 34), .ref (ya 35), .int (0 : Int32), .int (0 : Int32), .ref (ya 38), .int (0 : Int32), .int (0 : Int32), .ref (ya 41), .ref (ya 42), .int (0 : Int32), .int (0 : Int32), .int (0 : Int32), .int (0 : Int32), .int (0 : Int32)])) := ⟨_, rfl⟩
  have hH : gH E A L f1 s.heap H locs := by rw [ef1]; exact hH
  have h2 : f1 y = .inr (10, [.int (0 : Int32), .ref (ya 1), .ref (ya 2), .ref (ya 3), .ref (ya 4), .ref (ya 5), .int (0 : Int32), .int (0 : Int32), .int (0 : Int32), .int (0 : Int32), .int (0 : Int32), .long (0 : Int64), .int (0 : Int32), .int (0 : Int32), .int (0 : Int32), .int (-1 : Int32), .ref (ya 16), .ref (ya 17), .ref (ya 18), .ref (ya 19), .ref (ya 20), .ref (ya 21), .int (0 : Int32), .int (0 : Int32), .int (0 : Int32), .ref (ya 25), .ref (ya 26), .ref (ya 27), .ref (ya 28), .ref (ya 29), .ref (ya 30), .ref (ya 31), .ref (ya 32), .ref (ya 33), .ref (ya 34), .ref (ya 35), .int (0 : Int32), .int (0 : Int32), .ref (ya 38), .int (0 : Int32), .int (0 : Int32), .ref (ya 41), .ref (ya 42), .int (0 : Int32), .int (0 : Int32), .int (0 : Int32), .int (0 : Int32), .int (0 : Int32)]) := (congrFun ef1 y).trans (va_up_self _ _ _)
  refine lv_aload_n hx hb dX10_flown_5 rfl (lv_at hl 0 rfl) ?_
  have h3 : f1 (ya 16) = .inl (E.2.2 1, 5, .inl (fun _ => 0)) := ((congrFun ef1 (ya 16)).trans (va_up_ne _ _ (g_neAO f_lines fy))).trans f_lines
  have h4 : f1 (ya 17) = .inl (E.2.2 1, 45, .inl (fun _ => 0)) := ((congrFun ef1 (ya 17)).trans (va_up_ne _ _ (g_neAO f_has fy))).trans f_has
  refine g_Vi C hl.1 hA hH (As := []) (rest := []) (m_isLand l E L f1 my h2 m_lines h3 m_has h4) my_X10_isLand wd266 my h2 rfl rfl rfl (Nat.le_of_ble_eq_true rfl) ⟨Nat.le_of_ble_eq_true rfl, Nat.le_of_ble_eq_true rfl⟩ ⟨Nat.le_of_ble_eq_true rfl, Nat.le_of_ble_eq_true rfl⟩ dX10_flown_6 (fun r7 L6 f5 H locs hp hH => ?_)
  obtain ⟨er7, rfl, rfl⟩ := hp
  subst er7
  refine lv_if_eq (tgt := 31) hx hb dX10_flown_9 (by decide) (fun _ => ?_) (fun h => absurd (by decide) h)
  refine lv_bipush (v := (-2 : Int32)) hx hb dX10_flown_31 (by decide) ?_
  refine g_iret C hr hH (Nat.le_of_ble_eq_true rfl) (Nat.le_of_ble_eq_true rfl) dX10_flown_33 ?_
  exact rfl
set_option maxHeartbeats 4000000 in
set_option maxRecDepth 100000 in
theorem m_light (l : Launch) (E : gE) (L : List Nat) (f : gF) {y : Nat} {ya : Nat → Nat} (my : y ∈ L) (fy : f y = .inr (10, [.int (0 : Int32), .ref (ya 1), .ref (ya 2), .ref (ya 3), .ref (ya 4), .ref (ya 5), .int (0 : Int32), .int (0 : Int32), .int (0 : Int32), .int (0 : Int32), .int (0 : Int32), .long (0 : Int64), .int (0 : Int32), .int (0 : Int32), .int (0 : Int32), .int (-1 : Int32), .ref (ya 16), .ref (ya 17), .ref (ya 18), .ref (ya 19), .ref (ya 20), .ref (ya 21), .int (0 : Int32), .int (0 : Int32), .int (0 : Int32), .ref (ya 25), .ref (ya 26), .ref (ya 27), .ref (ya 28), .ref (ya 29), .ref (ya 30), .ref (ya 31), .ref (ya 32), .ref (ya 33), .ref (ya 34), .ref (ya 35), .int (0 : Int32), .int (0 : Int32), .ref (ya 38), .int (0 : Int32), .int (0 : Int32), .ref (ya 41), .ref (ya 42), .int (0 : Int32), .int (0 : Int32), .int (0 : Int32), .int (0 : Int32), .int (0 : Int32)])) (m_lines : (ya 16) ∈ L) (f_lines : f (ya 16) = .inl (E.2.2 1, 5, .inl (fun _ => 0))) (m_has : (ya 17) ∈ L) (f_has : f (ya 17) = .inl (E.2.2 1, 45, .inl (fun _ => 0))) (p0 p1 : Int32) : gMi l E yX10_light cX10_light 3 .int (gRm 6 0 0) [.ref y, .int p0, .int p1] L f (fun r _ _ => r = (-2 : Int32)) := by
  refine gMi.intro (by decide) (Nat.le_of_ble_eq_true rfl) ?_
  intro p e s m below meth c A ls C hr hA hH hl
  have C : gC E cX10_light 3 RX10 p s m _ meth c := C
  have hl : lv_has ls 3 [(0, .ref y), (1, .int p0), (2, .int p1)] := hl
  have hx := C.1
  have hb := C.2.1
  refine lv_aload_n hx hb dX10_light_0 rfl (lv_at hl 0 rfl) ?_
  refine lv_iconst (v := (0 : Int32)) hx hb dX10_light_1 (by decide) ?_
  refine g_put C hH my fy iX10 tyX10 tyX10_ok nmX10 rfl 0 (by decide) wd270 rfl rfl rfl rfl (Nat.le_of_ble_eq_true rfl) (fs' := [.int (0 : Int32), .ref (ya 1), .ref (ya 2), .ref (ya 3), .ref (ya 4), .ref (ya 5), .int (0 : Int32), .int (0 : Int32), .int (0 : Int32), .int (0 : Int32), .int (0 : Int32), .long (0 : Int64), .int (0 : Int32), .int (0 : Int32), .int (0 : Int32), .int (-1 : Int32), .ref (ya 16), .ref (ya 17), .ref (ya 18), .ref (ya 19), .ref (ya 20), .ref (ya 21), .int (0 : Int32), .int (0 : Int32), .int (0 : Int32), .ref (ya 25), .ref (ya 26), .ref (ya 27), .ref (ya 28), .ref (ya 29), .ref (ya 30), .ref (ya 31), .ref (ya 32), .ref (ya 33), .ref (ya 34), .ref (ya 35), .int (0 : Int32), .int (0 : Int32), .ref (ya 38), .int (0 : Int32), .int (0 : Int32), .ref (ya 41), .ref (ya 42), .int (0 : Int32), .int (0 : Int32), .int (0 : Int32), .int (0 : Int32), .int (0 : Int32)]) rfl dX10_light_2 (fun H locs hH => ?_)
  obtain ⟨f1, ef1⟩ : ∃ z : gF, z = va_up f y (.inr (10, [.int (0 : Int32), .ref (ya 1), .ref (ya 2), .ref (ya 3), .ref (ya 4), .ref (ya 5), .int (0 : Int32), .int (0 : Int32), .int (0 : Int32), .int (0 : Int32), .int (0 : Int32), .long (0 : Int64), .int (0 : Int32), .int (0 : Int32), .int (0 : Int32), .int (-1 : Int32), .ref (ya 16), .ref (ya 17), .ref (ya 18), .ref (ya 19), .ref (ya 20), .ref (ya 21), .int (0 : Int32), .int (0 : Int32), .int (0 : Int32), .ref (ya 25), .ref (ya 26), .ref (ya 27), .ref (ya 28), .ref (ya 29), .ref (ya 30), .ref (ya 31), .ref (ya 32), .ref (ya 33), .ref (ya 34), .ref (ya 35), .int (0 : Int32), .int (0 : Int32), .ref (ya 38), .int (0 : Int32), .int (0 : Int32), .ref (ya 41), .ref (ya 42), .int (0 : Int32), .int (0 : Int32), .int (0 : Int32), .int (0 : Int32), .int (0 : Int32)])) := ⟨_, rfl⟩
  have hH : gH E A L f1 s.heap H locs := by rw [ef1]; exact hH
  have h2 : f1 y = .inr (10, [.int (0 : Int32), .ref (ya 1), .ref (ya 2), .ref (ya 3), .ref (ya 4), .ref (ya 5), .int (0 : Int32), .int (0 : Int32), .int (0 : Int32), .int (0 : Int32), .int (0 : Int32), .long (0 : Int64), .int (0 : Int32), .int (0 : Int32), .int (0 : Int32), .int (-1 : Int32), .ref (ya 16), .ref (ya 17), .ref (ya 18), .ref (ya 19), .ref (ya 20), .ref (ya 21), .int (0 : Int32), .int (0 : Int32), .int (0 : Int32), .ref (ya 25), .ref (ya 26), .ref (ya 27), .ref (ya 28), .ref (ya 29), .ref (ya 30), .ref (ya 31), .ref (ya 32), .ref (ya 33), .ref (ya 34), .ref (ya 35), .int (0 : Int32), .int (0 : Int32), .ref (ya 38), .int (0 : Int32), .int (0 : Int32), .ref (ya 41), .ref (ya 42), .int (0 : Int32), .int (0 : Int32), .int (0 : Int32), .int (0 : Int32), .int (0 : Int32)]) := (congrFun ef1 y).trans (va_up_self _ _ _)
  refine lv_aload_n hx hb dX10_light_5 rfl (lv_at hl 0 rfl) ?_
  refine lv_iload_n hx hb dX10_light_6 rfl (lv_at hl 1 rfl) ?_
  refine lv_i2l (v := (p0).toInt64) hx hb dX10_light_7 rfl ?_
  have h3 : f1 (ya 16) = .inl (E.2.2 1, 5, .inl (fun _ => 0)) := ((congrFun ef1 (ya 16)).trans (va_up_ne _ _ (g_neAO f_lines fy))).trans f_lines
  have h4 : f1 (ya 17) = .inl (E.2.2 1, 45, .inl (fun _ => 0)) := ((congrFun ef1 (ya 17)).trans (va_up_ne _ _ (g_neAO f_has fy))).trans f_has
  refine g_Vi C hl.1 hA hH (As := [.long (p0).toInt64]) (rest := []) (m_isCell l E L f1 my h2 m_lines h3 m_has h4 (p0).toInt64) my_X10_isCell wd278 my h2 rfl rfl rfl (Nat.le_of_ble_eq_true rfl) ⟨Nat.le_of_ble_eq_true rfl, Nat.le_of_ble_eq_true rfl⟩ ⟨Nat.le_of_ble_eq_true rfl, Nat.le_of_ble_eq_true rfl⟩ dX10_light_8 (fun r7 L6 f5 H locs hp hH => ?_)
  obtain ⟨er7, rfl, rfl⟩ := hp
  subst er7
  refine lv_if_eq (tgt := 21) hx hb dX10_light_11 (by decide) (fun _ => ?_) (fun h => absurd (by decide) h)
  refine lv_bipush (v := (-2 : Int32)) hx hb dX10_light_21 (by decide) ?_
  refine g_iret C hr hH (Nat.le_of_ble_eq_true rfl) (Nat.le_of_ble_eq_true rfl) dX10_light_23 ?_
  exact rfl
set_option maxHeartbeats 4000000 in
set_option maxRecDepth 100000 in
theorem m_turn (l : Launch) (E : gE) (L : List Nat) (f : gF) {y : Nat} {ya : Nat → Nat} (my : y ∈ L) (fy : f y = .inr (10, [.int (0 : Int32), .ref (ya 1), .ref (ya 2), .ref (ya 3), .ref (ya 4), .ref (ya 5), .int (0 : Int32), .int (0 : Int32), .int (0 : Int32), .int (0 : Int32), .int (0 : Int32), .long (0 : Int64), .int (0 : Int32), .int (0 : Int32), .int (0 : Int32), .int (-1 : Int32), .ref (ya 16), .ref (ya 17), .ref (ya 18), .ref (ya 19), .ref (ya 20), .ref (ya 21), .int (0 : Int32), .int (0 : Int32), .int (0 : Int32), .ref (ya 25), .ref (ya 26), .ref (ya 27), .ref (ya 28), .ref (ya 29), .ref (ya 30), .ref (ya 31), .ref (ya 32), .ref (ya 33), .ref (ya 34), .ref (ya 35), .int (0 : Int32), .int (0 : Int32), .ref (ya 38), .int (0 : Int32), .int (0 : Int32), .ref (ya 41), .ref (ya 42), .int (0 : Int32), .int (0 : Int32), .int (0 : Int32), .int (0 : Int32), .int (0 : Int32)])) (m_lines : (ya 16) ∈ L) (f_lines : f (ya 16) = .inl (E.2.2 1, 5, .inl (fun _ => 0))) (m_has : (ya 17) ∈ L) (f_has : f (ya 17) = .inl (E.2.2 1, 45, .inl (fun _ => 0))) (p0 p1 : Int32) : gMi l E yX10_turn cX10_turn 3 .int (gRm 6 0 0) [.ref y, .int p0, .int p1] L f (fun r _ _ => r = (-2 : Int32)) := by
  refine gMi.intro (by decide) (Nat.le_of_ble_eq_true rfl) ?_
  intro p e s m below meth c A ls C hr hA hH hl
  have C : gC E cX10_turn 3 RX10 p s m _ meth c := C
  have hl : lv_has ls 3 [(0, .ref y), (1, .int p0), (2, .int p1)] := hl
  have hx := C.1
  have hb := C.2.1
  refine lv_aload_n hx hb dX10_turn_0 rfl (lv_at hl 0 rfl) ?_
  refine lv_iconst (v := (0 : Int32)) hx hb dX10_turn_1 (by decide) ?_
  refine g_put C hH my fy iX10 tyX10 tyX10_ok nmX10 rfl 0 (by decide) wd270 rfl rfl rfl rfl (Nat.le_of_ble_eq_true rfl) (fs' := [.int (0 : Int32), .ref (ya 1), .ref (ya 2), .ref (ya 3), .ref (ya 4), .ref (ya 5), .int (0 : Int32), .int (0 : Int32), .int (0 : Int32), .int (0 : Int32), .int (0 : Int32), .long (0 : Int64), .int (0 : Int32), .int (0 : Int32), .int (0 : Int32), .int (-1 : Int32), .ref (ya 16), .ref (ya 17), .ref (ya 18), .ref (ya 19), .ref (ya 20), .ref (ya 21), .int (0 : Int32), .int (0 : Int32), .int (0 : Int32), .ref (ya 25), .ref (ya 26), .ref (ya 27), .ref (ya 28), .ref (ya 29), .ref (ya 30), .ref (ya 31), .ref (ya 32), .ref (ya 33), .ref (ya 34), .ref (ya 35), .int (0 : Int32), .int (0 : Int32), .ref (ya 38), .int (0 : Int32), .int (0 : Int32), .ref (ya 41), .ref (ya 42), .int (0 : Int32), .int (0 : Int32), .int (0 : Int32), .int (0 : Int32), .int (0 : Int32)]) rfl dX10_turn_2 (fun H locs hH => ?_)
  obtain ⟨f1, ef1⟩ : ∃ z : gF, z = va_up f y (.inr (10, [.int (0 : Int32), .ref (ya 1), .ref (ya 2), .ref (ya 3), .ref (ya 4), .ref (ya 5), .int (0 : Int32), .int (0 : Int32), .int (0 : Int32), .int (0 : Int32), .int (0 : Int32), .long (0 : Int64), .int (0 : Int32), .int (0 : Int32), .int (0 : Int32), .int (-1 : Int32), .ref (ya 16), .ref (ya 17), .ref (ya 18), .ref (ya 19), .ref (ya 20), .ref (ya 21), .int (0 : Int32), .int (0 : Int32), .int (0 : Int32), .ref (ya 25), .ref (ya 26), .ref (ya 27), .ref (ya 28), .ref (ya 29), .ref (ya 30), .ref (ya 31), .ref (ya 32), .ref (ya 33), .ref (ya 34), .ref (ya 35), .int (0 : Int32), .int (0 : Int32), .ref (ya 38), .int (0 : Int32), .int (0 : Int32), .ref (ya 41), .ref (ya 42), .int (0 : Int32), .int (0 : Int32), .int (0 : Int32), .int (0 : Int32), .int (0 : Int32)])) := ⟨_, rfl⟩
  have hH : gH E A L f1 s.heap H locs := by rw [ef1]; exact hH
  have h2 : f1 y = .inr (10, [.int (0 : Int32), .ref (ya 1), .ref (ya 2), .ref (ya 3), .ref (ya 4), .ref (ya 5), .int (0 : Int32), .int (0 : Int32), .int (0 : Int32), .int (0 : Int32), .int (0 : Int32), .long (0 : Int64), .int (0 : Int32), .int (0 : Int32), .int (0 : Int32), .int (-1 : Int32), .ref (ya 16), .ref (ya 17), .ref (ya 18), .ref (ya 19), .ref (ya 20), .ref (ya 21), .int (0 : Int32), .int (0 : Int32), .int (0 : Int32), .ref (ya 25), .ref (ya 26), .ref (ya 27), .ref (ya 28), .ref (ya 29), .ref (ya 30), .ref (ya 31), .ref (ya 32), .ref (ya 33), .ref (ya 34), .ref (ya 35), .int (0 : Int32), .int (0 : Int32), .ref (ya 38), .int (0 : Int32), .int (0 : Int32), .ref (ya 41), .ref (ya 42), .int (0 : Int32), .int (0 : Int32), .int (0 : Int32), .int (0 : Int32), .int (0 : Int32)]) := (congrFun ef1 y).trans (va_up_self _ _ _)
  refine lv_aload_n hx hb dX10_turn_5 rfl (lv_at hl 0 rfl) ?_
  refine lv_iload_n hx hb dX10_turn_6 rfl (lv_at hl 1 rfl) ?_
  refine lv_i2l (v := (p0).toInt64) hx hb dX10_turn_7 rfl ?_
  have h3 : f1 (ya 16) = .inl (E.2.2 1, 5, .inl (fun _ => 0)) := ((congrFun ef1 (ya 16)).trans (va_up_ne _ _ (g_neAO f_lines fy))).trans f_lines
  have h4 : f1 (ya 17) = .inl (E.2.2 1, 45, .inl (fun _ => 0)) := ((congrFun ef1 (ya 17)).trans (va_up_ne _ _ (g_neAO f_has fy))).trans f_has
  refine g_Vi C hl.1 hA hH (As := [.long (p0).toInt64]) (rest := []) (m_isFlight l E L f1 my h2 m_lines h3 m_has h4 (p0).toInt64) my_X10_isFlight wd274 my h2 rfl rfl rfl (Nat.le_of_ble_eq_true rfl) ⟨Nat.le_of_ble_eq_true rfl, Nat.le_of_ble_eq_true rfl⟩ ⟨Nat.le_of_ble_eq_true rfl, Nat.le_of_ble_eq_true rfl⟩ dX10_turn_8 (fun r7 L6 f5 H locs hp hH => ?_)
  obtain ⟨er7, rfl, rfl⟩ := hp
  subst er7
  refine lv_if_eq (tgt := 26) hx hb dX10_turn_11 (by decide) (fun _ => ?_) (fun h => absurd (by decide) h)
  refine lv_bipush (v := (-2 : Int32)) hx hb dX10_turn_26 (by decide) ?_
  refine g_iret C hr hH (Nat.le_of_ble_eq_true rfl) (Nat.le_of_ble_eq_true rfl) dX10_turn_28 ?_
  exact rfl
set_option maxHeartbeats 4000000 in
set_option maxRecDepth 100000 in
theorem m_undo (l : Launch) (E : gE) (L : List Nat) (f : gF) {y : Nat} {ya : Nat → Nat} (my : y ∈ L) (fy : f y = .inr (10, [.int (0 : Int32), .ref (ya 1), .ref (ya 2), .ref (ya 3), .ref (ya 4), .ref (ya 5), .int (0 : Int32), .int (0 : Int32), .int (0 : Int32), .int (0 : Int32), .int (0 : Int32), .long (0 : Int64), .int (0 : Int32), .int (0 : Int32), .int (0 : Int32), .int (-1 : Int32), .ref (ya 16), .ref (ya 17), .ref (ya 18), .ref (ya 19), .ref (ya 20), .ref (ya 21), .int (0 : Int32), .int (0 : Int32), .int (0 : Int32), .ref (ya 25), .ref (ya 26), .ref (ya 27), .ref (ya 28), .ref (ya 29), .ref (ya 30), .ref (ya 31), .ref (ya 32), .ref (ya 33), .ref (ya 34), .ref (ya 35), .int (0 : Int32), .int (0 : Int32), .ref (ya 38), .int (0 : Int32), .int (0 : Int32), .ref (ya 41), .ref (ya 42), .int (0 : Int32), .int (0 : Int32), .int (0 : Int32), .int (0 : Int32), .int (0 : Int32)])) (m_lines : (ya 16) ∈ L) (f_lines : f (ya 16) = .inl (E.2.2 1, 5, .inl (fun _ => 0))) (m_has : (ya 17) ∈ L) (f_has : f (ya 17) = .inl (E.2.2 1, 45, .inl (fun _ => 0))) : gMi l E yX10_undo cX10_undo 1 .int (gRm 6 0 0) [.ref y] L f (fun r _ _ => r = (-2 : Int32)) := by
  refine gMi.intro (by decide) (Nat.le_of_ble_eq_true rfl) ?_
  intro p e s m below meth c A ls C hr hA hH hl
  have C : gC E cX10_undo 1 RX10 p s m _ meth c := C
  have hl : lv_has ls 1 [(0, .ref y)] := hl
  have hx := C.1
  have hb := C.2.1
  refine lv_aload_n hx hb dX10_undo_0 rfl (lv_at hl 0 rfl) ?_
  refine lv_iconst (v := (0 : Int32)) hx hb dX10_undo_1 (by decide) ?_
  refine g_put C hH my fy iX10 tyX10 tyX10_ok nmX10 rfl 0 (by decide) wd270 rfl rfl rfl rfl (Nat.le_of_ble_eq_true rfl) (fs' := [.int (0 : Int32), .ref (ya 1), .ref (ya 2), .ref (ya 3), .ref (ya 4), .ref (ya 5), .int (0 : Int32), .int (0 : Int32), .int (0 : Int32), .int (0 : Int32), .int (0 : Int32), .long (0 : Int64), .int (0 : Int32), .int (0 : Int32), .int (0 : Int32), .int (-1 : Int32), .ref (ya 16), .ref (ya 17), .ref (ya 18), .ref (ya 19), .ref (ya 20), .ref (ya 21), .int (0 : Int32), .int (0 : Int32), .int (0 : Int32), .ref (ya 25), .ref (ya 26), .ref (ya 27), .ref (ya 28), .ref (ya 29), .ref (ya 30), .ref (ya 31), .ref (ya 32), .ref (ya 33), .ref (ya 34), .ref (ya 35), .int (0 : Int32), .int (0 : Int32), .ref (ya 38), .int (0 : Int32), .int (0 : Int32), .ref (ya 41), .ref (ya 42), .int (0 : Int32), .int (0 : Int32), .int (0 : Int32), .int (0 : Int32), .int (0 : Int32)]) rfl dX10_undo_2 (fun H locs hH => ?_)
  obtain ⟨f1, ef1⟩ : ∃ z : gF, z = va_up f y (.inr (10, [.int (0 : Int32), .ref (ya 1), .ref (ya 2), .ref (ya 3), .ref (ya 4), .ref (ya 5), .int (0 : Int32), .int (0 : Int32), .int (0 : Int32), .int (0 : Int32), .int (0 : Int32), .long (0 : Int64), .int (0 : Int32), .int (0 : Int32), .int (0 : Int32), .int (-1 : Int32), .ref (ya 16), .ref (ya 17), .ref (ya 18), .ref (ya 19), .ref (ya 20), .ref (ya 21), .int (0 : Int32), .int (0 : Int32), .int (0 : Int32), .ref (ya 25), .ref (ya 26), .ref (ya 27), .ref (ya 28), .ref (ya 29), .ref (ya 30), .ref (ya 31), .ref (ya 32), .ref (ya 33), .ref (ya 34), .ref (ya 35), .int (0 : Int32), .int (0 : Int32), .ref (ya 38), .int (0 : Int32), .int (0 : Int32), .ref (ya 41), .ref (ya 42), .int (0 : Int32), .int (0 : Int32), .int (0 : Int32), .int (0 : Int32), .int (0 : Int32)])) := ⟨_, rfl⟩
  have hH : gH E A L f1 s.heap H locs := by rw [ef1]; exact hH
  have h2 : f1 y = .inr (10, [.int (0 : Int32), .ref (ya 1), .ref (ya 2), .ref (ya 3), .ref (ya 4), .ref (ya 5), .int (0 : Int32), .int (0 : Int32), .int (0 : Int32), .int (0 : Int32), .int (0 : Int32), .long (0 : Int64), .int (0 : Int32), .int (0 : Int32), .int (0 : Int32), .int (-1 : Int32), .ref (ya 16), .ref (ya 17), .ref (ya 18), .ref (ya 19), .ref (ya 20), .ref (ya 21), .int (0 : Int32), .int (0 : Int32), .int (0 : Int32), .ref (ya 25), .ref (ya 26), .ref (ya 27), .ref (ya 28), .ref (ya 29), .ref (ya 30), .ref (ya 31), .ref (ya 32), .ref (ya 33), .ref (ya 34), .ref (ya 35), .int (0 : Int32), .int (0 : Int32), .ref (ya 38), .int (0 : Int32), .int (0 : Int32), .ref (ya 41), .ref (ya 42), .int (0 : Int32), .int (0 : Int32), .int (0 : Int32), .int (0 : Int32), .int (0 : Int32)]) := (congrFun ef1 y).trans (va_up_self _ _ _)
  refine lv_aload_n hx hb dX10_undo_5 rfl (lv_at hl 0 rfl) ?_
  have h3 : f1 (ya 16) = .inl (E.2.2 1, 5, .inl (fun _ => 0)) := ((congrFun ef1 (ya 16)).trans (va_up_ne _ _ (g_neAO f_lines fy))).trans f_lines
  have h4 : f1 (ya 17) = .inl (E.2.2 1, 45, .inl (fun _ => 0)) := ((congrFun ef1 (ya 17)).trans (va_up_ne _ _ (g_neAO f_has fy))).trans f_has
  refine g_Vi C hl.1 hA hH (As := []) (rest := []) (m_isLand l E L f1 my h2 m_lines h3 m_has h4) my_X10_isLand wd266 my h2 rfl rfl rfl (Nat.le_of_ble_eq_true rfl) ⟨Nat.le_of_ble_eq_true rfl, Nat.le_of_ble_eq_true rfl⟩ ⟨Nat.le_of_ble_eq_true rfl, Nat.le_of_ble_eq_true rfl⟩ dX10_undo_6 (fun r7 L6 f5 H locs hp hH => ?_)
  obtain ⟨er7, rfl, rfl⟩ := hp
  subst er7
  refine lv_if_ne (tgt := 15) hx hb dX10_undo_9 (by decide) (fun h => absurd (by decide) h) (fun _ => ?_)
  refine lv_bipush (v := (-2 : Int32)) hx hb dX10_undo_12 (by decide) ?_
  refine g_iret C hr hH (Nat.le_of_ble_eq_true rfl) (Nat.le_of_ble_eq_true rfl) dX10_undo_14 ?_
  exact rfl
set_option maxHeartbeats 4000000 in
set_option maxRecDepth 100000 in
theorem m_anew (l : Launch) (E : gE) (L : List Nat) (f : gF) {y : Nat} {ya : Nat → Nat} (my : y ∈ L) (fy : f y = .inr (10, [.int (0 : Int32), .ref (ya 1), .ref (ya 2), .ref (ya 3), .ref (ya 4), .ref (ya 5), .int (0 : Int32), .int (0 : Int32), .int (0 : Int32), .int (0 : Int32), .int (0 : Int32), .long (0 : Int64), .int (0 : Int32), .int (0 : Int32), .int (0 : Int32), .int (-1 : Int32), .ref (ya 16), .ref (ya 17), .ref (ya 18), .ref (ya 19), .ref (ya 20), .ref (ya 21), .int (0 : Int32), .int (0 : Int32), .int (0 : Int32), .ref (ya 25), .ref (ya 26), .ref (ya 27), .ref (ya 28), .ref (ya 29), .ref (ya 30), .ref (ya 31), .ref (ya 32), .ref (ya 33), .ref (ya 34), .ref (ya 35), .int (0 : Int32), .int (0 : Int32), .ref (ya 38), .int (0 : Int32), .int (0 : Int32), .ref (ya 41), .ref (ya 42), .int (0 : Int32), .int (0 : Int32), .int (0 : Int32), .int (0 : Int32), .int (0 : Int32)])) (m_lines : (ya 16) ∈ L) (f_lines : f (ya 16) = .inl (E.2.2 1, 5, .inl (fun _ => 0))) (m_has : (ya 17) ∈ L) (f_has : f (ya 17) = .inl (E.2.2 1, 45, .inl (fun _ => 0))) : gMi l E yX10_anew cX10_anew 2 .int (gRm 6 0 0) [.ref y] L f (fun r _ _ => r = (-2 : Int32)) := by
  refine gMi.intro (by decide) (Nat.le_of_ble_eq_true rfl) ?_
  intro p e s m below meth c A ls C hr hA hH hl
  have C : gC E cX10_anew 2 RX10 p s m _ meth c := C
  have hl : lv_has ls 2 [(0, .ref y)] := hl
  have hx := C.1
  have hb := C.2.1
  refine lv_aload_n hx hb dX10_anew_0 rfl (lv_at hl 0 rfl) ?_
  refine lv_iconst (v := (0 : Int32)) hx hb dX10_anew_1 (by decide) ?_
  refine g_put C hH my fy iX10 tyX10 tyX10_ok nmX10 rfl 0 (by decide) wd270 rfl rfl rfl rfl (Nat.le_of_ble_eq_true rfl) (fs' := [.int (0 : Int32), .ref (ya 1), .ref (ya 2), .ref (ya 3), .ref (ya 4), .ref (ya 5), .int (0 : Int32), .int (0 : Int32), .int (0 : Int32), .int (0 : Int32), .int (0 : Int32), .long (0 : Int64), .int (0 : Int32), .int (0 : Int32), .int (0 : Int32), .int (-1 : Int32), .ref (ya 16), .ref (ya 17), .ref (ya 18), .ref (ya 19), .ref (ya 20), .ref (ya 21), .int (0 : Int32), .int (0 : Int32), .int (0 : Int32), .ref (ya 25), .ref (ya 26), .ref (ya 27), .ref (ya 28), .ref (ya 29), .ref (ya 30), .ref (ya 31), .ref (ya 32), .ref (ya 33), .ref (ya 34), .ref (ya 35), .int (0 : Int32), .int (0 : Int32), .ref (ya 38), .int (0 : Int32), .int (0 : Int32), .ref (ya 41), .ref (ya 42), .int (0 : Int32), .int (0 : Int32), .int (0 : Int32), .int (0 : Int32), .int (0 : Int32)]) rfl dX10_anew_2 (fun H locs hH => ?_)
  obtain ⟨f1, ef1⟩ : ∃ z : gF, z = va_up f y (.inr (10, [.int (0 : Int32), .ref (ya 1), .ref (ya 2), .ref (ya 3), .ref (ya 4), .ref (ya 5), .int (0 : Int32), .int (0 : Int32), .int (0 : Int32), .int (0 : Int32), .int (0 : Int32), .long (0 : Int64), .int (0 : Int32), .int (0 : Int32), .int (0 : Int32), .int (-1 : Int32), .ref (ya 16), .ref (ya 17), .ref (ya 18), .ref (ya 19), .ref (ya 20), .ref (ya 21), .int (0 : Int32), .int (0 : Int32), .int (0 : Int32), .ref (ya 25), .ref (ya 26), .ref (ya 27), .ref (ya 28), .ref (ya 29), .ref (ya 30), .ref (ya 31), .ref (ya 32), .ref (ya 33), .ref (ya 34), .ref (ya 35), .int (0 : Int32), .int (0 : Int32), .ref (ya 38), .int (0 : Int32), .int (0 : Int32), .ref (ya 41), .ref (ya 42), .int (0 : Int32), .int (0 : Int32), .int (0 : Int32), .int (0 : Int32), .int (0 : Int32)])) := ⟨_, rfl⟩
  have hH : gH E A L f1 s.heap H locs := by rw [ef1]; exact hH
  have h2 : f1 y = .inr (10, [.int (0 : Int32), .ref (ya 1), .ref (ya 2), .ref (ya 3), .ref (ya 4), .ref (ya 5), .int (0 : Int32), .int (0 : Int32), .int (0 : Int32), .int (0 : Int32), .int (0 : Int32), .long (0 : Int64), .int (0 : Int32), .int (0 : Int32), .int (0 : Int32), .int (-1 : Int32), .ref (ya 16), .ref (ya 17), .ref (ya 18), .ref (ya 19), .ref (ya 20), .ref (ya 21), .int (0 : Int32), .int (0 : Int32), .int (0 : Int32), .ref (ya 25), .ref (ya 26), .ref (ya 27), .ref (ya 28), .ref (ya 29), .ref (ya 30), .ref (ya 31), .ref (ya 32), .ref (ya 33), .ref (ya 34), .ref (ya 35), .int (0 : Int32), .int (0 : Int32), .ref (ya 38), .int (0 : Int32), .int (0 : Int32), .ref (ya 41), .ref (ya 42), .int (0 : Int32), .int (0 : Int32), .int (0 : Int32), .int (0 : Int32), .int (0 : Int32)]) := (congrFun ef1 y).trans (va_up_self _ _ _)
  refine lv_aload_n hx hb dX10_anew_5 rfl (lv_at hl 0 rfl) ?_
  have h3 : f1 (ya 16) = .inl (E.2.2 1, 5, .inl (fun _ => 0)) := ((congrFun ef1 (ya 16)).trans (va_up_ne _ _ (g_neAO f_lines fy))).trans f_lines
  have h4 : f1 (ya 17) = .inl (E.2.2 1, 45, .inl (fun _ => 0)) := ((congrFun ef1 (ya 17)).trans (va_up_ne _ _ (g_neAO f_has fy))).trans f_has
  refine g_Vi C hl.1 hA hH (As := []) (rest := []) (m_isLand l E L f1 my h2 m_lines h3 m_has h4) my_X10_isLand wd266 my h2 rfl rfl rfl (Nat.le_of_ble_eq_true rfl) ⟨Nat.le_of_ble_eq_true rfl, Nat.le_of_ble_eq_true rfl⟩ ⟨Nat.le_of_ble_eq_true rfl, Nat.le_of_ble_eq_true rfl⟩ dX10_anew_6 (fun r7 L6 f5 H locs hp hH => ?_)
  obtain ⟨er7, rfl, rfl⟩ := hp
  subst er7
  refine lv_if_ne (tgt := 15) hx hb dX10_anew_9 (by decide) (fun h => absurd (by decide) h) (fun _ => ?_)
  refine lv_bipush (v := (-2 : Int32)) hx hb dX10_anew_12 (by decide) ?_
  refine g_iret C hr hH (Nat.le_of_ble_eq_true rfl) (Nat.le_of_ble_eq_true rfl) dX10_anew_14 ?_
  exact rfl
set_option maxHeartbeats 4000000 in
set_option maxRecDepth 100000 in
theorem m_drawn (l : Launch) (E : gE) (L : List Nat) (f : gF) {y : Nat} {ya : Nat → Nat} (my : y ∈ L) (fy : f y = .inr (10, [.int (0 : Int32), .ref (ya 1), .ref (ya 2), .ref (ya 3), .ref (ya 4), .ref (ya 5), .int (0 : Int32), .int (0 : Int32), .int (0 : Int32), .int (0 : Int32), .int (0 : Int32), .long (0 : Int64), .int (0 : Int32), .int (0 : Int32), .int (0 : Int32), .int (-1 : Int32), .ref (ya 16), .ref (ya 17), .ref (ya 18), .ref (ya 19), .ref (ya 20), .ref (ya 21), .int (0 : Int32), .int (0 : Int32), .int (0 : Int32), .ref (ya 25), .ref (ya 26), .ref (ya 27), .ref (ya 28), .ref (ya 29), .ref (ya 30), .ref (ya 31), .ref (ya 32), .ref (ya 33), .ref (ya 34), .ref (ya 35), .int (0 : Int32), .int (0 : Int32), .ref (ya 38), .int (0 : Int32), .int (0 : Int32), .ref (ya 41), .ref (ya 42), .int (0 : Int32), .int (0 : Int32), .int (0 : Int32), .int (0 : Int32), .int (0 : Int32)])) (m_lines : (ya 16) ∈ L) (f_lines : f (ya 16) = .inl (E.2.2 1, 5, .inl (fun _ => 0))) (m_has : (ya 17) ∈ L) (f_has : f (ya 17) = .inl (E.2.2 1, 45, .inl (fun _ => 0))) (p0 p1 : Int32) : gMi l E yX10_drawn cX10_drawn 3 .int (gRm 6 0 0) [.ref y, .int p0, .int p1] L f (fun r _ _ => r = (-2 : Int32)) := by
  refine gMi.intro (by decide) (Nat.le_of_ble_eq_true rfl) ?_
  intro p e s m below meth c A ls C hr hA hH hl
  have C : gC E cX10_drawn 3 RX10 p s m _ meth c := C
  have hl : lv_has ls 3 [(0, .ref y), (1, .int p0), (2, .int p1)] := hl
  have hx := C.1
  have hb := C.2.1
  refine lv_aload_n hx hb dX10_drawn_0 rfl (lv_at hl 0 rfl) ?_
  refine lv_iconst (v := (0 : Int32)) hx hb dX10_drawn_1 (by decide) ?_
  refine g_put C hH my fy iX10 tyX10 tyX10_ok nmX10 rfl 0 (by decide) wd270 rfl rfl rfl rfl (Nat.le_of_ble_eq_true rfl) (fs' := [.int (0 : Int32), .ref (ya 1), .ref (ya 2), .ref (ya 3), .ref (ya 4), .ref (ya 5), .int (0 : Int32), .int (0 : Int32), .int (0 : Int32), .int (0 : Int32), .int (0 : Int32), .long (0 : Int64), .int (0 : Int32), .int (0 : Int32), .int (0 : Int32), .int (-1 : Int32), .ref (ya 16), .ref (ya 17), .ref (ya 18), .ref (ya 19), .ref (ya 20), .ref (ya 21), .int (0 : Int32), .int (0 : Int32), .int (0 : Int32), .ref (ya 25), .ref (ya 26), .ref (ya 27), .ref (ya 28), .ref (ya 29), .ref (ya 30), .ref (ya 31), .ref (ya 32), .ref (ya 33), .ref (ya 34), .ref (ya 35), .int (0 : Int32), .int (0 : Int32), .ref (ya 38), .int (0 : Int32), .int (0 : Int32), .ref (ya 41), .ref (ya 42), .int (0 : Int32), .int (0 : Int32), .int (0 : Int32), .int (0 : Int32), .int (0 : Int32)]) rfl dX10_drawn_2 (fun H locs hH => ?_)
  obtain ⟨f1, ef1⟩ : ∃ z : gF, z = va_up f y (.inr (10, [.int (0 : Int32), .ref (ya 1), .ref (ya 2), .ref (ya 3), .ref (ya 4), .ref (ya 5), .int (0 : Int32), .int (0 : Int32), .int (0 : Int32), .int (0 : Int32), .int (0 : Int32), .long (0 : Int64), .int (0 : Int32), .int (0 : Int32), .int (0 : Int32), .int (-1 : Int32), .ref (ya 16), .ref (ya 17), .ref (ya 18), .ref (ya 19), .ref (ya 20), .ref (ya 21), .int (0 : Int32), .int (0 : Int32), .int (0 : Int32), .ref (ya 25), .ref (ya 26), .ref (ya 27), .ref (ya 28), .ref (ya 29), .ref (ya 30), .ref (ya 31), .ref (ya 32), .ref (ya 33), .ref (ya 34), .ref (ya 35), .int (0 : Int32), .int (0 : Int32), .ref (ya 38), .int (0 : Int32), .int (0 : Int32), .ref (ya 41), .ref (ya 42), .int (0 : Int32), .int (0 : Int32), .int (0 : Int32), .int (0 : Int32), .int (0 : Int32)])) := ⟨_, rfl⟩
  have hH : gH E A L f1 s.heap H locs := by rw [ef1]; exact hH
  have h2 : f1 y = .inr (10, [.int (0 : Int32), .ref (ya 1), .ref (ya 2), .ref (ya 3), .ref (ya 4), .ref (ya 5), .int (0 : Int32), .int (0 : Int32), .int (0 : Int32), .int (0 : Int32), .int (0 : Int32), .long (0 : Int64), .int (0 : Int32), .int (0 : Int32), .int (0 : Int32), .int (-1 : Int32), .ref (ya 16), .ref (ya 17), .ref (ya 18), .ref (ya 19), .ref (ya 20), .ref (ya 21), .int (0 : Int32), .int (0 : Int32), .int (0 : Int32), .ref (ya 25), .ref (ya 26), .ref (ya 27), .ref (ya 28), .ref (ya 29), .ref (ya 30), .ref (ya 31), .ref (ya 32), .ref (ya 33), .ref (ya 34), .ref (ya 35), .int (0 : Int32), .int (0 : Int32), .ref (ya 38), .int (0 : Int32), .int (0 : Int32), .ref (ya 41), .ref (ya 42), .int (0 : Int32), .int (0 : Int32), .int (0 : Int32), .int (0 : Int32), .int (0 : Int32)]) := (congrFun ef1 y).trans (va_up_self _ _ _)
  refine lv_aload_n hx hb dX10_drawn_5 rfl (lv_at hl 0 rfl) ?_
  have h3 : f1 (ya 16) = .inl (E.2.2 1, 5, .inl (fun _ => 0)) := ((congrFun ef1 (ya 16)).trans (va_up_ne _ _ (g_neAO f_lines fy))).trans f_lines
  have h4 : f1 (ya 17) = .inl (E.2.2 1, 45, .inl (fun _ => 0)) := ((congrFun ef1 (ya 17)).trans (va_up_ne _ _ (g_neAO f_has fy))).trans f_has
  refine g_Vi C hl.1 hA hH (As := []) (rest := []) (m_isLand l E L f1 my h2 m_lines h3 m_has h4) my_X10_isLand wd266 my h2 rfl rfl rfl (Nat.le_of_ble_eq_true rfl) ⟨Nat.le_of_ble_eq_true rfl, Nat.le_of_ble_eq_true rfl⟩ ⟨Nat.le_of_ble_eq_true rfl, Nat.le_of_ble_eq_true rfl⟩ dX10_drawn_6 (fun r7 L6 f5 H locs hp hH => ?_)
  obtain ⟨er7, rfl, rfl⟩ := hp
  subst er7
  refine lv_if_eq (tgt := 26) hx hb dX10_drawn_9 (by decide) (fun _ => ?_) (fun h => absurd (by decide) h)
  refine lv_bipush (v := (-2 : Int32)) hx hb dX10_drawn_26 (by decide) ?_
  refine g_iret C hr hH (Nat.le_of_ble_eq_true rfl) (Nat.le_of_ble_eq_true rfl) dX10_drawn_28 ?_
  exact rfl
set_option maxHeartbeats 4000000 in
set_option maxRecDepth 100000 in
theorem m_luck (l : Launch) (E : gE) (L : List Nat) (f : gF) {y : Nat} {ya : Nat → Nat} (my : y ∈ L) (fy : f y = .inr (10, [.int (0 : Int32), .ref (ya 1), .ref (ya 2), .ref (ya 3), .ref (ya 4), .ref (ya 5), .int (0 : Int32), .int (0 : Int32), .int (0 : Int32), .int (0 : Int32), .int (0 : Int32), .long (0 : Int64), .int (0 : Int32), .int (0 : Int32), .int (0 : Int32), .int (-1 : Int32), .ref (ya 16), .ref (ya 17), .ref (ya 18), .ref (ya 19), .ref (ya 20), .ref (ya 21), .int (0 : Int32), .int (0 : Int32), .int (0 : Int32), .ref (ya 25), .ref (ya 26), .ref (ya 27), .ref (ya 28), .ref (ya 29), .ref (ya 30), .ref (ya 31), .ref (ya 32), .ref (ya 33), .ref (ya 34), .ref (ya 35), .int (0 : Int32), .int (0 : Int32), .ref (ya 38), .int (0 : Int32), .int (0 : Int32), .ref (ya 41), .ref (ya 42), .int (0 : Int32), .int (0 : Int32), .int (0 : Int32), .int (0 : Int32), .int (0 : Int32)])) (m_lines : (ya 16) ∈ L) (f_lines : f (ya 16) = .inl (E.2.2 1, 5, .inl (fun _ => 0))) (m_has : (ya 17) ∈ L) (f_has : f (ya 17) = .inl (E.2.2 1, 45, .inl (fun _ => 0))) (p0 p1 p2 : Int32) : gMi l E yX10_luck cX10_luck 6 .int (gRm 6 0 0) [.ref y, .int p0, .int p1, .int p2] L f (fun r _ _ => r = (-2 : Int32)) := by
  refine gMi.intro (by decide) (Nat.le_of_ble_eq_true rfl) ?_
  intro p e s m below meth c A ls C hr hA hH hl
  have C : gC E cX10_luck 6 RX10 p s m _ meth c := C
  have hl : lv_has ls 6 [(0, .ref y), (1, .int p0), (2, .int p1), (3, .int p2)] := hl
  have hx := C.1
  have hb := C.2.1
  refine lv_aload_n hx hb dX10_luck_0 rfl (lv_at hl 0 rfl) ?_
  refine lv_iconst (v := (0 : Int32)) hx hb dX10_luck_1 (by decide) ?_
  refine g_put C hH my fy iX10 tyX10 tyX10_ok nmX10 rfl 0 (by decide) wd270 rfl rfl rfl rfl (Nat.le_of_ble_eq_true rfl) (fs' := [.int (0 : Int32), .ref (ya 1), .ref (ya 2), .ref (ya 3), .ref (ya 4), .ref (ya 5), .int (0 : Int32), .int (0 : Int32), .int (0 : Int32), .int (0 : Int32), .int (0 : Int32), .long (0 : Int64), .int (0 : Int32), .int (0 : Int32), .int (0 : Int32), .int (-1 : Int32), .ref (ya 16), .ref (ya 17), .ref (ya 18), .ref (ya 19), .ref (ya 20), .ref (ya 21), .int (0 : Int32), .int (0 : Int32), .int (0 : Int32), .ref (ya 25), .ref (ya 26), .ref (ya 27), .ref (ya 28), .ref (ya 29), .ref (ya 30), .ref (ya 31), .ref (ya 32), .ref (ya 33), .ref (ya 34), .ref (ya 35), .int (0 : Int32), .int (0 : Int32), .ref (ya 38), .int (0 : Int32), .int (0 : Int32), .ref (ya 41), .ref (ya 42), .int (0 : Int32), .int (0 : Int32), .int (0 : Int32), .int (0 : Int32), .int (0 : Int32)]) rfl dX10_luck_2 (fun H locs hH => ?_)
  obtain ⟨f1, ef1⟩ : ∃ z : gF, z = va_up f y (.inr (10, [.int (0 : Int32), .ref (ya 1), .ref (ya 2), .ref (ya 3), .ref (ya 4), .ref (ya 5), .int (0 : Int32), .int (0 : Int32), .int (0 : Int32), .int (0 : Int32), .int (0 : Int32), .long (0 : Int64), .int (0 : Int32), .int (0 : Int32), .int (0 : Int32), .int (-1 : Int32), .ref (ya 16), .ref (ya 17), .ref (ya 18), .ref (ya 19), .ref (ya 20), .ref (ya 21), .int (0 : Int32), .int (0 : Int32), .int (0 : Int32), .ref (ya 25), .ref (ya 26), .ref (ya 27), .ref (ya 28), .ref (ya 29), .ref (ya 30), .ref (ya 31), .ref (ya 32), .ref (ya 33), .ref (ya 34), .ref (ya 35), .int (0 : Int32), .int (0 : Int32), .ref (ya 38), .int (0 : Int32), .int (0 : Int32), .ref (ya 41), .ref (ya 42), .int (0 : Int32), .int (0 : Int32), .int (0 : Int32), .int (0 : Int32), .int (0 : Int32)])) := ⟨_, rfl⟩
  have hH : gH E A L f1 s.heap H locs := by rw [ef1]; exact hH
  have h2 : f1 y = .inr (10, [.int (0 : Int32), .ref (ya 1), .ref (ya 2), .ref (ya 3), .ref (ya 4), .ref (ya 5), .int (0 : Int32), .int (0 : Int32), .int (0 : Int32), .int (0 : Int32), .int (0 : Int32), .long (0 : Int64), .int (0 : Int32), .int (0 : Int32), .int (0 : Int32), .int (-1 : Int32), .ref (ya 16), .ref (ya 17), .ref (ya 18), .ref (ya 19), .ref (ya 20), .ref (ya 21), .int (0 : Int32), .int (0 : Int32), .int (0 : Int32), .ref (ya 25), .ref (ya 26), .ref (ya 27), .ref (ya 28), .ref (ya 29), .ref (ya 30), .ref (ya 31), .ref (ya 32), .ref (ya 33), .ref (ya 34), .ref (ya 35), .int (0 : Int32), .int (0 : Int32), .ref (ya 38), .int (0 : Int32), .int (0 : Int32), .ref (ya 41), .ref (ya 42), .int (0 : Int32), .int (0 : Int32), .int (0 : Int32), .int (0 : Int32), .int (0 : Int32)]) := (congrFun ef1 y).trans (va_up_self _ _ _)
  refine lv_iload_n hx hb dX10_luck_5 rfl (lv_at hl 1 rfl) ?_
  refine g_Si C hl.1 hA hH (As := [.int p0]) (rest := []) (m_isSeed l E L f1 p0) my_X10_isSeed wd305 rfl rfl (Nat.le_of_ble_eq_true rfl) ⟨Nat.le_of_ble_eq_true rfl, Nat.le_of_ble_eq_true rfl⟩ ⟨Nat.le_of_ble_eq_true rfl, Nat.le_of_ble_eq_true rfl⟩ dX10_luck_6 (fun r5 L4 f3 H locs hp hH => ?_)
  obtain ⟨er5, rfl, rfl⟩ := hp
  subst er5
  refine lv_if_eq (tgt := 33) hx hb dX10_luck_9 (by decide) (fun c6 => ?_) (fun c6 => ?_)
  · skip
    refine lv_bipush (v := (-2 : Int32)) hx hb dX10_luck_33 (by decide) ?_
    refine g_iret C hr hH (Nat.le_of_ble_eq_true rfl) (Nat.le_of_ble_eq_true rfl) dX10_luck_35 ?_
    exact rfl
  · skip
    refine lv_iload_n hx hb dX10_luck_12 rfl (lv_at hl 2 rfl) ?_
    refine lv_i2l (v := (p1).toInt64) hx hb dX10_luck_13 rfl ?_
    refine lv_lconst (v := (1 : Int64)) hx hb dX10_luck_14 (by decide) ?_
    refine lv_ldc2 hx hb C.2.2.2.1 (C.2.2.2.2.1 _ wd306) dX10_luck_15 ?_
    refine g_Si C hl.1 hA hH (As := [.long (p1).toInt64, .long (1 : Int64), .long (20 : Int64)]) (rest := []) (m_in l E L f1 (p1).toInt64 (1 : Int64) (20 : Int64)) my_X10_in wd242 rfl rfl (Nat.le_of_ble_eq_true rfl) ⟨Nat.le_of_ble_eq_true rfl, Nat.le_of_ble_eq_true rfl⟩ ⟨Nat.le_of_ble_eq_true rfl, Nat.le_of_ble_eq_true rfl⟩ dX10_luck_18 (fun r9 L8 f7 H locs hp hH => ?_)
    obtain ⟨er9, rfl, rfl⟩ := hp
    subst er9
    refine lv_if_eq (tgt := 33) hx hb dX10_luck_21 (by decide) (fun c10 => ?_) (fun c10 => ?_)
    · skip
      refine lv_bipush (v := (-2 : Int32)) hx hb dX10_luck_33 (by decide) ?_
      refine g_iret C hr hH (Nat.le_of_ble_eq_true rfl) (Nat.le_of_ble_eq_true rfl) dX10_luck_35 ?_
      exact rfl
    · skip
      refine lv_aload_n hx hb dX10_luck_24 rfl (lv_at hl 0 rfl) ?_
      refine lv_iload_n hx hb dX10_luck_25 rfl (lv_at hl 3 rfl) ?_
      refine lv_i2l (v := (p2).toInt64) hx hb dX10_luck_26 rfl ?_
      have h11 : f1 (ya 16) = .inl (E.2.2 1, 5, .inl (fun _ => 0)) := ((congrFun ef1 (ya 16)).trans (va_up_ne _ _ (g_neAO f_lines fy))).trans f_lines
      have h12 : f1 (ya 17) = .inl (E.2.2 1, 45, .inl (fun _ => 0)) := ((congrFun ef1 (ya 17)).trans (va_up_ne _ _ (g_neAO f_has fy))).trans f_has
      refine g_Vi C hl.1 hA hH (As := [.long (p2).toInt64]) (rest := []) (m_isMember l E L f1 my h2 m_lines h11 m_has h12 (p2).toInt64) my_X10_isMember wd262 my h2 rfl rfl rfl (Nat.le_of_ble_eq_true rfl) ⟨Nat.le_of_ble_eq_true rfl, Nat.le_of_ble_eq_true rfl⟩ ⟨Nat.le_of_ble_eq_true rfl, Nat.le_of_ble_eq_true rfl⟩ dX10_luck_27 (fun r15 L14 f13 H locs hp hH => ?_)
      obtain ⟨er15, rfl, rfl⟩ := hp
      subst er15
      refine lv_if_ne (tgt := 36) hx hb dX10_luck_30 (by decide) (fun h => absurd (by decide) h) (fun _ => ?_)
      refine lv_bipush (v := (-2 : Int32)) hx hb dX10_luck_33 (by decide) ?_
      refine g_iret C hr hH (Nat.le_of_ble_eq_true rfl) (Nat.le_of_ble_eq_true rfl) dX10_luck_35 ?_
      exact rfl
set_option maxHeartbeats 4000000 in
set_option maxRecDepth 100000 in
theorem m_rate (l : Launch) (E : gE) (L : List Nat) (f : gF) {y : Nat} {ya : Nat → Nat} (my : y ∈ L) (fy : f y = .inr (10, [.int (0 : Int32), .ref (ya 1), .ref (ya 2), .ref (ya 3), .ref (ya 4), .ref (ya 5), .int (0 : Int32), .int (0 : Int32), .int (0 : Int32), .int (0 : Int32), .int (0 : Int32), .long (0 : Int64), .int (0 : Int32), .int (0 : Int32), .int (0 : Int32), .int (-1 : Int32), .ref (ya 16), .ref (ya 17), .ref (ya 18), .ref (ya 19), .ref (ya 20), .ref (ya 21), .int (0 : Int32), .int (0 : Int32), .int (0 : Int32), .ref (ya 25), .ref (ya 26), .ref (ya 27), .ref (ya 28), .ref (ya 29), .ref (ya 30), .ref (ya 31), .ref (ya 32), .ref (ya 33), .ref (ya 34), .ref (ya 35), .int (0 : Int32), .int (0 : Int32), .ref (ya 38), .int (0 : Int32), .int (0 : Int32), .ref (ya 41), .ref (ya 42), .int (0 : Int32), .int (0 : Int32), .int (0 : Int32), .int (0 : Int32), .int (0 : Int32)])) (m_lines : (ya 16) ∈ L) (f_lines : f (ya 16) = .inl (E.2.2 1, 5, .inl (fun _ => 0))) (m_has : (ya 17) ∈ L) (f_has : f (ya 17) = .inl (E.2.2 1, 45, .inl (fun _ => 0))) (p0 p1 : Int32) : gMi l E yX10_rate cX10_rate 4 .int (gRm 6 0 0) [.ref y, .int p0, .int p1] L f (fun r _ _ => r = (-2 : Int32)) := by
  refine gMi.intro (by decide) (Nat.le_of_ble_eq_true rfl) ?_
  intro p e s m below meth c A ls C hr hA hH hl
  have C : gC E cX10_rate 4 RX10 p s m _ meth c := C
  have hl : lv_has ls 4 [(0, .ref y), (1, .int p0), (2, .int p1)] := hl
  have hx := C.1
  have hb := C.2.1
  refine lv_aload_n hx hb dX10_rate_0 rfl (lv_at hl 0 rfl) ?_
  refine lv_iconst (v := (0 : Int32)) hx hb dX10_rate_1 (by decide) ?_
  refine g_put C hH my fy iX10 tyX10 tyX10_ok nmX10 rfl 0 (by decide) wd270 rfl rfl rfl rfl (Nat.le_of_ble_eq_true rfl) (fs' := [.int (0 : Int32), .ref (ya 1), .ref (ya 2), .ref (ya 3), .ref (ya 4), .ref (ya 5), .int (0 : Int32), .int (0 : Int32), .int (0 : Int32), .int (0 : Int32), .int (0 : Int32), .long (0 : Int64), .int (0 : Int32), .int (0 : Int32), .int (0 : Int32), .int (-1 : Int32), .ref (ya 16), .ref (ya 17), .ref (ya 18), .ref (ya 19), .ref (ya 20), .ref (ya 21), .int (0 : Int32), .int (0 : Int32), .int (0 : Int32), .ref (ya 25), .ref (ya 26), .ref (ya 27), .ref (ya 28), .ref (ya 29), .ref (ya 30), .ref (ya 31), .ref (ya 32), .ref (ya 33), .ref (ya 34), .ref (ya 35), .int (0 : Int32), .int (0 : Int32), .ref (ya 38), .int (0 : Int32), .int (0 : Int32), .ref (ya 41), .ref (ya 42), .int (0 : Int32), .int (0 : Int32), .int (0 : Int32), .int (0 : Int32), .int (0 : Int32)]) rfl dX10_rate_2 (fun H locs hH => ?_)
  obtain ⟨f1, ef1⟩ : ∃ z : gF, z = va_up f y (.inr (10, [.int (0 : Int32), .ref (ya 1), .ref (ya 2), .ref (ya 3), .ref (ya 4), .ref (ya 5), .int (0 : Int32), .int (0 : Int32), .int (0 : Int32), .int (0 : Int32), .int (0 : Int32), .long (0 : Int64), .int (0 : Int32), .int (0 : Int32), .int (0 : Int32), .int (-1 : Int32), .ref (ya 16), .ref (ya 17), .ref (ya 18), .ref (ya 19), .ref (ya 20), .ref (ya 21), .int (0 : Int32), .int (0 : Int32), .int (0 : Int32), .ref (ya 25), .ref (ya 26), .ref (ya 27), .ref (ya 28), .ref (ya 29), .ref (ya 30), .ref (ya 31), .ref (ya 32), .ref (ya 33), .ref (ya 34), .ref (ya 35), .int (0 : Int32), .int (0 : Int32), .ref (ya 38), .int (0 : Int32), .int (0 : Int32), .ref (ya 41), .ref (ya 42), .int (0 : Int32), .int (0 : Int32), .int (0 : Int32), .int (0 : Int32), .int (0 : Int32)])) := ⟨_, rfl⟩
  have hH : gH E A L f1 s.heap H locs := by rw [ef1]; exact hH
  have h2 : f1 y = .inr (10, [.int (0 : Int32), .ref (ya 1), .ref (ya 2), .ref (ya 3), .ref (ya 4), .ref (ya 5), .int (0 : Int32), .int (0 : Int32), .int (0 : Int32), .int (0 : Int32), .int (0 : Int32), .long (0 : Int64), .int (0 : Int32), .int (0 : Int32), .int (0 : Int32), .int (-1 : Int32), .ref (ya 16), .ref (ya 17), .ref (ya 18), .ref (ya 19), .ref (ya 20), .ref (ya 21), .int (0 : Int32), .int (0 : Int32), .int (0 : Int32), .ref (ya 25), .ref (ya 26), .ref (ya 27), .ref (ya 28), .ref (ya 29), .ref (ya 30), .ref (ya 31), .ref (ya 32), .ref (ya 33), .ref (ya 34), .ref (ya 35), .int (0 : Int32), .int (0 : Int32), .ref (ya 38), .int (0 : Int32), .int (0 : Int32), .ref (ya 41), .ref (ya 42), .int (0 : Int32), .int (0 : Int32), .int (0 : Int32), .int (0 : Int32), .int (0 : Int32)]) := (congrFun ef1 y).trans (va_up_self _ _ _)
  refine lv_aload_n hx hb dX10_rate_5 rfl (lv_at hl 0 rfl) ?_
  refine lv_iload_n hx hb dX10_rate_6 rfl (lv_at hl 1 rfl) ?_
  refine lv_i2l (v := (p0).toInt64) hx hb dX10_rate_7 rfl ?_
  have h3 : f1 (ya 16) = .inl (E.2.2 1, 5, .inl (fun _ => 0)) := ((congrFun ef1 (ya 16)).trans (va_up_ne _ _ (g_neAO f_lines fy))).trans f_lines
  have h4 : f1 (ya 17) = .inl (E.2.2 1, 45, .inl (fun _ => 0)) := ((congrFun ef1 (ya 17)).trans (va_up_ne _ _ (g_neAO f_has fy))).trans f_has
  refine g_Vi C hl.1 hA hH (As := [.long (p0).toInt64]) (rest := []) (m_isMember l E L f1 my h2 m_lines h3 m_has h4 (p0).toInt64) my_X10_isMember wd262 my h2 rfl rfl rfl (Nat.le_of_ble_eq_true rfl) ⟨Nat.le_of_ble_eq_true rfl, Nat.le_of_ble_eq_true rfl⟩ ⟨Nat.le_of_ble_eq_true rfl, Nat.le_of_ble_eq_true rfl⟩ dX10_rate_8 (fun r7 L6 f5 H locs hp hH => ?_)
  obtain ⟨er7, rfl, rfl⟩ := hp
  subst er7
  refine lv_if_eq (tgt := 26) hx hb dX10_rate_11 (by decide) (fun _ => ?_) (fun h => absurd (by decide) h)
  refine lv_bipush (v := (-2 : Int32)) hx hb dX10_rate_26 (by decide) ?_
  refine g_iret C hr hH (Nat.le_of_ble_eq_true rfl) (Nat.le_of_ble_eq_true rfl) dX10_rate_28 ?_
  exact rfl
set_option maxHeartbeats 4000000 in
set_option maxRecDepth 100000 in
theorem m_has (l : Launch) (E : gE) (L : List Nat) (f : gF) {y : Nat} {ya : Nat → Nat} (my : y ∈ L) (fy : f y = .inr (10, [.int (0 : Int32), .ref (ya 1), .ref (ya 2), .ref (ya 3), .ref (ya 4), .ref (ya 5), .int (0 : Int32), .int (0 : Int32), .int (0 : Int32), .int (0 : Int32), .int (0 : Int32), .long (0 : Int64), .int (0 : Int32), .int (0 : Int32), .int (0 : Int32), .int (-1 : Int32), .ref (ya 16), .ref (ya 17), .ref (ya 18), .ref (ya 19), .ref (ya 20), .ref (ya 21), .int (0 : Int32), .int (0 : Int32), .int (0 : Int32), .ref (ya 25), .ref (ya 26), .ref (ya 27), .ref (ya 28), .ref (ya 29), .ref (ya 30), .ref (ya 31), .ref (ya 32), .ref (ya 33), .ref (ya 34), .ref (ya 35), .int (0 : Int32), .int (0 : Int32), .ref (ya 38), .int (0 : Int32), .int (0 : Int32), .ref (ya 41), .ref (ya 42), .int (0 : Int32), .int (0 : Int32), .int (0 : Int32), .int (0 : Int32), .int (0 : Int32)])) (m_lines : (ya 16) ∈ L) (f_lines : f (ya 16) = .inl (E.2.2 1, 5, .inl (fun _ => 0))) (m_has : (ya 17) ∈ L) (f_has : f (ya 17) = .inl (E.2.2 1, 45, .inl (fun _ => 0))) (p0 p1 p2 p3 : Int32) : gMi l E yX10_has cX10_has 5 .int (gRm 6 0 0) [.ref y, .int p0, .int p1, .int p2, .int p3] L f (fun r _ _ => r = (-1000 : Int32)) := by
  refine gMi.intro (by decide) (Nat.le_of_ble_eq_true rfl) ?_
  intro p e s m below meth c A ls C hr hA hH hl
  have C : gC E cX10_has 5 RX10 p s m _ meth c := C
  have hl : lv_has ls 5 [(0, .ref y), (1, .int p0), (2, .int p1), (3, .int p2), (4, .int p3)] := hl
  have hx := C.1
  have hb := C.2.1
  refine lv_aload_n hx hb dX10_has_0 rfl (lv_at hl 0 rfl) ?_
  refine lv_iconst (v := (0 : Int32)) hx hb dX10_has_1 (by decide) ?_
  refine g_put C hH my fy iX10 tyX10 tyX10_ok nmX10 rfl 0 (by decide) wd270 rfl rfl rfl rfl (Nat.le_of_ble_eq_true rfl) (fs' := [.int (0 : Int32), .ref (ya 1), .ref (ya 2), .ref (ya 3), .ref (ya 4), .ref (ya 5), .int (0 : Int32), .int (0 : Int32), .int (0 : Int32), .int (0 : Int32), .int (0 : Int32), .long (0 : Int64), .int (0 : Int32), .int (0 : Int32), .int (0 : Int32), .int (-1 : Int32), .ref (ya 16), .ref (ya 17), .ref (ya 18), .ref (ya 19), .ref (ya 20), .ref (ya 21), .int (0 : Int32), .int (0 : Int32), .int (0 : Int32), .ref (ya 25), .ref (ya 26), .ref (ya 27), .ref (ya 28), .ref (ya 29), .ref (ya 30), .ref (ya 31), .ref (ya 32), .ref (ya 33), .ref (ya 34), .ref (ya 35), .int (0 : Int32), .int (0 : Int32), .ref (ya 38), .int (0 : Int32), .int (0 : Int32), .ref (ya 41), .ref (ya 42), .int (0 : Int32), .int (0 : Int32), .int (0 : Int32), .int (0 : Int32), .int (0 : Int32)]) rfl dX10_has_2 (fun H locs hH => ?_)
  obtain ⟨f1, ef1⟩ : ∃ z : gF, z = va_up f y (.inr (10, [.int (0 : Int32), .ref (ya 1), .ref (ya 2), .ref (ya 3), .ref (ya 4), .ref (ya 5), .int (0 : Int32), .int (0 : Int32), .int (0 : Int32), .int (0 : Int32), .int (0 : Int32), .long (0 : Int64), .int (0 : Int32), .int (0 : Int32), .int (0 : Int32), .int (-1 : Int32), .ref (ya 16), .ref (ya 17), .ref (ya 18), .ref (ya 19), .ref (ya 20), .ref (ya 21), .int (0 : Int32), .int (0 : Int32), .int (0 : Int32), .ref (ya 25), .ref (ya 26), .ref (ya 27), .ref (ya 28), .ref (ya 29), .ref (ya 30), .ref (ya 31), .ref (ya 32), .ref (ya 33), .ref (ya 34), .ref (ya 35), .int (0 : Int32), .int (0 : Int32), .ref (ya 38), .int (0 : Int32), .int (0 : Int32), .ref (ya 41), .ref (ya 42), .int (0 : Int32), .int (0 : Int32), .int (0 : Int32), .int (0 : Int32), .int (0 : Int32)])) := ⟨_, rfl⟩
  have hH : gH E A L f1 s.heap H locs := by rw [ef1]; exact hH
  have h2 : f1 y = .inr (10, [.int (0 : Int32), .ref (ya 1), .ref (ya 2), .ref (ya 3), .ref (ya 4), .ref (ya 5), .int (0 : Int32), .int (0 : Int32), .int (0 : Int32), .int (0 : Int32), .int (0 : Int32), .long (0 : Int64), .int (0 : Int32), .int (0 : Int32), .int (0 : Int32), .int (-1 : Int32), .ref (ya 16), .ref (ya 17), .ref (ya 18), .ref (ya 19), .ref (ya 20), .ref (ya 21), .int (0 : Int32), .int (0 : Int32), .int (0 : Int32), .ref (ya 25), .ref (ya 26), .ref (ya 27), .ref (ya 28), .ref (ya 29), .ref (ya 30), .ref (ya 31), .ref (ya 32), .ref (ya 33), .ref (ya 34), .ref (ya 35), .int (0 : Int32), .int (0 : Int32), .ref (ya 38), .int (0 : Int32), .int (0 : Int32), .ref (ya 41), .ref (ya 42), .int (0 : Int32), .int (0 : Int32), .int (0 : Int32), .int (0 : Int32), .int (0 : Int32)]) := (congrFun ef1 y).trans (va_up_self _ _ _)
  refine lv_aload_n hx hb dX10_has_5 rfl (lv_at hl 0 rfl) ?_
  refine lv_iload_n hx hb dX10_has_6 rfl (lv_at hl 1 rfl) ?_
  refine lv_iload_n hx hb dX10_has_7 rfl (lv_at hl 2 rfl) ?_
  have h3 : f1 (ya 16) = .inl (E.2.2 1, 5, .inl (fun _ => 0)) := ((congrFun ef1 (ya 16)).trans (va_up_ne _ _ (g_neAO f_lines fy))).trans f_lines
  have h4 : f1 (ya 17) = .inl (E.2.2 1, 45, .inl (fun _ => 0)) := ((congrFun ef1 (ya 17)).trans (va_up_ne _ _ (g_neAO f_has fy))).trans f_has
  refine g_Vi C hl.1 hA hH (As := [.int p0, .int p1]) (rest := []) (m_areTwo l E L f1 my h2 m_lines h3 m_has h4 p0 p1) my_X10_areTwo wd302 my h2 rfl rfl rfl (Nat.le_of_ble_eq_true rfl) ⟨Nat.le_of_ble_eq_true rfl, Nat.le_of_ble_eq_true rfl⟩ ⟨Nat.le_of_ble_eq_true rfl, Nat.le_of_ble_eq_true rfl⟩ dX10_has_8 (fun r7 L6 f5 H locs hp hH => ?_)
  obtain ⟨er7, rfl, rfl⟩ := hp
  subst er7
  refine lv_if_eq (tgt := 42) hx hb dX10_has_11 (by decide) (fun _ => ?_) (fun h => absurd (by decide) h)
  refine lv_sipush (v := (-1000 : Int32)) hx hb dX10_has_42 (by decide) ?_
  refine g_iret C hr hH (Nat.le_of_ble_eq_true rfl) (Nat.le_of_ble_eq_true rfl) dX10_has_45 ?_
  exact rfl
