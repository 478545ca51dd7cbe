set_option maxHeartbeats 4000000 in
set_option maxRecDepth 100000 in
theorem k_isNone (l : Launch) (E : gE) (L : List Nat) (f : gF) {xn : Nat} {na : Nat → Nat} (mn : xn ∈ L) (fn : f xn = .inr (3, [.int (0 : Int32), .int (0 : Int32), .int (0 : Int32), .int (0 : Int32), .int (0 : Int32), .int (0 : Int32), .int (0 : Int32), .int (0 : Int32), .int (0 : Int32), .int (0 : Int32), .ref (na 0), .ref (na 1), .ref (na 2), .ref (na 3), .ref (na 4), .ref (na 5), .ref (na 6), .ref (na 7), .ref (na 8), .ref (na 9)])) : gMi l E yX3_isNone cX3_isNone 1 .boolean (gRm 1 0 0) [.ref xn] L f (gRO (1 : Int32) L f) := by
  refine gMi.intro (by decide) (Nat.le_of_ble_eq_true rfl) ?_
  intro p e s m below meth c A ls C hr hA hH hl
  have C : gC E cX3_isNone 1 RX3 p s m _ meth c := C
  have hl : lv_has ls 1 [(0, .ref xn)] := hl
  have hx := C.1
  have hb := C.2.1
  refine lv_aload_n hx hb dX3_isNone_0 rfl (lv_at hl 0 rfl) ?_
  refine g_get C hH mn fn iX3 rfl 0 (by decide) wd0 rfl rfl dX3_isNone_1 ?_
  refine lv_if_ne (tgt := 11) hx hb dX3_isNone_4 (by decide) (fun h => absurd (by decide) h) (fun _ => ?_)
  refine lv_iconst (v := (1 : Int32)) hx hb dX3_isNone_7 (by decide) ?_
  refine lv_goto (tgt := 12) hx hb dX3_isNone_8 (by decide) ?_
  refine g_zret C hr (by first | rfl | decide | (exact rfl)) hH (Nat.le_of_ble_eq_true rfl) (Nat.le_of_ble_eq_true rfl) dX3_isNone_12 ?_
  exact ⟨rfl, rfl, rfl⟩
set_option maxHeartbeats 4000000 in
set_option maxRecDepth 100000 in
theorem k_cells (l : Launch) (E : gE) (L : List Nat) (f : gF) {xn : Nat} {na : Nat → Nat} (mn : xn ∈ L) (fn : f xn = .inr (3, [.int (0 : Int32), .int (0 : Int32), .int (0 : Int32), .int (0 : Int32), .int (0 : Int32), .int (0 : Int32), .int (0 : Int32), .int (0 : Int32), .int (0 : Int32), .int (0 : Int32), .ref (na 0), .ref (na 1), .ref (na 2), .ref (na 3), .ref (na 4), .ref (na 5), .ref (na 6), .ref (na 7), .ref (na 8), .ref (na 9)])) : gMi l E yX3_cells cX3_cells 1 .int (gRm 1 0 0) [.ref xn] L f (gRO (0 : Int32) L f) := by
  refine gMi.intro (by decide) (Nat.le_of_ble_eq_true rfl) ?_
  intro p e s m below meth c A ls C hr hA hH hl
  have C : gC E cX3_cells 1 RX3 p s m _ meth c := C
  have hl : lv_has ls 1 [(0, .ref xn)] := hl
  have hx := C.1
  have hb := C.2.1
  refine lv_aload_n hx hb dX3_cells_0 rfl (lv_at hl 0 rfl) ?_
  refine g_get C hH mn fn iX3 rfl 1 (by decide) wd1 rfl rfl dX3_cells_1 ?_
  refine lv_aload_n hx hb dX3_cells_4 rfl (lv_at hl 0 rfl) ?_
  refine g_get C hH mn fn iX3 rfl 2 (by decide) wd2 rfl rfl dX3_cells_5 ?_
  refine lv_imul hx hb dX3_cells_8 ?_
  refine lv_topi (fun z1 ez1 => ?_)
  obtain rfl : z1 = (0 : Int32) := ez1.trans (by decide)
  refine g_iret C hr hH (Nat.le_of_ble_eq_true rfl) (Nat.le_of_ble_eq_true rfl) dX3_cells_9 ?_
  exact ⟨rfl, rfl, rfl⟩
set_option maxHeartbeats 4000000 in
set_option maxRecDepth 100000 in
theorem k_hasFlight (l : Launch) (E : gE) (L : List Nat) (f : gF) {xn : Nat} {na : Nat → Nat} (mn : xn ∈ L) (fn : f xn = .inr (3, [.int (0 : Int32), .int (0 : Int32), .int (0 : Int32), .int (0 : Int32), .int (0 : Int32), .int (0 : Int32), .int (0 : Int32), .int (0 : Int32), .int (0 : Int32), .int (0 : Int32), .ref (na 0), .ref (na 1), .ref (na 2), .ref (na 3), .ref (na 4), .ref (na 5), .ref (na 6), .ref (na 7), .ref (na 8), .ref (na 9)])) (p0 : Int32) : gMi l E yX3_hasFlight cX3_hasFlight 2 .boolean (gRm 1 0 0) [.ref xn, .int p0] L f (gRO (0 : Int32) L f) := by
  refine gMi.intro (by decide) (Nat.le_of_ble_eq_true rfl) ?_
  intro p e s m below meth c A ls C hr hA hH hl
  have C : gC E cX3_hasFlight 2 RX3 p s m _ meth c := C
  have hl : lv_has ls 2 [(0, .ref xn), (1, .int p0)] := hl
  have hx := C.1
  have hb := C.2.1
  refine lv_iload_n hx hb dX3_hasFlight_0 rfl (lv_at hl 1 rfl) ?_
  refine lv_if_lt (tgt := 16) hx hb dX3_hasFlight_1 (by decide) (fun c1 => ?_) (fun c1 => ?_)
  · skip
    refine lv_iconst (v := (0 : Int32)) hx hb dX3_hasFlight_16 (by decide) ?_
    refine g_zret C hr (by first | rfl | decide | (exact rfl)) hH (Nat.le_of_ble_eq_true rfl) (Nat.le_of_ble_eq_true rfl) dX3_hasFlight_17 ?_
    exact ⟨rfl, rfl, rfl⟩
  · skip
    refine lv_iload_n hx hb dX3_hasFlight_4 rfl (lv_at hl 1 rfl) ?_
    refine lv_aload_n hx hb dX3_hasFlight_5 rfl (lv_at hl 0 rfl) ?_
    refine g_get C hH mn fn iX3 rfl 6 (by decide) wd3 rfl rfl dX3_hasFlight_6 ?_
    refine lv_icmp_ge (tgt := 16) hx hb dX3_hasFlight_9 (by decide) (fun c2 => ?_) (fun c2 => ?_)
    · skip
      refine lv_iconst (v := (0 : Int32)) hx hb dX3_hasFlight_16 (by decide) ?_
      refine g_zret C hr (by first | rfl | decide | (exact rfl)) hH (Nat.le_of_ble_eq_true rfl) (Nat.le_of_ble_eq_true rfl) dX3_hasFlight_17 ?_
      exact ⟨rfl, rfl, rfl⟩
    · skip
      exfalso; simp only [fa_lt, fa_le, fa_eq, ti_0] at c1 c2; omega
set_option maxHeartbeats 4000000 in
set_option maxRecDepth 100000 in
theorem k_hasMember (l : Launch) (E : gE) (L : List Nat) (f : gF) {xn : Nat} {na : Nat → Nat} (mn : xn ∈ L) (fn : f xn = .inr (3, [.int (0 : Int32), .int (0 : Int32), .int (0 : Int32), .int (0 : Int32), .int (0 : Int32), .int (0 : Int32), .int (0 : Int32), .int (0 : Int32), .int (0 : Int32), .int (0 : Int32), .ref (na 0), .ref (na 1), .ref (na 2), .ref (na 3), .ref (na 4), .ref (na 5), .ref (na 6), .ref (na 7), .ref (na 8), .ref (na 9)])) (p0 : Int32) : gMi l E yX3_hasMember cX3_hasMember 2 .boolean (gRm 1 0 0) [.ref xn, .int p0] L f (gRO (0 : Int32) L f) := by
  refine gMi.intro (by decide) (Nat.le_of_ble_eq_true rfl) ?_
  intro p e s m below meth c A ls C hr hA hH hl
  have C : gC E cX3_hasMember 2 RX3 p s m _ meth c := C
  have hl : lv_has ls 2 [(0, .ref xn), (1, .int p0)] := hl
  have hx := C.1
  have hb := C.2.1
  refine lv_iload_n hx hb dX3_hasMember_0 rfl (lv_at hl 1 rfl) ?_
  refine lv_if_lt (tgt := 16) hx hb dX3_hasMember_1 (by decide) (fun c1 => ?_) (fun c1 => ?_)
  · skip
    refine lv_iconst (v := (0 : Int32)) hx hb dX3_hasMember_16 (by decide) ?_
    refine g_zret C hr (by first | rfl | decide | (exact rfl)) hH (Nat.le_of_ble_eq_true rfl) (Nat.le_of_ble_eq_true rfl) dX3_hasMember_17 ?_
    exact ⟨rfl, rfl, rfl⟩
  · skip
    refine lv_iload_n hx hb dX3_hasMember_4 rfl (lv_at hl 1 rfl) ?_
    refine lv_aload_n hx hb dX3_hasMember_5 rfl (lv_at hl 0 rfl) ?_
    refine g_get C hH mn fn iX3 rfl 7 (by decide) wd4 rfl rfl dX3_hasMember_6 ?_
    refine lv_icmp_ge (tgt := 16) hx hb dX3_hasMember_9 (by decide) (fun c2 => ?_) (fun c2 => ?_)
    · skip
      refine lv_iconst (v := (0 : Int32)) hx hb dX3_hasMember_16 (by decide) ?_
      refine g_zret C hr (by first | rfl | decide | (exact rfl)) hH (Nat.le_of_ble_eq_true rfl) (Nat.le_of_ble_eq_true rfl) dX3_hasMember_17 ?_
      exact ⟨rfl, rfl, rfl⟩
    · skip
      exfalso; simp only [fa_lt, fa_le, fa_eq, ti_0] at c1 c2; omega
set_option maxHeartbeats 4000000 in
set_option maxRecDepth 100000 in
theorem k_hasCell (l : Launch) (E : gE) (L : List Nat) (f : gF) {xn : Nat} {na : Nat → Nat} (mn : xn ∈ L) (fn : f xn = .inr (3, [.int (0 : Int32), .int (0 : Int32), .int (0 : Int32), .int (0 : Int32), .int (0 : Int32), .int (0 : Int32), .int (0 : Int32), .int (0 : Int32), .int (0 : Int32), .int (0 : Int32), .ref (na 0), .ref (na 1), .ref (na 2), .ref (na 3), .ref (na 4), .ref (na 5), .ref (na 6), .ref (na 7), .ref (na 8), .ref (na 9)])) (p0 : Int32) : gMi l E yX3_hasCell cX3_hasCell 2 .boolean (gRm 2 0 0) [.ref xn, .int p0] L f (gRO (0 : Int32) L f) := by
  refine gMi.intro (by decide) (Nat.le_of_ble_eq_true rfl) ?_
  intro p e s m below meth c A ls C hr hA hH hl
  have C : gC E cX3_hasCell 2 RX3 p s m _ meth c := C
  have hl : lv_has ls 2 [(0, .ref xn), (1, .int p0)] := hl
  have hx := C.1
  have hb := C.2.1
  refine lv_iload_n hx hb dX3_hasCell_0 rfl (lv_at hl 1 rfl) ?_
  refine lv_if_lt (tgt := 16) hx hb dX3_hasCell_1 (by decide) (fun c1 => ?_) (fun c1 => ?_)
  · skip
    refine lv_iconst (v := (0 : Int32)) hx hb dX3_hasCell_16 (by decide) ?_
    refine g_zret C hr (by first | rfl | decide | (exact rfl)) hH (Nat.le_of_ble_eq_true rfl) (Nat.le_of_ble_eq_true rfl) dX3_hasCell_17 ?_
    exact ⟨rfl, rfl, rfl⟩
  · skip
    refine lv_iload_n hx hb dX3_hasCell_4 rfl (lv_at hl 1 rfl) ?_
    refine lv_aload_n hx hb dX3_hasCell_5 rfl (lv_at hl 0 rfl) ?_
    refine g_Vi C hl.1 hA hH (As := []) (rest := [.int p0]) (k_cells l E L f mn fn) my_X3_cells wd9 mn fn rfl rfl rfl (Nat.le_of_ble_eq_true rfl) ⟨Nat.le_of_ble_eq_true rfl, Nat.le_of_ble_eq_true rfl⟩ ⟨Nat.le_of_ble_eq_true rfl, Nat.le_of_ble_eq_true rfl⟩ dX3_hasCell_6 (fun r4 L3 f2 H locs hp hH => ?_)
    obtain ⟨er4, rfl, rfl⟩ := hp
    subst er4
    refine lv_icmp_ge (tgt := 16) hx hb dX3_hasCell_9 (by decide) (fun c5 => ?_) (fun c5 => ?_)
    · skip
      refine lv_iconst (v := (0 : Int32)) hx hb dX3_hasCell_16 (by decide) ?_
      refine g_zret C hr (by first | rfl | decide | (exact rfl)) hH (Nat.le_of_ble_eq_true rfl) (Nat.le_of_ble_eq_true rfl) dX3_hasCell_17 ?_
      exact ⟨rfl, rfl, rfl⟩
    · skip
      exfalso; simp only [fa_lt, fa_le, fa_eq, ti_0] at c1 c5; omega
set_option maxHeartbeats 4000000 in
set_option maxRecDepth 100000 in
theorem k_hasSet (l : Launch) (E : gE) (L : List Nat) (f : gF) {xn : Nat} {na : Nat → Nat} (mn : xn ∈ L) (fn : f xn = .inr (3, [.int (0 : Int32), .int (0 : Int32), .int (0 : Int32), .int (0 : Int32), .int (0 : Int32), .int (0 : Int32), .int (0 : Int32), .int (0 : Int32), .int (0 : Int32), .int (0 : Int32), .ref (na 0), .ref (na 1), .ref (na 2), .ref (na 3), .ref (na 4), .ref (na 5), .ref (na 6), .ref (na 7), .ref (na 8), .ref (na 9)])) (p0 : Int32) : gMi l E yX3_hasSet cX3_hasSet 2 .boolean (gRm 2 0 0) [.ref xn, .int p0] L f (gRO (0 : Int32) L f) := by
  refine gMi.intro (by decide) (Nat.le_of_ble_eq_true rfl) ?_
  intro p e s m below meth c A ls C hr hA hH hl
  have C : gC E cX3_hasSet 2 RX3 p s m _ meth c := C
  have hl : lv_has ls 2 [(0, .ref xn), (1, .int p0)] := hl
  have hx := C.1
  have hb := C.2.1
  refine lv_aload_n hx hb dX3_hasSet_0 rfl (lv_at hl 0 rfl) ?_
  refine g_Vi C hl.1 hA hH (As := []) (rest := []) (k_isNone l E L f mn fn) my_X3_isNone wd13 mn fn rfl rfl rfl (Nat.le_of_ble_eq_true rfl) ⟨Nat.le_of_ble_eq_true rfl, Nat.le_of_ble_eq_true rfl⟩ ⟨Nat.le_of_ble_eq_true rfl, Nat.le_of_ble_eq_true rfl⟩ dX3_hasSet_1 (fun r3 L2 f1 H locs hp hH => ?_)
  obtain ⟨er3, rfl, rfl⟩ := hp
  subst er3
  refine lv_if_ne (tgt := 23) hx hb dX3_hasSet_4 (by decide) (fun _ => ?_) (fun h => absurd h (by decide))
  refine lv_iconst (v := (0 : Int32)) hx hb dX3_hasSet_23 (by decide) ?_
  refine g_zret C hr (by first | rfl | decide | (exact rfl)) hH (Nat.le_of_ble_eq_true rfl) (Nat.le_of_ble_eq_true rfl) dX3_hasSet_24 ?_
  exact ⟨rfl, rfl, rfl⟩
set_option maxHeartbeats 4000000 in
set_option maxRecDepth 100000 in
theorem k_isSlot (l : Launch) (E : gE) (L : List Nat) (f : gF) (p0 : Int32) : gMi l E yX9_isSlot cX9_isSlot 1 .boolean (gRm 1 0 0) [.int p0] L f (gRO (gSlot p0) L f) := by
  refine gMi.intro (by decide) (Nat.le_of_ble_eq_true rfl) ?_
  intro p e s m below meth c A ls C hr hA hH hl
  have C : gC E cX9_isSlot 1 RX9 p s m _ meth c := C
  have hl : lv_has ls 1 [(0, .int p0)] := hl
  have hx := C.1
  have hb := C.2.1
  refine lv_iload_n hx hb dX9_isSlot_0 rfl (lv_at hl 0 rfl) ?_
  refine lv_if_lt (tgt := 13) hx hb dX9_isSlot_1 (by decide) (fun c1 => ?_) (fun c1 => ?_)
  · skip
    refine lv_iconst (v := (0 : Int32)) hx hb dX9_isSlot_13 (by decide) ?_
    refine g_zret C hr (by first | rfl | decide | (exact rfl)) hH (Nat.le_of_ble_eq_true rfl) (Nat.le_of_ble_eq_true rfl) dX9_isSlot_14 ?_
    exact ⟨by rw [gSlot, if_pos c1], rfl, rfl⟩
  · skip
    refine lv_iload_n hx hb dX9_isSlot_4 rfl (lv_at hl 0 rfl) ?_
    refine lv_iconst (v := (4 : Int32)) hx hb dX9_isSlot_5 (by decide) ?_
    refine lv_icmp_ge (tgt := 13) hx hb dX9_isSlot_6 (by decide) (fun c2 => ?_) (fun c2 => ?_)
    · skip
      refine lv_iconst (v := (0 : Int32)) hx hb dX9_isSlot_13 (by decide) ?_
      refine g_zret C hr (by first | rfl | decide | (exact rfl)) hH (Nat.le_of_ble_eq_true rfl) (Nat.le_of_ble_eq_true rfl) dX9_isSlot_14 ?_
      exact ⟨by rw [gSlot, if_neg c1, if_pos c2], rfl, rfl⟩
    · skip
      refine lv_iconst (v := (1 : Int32)) hx hb dX9_isSlot_9 (by decide) ?_
      refine lv_goto (tgt := 14) hx hb dX9_isSlot_10 (by decide) ?_
      refine g_zret C hr (by first | rfl | decide | (exact rfl)) hH (Nat.le_of_ble_eq_true rfl) (Nat.le_of_ble_eq_true rfl) dX9_isSlot_14 ?_
      exact ⟨by rw [gSlot, if_neg c1, if_neg c2], rfl, rfl⟩
set_option maxHeartbeats 4000000 in
set_option maxRecDepth 100000 in
theorem k_rowRefusal (l : Launch) (E : gE) (L : List Nat) (f : gF) {x xt xn xr xi xw xs xl xc xh xf xm : Nat} (mx : x ∈ L) (fx : f x = .inr (9, [.ref xt, .ref xn, .ref xr, .ref xi, .ref xw, .ref xs, .ref xl, .ref xc, .ref xh, .ref xf, .ref xm])) {na : Nat → Nat} (mn : xn ∈ L) (fn : f xn = .inr (3, [.int (0 : Int32), .int (0 : Int32), .int (0 : Int32), .int (0 : Int32), .int (0 : Int32), .int (0 : Int32), .int (0 : Int32), .int (0 : Int32), .int (0 : Int32), .int (0 : Int32), .ref (na 0), .ref (na 1), .ref (na 2), .ref (na 3), .ref (na 4), .ref (na 5), .ref (na 6), .ref (na 7), .ref (na 8), .ref (na 9)])) (p0 : Int32) : gMi l E yX9_rowRefusal cX9_rowRefusal 2 .int (gRm 3 0 0) [.ref x, .int p0] L f (gRO (-2 : Int32) L f) := by
  refine gMi.intro (by decide) (Nat.le_of_ble_eq_true rfl) ?_
  intro p e s m below meth c A ls C hr hA hH hl
  have C : gC E cX9_rowRefusal 2 RX9 p s m _ meth c := C
  have hl : lv_has ls 2 [(0, .ref x), (1, .int p0)] := hl
  have hx := C.1
  have hb := C.2.1
  refine lv_iload_n hx hb dX9_rowRefusal_0 rfl (lv_at hl 1 rfl) ?_
  refine g_Si C hl.1 hA hH (As := [.int p0]) (rest := []) (k_isSlot l E L f p0) my_X9_isSlot wd17 rfl rfl (Nat.le_of_ble_eq_true rfl) ⟨Nat.le_of_ble_eq_true rfl, Nat.le_of_ble_eq_true rfl⟩ ⟨Nat.le_of_ble_eq_true rfl, Nat.le_of_ble_eq_true rfl⟩ dX9_rowRefusal_1 (fun r3 L2 f1 H locs hp hH => ?_)
  obtain ⟨er3, rfl, rfl⟩ := hp
  subst er3
  refine lv_if_eq (tgt := 17) hx hb dX9_rowRefusal_4 (by decide) (fun c4 => ?_) (fun c4 => ?_)
  · skip
    refine lv_bipush (v := (-2 : Int32)) hx hb dX9_rowRefusal_17 (by decide) ?_
    refine g_iret C hr hH (Nat.le_of_ble_eq_true rfl) (Nat.le_of_ble_eq_true rfl) dX9_rowRefusal_19 ?_
    exact ⟨rfl, rfl, rfl⟩
  · skip
    refine lv_aload_n hx hb dX9_rowRefusal_7 rfl (lv_at hl 0 rfl) ?_
    refine g_get C hH mx fx iX9 rfl 1 (by decide) wd18 rfl rfl dX9_rowRefusal_8 ?_
    refine g_Vi C hl.1 hA hH (As := []) (rest := []) (k_isNone l E L f mn fn) my_X3_isNone wd19 mn fn rfl rfl rfl (Nat.le_of_ble_eq_true rfl) ⟨Nat.le_of_ble_eq_true rfl, Nat.le_of_ble_eq_true rfl⟩ ⟨Nat.le_of_ble_eq_true rfl, Nat.le_of_ble_eq_true rfl⟩ dX9_rowRefusal_11 (fun r7 L6 f5 H locs hp hH => ?_)
    obtain ⟨er7, rfl, rfl⟩ := hp
    subst er7
    refine lv_if_eq (tgt := 20) hx hb dX9_rowRefusal_14 (by decide) (fun h => absurd h (by decide)) (fun _ => ?_)
    refine lv_bipush (v := (-2 : Int32)) hx hb dX9_rowRefusal_17 (by decide) ?_
    refine g_iret C hr hH (Nat.le_of_ble_eq_true rfl) (Nat.le_of_ble_eq_true rfl) dX9_rowRefusal_19 ?_
    exact ⟨rfl, rfl, rfl⟩
set_option maxHeartbeats 4000000 in
set_option maxRecDepth 100000 in
theorem k_sightRefusal (l : Launch) (E : gE) (L : List Nat) (f : gF) {x xt xn xr xi xw xs xl xc xh xf xm : Nat} (mx : x ∈ L) (fx : f x = .inr (9, [.ref xt, .ref xn, .ref xr, .ref xi, .ref xw, .ref xs, .ref xl, .ref xc, .ref xh, .ref xf, .ref xm])) {na : Nat → Nat} (mn : xn ∈ L) (fn : f xn = .inr (3, [.int (0 : Int32), .int (0 : Int32), .int (0 : Int32), .int (0 : Int32), .int (0 : Int32), .int (0 : Int32), .int (0 : Int32), .int (0 : Int32), .int (0 : Int32), .int (0 : Int32), .ref (na 0), .ref (na 1), .ref (na 2), .ref (na 3), .ref (na 4), .ref (na 5), .ref (na 6), .ref (na 7), .ref (na 8), .ref (na 9)])) (p0 : Int32) : gMi l E yX9_sightRefusal cX9_sightRefusal 3 .int (gRm 4 0 0) [.ref x, .int p0] L f (gRO (-2 : Int32) L f) := by
  refine gMi.intro (by decide) (Nat.le_of_ble_eq_true rfl) ?_
  intro p e s m below meth c A ls C hr hA hH hl
  have C : gC E cX9_sightRefusal 3 RX9 p s m _ meth c := C
  have hl : lv_has ls 3 [(0, .ref x), (1, .int p0)] := hl
  have hx := C.1
  have hb := C.2.1
  refine lv_aload_n hx hb dX9_sightRefusal_0 rfl (lv_at hl 0 rfl) ?_
  refine lv_iload_n hx hb dX9_sightRefusal_1 rfl (lv_at hl 1 rfl) ?_
  refine g_Vi C hl.1 hA hH (As := [.int p0]) (rest := []) (k_rowRefusal l E L f mx fx mn fn p0) my_X9_rowRefusal wd23 mx fx rfl rfl rfl (Nat.le_of_ble_eq_true rfl) ⟨Nat.le_of_ble_eq_true rfl, Nat.le_of_ble_eq_true rfl⟩ ⟨Nat.le_of_ble_eq_true rfl, Nat.le_of_ble_eq_true rfl⟩ dX9_sightRefusal_2 (fun r3 L2 f1 H locs hp hH => ?_)
  obtain ⟨er3, rfl, rfl⟩ := hp
  subst er3
  refine lv_istore_n (lv' := [(2, .int (-2 : Int32)), (0, .ref x), (1, .int p0)]) hx hb dX9_sightRefusal_5 rfl hl (by decide) rfl (fun ls hl => ?_)
  refine lv_iload_n hx hb dX9_sightRefusal_6 rfl (lv_at hl 0 rfl) ?_
  refine lv_if_eq (tgt := 12) hx hb dX9_sightRefusal_7 (by decide) (fun h => absurd h (by decide)) (fun _ => ?_)
  refine lv_iload_n hx hb dX9_sightRefusal_10 rfl (lv_at hl 0 rfl) ?_
  refine g_iret C hr hH (Nat.le_of_ble_eq_true rfl) (Nat.le_of_ble_eq_true rfl) dX9_sightRefusal_11 ?_
  exact ⟨rfl, rfl, rfl⟩
set_option maxHeartbeats 4000000 in
set_option maxRecDepth 100000 in
theorem k_reportRefusal (l : Launch) (E : gE) (L : List Nat) (f : gF) {x xt xn xr xi xw xs xl xc xh xf xm : Nat} (mx : x ∈ L) (fx : f x = .inr (9, [.ref xt, .ref xn, .ref xr, .ref xi, .ref xw, .ref xs, .ref xl, .ref xc, .ref xh, .ref xf, .ref xm])) {na : Nat → Nat} (mn : xn ∈ L) (fn : f xn = .inr (3, [.int (0 : Int32), .int (0 : Int32), .int (0 : Int32), .int (0 : Int32), .int (0 : Int32), .int (0 : Int32), .int (0 : Int32), .int (0 : Int32), .int (0 : Int32), .int (0 : Int32), .ref (na 0), .ref (na 1), .ref (na 2), .ref (na 3), .ref (na 4), .ref (na 5), .ref (na 6), .ref (na 7), .ref (na 8), .ref (na 9)])) (p0 : Int32) : gMi l E yX9_reportRefusal cX9_reportRefusal 3 .int (gRm 4 0 0) [.ref x, .int p0] L f (gRO (-2 : Int32) L f) := by
  refine gMi.intro (by decide) (Nat.le_of_ble_eq_true rfl) ?_
  intro p e s m below meth c A ls C hr hA hH hl
  have C : gC E cX9_reportRefusal 3 RX9 p s m _ meth c := C
  have hl : lv_has ls 3 [(0, .ref x), (1, .int p0)] := hl
  have hx := C.1
  have hb := C.2.1
  refine lv_aload_n hx hb dX9_reportRefusal_0 rfl (lv_at hl 0 rfl) ?_
  refine lv_iload_n hx hb dX9_reportRefusal_1 rfl (lv_at hl 1 rfl) ?_
  refine g_Vi C hl.1 hA hH (As := [.int p0]) (rest := []) (k_rowRefusal l E L f mx fx mn fn p0) my_X9_rowRefusal wd23 mx fx rfl rfl rfl (Nat.le_of_ble_eq_true rfl) ⟨Nat.le_of_ble_eq_true rfl, Nat.le_of_ble_eq_true rfl⟩ ⟨Nat.le_of_ble_eq_true rfl, Nat.le_of_ble_eq_true rfl⟩ dX9_reportRefusal_2 (fun r3 L2 f1 H locs hp hH => ?_)
  obtain ⟨er3, rfl, rfl⟩ := hp
  subst er3
  refine lv_istore_n (lv' := [(2, .int (-2 : Int32)), (0, .ref x), (1, .int p0)]) hx hb dX9_reportRefusal_5 rfl hl (by decide) rfl (fun ls hl => ?_)
  refine lv_iload_n hx hb dX9_reportRefusal_6 rfl (lv_at hl 0 rfl) ?_
  refine lv_if_eq (tgt := 12) hx hb dX9_reportRefusal_7 (by decide) (fun h => absurd h (by decide)) (fun _ => ?_)
  refine lv_iload_n hx hb dX9_reportRefusal_10 rfl (lv_at hl 0 rfl) ?_
  refine g_iret C hr hH (Nat.le_of_ble_eq_true rfl) (Nat.le_of_ble_eq_true rfl) dX9_reportRefusal_11 ?_
  exact ⟨rfl, rfl, rfl⟩
set_option maxHeartbeats 4000000 in
set_option maxRecDepth 100000 in
theorem k_areTwo (l : Launch) (E : gE) (L : List Nat) (f : gF) {x xt xn xr xi xw xs xl xc xh xf xm : Nat} (mx : x ∈ L) (fx : f x = .inr (9, [.ref xt, .ref xn, .ref xr, .ref xi, .ref xw, .ref xs, .ref xl, .ref xc, .ref xh, .ref xf, .ref xm])) {na : Nat → Nat} (mn : xn ∈ L) (fn : f xn = .inr (3, [.int (0 : Int32), .int (0 : Int32), .int (0 : Int32), .int (0 : Int32), .int (0 : Int32), .int (0 : Int32), .int (0 : Int32), .int (0 : Int32), .int (0 : Int32), .int (0 : Int32), .ref (na 0), .ref (na 1), .ref (na 2), .ref (na 3), .ref (na 4), .ref (na 5), .ref (na 6), .ref (na 7), .ref (na 8), .ref (na 9)])) (p0 p1 : Int32) : gMi l E yX9_areTwo cX9_areTwo 3 .boolean (gRm 3 0 0) [.ref x, .int p0, .int p1] L f (gRO (0 : Int32) L f) := by
  refine gMi.intro (by decide) (Nat.le_of_ble_eq_true rfl) ?_
  intro p e s m below meth c A ls C hr hA hH hl
  have C : gC E cX9_areTwo 3 RX9 p s m _ meth c := C
  have hl : lv_has ls 3 [(0, .ref x), (1, .int p0), (2, .int p1)] := hl
  have hx := C.1
  have hb := C.2.1
  refine lv_aload_n hx hb dX9_areTwo_0 rfl (lv_at hl 0 rfl) ?_
  refine g_get C hH mx fx iX9 rfl 1 (by decide) wd18 rfl rfl dX9_areTwo_1 ?_
  refine lv_iload_n hx hb dX9_areTwo_4 rfl (lv_at hl 1 rfl) ?_
  refine g_Vi C hl.1 hA hH (As := [.int p0]) (rest := []) (k_hasMember l E L f mn fn p0) my_X3_hasMember wd27 mn fn rfl rfl rfl (Nat.le_of_ble_eq_true rfl) ⟨Nat.le_of_ble_eq_true rfl, Nat.le_of_ble_eq_true rfl⟩ ⟨Nat.le_of_ble_eq_true rfl, Nat.le_of_ble_eq_true rfl⟩ dX9_areTwo_5 (fun r3 L2 f1 H locs hp hH => ?_)
  obtain ⟨er3, rfl, rfl⟩ := hp
  subst er3
  refine lv_if_eq (tgt := 31) hx hb dX9_areTwo_8 (by decide) (fun _ => ?_) (fun h => absurd (by decide) h)
  refine lv_iconst (v := (0 : Int32)) hx hb dX9_areTwo_31 (by decide) ?_
  refine g_zret C hr (by first | rfl | decide | (exact rfl)) hH (Nat.le_of_ble_eq_true rfl) (Nat.le_of_ble_eq_true rfl) dX9_areTwo_32 ?_
  exact ⟨rfl, rfl, rfl⟩
set_option maxHeartbeats 4000000 in
set_option maxRecDepth 100000 in
theorem k_flight (l : Launch) (E : gE) (L : List Nat) (f : gF) {x xt xn xr xi xw xs xl xc xh xf xm : Nat} (mx : x ∈ L) (fx : f x = .inr (9, [.ref xt, .ref xn, .ref xr, .ref xi, .ref xw, .ref xs, .ref xl, .ref xc, .ref xh, .ref xf, .ref xm])) {na : Nat → Nat} (mn : xn ∈ L) (fn : f xn = .inr (3, [.int (0 : Int32), .int (0 : Int32), .int (0 : Int32), .int (0 : Int32), .int (0 : Int32), .int (0 : Int32), .int (0 : Int32), .int (0 : Int32), .int (0 : Int32), .int (0 : Int32), .ref (na 0), .ref (na 1), .ref (na 2), .ref (na 3), .ref (na 4), .ref (na 5), .ref (na 6), .ref (na 7), .ref (na 8), .ref (na 9)])) (p0 p1 : Int32) : gMi l E yX9_flight cX9_flight 3 .int (gRm 5 0 0) [.ref x, .int p0, .int p1] L f (gRO (-2 : Int32) L f) := by
  refine gMi.intro (by decide) (Nat.le_of_ble_eq_true rfl) ?_
  intro p e s m below meth c A ls C hr hA hH hl
  have C : gC E cX9_flight 3 RX9 p s m _ meth c := C
  have hl : lv_has ls 3 [(0, .ref x), (1, .int p0), (2, .int p1)] := hl
  have hx := C.1
  have hb := C.2.1
  refine lv_aload_n hx hb dX9_flight_0 rfl (lv_at hl 0 rfl) ?_
  refine g_get C hH mx fx iX9 rfl 1 (by decide) wd18 rfl rfl dX9_flight_1 ?_
  refine lv_iload_n hx hb dX9_flight_4 rfl (lv_at hl 1 rfl) ?_
  refine g_Vi C hl.1 hA hH (As := [.int p0]) (rest := []) (k_hasFlight l E L f mn fn p0) my_X3_hasFlight wd31 mn fn rfl rfl rfl (Nat.le_of_ble_eq_true rfl) ⟨Nat.le_of_ble_eq_true rfl, Nat.le_of_ble_eq_true rfl⟩ ⟨Nat.le_of_ble_eq_true rfl, Nat.le_of_ble_eq_true rfl⟩ dX9_flight_5 (fun r3 L2 f1 H locs hp hH => ?_)
  obtain ⟨er3, rfl, rfl⟩ := hp
  subst er3
  refine lv_if_ne (tgt := 14) hx hb dX9_flight_8 (by decide) (fun h => absurd (by decide) h) (fun _ => ?_)
  refine lv_bipush (v := (-2 : Int32)) hx hb dX9_flight_11 (by decide) ?_
  refine g_iret C hr hH (Nat.le_of_ble_eq_true rfl) (Nat.le_of_ble_eq_true rfl) dX9_flight_13 ?_
  exact ⟨rfl, rfl, rfl⟩
set_option maxHeartbeats 4000000 in
set_option maxRecDepth 100000 in
theorem k_member (l : Launch) (E : gE) (L : List Nat) (f : gF) {x xt xn xr xi xw xs xl xc xh xf xm : Nat} (mx : x ∈ L) (fx : f x = .inr (9, [.ref xt, .ref xn, .ref xr, .ref xi, .ref xw, .ref xs, .ref xl, .ref xc, .ref xh, .ref xf, .ref xm])) {na : Nat → Nat} (mn : xn ∈ L) (fn : f xn = .inr (3, [.int (0 : Int32), .int (0 : Int32), .int (0 : Int32), .int (0 : Int32), .int (0 : Int32), .int (0 : Int32), .int (0 : Int32), .int (0 : Int32), .int (0 : Int32), .int (0 : Int32), .ref (na 0), .ref (na 1), .ref (na 2), .ref (na 3), .ref (na 4), .ref (na 5), .ref (na 6), .ref (na 7), .ref (na 8), .ref (na 9)])) (p0 p1 : Int32) : gMi l E yX9_member cX9_member 3 .int (gRm 5 0 0) [.ref x, .int p0, .int p1] L f (gRO (-2 : Int32) L f) := by
  refine gMi.intro (by decide) (Nat.le_of_ble_eq_true rfl) ?_
  intro p e s m below meth c A ls C hr hA hH hl
  have C : gC E cX9_member 3 RX9 p s m _ meth c := C
  have hl : lv_has ls 3 [(0, .ref x), (1, .int p0), (2, .int p1)] := hl
  have hx := C.1
  have hb := C.2.1
  refine lv_aload_n hx hb dX9_member_0 rfl (lv_at hl 0 rfl) ?_
  refine g_get C hH mx fx iX9 rfl 1 (by decide) wd18 rfl rfl dX9_member_1 ?_
  refine lv_iload_n hx hb dX9_member_4 rfl (lv_at hl 1 rfl) ?_
  refine g_Vi C hl.1 hA hH (As := [.int p0]) (rest := []) (k_hasMember l E L f mn fn p0) my_X3_hasMember wd27 mn fn rfl rfl rfl (Nat.le_of_ble_eq_true rfl) ⟨Nat.le_of_ble_eq_true rfl, Nat.le_of_ble_eq_true rfl⟩ ⟨Nat.le_of_ble_eq_true rfl, Nat.le_of_ble_eq_true rfl⟩ dX9_member_5 (fun r3 L2 f1 H locs hp hH => ?_)
  obtain ⟨er3, rfl, rfl⟩ := hp
  subst er3
  refine lv_if_ne (tgt := 14) hx hb dX9_member_8 (by decide) (fun h => absurd (by decide) h) (fun _ => ?_)
  refine lv_bipush (v := (-2 : Int32)) hx hb dX9_member_11 (by decide) ?_
  refine g_iret C hr hH (Nat.le_of_ble_eq_true rfl) (Nat.le_of_ble_eq_true rfl) dX9_member_13 ?_
  exact ⟨rfl, rfl, rfl⟩
set_option maxHeartbeats 4000000 in
set_option maxRecDepth 100000 in
theorem k_lamps (l : Launch) (E : gE) (L : List Nat) (f : gF) {x xt xn xr xi xw xs xl xc xh xf xm : Nat} (mx : x ∈ L) (fx : f x = .inr (9, [.ref xt, .ref xn, .ref xr, .ref xi, .ref xw, .ref xs, .ref xl, .ref xc, .ref xh, .ref xf, .ref xm])) {na : Nat → Nat} (mn : xn ∈ L) (fn : f xn = .inr (3, [.int (0 : Int32), .int (0 : Int32), .int (0 : Int32), .int (0 : Int32), .int (0 : Int32), .int (0 : Int32), .int (0 : Int32), .int (0 : Int32), .int (0 : Int32), .int (0 : Int32), .ref (na 0), .ref (na 1), .ref (na 2), .ref (na 3), .ref (na 4), .ref (na 5), .ref (na 6), .ref (na 7), .ref (na 8), .ref (na 9)])) : gMi l E yX9_lamps cX9_lamps 1 .int (gRm 5 0 0) [.ref x] L f (gRO (-2 : Int32) L f) := by
  refine gMi.intro (by decide) (Nat.le_of_ble_eq_true rfl) ?_
  intro p e s m below meth c A ls C hr hA hH hl
  have C : gC E cX9_lamps 1 RX9 p s m _ meth c := C
  have hl : lv_has ls 1 [(0, .ref x)] := hl
  have hx := C.1
  have hb := C.2.1
  refine lv_aload_n hx hb dX9_lamps_0 rfl (lv_at hl 0 rfl) ?_
  refine g_get C hH mx fx iX9 rfl 1 (by decide) wd18 rfl rfl dX9_lamps_1 ?_
  refine g_Vi C hl.1 hA hH (As := []) (rest := []) (k_isNone l E L f mn fn) my_X3_isNone wd19 mn fn rfl rfl rfl (Nat.le_of_ble_eq_true rfl) ⟨Nat.le_of_ble_eq_true rfl, Nat.le_of_ble_eq_true rfl⟩ ⟨Nat.le_of_ble_eq_true rfl, Nat.le_of_ble_eq_true rfl⟩ dX9_lamps_4 (fun r3 L2 f1 H locs hp hH => ?_)
  obtain ⟨er3, rfl, rfl⟩ := hp
  subst er3
  refine lv_if_eq (tgt := 15) hx hb dX9_lamps_7 (by decide) (fun h => absurd h (by decide)) (fun _ => ?_)
  refine lv_bipush (v := (-2 : Int32)) hx hb dX9_lamps_10 (by decide) ?_
  refine lv_goto (tgt := 22) hx hb dX9_lamps_12 (by decide) ?_
  refine g_iret C hr hH (Nat.le_of_ble_eq_true rfl) (Nat.le_of_ble_eq_true rfl) dX9_lamps_22 ?_
  exact ⟨rfl, rfl, rfl⟩
set_option maxHeartbeats 4000000 in
set_option maxRecDepth 100000 in
theorem k_at (l : Launch) (E : gE) (L : List Nat) (f : gF) {x xt xn xr xi xw xs xl xc xh xf xm : Nat} (mx : x ∈ L) (fx : f x = .inr (9, [.ref xt, .ref xn, .ref xr, .ref xi, .ref xw, .ref xs, .ref xl, .ref xc, .ref xh, .ref xf, .ref xm])) {na : Nat → Nat} (mn : xn ∈ L) (fn : f xn = .inr (3, [.int (0 : Int32), .int (0 : Int32), .int (0 : Int32), .int (0 : Int32), .int (0 : Int32), .int (0 : Int32), .int (0 : Int32), .int (0 : Int32), .int (0 : Int32), .int (0 : Int32), .ref (na 0), .ref (na 1), .ref (na 2), .ref (na 3), .ref (na 4), .ref (na 5), .ref (na 6), .ref (na 7), .ref (na 8), .ref (na 9)])) (p0 p1 : Int32) : gMi l E yX9_at cX9_at 3 .int (gRm 5 0 0) [.ref x, .int p0, .int p1] L f (gRO (-2 : Int32) L f) := by
  refine gMi.intro (by decide) (Nat.le_of_ble_eq_true rfl) ?_
  intro p e s m below meth c A ls C hr hA hH hl
  have C : gC E cX9_at 3 RX9 p s m _ meth c := C
  have hl : lv_has ls 3 [(0, .ref x), (1, .int p0), (2, .int p1)] := hl
  have hx := C.1
  have hb := C.2.1
  refine lv_aload_n hx hb dX9_at_0 rfl (lv_at hl 0 rfl) ?_
  refine g_get C hH mx fx iX9 rfl 1 (by decide) wd18 rfl rfl dX9_at_1 ?_
  refine lv_iload_n hx hb dX9_at_4 rfl (lv_at hl 1 rfl) ?_
  refine g_Vi C hl.1 hA hH (As := [.int p0]) (rest := []) (k_hasFlight l E L f mn fn p0) my_X3_hasFlight wd31 mn fn rfl rfl rfl (Nat.le_of_ble_eq_true rfl) ⟨Nat.le_of_ble_eq_true rfl, Nat.le_of_ble_eq_true rfl⟩ ⟨Nat.le_of_ble_eq_true rfl, Nat.le_of_ble_eq_true rfl⟩ dX9_at_5 (fun r3 L2 f1 H locs hp hH => ?_)
  obtain ⟨er3, rfl, rfl⟩ := hp
  subst er3
  refine lv_if_eq (tgt := 18) hx hb dX9_at_8 (by decide) (fun _ => ?_) (fun h => absurd (by decide) h)
  refine lv_bipush (v := (-2 : Int32)) hx hb dX9_at_18 (by decide) ?_
  refine g_iret C hr hH (Nat.le_of_ble_eq_true rfl) (Nat.le_of_ble_eq_true rfl) dX9_at_20 ?_
  exact ⟨rfl, rfl, rfl⟩
set_option maxHeartbeats 4000000 in
set_option maxRecDepth 100000 in
theorem k_heads (l : Launch) (E : gE) (L : List Nat) (f : gF) {x xt xn xr xi xw xs xl xc xh xf xm : Nat} (mx : x ∈ L) (fx : f x = .inr (9, [.ref xt, .ref xn, .ref xr, .ref xi, .ref xw, .ref xs, .ref xl, .ref xc, .ref xh, .ref xf, .ref xm])) {na : Nat → Nat} (mn : xn ∈ L) (fn : f xn = .inr (3, [.int (0 : Int32), .int (0 : Int32), .int (0 : Int32), .int (0 : Int32), .int (0 : Int32), .int (0 : Int32), .int (0 : Int32), .int (0 : Int32), .int (0 : Int32), .int (0 : Int32), .ref (na 0), .ref (na 1), .ref (na 2), .ref (na 3), .ref (na 4), .ref (na 5), .ref (na 6), .ref (na 7), .ref (na 8), .ref (na 9)])) (p0 p1 : Int32) : gMi l E yX9_heads cX9_heads 3 .int (gRm 5 0 0) [.ref x, .int p0, .int p1] L f (gRO (-2 : Int32) L f) := by
  refine gMi.intro (by decide) (Nat.le_of_ble_eq_true rfl) ?_
  intro p e s m below meth c A ls C hr hA hH hl
  have C : gC E cX9_heads 3 RX9 p s m _ meth c := C
  have hl : lv_has ls 3 [(0, .ref x), (1, .int p0), (2, .int p1)] := hl
  have hx := C.1
  have hb := C.2.1
  refine lv_aload_n hx hb dX9_heads_0 rfl (lv_at hl 0 rfl) ?_
  refine g_get C hH mx fx iX9 rfl 1 (by decide) wd18 rfl rfl dX9_heads_1 ?_
  refine lv_iload_n hx hb dX9_heads_4 rfl (lv_at hl 1 rfl) ?_
  refine g_Vi C hl.1 hA hH (As := [.int p0]) (rest := []) (k_hasFlight l E L f mn fn p0) my_X3_hasFlight wd31 mn fn rfl rfl rfl (Nat.le_of_ble_eq_true rfl) ⟨Nat.le_of_ble_eq_true rfl, Nat.le_of_ble_eq_true rfl⟩ ⟨Nat.le_of_ble_eq_true rfl, Nat.le_of_ble_eq_true rfl⟩ dX9_heads_5 (fun r3 L2 f1 H locs hp hH => ?_)
  obtain ⟨er3, rfl, rfl⟩ := hp
  subst er3
  refine lv_if_eq (tgt := 18) hx hb dX9_heads_8 (by decide) (fun _ => ?_) (fun h => absurd (by decide) h)
  refine lv_bipush (v := (-2 : Int32)) hx hb dX9_heads_18 (by decide) ?_
  refine g_iret C hr hH (Nat.le_of_ble_eq_true rfl) (Nat.le_of_ble_eq_true rfl) dX9_heads_20 ?_
  exact ⟨rfl, rfl, rfl⟩
set_option maxHeartbeats 4000000 in
set_option maxRecDepth 100000 in
theorem k_out (l : Launch) (E : gE) (L : List Nat) (f : gF) {x xt xn xr xi xw xs xl xc xh xf xm : Nat} (mx : x ∈ L) (fx : f x = .inr (9, [.ref xt, .ref xn, .ref xr, .ref xi, .ref xw, .ref xs, .ref xl, .ref xc, .ref xh, .ref xf, .ref xm])) {na : Nat → Nat} (mn : xn ∈ L) (fn : f xn = .inr (3, [.int (0 : Int32), .int (0 : Int32), .int (0 : Int32), .int (0 : Int32), .int (0 : Int32), .int (0 : Int32), .int (0 : Int32), .int (0 : Int32), .int (0 : Int32), .int (0 : Int32), .ref (na 0), .ref (na 1), .ref (na 2), .ref (na 3), .ref (na 4), .ref (na 5), .ref (na 6), .ref (na 7), .ref (na 8), .ref (na 9)])) (p0 : Int32) : gMi l E yX9_out cX9_out 2 .int (gRm 5 0 0) [.ref x, .int p0] L f (gRO (-2 : Int32) L f) := by
  refine gMi.intro (by decide) (Nat.le_of_ble_eq_true rfl) ?_
  intro p e s m below meth c A ls C hr hA hH hl
  have C : gC E cX9_out 2 RX9 p s m _ meth c := C
  have hl : lv_has ls 2 [(0, .ref x), (1, .int p0)] := hl
  have hx := C.1
  have hb := C.2.1
  refine lv_aload_n hx hb dX9_out_0 rfl (lv_at hl 0 rfl) ?_
  refine g_get C hH mx fx iX9 rfl 1 (by decide) wd18 rfl rfl dX9_out_1 ?_
  refine lv_iload_n hx hb dX9_out_4 rfl (lv_at hl 1 rfl) ?_
  refine g_Vi C hl.1 hA hH (As := [.int p0]) (rest := []) (k_hasFlight l E L f mn fn p0) my_X3_hasFlight wd31 mn fn rfl rfl rfl (Nat.le_of_ble_eq_true rfl) ⟨Nat.le_of_ble_eq_true rfl, Nat.le_of_ble_eq_true rfl⟩ ⟨Nat.le_of_ble_eq_true rfl, Nat.le_of_ble_eq_true rfl⟩ dX9_out_5 (fun r3 L2 f1 H locs hp hH => ?_)
  obtain ⟨er3, rfl, rfl⟩ := hp
  subst er3
  refine lv_if_ne (tgt := 14) hx hb dX9_out_8 (by decide) (fun h => absurd (by decide) h) (fun _ => ?_)
  refine lv_bipush (v := (-2 : Int32)) hx hb dX9_out_11 (by decide) ?_
  refine g_iret C hr hH (Nat.le_of_ble_eq_true rfl) (Nat.le_of_ble_eq_true rfl) dX9_out_13 ?_
  exact ⟨rfl, rfl, rfl⟩
set_option maxHeartbeats 4000000 in
set_option maxRecDepth 100000 in
theorem k_bends (l : Launch) (E : gE) (L : List Nat) (f : gF) {x xt xn xr xi xw xs xl xc xh xf xm : Nat} (mx : x ∈ L) (fx : f x = .inr (9, [.ref xt, .ref xn, .ref xr, .ref xi, .ref xw, .ref xs, .ref xl, .ref xc, .ref xh, .ref xf, .ref xm])) {na : Nat → Nat} (mn : xn ∈ L) (fn : f xn = .inr (3, [.int (0 : Int32), .int (0 : Int32), .int (0 : Int32), .int (0 : Int32), .int (0 : Int32), .int (0 : Int32), .int (0 : Int32), .int (0 : Int32), .int (0 : Int32), .int (0 : Int32), .ref (na 0), .ref (na 1), .ref (na 2), .ref (na 3), .ref (na 4), .ref (na 5), .ref (na 6), .ref (na 7), .ref (na 8), .ref (na 9)])) (p0 : Int32) : gMi l E yX9_bends cX9_bends 2 .int (gRm 5 0 0) [.ref x, .int p0] L f (gRO (-2 : Int32) L f) := by
  refine gMi.intro (by decide) (Nat.le_of_ble_eq_true rfl) ?_
  intro p e s m below meth c A ls C hr hA hH hl
  have C : gC E cX9_bends 2 RX9 p s m _ meth c := C
  have hl : lv_has ls 2 [(0, .ref x), (1, .int p0)] := hl
  have hx := C.1
  have hb := C.2.1
  refine lv_aload_n hx hb dX9_bends_0 rfl (lv_at hl 0 rfl) ?_
  refine g_get C hH mx fx iX9 rfl 1 (by decide) wd18 rfl rfl dX9_bends_1 ?_
  refine lv_iload_n hx hb dX9_bends_4 rfl (lv_at hl 1 rfl) ?_
  refine g_Vi C hl.1 hA hH (As := [.int p0]) (rest := []) (k_hasFlight l E L f mn fn p0) my_X3_hasFlight wd31 mn fn rfl rfl rfl (Nat.le_of_ble_eq_true rfl) ⟨Nat.le_of_ble_eq_true rfl, Nat.le_of_ble_eq_true rfl⟩ ⟨Nat.le_of_ble_eq_true rfl, Nat.le_of_ble_eq_true rfl⟩ dX9_bends_5 (fun r3 L2 f1 H locs hp hH => ?_)
  obtain ⟨er3, rfl, rfl⟩ := hp
  subst er3
  refine lv_if_ne (tgt := 14) hx hb dX9_bends_8 (by decide) (fun h => absurd (by decide) h) (fun _ => ?_)
  refine lv_bipush (v := (-2 : Int32)) hx hb dX9_bends_11 (by decide) ?_
  refine g_iret C hr hH (Nat.le_of_ble_eq_true rfl) (Nat.le_of_ble_eq_true rfl) dX9_bends_13 ?_
  exact ⟨rfl, rfl, rfl⟩
set_option maxHeartbeats 4000000 in
set_option maxRecDepth 100000 in
theorem k_way (l : Launch) (E : gE) (L : List Nat) (f : gF) {x xt xn xr xi xw xs xl xc xh xf xm : Nat} (mx : x ∈ L) (fx : f x = .inr (9, [.ref xt, .ref xn, .ref xr, .ref xi, .ref xw, .ref xs, .ref xl, .ref xc, .ref xh, .ref xf, .ref xm])) {na : Nat → Nat} (mn : xn ∈ L) (fn : f xn = .inr (3, [.int (0 : Int32), .int (0 : Int32), .int (0 : Int32), .int (0 : Int32), .int (0 : Int32), .int (0 : Int32), .int (0 : Int32), .int (0 : Int32), .int (0 : Int32), .int (0 : Int32), .ref (na 0), .ref (na 1), .ref (na 2), .ref (na 3), .ref (na 4), .ref (na 5), .ref (na 6), .ref (na 7), .ref (na 8), .ref (na 9)])) (p0 : Int32) : gMi l E yX9_way cX9_way 2 .int (gRm 5 0 0) [.ref x, .int p0] L f (gRO (-2 : Int32) L f) := by
  refine gMi.intro (by decide) (Nat.le_of_ble_eq_true rfl) ?_
  intro p e s m below meth c A ls C hr hA hH hl
  have C : gC E cX9_way 2 RX9 p s m _ meth c := C
  have hl : lv_has ls 2 [(0, .ref x), (1, .int p0)] := hl
  have hx := C.1
  have hb := C.2.1
  refine lv_aload_n hx hb dX9_way_0 rfl (lv_at hl 0 rfl) ?_
  refine g_get C hH mx fx iX9 rfl 1 (by decide) wd18 rfl rfl dX9_way_1 ?_
  refine lv_iload_n hx hb dX9_way_4 rfl (lv_at hl 1 rfl) ?_
  refine g_Vi C hl.1 hA hH (As := [.int p0]) (rest := []) (k_hasFlight l E L f mn fn p0) my_X3_hasFlight wd31 mn fn rfl rfl rfl (Nat.le_of_ble_eq_true rfl) ⟨Nat.le_of_ble_eq_true rfl, Nat.le_of_ble_eq_true rfl⟩ ⟨Nat.le_of_ble_eq_true rfl, Nat.le_of_ble_eq_true rfl⟩ dX9_way_5 (fun r3 L2 f1 H locs hp hH => ?_)
  obtain ⟨er3, rfl, rfl⟩ := hp
  subst er3
  refine lv_if_ne (tgt := 14) hx hb dX9_way_8 (by decide) (fun h => absurd (by decide) h) (fun _ => ?_)
  refine lv_bipush (v := (-2 : Int32)) hx hb dX9_way_11 (by decide) ?_
  refine g_iret C hr hH (Nat.le_of_ble_eq_true rfl) (Nat.le_of_ble_eq_true rfl) dX9_way_13 ?_
  exact ⟨rfl, rfl, rfl⟩
set_option maxHeartbeats 4000000 in
set_option maxRecDepth 100000 in
theorem k_over (l : Launch) (E : gE) (L : List Nat) (f : gF) {x xt xn xr xi xw xs xl xc xh xf xm : Nat} (mx : x ∈ L) (fx : f x = .inr (9, [.ref xt, .ref xn, .ref xr, .ref xi, .ref xw, .ref xs, .ref xl, .ref xc, .ref xh, .ref xf, .ref xm])) {na : Nat → Nat} (mn : xn ∈ L) (fn : f xn = .inr (3, [.int (0 : Int32), .int (0 : Int32), .int (0 : Int32), .int (0 : Int32), .int (0 : Int32), .int (0 : Int32), .int (0 : Int32), .int (0 : Int32), .int (0 : Int32), .int (0 : Int32), .ref (na 0), .ref (na 1), .ref (na 2), .ref (na 3), .ref (na 4), .ref (na 5), .ref (na 6), .ref (na 7), .ref (na 8), .ref (na 9)])) (p0 : Int32) : gMi l E yX9_over cX9_over 2 .int (gRm 5 0 0) [.ref x, .int p0] L f (gRO (-2 : Int32) L f) := by
  refine gMi.intro (by decide) (Nat.le_of_ble_eq_true rfl) ?_
  intro p e s m below meth c A ls C hr hA hH hl
  have C : gC E cX9_over 2 RX9 p s m _ meth c := C
  have hl : lv_has ls 2 [(0, .ref x), (1, .int p0)] := hl
  have hx := C.1
  have hb := C.2.1
  refine lv_aload_n hx hb dX9_over_0 rfl (lv_at hl 0 rfl) ?_
  refine g_get C hH mx fx iX9 rfl 1 (by decide) wd18 rfl rfl dX9_over_1 ?_
  refine lv_iload_n hx hb dX9_over_4 rfl (lv_at hl 1 rfl) ?_
  refine g_Vi C hl.1 hA hH (As := [.int p0]) (rest := []) (k_hasCell l E L f mn fn p0) my_X3_hasCell wd35 mn fn rfl rfl rfl (Nat.le_of_ble_eq_true rfl) ⟨Nat.le_of_ble_eq_true rfl, Nat.le_of_ble_eq_true rfl⟩ ⟨Nat.le_of_ble_eq_true rfl, Nat.le_of_ble_eq_true rfl⟩ dX9_over_5 (fun r3 L2 f1 H locs hp hH => ?_)
  obtain ⟨er3, rfl, rfl⟩ := hp
  subst er3
  refine lv_if_ne (tgt := 14) hx hb dX9_over_8 (by decide) (fun h => absurd (by decide) h) (fun _ => ?_)
  refine lv_bipush (v := (-2 : Int32)) hx hb dX9_over_11 (by decide) ?_
  refine g_iret C hr hH (Nat.le_of_ble_eq_true rfl) (Nat.le_of_ble_eq_true rfl) dX9_over_13 ?_
  exact ⟨rfl, rfl, rfl⟩
set_option maxHeartbeats 4000000 in
set_option maxRecDepth 100000 in
theorem k_geese (l : Launch) (E : gE) (L : List Nat) (f : gF) {x xt xn xr xi xw xs xl xc xh xf xm : Nat} (mx : x ∈ L) (fx : f x = .inr (9, [.ref xt, .ref xn, .ref xr, .ref xi, .ref xw, .ref xs, .ref xl, .ref xc, .ref xh, .ref xf, .ref xm])) {na : Nat → Nat} (mn : xn ∈ L) (fn : f xn = .inr (3, [.int (0 : Int32), .int (0 : Int32), .int (0 : Int32), .int (0 : Int32), .int (0 : Int32), .int (0 : Int32), .int (0 : Int32), .int (0 : Int32), .int (0 : Int32), .int (0 : Int32), .ref (na 0), .ref (na 1), .ref (na 2), .ref (na 3), .ref (na 4), .ref (na 5), .ref (na 6), .ref (na 7), .ref (na 8), .ref (na 9)])) (p0 p1 : Int32) : gMi l E yX9_geese cX9_geese 3 .int (gRm 5 0 0) [.ref x, .int p0, .int p1] L f (gRO (-2 : Int32) L f) := by
  refine gMi.intro (by decide) (Nat.le_of_ble_eq_true rfl) ?_
  intro p e s m below meth c A ls C hr hA hH hl
  have C : gC E cX9_geese 3 RX9 p s m _ meth c := C
  have hl : lv_has ls 3 [(0, .ref x), (1, .int p0), (2, .int p1)] := hl
  have hx := C.1
  have hb := C.2.1
  refine lv_aload_n hx hb dX9_geese_0 rfl (lv_at hl 0 rfl) ?_
  refine g_get C hH mx fx iX9 rfl 1 (by decide) wd18 rfl rfl dX9_geese_1 ?_
  refine lv_iload_n hx hb dX9_geese_4 rfl (lv_at hl 1 rfl) ?_
  refine g_Vi C hl.1 hA hH (As := [.int p0]) (rest := []) (k_hasCell l E L f mn fn p0) my_X3_hasCell wd35 mn fn rfl rfl rfl (Nat.le_of_ble_eq_true rfl) ⟨Nat.le_of_ble_eq_true rfl, Nat.le_of_ble_eq_true rfl⟩ ⟨Nat.le_of_ble_eq_true rfl, Nat.le_of_ble_eq_true rfl⟩ dX9_geese_5 (fun r3 L2 f1 H locs hp hH => ?_)
  obtain ⟨er3, rfl, rfl⟩ := hp
  subst er3
  refine lv_if_eq (tgt := 18) hx hb dX9_geese_8 (by decide) (fun _ => ?_) (fun h => absurd (by decide) h)
  refine lv_bipush (v := (-2 : Int32)) hx hb dX9_geese_18 (by decide) ?_
  refine g_iret C hr hH (Nat.le_of_ble_eq_true rfl) (Nat.le_of_ble_eq_true rfl) dX9_geese_20 ?_
  exact ⟨rfl, rfl, rfl⟩
set_option maxHeartbeats 4000000 in
set_option maxRecDepth 100000 in
theorem k_hears (l : Launch) (E : gE) (L : List Nat) (f : gF) {x xt xn xr xi xw xs xl xc xh xf xm : Nat} (mx : x ∈ L) (fx : f x = .inr (9, [.ref xt, .ref xn, .ref xr, .ref xi, .ref xw, .ref xs, .ref xl, .ref xc, .ref xh, .ref xf, .ref xm])) {na : Nat → Nat} (mn : xn ∈ L) (fn : f xn = .inr (3, [.int (0 : Int32), .int (0 : Int32), .int (0 : Int32), .int (0 : Int32), .int (0 : Int32), .int (0 : Int32), .int (0 : Int32), .int (0 : Int32), .int (0 : Int32), .int (0 : Int32), .ref (na 0), .ref (na 1), .ref (na 2), .ref (na 3), .ref (na 4), .ref (na 5), .ref (na 6), .ref (na 7), .ref (na 8), .ref (na 9)])) (p0 p1 : Int32) : gMi l E yX9_hears cX9_hears 3 .int (gRm 5 0 0) [.ref x, .int p0, .int p1] L f (gRO (-2 : Int32) L f) := by
  refine gMi.intro (by decide) (Nat.le_of_ble_eq_true rfl) ?_
  intro p e s m below meth c A ls C hr hA hH hl
  have C : gC E cX9_hears 3 RX9 p s m _ meth c := C
  have hl : lv_has ls 3 [(0, .ref x), (1, .int p0), (2, .int p1)] := hl
  have hx := C.1
  have hb := C.2.1
  refine lv_aload_n hx hb dX9_hears_0 rfl (lv_at hl 0 rfl) ?_
  refine g_get C hH mx fx iX9 rfl 1 (by decide) wd18 rfl rfl dX9_hears_1 ?_
  refine lv_iload_n hx hb dX9_hears_4 rfl (lv_at hl 1 rfl) ?_
  refine g_Vi C hl.1 hA hH (As := [.int p0]) (rest := []) (k_hasMember l E L f mn fn p0) my_X3_hasMember wd27 mn fn rfl rfl rfl (Nat.le_of_ble_eq_true rfl) ⟨Nat.le_of_ble_eq_true rfl, Nat.le_of_ble_eq_true rfl⟩ ⟨Nat.le_of_ble_eq_true rfl, Nat.le_of_ble_eq_true rfl⟩ dX9_hears_5 (fun r3 L2 f1 H locs hp hH => ?_)
  obtain ⟨er3, rfl, rfl⟩ := hp
  subst er3
  refine lv_if_eq (tgt := 22) hx hb dX9_hears_8 (by decide) (fun _ => ?_) (fun h => absurd (by decide) h)
  refine lv_bipush (v := (-2 : Int32)) hx hb dX9_hears_22 (by decide) ?_
  refine g_iret C hr hH (Nat.le_of_ble_eq_true rfl) (Nat.le_of_ble_eq_true rfl) dX9_hears_24 ?_
  exact ⟨rfl, rfl, rfl⟩
set_option maxHeartbeats 4000000 in
set_option maxRecDepth 100000 in
theorem k_heard (l : Launch) (E : gE) (L : List Nat) (f : gF) {x xt xn xr xi xw xs xl xc xh xf xm : Nat} (mx : x ∈ L) (fx : f x = .inr (9, [.ref xt, .ref xn, .ref xr, .ref xi, .ref xw, .ref xs, .ref xl, .ref xc, .ref xh, .ref xf, .ref xm])) {na : Nat → Nat} (mn : xn ∈ L) (fn : f xn = .inr (3, [.int (0 : Int32), .int (0 : Int32), .int (0 : Int32), .int (0 : Int32), .int (0 : Int32), .int (0 : Int32), .int (0 : Int32), .int (0 : Int32), .int (0 : Int32), .int (0 : Int32), .ref (na 0), .ref (na 1), .ref (na 2), .ref (na 3), .ref (na 4), .ref (na 5), .ref (na 6), .ref (na 7), .ref (na 8), .ref (na 9)])) (p0 : Int32) : gMi l E yX9_heard cX9_heard 2 .int (gRm 5 0 0) [.ref x, .int p0] L f (gRO (-2 : Int32) L f) := by
  refine gMi.intro (by decide) (Nat.le_of_ble_eq_true rfl) ?_
  intro p e s m below meth c A ls C hr hA hH hl
  have C : gC E cX9_heard 2 RX9 p s m _ meth c := C
  have hl : lv_has ls 2 [(0, .ref x), (1, .int p0)] := hl
  have hx := C.1
  have hb := C.2.1
  refine lv_aload_n hx hb dX9_heard_0 rfl (lv_at hl 0 rfl) ?_
  refine g_get C hH mx fx iX9 rfl 1 (by decide) wd18 rfl rfl dX9_heard_1 ?_
  refine lv_iload_n hx hb dX9_heard_4 rfl (lv_at hl 1 rfl) ?_
  refine g_Vi C hl.1 hA hH (As := [.int p0]) (rest := []) (k_hasMember l E L f mn fn p0) my_X3_hasMember wd27 mn fn rfl rfl rfl (Nat.le_of_ble_eq_true rfl) ⟨Nat.le_of_ble_eq_true rfl, Nat.le_of_ble_eq_true rfl⟩ ⟨Nat.le_of_ble_eq_true rfl, Nat.le_of_ble_eq_true rfl⟩ dX9_heard_5 (fun r3 L2 f1 H locs hp hH => ?_)
  obtain ⟨er3, rfl, rfl⟩ := hp
  subst er3
  refine lv_if_ne (tgt := 14) hx hb dX9_heard_8 (by decide) (fun h => absurd (by decide) h) (fun _ => ?_)
  refine lv_bipush (v := (-2 : Int32)) hx hb dX9_heard_11 (by decide) ?_
  refine g_iret C hr hH (Nat.le_of_ble_eq_true rfl) (Nat.le_of_ble_eq_true rfl) dX9_heard_13 ?_
  exact ⟨rfl, rfl, rfl⟩
set_option maxHeartbeats 4000000 in
set_option maxRecDepth 100000 in
theorem k_ears (l : Launch) (E : gE) (L : List Nat) (f : gF) {x xt xn xr xi xw xs xl xc xh xf xm : Nat} (mx : x ∈ L) (fx : f x = .inr (9, [.ref xt, .ref xn, .ref xr, .ref xi, .ref xw, .ref xs, .ref xl, .ref xc, .ref xh, .ref xf, .ref xm])) {na : Nat → Nat} (mn : xn ∈ L) (fn : f xn = .inr (3, [.int (0 : Int32), .int (0 : Int32), .int (0 : Int32), .int (0 : Int32), .int (0 : Int32), .int (0 : Int32), .int (0 : Int32), .int (0 : Int32), .int (0 : Int32), .int (0 : Int32), .ref (na 0), .ref (na 1), .ref (na 2), .ref (na 3), .ref (na 4), .ref (na 5), .ref (na 6), .ref (na 7), .ref (na 8), .ref (na 9)])) (p0 : Int32) : gMi l E yX9_ears cX9_ears 2 .int (gRm 5 0 0) [.ref x, .int p0] L f (gRO (-2 : Int32) L f) := by
  refine gMi.intro (by decide) (Nat.le_of_ble_eq_true rfl) ?_
  intro p e s m below meth c A ls C hr hA hH hl
  have C : gC E cX9_ears 2 RX9 p s m _ meth c := C
  have hl : lv_has ls 2 [(0, .ref x), (1, .int p0)] := hl
  have hx := C.1
  have hb := C.2.1
  refine lv_aload_n hx hb dX9_ears_0 rfl (lv_at hl 0 rfl) ?_
  refine g_get C hH mx fx iX9 rfl 1 (by decide) wd18 rfl rfl dX9_ears_1 ?_
  refine lv_iload_n hx hb dX9_ears_4 rfl (lv_at hl 1 rfl) ?_
  refine g_Vi C hl.1 hA hH (As := [.int p0]) (rest := []) (k_hasCell l E L f mn fn p0) my_X3_hasCell wd35 mn fn rfl rfl rfl (Nat.le_of_ble_eq_true rfl) ⟨Nat.le_of_ble_eq_true rfl, Nat.le_of_ble_eq_true rfl⟩ ⟨Nat.le_of_ble_eq_true rfl, Nat.le_of_ble_eq_true rfl⟩ dX9_ears_5 (fun r3 L2 f1 H locs hp hH => ?_)
  obtain ⟨er3, rfl, rfl⟩ := hp
  subst er3
  refine lv_if_ne (tgt := 14) hx hb dX9_ears_8 (by decide) (fun h => absurd (by decide) h) (fun _ => ?_)
  refine lv_bipush (v := (-2 : Int32)) hx hb dX9_ears_11 (by decide) ?_
  refine g_iret C hr hH (Nat.le_of_ble_eq_true rfl) (Nat.le_of_ble_eq_true rfl) dX9_ears_13 ?_
  exact ⟨rfl, rfl, rfl⟩
set_option maxHeartbeats 4000000 in
set_option maxRecDepth 100000 in
theorem k_loud (l : Launch) (E : gE) (L : List Nat) (f : gF) {x xt xn xr xi xw xs xl xc xh xf xm : Nat} (mx : x ∈ L) (fx : f x = .inr (9, [.ref xt, .ref xn, .ref xr, .ref xi, .ref xw, .ref xs, .ref xl, .ref xc, .ref xh, .ref xf, .ref xm])) {na : Nat → Nat} (mn : xn ∈ L) (fn : f xn = .inr (3, [.int (0 : Int32), .int (0 : Int32), .int (0 : Int32), .int (0 : Int32), .int (0 : Int32), .int (0 : Int32), .int (0 : Int32), .int (0 : Int32), .int (0 : Int32), .int (0 : Int32), .ref (na 0), .ref (na 1), .ref (na 2), .ref (na 3), .ref (na 4), .ref (na 5), .ref (na 6), .ref (na 7), .ref (na 8), .ref (na 9)])) : gMi l E yX9_loud cX9_loud 3 .int (gRm 5 0 0) [.ref x] L f (gRO (-2 : Int32) L f) := by
  refine gMi.intro (by decide) (Nat.le_of_ble_eq_true rfl) ?_
  intro p e s m below meth c A ls C hr hA hH hl
  have C : gC E cX9_loud 3 RX9 p s m _ meth c := C
  have hl : lv_has ls 3 [(0, .ref x)] := hl
  have hx := C.1
  have hb := C.2.1
  refine lv_aload_n hx hb dX9_loud_0 rfl (lv_at hl 0 rfl) ?_
  refine g_get C hH mx fx iX9 rfl 1 (by decide) wd18 rfl rfl dX9_loud_1 ?_
  refine g_Vi C hl.1 hA hH (As := []) (rest := []) (k_isNone l E L f mn fn) my_X3_isNone wd19 mn fn rfl rfl rfl (Nat.le_of_ble_eq_true rfl) ⟨Nat.le_of_ble_eq_true rfl, Nat.le_of_ble_eq_true rfl⟩ ⟨Nat.le_of_ble_eq_true rfl, Nat.le_of_ble_eq_true rfl⟩ dX9_loud_4 (fun r3 L2 f1 H locs hp hH => ?_)
  obtain ⟨er3, rfl, rfl⟩ := hp
  subst er3
  refine lv_if_eq (tgt := 13) hx hb dX9_loud_7 (by decide) (fun h => absurd h (by decide)) (fun _ => ?_)
  refine lv_bipush (v := (-2 : Int32)) hx hb dX9_loud_10 (by decide) ?_
  refine g_iret C hr hH (Nat.le_of_ble_eq_true rfl) (Nat.le_of_ble_eq_true rfl) dX9_loud_12 ?_
  exact ⟨rfl, rfl, rfl⟩
set_option maxHeartbeats 4000000 in
set_option maxRecDepth 100000 in
theorem k_quiet (l : Launch) (E : gE) (L : List Nat) (f : gF) {x xt xn xr xi xw xs xl xc xh xf xm : Nat} (mx : x ∈ L) (fx : f x = .inr (9, [.ref xt, .ref xn, .ref xr, .ref xi, .ref xw, .ref xs, .ref xl, .ref xc, .ref xh, .ref xf, .ref xm])) {na : Nat → Nat} (mn : xn ∈ L) (fn : f xn = .inr (3, [.int (0 : Int32), .int (0 : Int32), .int (0 : Int32), .int (0 : Int32), .int (0 : Int32), .int (0 : Int32), .int (0 : Int32), .int (0 : Int32), .int (0 : Int32), .int (0 : Int32), .ref (na 0), .ref (na 1), .ref (na 2), .ref (na 3), .ref (na 4), .ref (na 5), .ref (na 6), .ref (na 7), .ref (na 8), .ref (na 9)])) : gMi l E yX9_quiet cX9_quiet 3 .int (gRm 5 0 0) [.ref x] L f (gRO (-2 : Int32) L f) := by
  refine gMi.intro (by decide) (Nat.le_of_ble_eq_true rfl) ?_
  intro p e s m below meth c A ls C hr hA hH hl
  have C : gC E cX9_quiet 3 RX9 p s m _ meth c := C
  have hl : lv_has ls 3 [(0, .ref x)] := hl
  have hx := C.1
  have hb := C.2.1
  refine lv_aload_n hx hb dX9_quiet_0 rfl (lv_at hl 0 rfl) ?_
  refine g_get C hH mx fx iX9 rfl 1 (by decide) wd18 rfl rfl dX9_quiet_1 ?_
  refine g_Vi C hl.1 hA hH (As := []) (rest := []) (k_isNone l E L f mn fn) my_X3_isNone wd19 mn fn rfl rfl rfl (Nat.le_of_ble_eq_true rfl) ⟨Nat.le_of_ble_eq_true rfl, Nat.le_of_ble_eq_true rfl⟩ ⟨Nat.le_of_ble_eq_true rfl, Nat.le_of_ble_eq_true rfl⟩ dX9_quiet_4 (fun r3 L2 f1 H locs hp hH => ?_)
  obtain ⟨er3, rfl, rfl⟩ := hp
  subst er3
  refine lv_if_eq (tgt := 13) hx hb dX9_quiet_7 (by decide) (fun h => absurd h (by decide)) (fun _ => ?_)
  refine lv_bipush (v := (-2 : Int32)) hx hb dX9_quiet_10 (by decide) ?_
  refine g_iret C hr hH (Nat.le_of_ble_eq_true rfl) (Nat.le_of_ble_eq_true rfl) dX9_quiet_12 ?_
  exact ⟨rfl, rfl, rfl⟩
set_option maxHeartbeats 4000000 in
set_option maxRecDepth 100000 in
theorem k_served (l : Launch) (E : gE) (L : List Nat) (f : gF) {x xt xn xr xi xw xs xl xc xh xf xm : Nat} (mx : x ∈ L) (fx : f x = .inr (9, [.ref xt, .ref xn, .ref xr, .ref xi, .ref xw, .ref xs, .ref xl, .ref xc, .ref xh, .ref xf, .ref xm])) {na : Nat → Nat} (mn : xn ∈ L) (fn : f xn = .inr (3, [.int (0 : Int32), .int (0 : Int32), .int (0 : Int32), .int (0 : Int32), .int (0 : Int32), .int (0 : Int32), .int (0 : Int32), .int (0 : Int32), .int (0 : Int32), .int (0 : Int32), .ref (na 0), .ref (na 1), .ref (na 2), .ref (na 3), .ref (na 4), .ref (na 5), .ref (na 6), .ref (na 7), .ref (na 8), .ref (na 9)])) : gMi l E yX9_served cX9_served 1 .int (gRm 5 0 0) [.ref x] L f (gRO (-2 : Int32) L f) := by
  refine gMi.intro (by decide) (Nat.le_of_ble_eq_true rfl) ?_
  intro p e s m below meth c A ls C hr hA hH hl
  have C : gC E cX9_served 1 RX9 p s m _ meth c := C
  have hl : lv_has ls 1 [(0, .ref x)] := hl
  have hx := C.1
  have hb := C.2.1
  refine lv_aload_n hx hb dX9_served_0 rfl (lv_at hl 0 rfl) ?_
  refine g_get C hH mx fx iX9 rfl 1 (by decide) wd18 rfl rfl dX9_served_1 ?_
  refine g_Vi C hl.1 hA hH (As := []) (rest := []) (k_isNone l E L f mn fn) my_X3_isNone wd19 mn fn rfl rfl rfl (Nat.le_of_ble_eq_true rfl) ⟨Nat.le_of_ble_eq_true rfl, Nat.le_of_ble_eq_true rfl⟩ ⟨Nat.le_of_ble_eq_true rfl, Nat.le_of_ble_eq_true rfl⟩ dX9_served_4 (fun r3 L2 f1 H locs hp hH => ?_)
  obtain ⟨er3, rfl, rfl⟩ := hp
  subst er3
  refine lv_if_eq (tgt := 15) hx hb dX9_served_7 (by decide) (fun h => absurd h (by decide)) (fun _ => ?_)
  refine lv_bipush (v := (-2 : Int32)) hx hb dX9_served_10 (by decide) ?_
  refine lv_goto (tgt := 33) hx hb dX9_served_12 (by decide) ?_
  refine g_iret C hr hH (Nat.le_of_ble_eq_true rfl) (Nat.le_of_ble_eq_true rfl) dX9_served_33 ?_
  exact ⟨rfl, rfl, rfl⟩
set_option maxHeartbeats 4000000 in
set_option maxRecDepth 100000 in
theorem k_income (l : Launch) (E : gE) (L : List Nat) (f : gF) {x xt xn xr xi xw xs xl xc xh xf xm : Nat} (mx : x ∈ L) (fx : f x = .inr (9, [.ref xt, .ref xn, .ref xr, .ref xi, .ref xw, .ref xs, .ref xl, .ref xc, .ref xh, .ref xf, .ref xm])) {na : Nat → Nat} (mn : xn ∈ L) (fn : f xn = .inr (3, [.int (0 : Int32), .int (0 : Int32), .int (0 : Int32), .int (0 : Int32), .int (0 : Int32), .int (0 : Int32), .int (0 : Int32), .int (0 : Int32), .int (0 : Int32), .int (0 : Int32), .ref (na 0), .ref (na 1), .ref (na 2), .ref (na 3), .ref (na 4), .ref (na 5), .ref (na 6), .ref (na 7), .ref (na 8), .ref (na 9)])) : gMi l E yX9_income cX9_income 1 .int (gRm 5 0 0) [.ref x] L f (gRO (-2 : Int32) L f) := by
  refine gMi.intro (by decide) (Nat.le_of_ble_eq_true rfl) ?_
  intro p e s m below meth c A ls C hr hA hH hl
  have C : gC E cX9_income 1 RX9 p s m _ meth c := C
  have hl : lv_has ls 1 [(0, .ref x)] := hl
  have hx := C.1
  have hb := C.2.1
  refine lv_aload_n hx hb dX9_income_0 rfl (lv_at hl 0 rfl) ?_
  refine g_get C hH mx fx iX9 rfl 1 (by decide) wd18 rfl rfl dX9_income_1 ?_
  refine g_Vi C hl.1 hA hH (As := []) (rest := []) (k_isNone l E L f mn fn) my_X3_isNone wd19 mn fn rfl rfl rfl (Nat.le_of_ble_eq_true rfl) ⟨Nat.le_of_ble_eq_true rfl, Nat.le_of_ble_eq_true rfl⟩ ⟨Nat.le_of_ble_eq_true rfl, Nat.le_of_ble_eq_true rfl⟩ dX9_income_4 (fun r3 L2 f1 H locs hp hH => ?_)
  obtain ⟨er3, rfl, rfl⟩ := hp
  subst er3
  refine lv_if_eq (tgt := 15) hx hb dX9_income_7 (by decide) (fun h => absurd h (by decide)) (fun _ => ?_)
  refine lv_bipush (v := (-2 : Int32)) hx hb dX9_income_10 (by decide) ?_
  refine lv_goto (tgt := 33) hx hb dX9_income_12 (by decide) ?_
  refine g_iret C hr hH (Nat.le_of_ble_eq_true rfl) (Nat.le_of_ble_eq_true rfl) dX9_income_33 ?_
  exact ⟨rfl, rfl, rfl⟩
set_option maxHeartbeats 4000000 in
set_option maxRecDepth 100000 in
theorem k_unpaid (l : Launch) (E : gE) (L : List Nat) (f : gF) {x xt xn xr xi xw xs xl xc xh xf xm : Nat} (mx : x ∈ L) (fx : f x = .inr (9, [.ref xt, .ref xn, .ref xr, .ref xi, .ref xw, .ref xs, .ref xl, .ref xc, .ref xh, .ref xf, .ref xm])) {na : Nat → Nat} (mn : xn ∈ L) (fn : f xn = .inr (3, [.int (0 : Int32), .int (0 : Int32), .int (0 : Int32), .int (0 : Int32), .int (0 : Int32), .int (0 : Int32), .int (0 : Int32), .int (0 : Int32), .int (0 : Int32), .int (0 : Int32), .ref (na 0), .ref (na 1), .ref (na 2), .ref (na 3), .ref (na 4), .ref (na 5), .ref (na 6), .ref (na 7), .ref (na 8), .ref (na 9)])) : gMi l E yX9_unpaid cX9_unpaid 1 .int (gRm 5 0 0) [.ref x] L f (gRO (-2 : Int32) L f) := by
  refine gMi.intro (by decide) (Nat.le_of_ble_eq_true rfl) ?_
  intro p e s m below meth c A ls C hr hA hH hl
  have C : gC E cX9_unpaid 1 RX9 p s m _ meth c := C
  have hl : lv_has ls 1 [(0, .ref x)] := hl
  have hx := C.1
  have hb := C.2.1
  refine lv_aload_n hx hb dX9_unpaid_0 rfl (lv_at hl 0 rfl) ?_
  refine g_get C hH mx fx iX9 rfl 1 (by decide) wd18 rfl rfl dX9_unpaid_1 ?_
  refine g_Vi C hl.1 hA hH (As := []) (rest := []) (k_isNone l E L f mn fn) my_X3_isNone wd19 mn fn rfl rfl rfl (Nat.le_of_ble_eq_true rfl) ⟨Nat.le_of_ble_eq_true rfl, Nat.le_of_ble_eq_true rfl⟩ ⟨Nat.le_of_ble_eq_true rfl, Nat.le_of_ble_eq_true rfl⟩ dX9_unpaid_4 (fun r3 L2 f1 H locs hp hH => ?_)
  obtain ⟨er3, rfl, rfl⟩ := hp
  subst er3
  refine lv_if_eq (tgt := 15) hx hb dX9_unpaid_7 (by decide) (fun h => absurd h (by decide)) (fun _ => ?_)
  refine lv_bipush (v := (-2 : Int32)) hx hb dX9_unpaid_10 (by decide) ?_
  refine lv_goto (tgt := 19) hx hb dX9_unpaid_12 (by decide) ?_
  refine g_iret C hr hH (Nat.le_of_ble_eq_true rfl) (Nat.le_of_ble_eq_true rfl) dX9_unpaid_19 ?_
  exact ⟨rfl, rfl, rfl⟩
set_option maxHeartbeats 4000000 in
set_option maxRecDepth 100000 in
theorem k_first (l : Launch) (E : gE) (L : List Nat) (f : gF) {x xt xn xr xi xw xs xl xc xh xf xm : Nat} (mx : x ∈ L) (fx : f x = .inr (9, [.ref xt, .ref xn, .ref xr, .ref xi, .ref xw, .ref xs, .ref xl, .ref xc, .ref xh, .ref xf, .ref xm])) {na : Nat → Nat} (mn : xn ∈ L) (fn : f xn = .inr (3, [.int (0 : Int32), .int (0 : Int32), .int (0 : Int32), .int (0 : Int32), .int (0 : Int32), .int (0 : Int32), .int (0 : Int32), .int (0 : Int32), .int (0 : Int32), .int (0 : Int32), .ref (na 0), .ref (na 1), .ref (na 2), .ref (na 3), .ref (na 4), .ref (na 5), .ref (na 6), .ref (na 7), .ref (na 8), .ref (na 9)])) : gMi l E yX9_first cX9_first 5 .int (gRm 5 0 0) [.ref x] L f (gRO (-2 : Int32) L f) := by
  refine gMi.intro (by decide) (Nat.le_of_ble_eq_true rfl) ?_
  intro p e s m below meth c A ls C hr hA hH hl
  have C : gC E cX9_first 5 RX9 p s m _ meth c := C
  have hl : lv_has ls 5 [(0, .ref x)] := hl
  have hx := C.1
  have hb := C.2.1
  refine lv_aload_n hx hb dX9_first_0 rfl (lv_at hl 0 rfl) ?_
  refine g_get C hH mx fx iX9 rfl 1 (by decide) wd18 rfl rfl dX9_first_1 ?_
  refine g_Vi C hl.1 hA hH (As := []) (rest := []) (k_isNone l E L f mn fn) my_X3_isNone wd19 mn fn rfl rfl rfl (Nat.le_of_ble_eq_true rfl) ⟨Nat.le_of_ble_eq_true rfl, Nat.le_of_ble_eq_true rfl⟩ ⟨Nat.le_of_ble_eq_true rfl, Nat.le_of_ble_eq_true rfl⟩ dX9_first_4 (fun r3 L2 f1 H locs hp hH => ?_)
  obtain ⟨er3, rfl, rfl⟩ := hp
  subst er3
  refine lv_if_eq (tgt := 13) hx hb dX9_first_7 (by decide) (fun h => absurd h (by decide)) (fun _ => ?_)
  refine lv_bipush (v := (-2 : Int32)) hx hb dX9_first_10 (by decide) ?_
  refine g_iret C hr hH (Nat.le_of_ble_eq_true rfl) (Nat.le_of_ble_eq_true rfl) dX9_first_12 ?_
  exact ⟨rfl, rfl, rfl⟩
set_option maxHeartbeats 4000000 in
set_option maxRecDepth 100000 in
theorem k_lacks (l : Launch) (E : gE) (L : List Nat) (f : gF) {x xt xn xr xi xw xs xl xc xh xf xm : Nat} (mx : x ∈ L) (fx : f x = .inr (9, [.ref xt, .ref xn, .ref xr, .ref xi, .ref xw, .ref xs, .ref xl, .ref xc, .ref xh, .ref xf, .ref xm])) {na : Nat → Nat} (mn : xn ∈ L) (fn : f xn = .inr (3, [.int (0 : Int32), .int (0 : Int32), .int (0 : Int32), .int (0 : Int32), .int (0 : Int32), .int (0 : Int32), .int (0 : Int32), .int (0 : Int32), .int (0 : Int32), .int (0 : Int32), .ref (na 0), .ref (na 1), .ref (na 2), .ref (na 3), .ref (na 4), .ref (na 5), .ref (na 6), .ref (na 7), .ref (na 8), .ref (na 9)])) : gMi l E yX9_lacks cX9_lacks 5 .int (gRm 5 0 0) [.ref x] L f (gRO (-2 : Int32) L f) := by
  refine gMi.intro (by decide) (Nat.le_of_ble_eq_true rfl) ?_
  intro p e s m below meth c A ls C hr hA hH hl
  have C : gC E cX9_lacks 5 RX9 p s m _ meth c := C
  have hl : lv_has ls 5 [(0, .ref x)] := hl
  have hx := C.1
  have hb := C.2.1
  refine lv_aload_n hx hb dX9_lacks_0 rfl (lv_at hl 0 rfl) ?_
  refine g_get C hH mx fx iX9 rfl 1 (by decide) wd18 rfl rfl dX9_lacks_1 ?_
  refine g_Vi C hl.1 hA hH (As := []) (rest := []) (k_isNone l E L f mn fn) my_X3_isNone wd19 mn fn rfl rfl rfl (Nat.le_of_ble_eq_true rfl) ⟨Nat.le_of_ble_eq_true rfl, Nat.le_of_ble_eq_true rfl⟩ ⟨Nat.le_of_ble_eq_true rfl, Nat.le_of_ble_eq_true rfl⟩ dX9_lacks_4 (fun r3 L2 f1 H locs hp hH => ?_)
  obtain ⟨er3, rfl, rfl⟩ := hp
  subst er3
  refine lv_if_eq (tgt := 13) hx hb dX9_lacks_7 (by decide) (fun h => absurd h (by decide)) (fun _ => ?_)
  refine lv_bipush (v := (-2 : Int32)) hx hb dX9_lacks_10 (by decide) ?_
  refine g_iret C hr hH (Nat.le_of_ble_eq_true rfl) (Nat.le_of_ble_eq_true rfl) dX9_lacks_12 ?_
  exact ⟨rfl, rfl, rfl⟩
set_option maxHeartbeats 4000000 in
set_option maxRecDepth 100000 in
theorem k_near (l : Launch) (E : gE) (L : List Nat) (f : gF) {x xt xn xr xi xw xs xl xc xh xf xm : Nat} (mx : x ∈ L) (fx : f x = .inr (9, [.ref xt, .ref xn, .ref xr, .ref xi, .ref xw, .ref xs, .ref xl, .ref xc, .ref xh, .ref xf, .ref xm])) {na : Nat → Nat} (mn : xn ∈ L) (fn : f xn = .inr (3, [.int (0 : Int32), .int (0 : Int32), .int (0 : Int32), .int (0 : Int32), .int (0 : Int32), .int (0 : Int32), .int (0 : Int32), .int (0 : Int32), .int (0 : Int32), .int (0 : Int32), .ref (na 0), .ref (na 1), .ref (na 2), .ref (na 3), .ref (na 4), .ref (na 5), .ref (na 6), .ref (na 7), .ref (na 8), .ref (na 9)])) (p0 : Int32) : gMi l E yX9_near cX9_near 2 .int (gRm 5 0 0) [.ref x, .int p0] L f (gRO (-2 : Int32) L f) := by
  refine gMi.intro (by decide) (Nat.le_of_ble_eq_true rfl) ?_
  intro p e s m below meth c A ls C hr hA hH hl
  have C : gC E cX9_near 2 RX9 p s m _ meth c := C
  have hl : lv_has ls 2 [(0, .ref x), (1, .int p0)] := hl
  have hx := C.1
  have hb := C.2.1
  refine lv_aload_n hx hb dX9_near_0 rfl (lv_at hl 0 rfl) ?_
  refine g_get C hH mx fx iX9 rfl 1 (by decide) wd18 rfl rfl dX9_near_1 ?_
  refine lv_iload_n hx hb dX9_near_4 rfl (lv_at hl 1 rfl) ?_
  refine g_Vi C hl.1 hA hH (As := [.int p0]) (rest := []) (k_hasMember l E L f mn fn p0) my_X3_hasMember wd27 mn fn rfl rfl rfl (Nat.le_of_ble_eq_true rfl) ⟨Nat.le_of_ble_eq_true rfl, Nat.le_of_ble_eq_true rfl⟩ ⟨Nat.le_of_ble_eq_true rfl, Nat.le_of_ble_eq_true rfl⟩ dX9_near_5 (fun r3 L2 f1 H locs hp hH => ?_)
  obtain ⟨er3, rfl, rfl⟩ := hp
  subst er3
  refine lv_if_ne (tgt := 14) hx hb dX9_near_8 (by decide) (fun h => absurd (by decide) h) (fun _ => ?_)
  refine lv_bipush (v := (-2 : Int32)) hx hb dX9_near_11 (by decide) ?_
  refine g_iret C hr hH (Nat.le_of_ble_eq_true rfl) (Nat.le_of_ble_eq_true rfl) dX9_near_13 ?_
  exact ⟨rfl, rfl, rfl⟩
set_option maxHeartbeats 4000000 in
set_option maxRecDepth 100000 in
theorem k_lone (l : Launch) (E : gE) (L : List Nat) (f : gF) {x xt xn xr xi xw xs xl xc xh xf xm : Nat} (mx : x ∈ L) (fx : f x = .inr (9, [.ref xt, .ref xn, .ref xr, .ref xi, .ref xw, .ref xs, .ref xl, .ref xc, .ref xh, .ref xf, .ref xm])) {na : Nat → Nat} (mn : xn ∈ L) (fn : f xn = .inr (3, [.int (0 : Int32), .int (0 : Int32), .int (0 : Int32), .int (0 : Int32), .int (0 : Int32), .int (0 : Int32), .int (0 : Int32), .int (0 : Int32), .int (0 : Int32), .int (0 : Int32), .ref (na 0), .ref (na 1), .ref (na 2), .ref (na 3), .ref (na 4), .ref (na 5), .ref (na 6), .ref (na 7), .ref (na 8), .ref (na 9)])) : gMi l E yX9_lone cX9_lone 1 .int (gRm 5 0 0) [.ref x] L f (gRO (-2 : Int32) L f) := by
  refine gMi.intro (by decide) (Nat.le_of_ble_eq_true rfl) ?_
  intro p e s m below meth c A ls C hr hA hH hl
  have C : gC E cX9_lone 1 RX9 p s m _ meth c := C
  have hl : lv_has ls 1 [(0, .ref x)] := hl
  have hx := C.1
  have hb := C.2.1
  refine lv_aload_n hx hb dX9_lone_0 rfl (lv_at hl 0 rfl) ?_
  refine g_get C hH mx fx iX9 rfl 1 (by decide) wd18 rfl rfl dX9_lone_1 ?_
  refine g_Vi C hl.1 hA hH (As := []) (rest := []) (k_isNone l E L f mn fn) my_X3_isNone wd19 mn fn rfl rfl rfl (Nat.le_of_ble_eq_true rfl) ⟨Nat.le_of_ble_eq_true rfl, Nat.le_of_ble_eq_true rfl⟩ ⟨Nat.le_of_ble_eq_true rfl, Nat.le_of_ble_eq_true rfl⟩ dX9_lone_4 (fun r3 L2 f1 H locs hp hH => ?_)
  obtain ⟨er3, rfl, rfl⟩ := hp
  subst er3
  refine lv_if_eq (tgt := 13) hx hb dX9_lone_7 (by decide) (fun h => absurd h (by decide)) (fun _ => ?_)
  refine lv_bipush (v := (-2 : Int32)) hx hb dX9_lone_10 (by decide) ?_
  refine g_iret C hr hH (Nat.le_of_ble_eq_true rfl) (Nat.le_of_ble_eq_true rfl) dX9_lone_12 ?_
  exact ⟨rfl, rfl, rfl⟩
set_option maxHeartbeats 4000000 in
set_option maxRecDepth 100000 in
theorem k_meets (l : Launch) (E : gE) (L : List Nat) (f : gF) {x xt xn xr xi xw xs xl xc xh xf xm : Nat} (mx : x ∈ L) (fx : f x = .inr (9, [.ref xt, .ref xn, .ref xr, .ref xi, .ref xw, .ref xs, .ref xl, .ref xc, .ref xh, .ref xf, .ref xm])) {na : Nat → Nat} (mn : xn ∈ L) (fn : f xn = .inr (3, [.int (0 : Int32), .int (0 : Int32), .int (0 : Int32), .int (0 : Int32), .int (0 : Int32), .int (0 : Int32), .int (0 : Int32), .int (0 : Int32), .int (0 : Int32), .int (0 : Int32), .ref (na 0), .ref (na 1), .ref (na 2), .ref (na 3), .ref (na 4), .ref (na 5), .ref (na 6), .ref (na 7), .ref (na 8), .ref (na 9)])) (p0 p1 : Int32) : gMi l E yX9_meets cX9_meets 3 .int (gRm 5 0 0) [.ref x, .int p0, .int p1] L f (gRO (-2 : Int32) L f) := by
  refine gMi.intro (by decide) (Nat.le_of_ble_eq_true rfl) ?_
  intro p e s m below meth c A ls C hr hA hH hl
  have C : gC E cX9_meets 3 RX9 p s m _ meth c := C
  have hl : lv_has ls 3 [(0, .ref x), (1, .int p0), (2, .int p1)] := hl
  have hx := C.1
  have hb := C.2.1
  refine lv_aload_n hx hb dX9_meets_0 rfl (lv_at hl 0 rfl) ?_
  refine g_get C hH mx fx iX9 rfl 1 (by decide) wd18 rfl rfl dX9_meets_1 ?_
  refine lv_iload_n hx hb dX9_meets_4 rfl (lv_at hl 1 rfl) ?_
  refine g_Vi C hl.1 hA hH (As := [.int p0]) (rest := []) (k_hasFlight l E L f mn fn p0) my_X3_hasFlight wd31 mn fn rfl rfl rfl (Nat.le_of_ble_eq_true rfl) ⟨Nat.le_of_ble_eq_true rfl, Nat.le_of_ble_eq_true rfl⟩ ⟨Nat.le_of_ble_eq_true rfl, Nat.le_of_ble_eq_true rfl⟩ dX9_meets_5 (fun r3 L2 f1 H locs hp hH => ?_)
  obtain ⟨er3, rfl, rfl⟩ := hp
  subst er3
  refine lv_if_eq (tgt := 22) hx hb dX9_meets_8 (by decide) (fun _ => ?_) (fun h => absurd (by decide) h)
  refine lv_bipush (v := (-2 : Int32)) hx hb dX9_meets_22 (by decide) ?_
  refine g_iret C hr hH (Nat.le_of_ble_eq_true rfl) (Nat.le_of_ble_eq_true rfl) dX9_meets_24 ?_
  exact ⟨rfl, rfl, rfl⟩
set_option maxHeartbeats 4000000 in
set_option maxRecDepth 100000 in
theorem k_spare (l : Launch) (E : gE) (L : List Nat) (f : gF) {x xt xn xr xi xw xs xl xc xh xf xm : Nat} (mx : x ∈ L) (fx : f x = .inr (9, [.ref xt, .ref xn, .ref xr, .ref xi, .ref xw, .ref xs, .ref xl, .ref xc, .ref xh, .ref xf, .ref xm])) {na : Nat → Nat} (mn : xn ∈ L) (fn : f xn = .inr (3, [.int (0 : Int32), .int (0 : Int32), .int (0 : Int32), .int (0 : Int32), .int (0 : Int32), .int (0 : Int32), .int (0 : Int32), .int (0 : Int32), .int (0 : Int32), .int (0 : Int32), .ref (na 0), .ref (na 1), .ref (na 2), .ref (na 3), .ref (na 4), .ref (na 5), .ref (na 6), .ref (na 7), .ref (na 8), .ref (na 9)])) : gMi l E yX9_spare cX9_spare 4 .int (gRm 5 0 0) [.ref x] L f (gRO (-2 : Int32) L f) := by
  refine gMi.intro (by decide) (Nat.le_of_ble_eq_true rfl) ?_
  intro p e s m below meth c A ls C hr hA hH hl
  have C : gC E cX9_spare 4 RX9 p s m _ meth c := C
  have hl : lv_has ls 4 [(0, .ref x)] := hl
  have hx := C.1
  have hb := C.2.1
  refine lv_aload_n hx hb dX9_spare_0 rfl (lv_at hl 0 rfl) ?_
  refine g_get C hH mx fx iX9 rfl 1 (by decide) wd18 rfl rfl dX9_spare_1 ?_
  refine g_Vi C hl.1 hA hH (As := []) (rest := []) (k_isNone l E L f mn fn) my_X3_isNone wd19 mn fn rfl rfl rfl (Nat.le_of_ble_eq_true rfl) ⟨Nat.le_of_ble_eq_true rfl, Nat.le_of_ble_eq_true rfl⟩ ⟨Nat.le_of_ble_eq_true rfl, Nat.le_of_ble_eq_true rfl⟩ dX9_spare_4 (fun r3 L2 f1 H locs hp hH => ?_)
  obtain ⟨er3, rfl, rfl⟩ := hp
  subst er3
  refine lv_if_eq (tgt := 13) hx hb dX9_spare_7 (by decide) (fun h => absurd h (by decide)) (fun _ => ?_)
  refine lv_bipush (v := (-2 : Int32)) hx hb dX9_spare_10 (by decide) ?_
  refine g_iret C hr hH (Nat.le_of_ble_eq_true rfl) (Nat.le_of_ble_eq_true rfl) dX9_spare_12 ?_
  exact ⟨rfl, rfl, rfl⟩
set_option maxHeartbeats 4000000 in
set_option maxRecDepth 100000 in
theorem k_calls (l : Launch) (E : gE) (L : List Nat) (f : gF) {x xt xn xr xi xw xs xl xc xh xf xm : Nat} (mx : x ∈ L) (fx : f x = .inr (9, [.ref xt, .ref xn, .ref xr, .ref xi, .ref xw, .ref xs, .ref xl, .ref xc, .ref xh, .ref xf, .ref xm])) {na : Nat → Nat} (mn : xn ∈ L) (fn : f xn = .inr (3, [.int (0 : Int32), .int (0 : Int32), .int (0 : Int32), .int (0 : Int32), .int (0 : Int32), .int (0 : Int32), .int (0 : Int32), .int (0 : Int32), .int (0 : Int32), .int (0 : Int32), .ref (na 0), .ref (na 1), .ref (na 2), .ref (na 3), .ref (na 4), .ref (na 5), .ref (na 6), .ref (na 7), .ref (na 8), .ref (na 9)])) (p0 : Int32) : gMi l E yX9_calls cX9_calls 2 .int (gRm 5 0 0) [.ref x, .int p0] L f (gRO (-2 : Int32) L f) := by
  refine gMi.intro (by decide) (Nat.le_of_ble_eq_true rfl) ?_
  intro p e s m below meth c A ls C hr hA hH hl
  have C : gC E cX9_calls 2 RX9 p s m _ meth c := C
  have hl : lv_has ls 2 [(0, .ref x), (1, .int p0)] := hl
  have hx := C.1
  have hb := C.2.1
  refine lv_aload_n hx hb dX9_calls_0 rfl (lv_at hl 0 rfl) ?_
  refine g_get C hH mx fx iX9 rfl 1 (by decide) wd18 rfl rfl dX9_calls_1 ?_
  refine g_Vi C hl.1 hA hH (As := []) (rest := []) (k_isNone l E L f mn fn) my_X3_isNone wd19 mn fn rfl rfl rfl (Nat.le_of_ble_eq_true rfl) ⟨Nat.le_of_ble_eq_true rfl, Nat.le_of_ble_eq_true rfl⟩ ⟨Nat.le_of_ble_eq_true rfl, Nat.le_of_ble_eq_true rfl⟩ dX9_calls_4 (fun r3 L2 f1 H locs hp hH => ?_)
  obtain ⟨er3, rfl, rfl⟩ := hp
  subst er3
  refine lv_if_ne (tgt := 17) hx hb dX9_calls_7 (by decide) (fun _ => ?_) (fun h => absurd h (by decide))
  refine lv_bipush (v := (-2 : Int32)) hx hb dX9_calls_17 (by decide) ?_
  refine g_iret C hr hH (Nat.le_of_ble_eq_true rfl) (Nat.le_of_ble_eq_true rfl) dX9_calls_19 ?_
  exact ⟨rfl, rfl, rfl⟩
set_option maxHeartbeats 4000000 in
set_option maxRecDepth 100000 in
theorem k_farthest (l : Launch) (E : gE) (L : List Nat) (f : gF) {x xt xn xr xi xw xs xl xc xh xf xm : Nat} (mx : x ∈ L) (fx : f x = .inr (9, [.ref xt, .ref xn, .ref xr, .ref xi, .ref xw, .ref xs, .ref xl, .ref xc, .ref xh, .ref xf, .ref xm])) {na : Nat → Nat} (mn : xn ∈ L) (fn : f xn = .inr (3, [.int (0 : Int32), .int (0 : Int32), .int (0 : Int32), .int (0 : Int32), .int (0 : Int32), .int (0 : Int32), .int (0 : Int32), .int (0 : Int32), .int (0 : Int32), .int (0 : Int32), .ref (na 0), .ref (na 1), .ref (na 2), .ref (na 3), .ref (na 4), .ref (na 5), .ref (na 6), .ref (na 7), .ref (na 8), .ref (na 9)])) (p0 : Int32) : gMi l E yX9_farthest cX9_farthest 6 .int (gRm 5 0 0) [.ref x, .int p0] L f (gRO (-2 : Int32) L f) := by
  refine gMi.intro (by decide) (Nat.le_of_ble_eq_true rfl) ?_
  intro p e s m below meth c A ls C hr hA hH hl
  have C : gC E cX9_farthest 6 RX9 p s m _ meth c := C
  have hl : lv_has ls 6 [(0, .ref x), (1, .int p0)] := hl
  have hx := C.1
  have hb := C.2.1
  refine lv_aload_n hx hb dX9_farthest_0 rfl (lv_at hl 0 rfl) ?_
  refine g_get C hH mx fx iX9 rfl 1 (by decide) wd18 rfl rfl dX9_farthest_1 ?_
  refine lv_iload_n hx hb dX9_farthest_4 rfl (lv_at hl 1 rfl) ?_
  refine g_Vi C hl.1 hA hH (As := [.int p0]) (rest := []) (k_hasFlight l E L f mn fn p0) my_X3_hasFlight wd31 mn fn rfl rfl rfl (Nat.le_of_ble_eq_true rfl) ⟨Nat.le_of_ble_eq_true rfl, Nat.le_of_ble_eq_true rfl⟩ ⟨Nat.le_of_ble_eq_true rfl, Nat.le_of_ble_eq_true rfl⟩ dX9_farthest_5 (fun r3 L2 f1 H locs hp hH => ?_)
  obtain ⟨er3, rfl, rfl⟩ := hp
  subst er3
  refine lv_if_ne (tgt := 14) hx hb dX9_farthest_8 (by decide) (fun h => absurd (by decide) h) (fun _ => ?_)
  refine lv_bipush (v := (-2 : Int32)) hx hb dX9_farthest_11 (by decide) ?_
  refine g_iret C hr hH (Nat.le_of_ble_eq_true rfl) (Nat.le_of_ble_eq_true rfl) dX9_farthest_13 ?_
  exact ⟨rfl, rfl, rfl⟩
set_option maxHeartbeats 4000000 in
set_option maxRecDepth 100000 in
theorem k_fewest (l : Launch) (E : gE) (L : List Nat) (f : gF) {x xt xn xr xi xw xs xl xc xh xf xm : Nat} (mx : x ∈ L) (fx : f x = .inr (9, [.ref xt, .ref xn, .ref xr, .ref xi, .ref xw, .ref xs, .ref xl, .ref xc, .ref xh, .ref xf, .ref xm])) {na : Nat → Nat} (mn : xn ∈ L) (fn : f xn = .inr (3, [.int (0 : Int32), .int (0 : Int32), .int (0 : Int32), .int (0 : Int32), .int (0 : Int32), .int (0 : Int32), .int (0 : Int32), .int (0 : Int32), .int (0 : Int32), .int (0 : Int32), .ref (na 0), .ref (na 1), .ref (na 2), .ref (na 3), .ref (na 4), .ref (na 5), .ref (na 6), .ref (na 7), .ref (na 8), .ref (na 9)])) (p0 : Int32) : gMi l E yX9_fewest cX9_fewest 3 .int (gRm 5 0 0) [.ref x, .int p0] L f (gRO (-2 : Int32) L f) := by
  refine gMi.intro (by decide) (Nat.le_of_ble_eq_true rfl) ?_
  intro p e s m below meth c A ls C hr hA hH hl
  have C : gC E cX9_fewest 3 RX9 p s m _ meth c := C
  have hl : lv_has ls 3 [(0, .ref x), (1, .int p0)] := hl
  have hx := C.1
  have hb := C.2.1
  refine lv_aload_n hx hb dX9_fewest_0 rfl (lv_at hl 0 rfl) ?_
  refine g_get C hH mx fx iX9 rfl 1 (by decide) wd18 rfl rfl dX9_fewest_1 ?_
  refine lv_iload_n hx hb dX9_fewest_4 rfl (lv_at hl 1 rfl) ?_
  refine g_Vi C hl.1 hA hH (As := [.int p0]) (rest := []) (k_hasSet l E L f mn fn p0) my_X3_hasSet wd39 mn fn rfl rfl rfl (Nat.le_of_ble_eq_true rfl) ⟨Nat.le_of_ble_eq_true rfl, Nat.le_of_ble_eq_true rfl⟩ ⟨Nat.le_of_ble_eq_true rfl, Nat.le_of_ble_eq_true rfl⟩ dX9_fewest_5 (fun r3 L2 f1 H locs hp hH => ?_)
  obtain ⟨er3, rfl, rfl⟩ := hp
  subst er3
  refine lv_if_ne (tgt := 14) hx hb dX9_fewest_8 (by decide) (fun h => absurd (by decide) h) (fun _ => ?_)
  refine lv_bipush (v := (-2 : Int32)) hx hb dX9_fewest_11 (by decide) ?_
  refine g_iret C hr hH (Nat.le_of_ble_eq_true rfl) (Nat.le_of_ble_eq_true rfl) dX9_fewest_13 ?_
  exact ⟨rfl, rfl, rfl⟩
set_option maxHeartbeats 4000000 in
set_option maxRecDepth 100000 in
theorem k_lights (l : Launch) (E : gE) (L : List Nat) (f : gF) {x xt xn xr xi xw xs xl xc xh xf xm : Nat} (mx : x ∈ L) (fx : f x = .inr (9, [.ref xt, .ref xn, .ref xr, .ref xi, .ref xw, .ref xs, .ref xl, .ref xc, .ref xh, .ref xf, .ref xm])) {na : Nat → Nat} (mn : xn ∈ L) (fn : f xn = .inr (3, [.int (0 : Int32), .int (0 : Int32), .int (0 : Int32), .int (0 : Int32), .int (0 : Int32), .int (0 : Int32), .int (0 : Int32), .int (0 : Int32), .int (0 : Int32), .int (0 : Int32), .ref (na 0), .ref (na 1), .ref (na 2), .ref (na 3), .ref (na 4), .ref (na 5), .ref (na 6), .ref (na 7), .ref (na 8), .ref (na 9)])) (p0 : Int32) : gMi l E yX9_lights cX9_lights 3 .int (gRm 5 0 0) [.ref x, .int p0] L f (gRO (-2 : Int32) L f) := by
  refine gMi.intro (by decide) (Nat.le_of_ble_eq_true rfl) ?_
  intro p e s m below meth c A ls C hr hA hH hl
  have C : gC E cX9_lights 3 RX9 p s m _ meth c := C
  have hl : lv_has ls 3 [(0, .ref x), (1, .int p0)] := hl
  have hx := C.1
  have hb := C.2.1
  refine lv_aload_n hx hb dX9_lights_0 rfl (lv_at hl 0 rfl) ?_
  refine g_get C hH mx fx iX9 rfl 1 (by decide) wd18 rfl rfl dX9_lights_1 ?_
  refine lv_iload_n hx hb dX9_lights_4 rfl (lv_at hl 1 rfl) ?_
  refine g_Vi C hl.1 hA hH (As := [.int p0]) (rest := []) (k_hasSet l E L f mn fn p0) my_X3_hasSet wd39 mn fn rfl rfl rfl (Nat.le_of_ble_eq_true rfl) ⟨Nat.le_of_ble_eq_true rfl, Nat.le_of_ble_eq_true rfl⟩ ⟨Nat.le_of_ble_eq_true rfl, Nat.le_of_ble_eq_true rfl⟩ dX9_lights_5 (fun r3 L2 f1 H locs hp hH => ?_)
  obtain ⟨er3, rfl, rfl⟩ := hp
  subst er3
  refine lv_if_ne (tgt := 14) hx hb dX9_lights_8 (by decide) (fun h => absurd (by decide) h) (fun _ => ?_)
  refine lv_bipush (v := (-2 : Int32)) hx hb dX9_lights_11 (by decide) ?_
  refine g_iret C hr hH (Nat.le_of_ble_eq_true rfl) (Nat.le_of_ble_eq_true rfl) dX9_lights_13 ?_
  exact ⟨rfl, rfl, rfl⟩
set_option maxHeartbeats 4000000 in
set_option maxRecDepth 100000 in
theorem k_best (l : Launch) (E : gE) (L : List Nat) (f : gF) {x xt xn xr xi xw xs xl xc xh xf xm : Nat} (mx : x ∈ L) (fx : f x = .inr (9, [.ref xt, .ref xn, .ref xr, .ref xi, .ref xw, .ref xs, .ref xl, .ref xc, .ref xh, .ref xf, .ref xm])) {na : Nat → Nat} (mn : xn ∈ L) (fn : f xn = .inr (3, [.int (0 : Int32), .int (0 : Int32), .int (0 : Int32), .int (0 : Int32), .int (0 : Int32), .int (0 : Int32), .int (0 : Int32), .int (0 : Int32), .int (0 : Int32), .int (0 : Int32), .ref (na 0), .ref (na 1), .ref (na 2), .ref (na 3), .ref (na 4), .ref (na 5), .ref (na 6), .ref (na 7), .ref (na 8), .ref (na 9)])) (p0 : Int32) : gMi l E yX9_best cX9_best 2 .int (gRm 5 0 0) [.ref x, .int p0] L f (gRO (-2 : Int32) L f) := by
  refine gMi.intro (by decide) (Nat.le_of_ble_eq_true rfl) ?_
  intro p e s m below meth c A ls C hr hA hH hl
  have C : gC E cX9_best 2 RX9 p s m _ meth c := C
  have hl : lv_has ls 2 [(0, .ref x), (1, .int p0)] := hl
  have hx := C.1
  have hb := C.2.1
  refine lv_aload_n hx hb dX9_best_0 rfl (lv_at hl 0 rfl) ?_
  refine g_get C hH mx fx iX9 rfl 1 (by decide) wd18 rfl rfl dX9_best_1 ?_
  refine g_Vi C hl.1 hA hH (As := []) (rest := []) (k_isNone l E L f mn fn) my_X3_isNone wd19 mn fn rfl rfl rfl (Nat.le_of_ble_eq_true rfl) ⟨Nat.le_of_ble_eq_true rfl, Nat.le_of_ble_eq_true rfl⟩ ⟨Nat.le_of_ble_eq_true rfl, Nat.le_of_ble_eq_true rfl⟩ dX9_best_4 (fun r3 L2 f1 H locs hp hH => ?_)
  obtain ⟨er3, rfl, rfl⟩ := hp
  subst er3
  refine lv_if_ne (tgt := 17) hx hb dX9_best_7 (by decide) (fun _ => ?_) (fun h => absurd h (by decide))
  refine lv_bipush (v := (-2 : Int32)) hx hb dX9_best_17 (by decide) ?_
  refine g_iret C hr hH (Nat.le_of_ble_eq_true rfl) (Nat.le_of_ble_eq_true rfl) dX9_best_19 ?_
  exact ⟨rfl, rfl, rfl⟩
set_option maxHeartbeats 4000000 in
set_option maxRecDepth 100000 in
theorem k_bests (l : Launch) (E : gE) (L : List Nat) (f : gF) {x xt xn xr xi xw xs xl xc xh xf xm : Nat} (mx : x ∈ L) (fx : f x = .inr (9, [.ref xt, .ref xn, .ref xr, .ref xi, .ref xw, .ref xs, .ref xl, .ref xc, .ref xh, .ref xf, .ref xm])) {na : Nat → Nat} (mn : xn ∈ L) (fn : f xn = .inr (3, [.int (0 : Int32), .int (0 : Int32), .int (0 : Int32), .int (0 : Int32), .int (0 : Int32), .int (0 : Int32), .int (0 : Int32), .int (0 : Int32), .int (0 : Int32), .int (0 : Int32), .ref (na 0), .ref (na 1), .ref (na 2), .ref (na 3), .ref (na 4), .ref (na 5), .ref (na 6), .ref (na 7), .ref (na 8), .ref (na 9)])) (p0 : Int32) : gMi l E yX9_bests cX9_bests 2 .int (gRm 5 0 0) [.ref x, .int p0] L f (gRO (-2 : Int32) L f) := by
  refine gMi.intro (by decide) (Nat.le_of_ble_eq_true rfl) ?_
  intro p e s m below meth c A ls C hr hA hH hl
  have C : gC E cX9_bests 2 RX9 p s m _ meth c := C
  have hl : lv_has ls 2 [(0, .ref x), (1, .int p0)] := hl
  have hx := C.1
  have hb := C.2.1
  refine lv_aload_n hx hb dX9_bests_0 rfl (lv_at hl 0 rfl) ?_
  refine g_get C hH mx fx iX9 rfl 1 (by decide) wd18 rfl rfl dX9_bests_1 ?_
  refine g_Vi C hl.1 hA hH (As := []) (rest := []) (k_isNone l E L f mn fn) my_X3_isNone wd19 mn fn rfl rfl rfl (Nat.le_of_ble_eq_true rfl) ⟨Nat.le_of_ble_eq_true rfl, Nat.le_of_ble_eq_true rfl⟩ ⟨Nat.le_of_ble_eq_true rfl, Nat.le_of_ble_eq_true rfl⟩ dX9_bests_4 (fun r3 L2 f1 H locs hp hH => ?_)
  obtain ⟨er3, rfl, rfl⟩ := hp
  subst er3
  refine lv_if_ne (tgt := 17) hx hb dX9_bests_7 (by decide) (fun _ => ?_) (fun h => absurd h (by decide))
  refine lv_bipush (v := (-2 : Int32)) hx hb dX9_bests_17 (by decide) ?_
  refine g_iret C hr hH (Nat.le_of_ble_eq_true rfl) (Nat.le_of_ble_eq_true rfl) dX9_bests_19 ?_
  exact ⟨rfl, rfl, rfl⟩
set_option maxHeartbeats 4000000 in
set_option maxRecDepth 100000 in
theorem k_most (l : Launch) (E : gE) (L : List Nat) (f : gF) {x xt xn xr xi xw xs xl xc xh xf xm : Nat} (mx : x ∈ L) (fx : f x = .inr (9, [.ref xt, .ref xn, .ref xr, .ref xi, .ref xw, .ref xs, .ref xl, .ref xc, .ref xh, .ref xf, .ref xm])) {na : Nat → Nat} (mn : xn ∈ L) (fn : f xn = .inr (3, [.int (0 : Int32), .int (0 : Int32), .int (0 : Int32), .int (0 : Int32), .int (0 : Int32), .int (0 : Int32), .int (0 : Int32), .int (0 : Int32), .int (0 : Int32), .int (0 : Int32), .ref (na 0), .ref (na 1), .ref (na 2), .ref (na 3), .ref (na 4), .ref (na 5), .ref (na 6), .ref (na 7), .ref (na 8), .ref (na 9)])) (p0 : Int32) : gMi l E yX9_most cX9_most 2 .int (gRm 5 0 0) [.ref x, .int p0] L f (gRO (-2 : Int32) L f) := by
  refine gMi.intro (by decide) (Nat.le_of_ble_eq_true rfl) ?_
  intro p e s m below meth c A ls C hr hA hH hl
  have C : gC E cX9_most 2 RX9 p s m _ meth c := C
  have hl : lv_has ls 2 [(0, .ref x), (1, .int p0)] := hl
  have hx := C.1
  have hb := C.2.1
  refine lv_aload_n hx hb dX9_most_0 rfl (lv_at hl 0 rfl) ?_
  refine g_get C hH mx fx iX9 rfl 1 (by decide) wd18 rfl rfl dX9_most_1 ?_
  refine g_Vi C hl.1 hA hH (As := []) (rest := []) (k_isNone l E L f mn fn) my_X3_isNone wd19 mn fn rfl rfl rfl (Nat.le_of_ble_eq_true rfl) ⟨Nat.le_of_ble_eq_true rfl, Nat.le_of_ble_eq_true rfl⟩ ⟨Nat.le_of_ble_eq_true rfl, Nat.le_of_ble_eq_true rfl⟩ dX9_most_4 (fun r3 L2 f1 H locs hp hH => ?_)
  obtain ⟨er3, rfl, rfl⟩ := hp
  subst er3
  refine lv_if_ne (tgt := 17) hx hb dX9_most_7 (by decide) (fun _ => ?_) (fun h => absurd h (by decide))
  refine lv_bipush (v := (-2 : Int32)) hx hb dX9_most_17 (by decide) ?_
  refine g_iret C hr hH (Nat.le_of_ble_eq_true rfl) (Nat.le_of_ble_eq_true rfl) dX9_most_19 ?_
  exact ⟨rfl, rfl, rfl⟩
set_option maxHeartbeats 4000000 in
set_option maxRecDepth 100000 in
theorem k_more (l : Launch) (E : gE) (L : List Nat) (f : gF) {x xt xn xr xi xw xs xl xc xh xf xm : Nat} (mx : x ∈ L) (fx : f x = .inr (9, [.ref xt, .ref xn, .ref xr, .ref xi, .ref xw, .ref xs, .ref xl, .ref xc, .ref xh, .ref xf, .ref xm])) {na : Nat → Nat} (mn : xn ∈ L) (fn : f xn = .inr (3, [.int (0 : Int32), .int (0 : Int32), .int (0 : Int32), .int (0 : Int32), .int (0 : Int32), .int (0 : Int32), .int (0 : Int32), .int (0 : Int32), .int (0 : Int32), .int (0 : Int32), .ref (na 0), .ref (na 1), .ref (na 2), .ref (na 3), .ref (na 4), .ref (na 5), .ref (na 6), .ref (na 7), .ref (na 8), .ref (na 9)])) : gMi l E yX9_more cX9_more 1 .int (gRm 5 0 0) [.ref x] L f (gRO (-2 : Int32) L f) := by
  refine gMi.intro (by decide) (Nat.le_of_ble_eq_true rfl) ?_
  intro p e s m below meth c A ls C hr hA hH hl
  have C : gC E cX9_more 1 RX9 p s m _ meth c := C
  have hl : lv_has ls 1 [(0, .ref x)] := hl
  have hx := C.1
  have hb := C.2.1
  refine lv_aload_n hx hb dX9_more_0 rfl (lv_at hl 0 rfl) ?_
  refine g_get C hH mx fx iX9 rfl 1 (by decide) wd18 rfl rfl dX9_more_1 ?_
  refine g_Vi C hl.1 hA hH (As := []) (rest := []) (k_isNone l E L f mn fn) my_X3_isNone wd19 mn fn rfl rfl rfl (Nat.le_of_ble_eq_true rfl) ⟨Nat.le_of_ble_eq_true rfl, Nat.le_of_ble_eq_true rfl⟩ ⟨Nat.le_of_ble_eq_true rfl, Nat.le_of_ble_eq_true rfl⟩ dX9_more_4 (fun r3 L2 f1 H locs hp hH => ?_)
  obtain ⟨er3, rfl, rfl⟩ := hp
  subst er3
  refine lv_if_eq (tgt := 15) hx hb dX9_more_7 (by decide) (fun h => absurd h (by decide)) (fun _ => ?_)
  refine lv_bipush (v := (-2 : Int32)) hx hb dX9_more_10 (by decide) ?_
  refine lv_goto (tgt := 36) hx hb dX9_more_12 (by decide) ?_
  refine g_iret C hr hH (Nat.le_of_ble_eq_true rfl) (Nat.le_of_ble_eq_true rfl) dX9_more_36 ?_
  exact ⟨rfl, rfl, rfl⟩
set_option maxHeartbeats 4000000 in
set_option maxRecDepth 100000 in
theorem k_less (l : Launch) (E : gE) (L : List Nat) (f : gF) {x xt xn xr xi xw xs xl xc xh xf xm : Nat} (mx : x ∈ L) (fx : f x = .inr (9, [.ref xt, .ref xn, .ref xr, .ref xi, .ref xw, .ref xs, .ref xl, .ref xc, .ref xh, .ref xf, .ref xm])) {na : Nat → Nat} (mn : xn ∈ L) (fn : f xn = .inr (3, [.int (0 : Int32), .int (0 : Int32), .int (0 : Int32), .int (0 : Int32), .int (0 : Int32), .int (0 : Int32), .int (0 : Int32), .int (0 : Int32), .int (0 : Int32), .int (0 : Int32), .ref (na 0), .ref (na 1), .ref (na 2), .ref (na 3), .ref (na 4), .ref (na 5), .ref (na 6), .ref (na 7), .ref (na 8), .ref (na 9)])) : gMi l E yX9_less cX9_less 1 .int (gRm 5 0 0) [.ref x] L f (gRO (-2 : Int32) L f) := by
  refine gMi.intro (by decide) (Nat.le_of_ble_eq_true rfl) ?_
  intro p e s m below meth c A ls C hr hA hH hl
  have C : gC E cX9_less 1 RX9 p s m _ meth c := C
  have hl : lv_has ls 1 [(0, .ref x)] := hl
  have hx := C.1
  have hb := C.2.1
  refine lv_aload_n hx hb dX9_less_0 rfl (lv_at hl 0 rfl) ?_
  refine g_get C hH mx fx iX9 rfl 1 (by decide) wd18 rfl rfl dX9_less_1 ?_
  refine g_Vi C hl.1 hA hH (As := []) (rest := []) (k_isNone l E L f mn fn) my_X3_isNone wd19 mn fn rfl rfl rfl (Nat.le_of_ble_eq_true rfl) ⟨Nat.le_of_ble_eq_true rfl, Nat.le_of_ble_eq_true rfl⟩ ⟨Nat.le_of_ble_eq_true rfl, Nat.le_of_ble_eq_true rfl⟩ dX9_less_4 (fun r3 L2 f1 H locs hp hH => ?_)
  obtain ⟨er3, rfl, rfl⟩ := hp
  subst er3
  refine lv_if_eq (tgt := 15) hx hb dX9_less_7 (by decide) (fun h => absurd h (by decide)) (fun _ => ?_)
  refine lv_bipush (v := (-2 : Int32)) hx hb dX9_less_10 (by decide) ?_
  refine lv_goto (tgt := 26) hx hb dX9_less_12 (by decide) ?_
  refine g_iret C hr hH (Nat.le_of_ble_eq_true rfl) (Nat.le_of_ble_eq_true rfl) dX9_less_26 ?_
  exact ⟨rfl, rfl, rfl⟩
set_option maxHeartbeats 4000000 in
set_option maxRecDepth 100000 in
theorem k_by (l : Launch) (E : gE) (L : List Nat) (f : gF) {x xt xn xr xi xw xs xl xc xh xf xm : Nat} (mx : x ∈ L) (fx : f x = .inr (9, [.ref xt, .ref xn, .ref xr, .ref xi, .ref xw, .ref xs, .ref xl, .ref xc, .ref xh, .ref xf, .ref xm])) {na : Nat → Nat} (mn : xn ∈ L) (fn : f xn = .inr (3, [.int (0 : Int32), .int (0 : Int32), .int (0 : Int32), .int (0 : Int32), .int (0 : Int32), .int (0 : Int32), .int (0 : Int32), .int (0 : Int32), .int (0 : Int32), .int (0 : Int32), .ref (na 0), .ref (na 1), .ref (na 2), .ref (na 3), .ref (na 4), .ref (na 5), .ref (na 6), .ref (na 7), .ref (na 8), .ref (na 9)])) (p0 : Int32) : gMi l E yX9_by cX9_by 2 .int (gRm 5 0 0) [.ref x, .int p0] L f (gRO (-2 : Int32) L f) := by
  refine gMi.intro (by decide) (Nat.le_of_ble_eq_true rfl) ?_
  intro p e s m below meth c A ls C hr hA hH hl
  have C : gC E cX9_by 2 RX9 p s m _ meth c := C
  have hl : lv_has ls 2 [(0, .ref x), (1, .int p0)] := hl
  have hx := C.1
  have hb := C.2.1
  refine lv_aload_n hx hb dX9_by_0 rfl (lv_at hl 0 rfl) ?_
  refine g_get C hH mx fx iX9 rfl 1 (by decide) wd18 rfl rfl dX9_by_1 ?_
  refine g_Vi C hl.1 hA hH (As := []) (rest := []) (k_isNone l E L f mn fn) my_X3_isNone wd19 mn fn rfl rfl rfl (Nat.le_of_ble_eq_true rfl) ⟨Nat.le_of_ble_eq_true rfl, Nat.le_of_ble_eq_true rfl⟩ ⟨Nat.le_of_ble_eq_true rfl, Nat.le_of_ble_eq_true rfl⟩ dX9_by_4 (fun r3 L2 f1 H locs hp hH => ?_)
  obtain ⟨er3, rfl, rfl⟩ := hp
  subst er3
  refine lv_if_ne (tgt := 19) hx hb dX9_by_7 (by decide) (fun _ => ?_) (fun h => absurd h (by decide))
  refine lv_bipush (v := (-2 : Int32)) hx hb dX9_by_19 (by decide) ?_
  refine g_iret C hr hH (Nat.le_of_ble_eq_true rfl) (Nat.le_of_ble_eq_true rfl) dX9_by_21 ?_
  exact ⟨rfl, rfl, rfl⟩
set_option maxHeartbeats 4000000 in
set_option maxRecDepth 100000 in
theorem k_law (l : Launch) (E : gE) (L : List Nat) (f : gF) {x xt xn xr xi xw xs xl xc xh xf xm : Nat} (mx : x ∈ L) (fx : f x = .inr (9, [.ref xt, .ref xn, .ref xr, .ref xi, .ref xw, .ref xs, .ref xl, .ref xc, .ref xh, .ref xf, .ref xm])) {na : Nat → Nat} (mn : xn ∈ L) (fn : f xn = .inr (3, [.int (0 : Int32), .int (0 : Int32), .int (0 : Int32), .int (0 : Int32), .int (0 : Int32), .int (0 : Int32), .int (0 : Int32), .int (0 : Int32), .int (0 : Int32), .int (0 : Int32), .ref (na 0), .ref (na 1), .ref (na 2), .ref (na 3), .ref (na 4), .ref (na 5), .ref (na 6), .ref (na 7), .ref (na 8), .ref (na 9)])) : gMi l E yX9_law cX9_law 5 .int (gRm 5 0 0) [.ref x] L f (gRO (-2 : Int32) L f) := by
  refine gMi.intro (by decide) (Nat.le_of_ble_eq_true rfl) ?_
  intro p e s m below meth c A ls C hr hA hH hl
  have C : gC E cX9_law 5 RX9 p s m _ meth c := C
  have hl : lv_has ls 5 [(0, .ref x)] := hl
  have hx := C.1
  have hb := C.2.1
  refine lv_aload_n hx hb dX9_law_0 rfl (lv_at hl 0 rfl) ?_
  refine g_get C hH mx fx iX9 rfl 1 (by decide) wd18 rfl rfl dX9_law_1 ?_
  refine g_Vi C hl.1 hA hH (As := []) (rest := []) (k_isNone l E L f mn fn) my_X3_isNone wd19 mn fn rfl rfl rfl (Nat.le_of_ble_eq_true rfl) ⟨Nat.le_of_ble_eq_true rfl, Nat.le_of_ble_eq_true rfl⟩ ⟨Nat.le_of_ble_eq_true rfl, Nat.le_of_ble_eq_true rfl⟩ dX9_law_4 (fun r3 L2 f1 H locs hp hH => ?_)
  obtain ⟨er3, rfl, rfl⟩ := hp
  subst er3
  refine lv_if_eq (tgt := 13) hx hb dX9_law_7 (by decide) (fun h => absurd h (by decide)) (fun _ => ?_)
  refine lv_bipush (v := (-2 : Int32)) hx hb dX9_law_10 (by decide) ?_
  refine g_iret C hr hH (Nat.le_of_ble_eq_true rfl) (Nat.le_of_ble_eq_true rfl) dX9_law_12 ?_
  exact ⟨rfl, rfl, rfl⟩
set_option maxHeartbeats 4000000 in
set_option maxRecDepth 100000 in
theorem k_laws (l : Launch) (E : gE) (L : List Nat) (f : gF) {x xt xn xr xi xw xs xl xc xh xf xm : Nat} (mx : x ∈ L) (fx : f x = .inr (9, [.ref xt, .ref xn, .ref xr, .ref xi, .ref xw, .ref xs, .ref xl, .ref xc, .ref xh, .ref xf, .ref xm])) {na : Nat → Nat} (mn : xn ∈ L) (fn : f xn = .inr (3, [.int (0 : Int32), .int (0 : Int32), .int (0 : Int32), .int (0 : Int32), .int (0 : Int32), .int (0 : Int32), .int (0 : Int32), .int (0 : Int32), .int (0 : Int32), .int (0 : Int32), .ref (na 0), .ref (na 1), .ref (na 2), .ref (na 3), .ref (na 4), .ref (na 5), .ref (na 6), .ref (na 7), .ref (na 8), .ref (na 9)])) (p0 : Int32) : gMi l E yX9_laws cX9_laws 3 .int (gRm 5 0 0) [.ref x, .int p0] L f (gRO (-2 : Int32) L f) := by
  refine gMi.intro (by decide) (Nat.le_of_ble_eq_true rfl) ?_
  intro p e s m below meth c A ls C hr hA hH hl
  have C : gC E cX9_laws 3 RX9 p s m _ meth c := C
  have hl : lv_has ls 3 [(0, .ref x), (1, .int p0)] := hl
  have hx := C.1
  have hb := C.2.1
  refine lv_aload_n hx hb dX9_laws_0 rfl (lv_at hl 0 rfl) ?_
  refine lv_iload_n hx hb dX9_laws_1 rfl (lv_at hl 1 rfl) ?_
  refine g_Vi C hl.1 hA hH (As := [.int p0]) (rest := []) (k_sightRefusal l E L f mx fx mn fn p0) my_X9_sightRefusal wd43 mx fx rfl rfl rfl (Nat.le_of_ble_eq_true rfl) ⟨Nat.le_of_ble_eq_true rfl, Nat.le_of_ble_eq_true rfl⟩ ⟨Nat.le_of_ble_eq_true rfl, Nat.le_of_ble_eq_true rfl⟩ dX9_laws_2 (fun r3 L2 f1 H locs hp hH => ?_)
  obtain ⟨er3, rfl, rfl⟩ := hp
  subst er3
  refine lv_istore_n (lv' := [(2, .int (-2 : Int32)), (0, .ref x), (1, .int p0)]) hx hb dX9_laws_5 rfl hl (by decide) rfl (fun ls hl => ?_)
  refine lv_iload_n hx hb dX9_laws_6 rfl (lv_at hl 0 rfl) ?_
  refine lv_if_eq (tgt := 14) hx hb dX9_laws_7 (by decide) (fun h => absurd h (by decide)) (fun _ => ?_)
  refine lv_iload_n hx hb dX9_laws_10 rfl (lv_at hl 0 rfl) ?_
  refine lv_goto (tgt := 27) hx hb dX9_laws_11 (by decide) ?_
  refine g_iret C hr hH (Nat.le_of_ble_eq_true rfl) (Nat.le_of_ble_eq_true rfl) dX9_laws_27 ?_
  exact ⟨rfl, rfl, rfl⟩
set_option maxHeartbeats 4000000 in
set_option maxRecDepth 100000 in
theorem k_ask (l : Launch) (E : gE) (L : List Nat) (f : gF) {x xt xn xr xi xw xs xl xc xh xf xm : Nat} (mx : x ∈ L) (fx : f x = .inr (9, [.ref xt, .ref xn, .ref xr, .ref xi, .ref xw, .ref xs, .ref xl, .ref xc, .ref xh, .ref xf, .ref xm])) {na : Nat → Nat} (mn : xn ∈ L) (fn : f xn = .inr (3, [.int (0 : Int32), .int (0 : Int32), .int (0 : Int32), .int (0 : Int32), .int (0 : Int32), .int (0 : Int32), .int (0 : Int32), .int (0 : Int32), .int (0 : Int32), .int (0 : Int32), .ref (na 0), .ref (na 1), .ref (na 2), .ref (na 3), .ref (na 4), .ref (na 5), .ref (na 6), .ref (na 7), .ref (na 8), .ref (na 9)])) (p0 : Int32) : gMi l E yX9_ask cX9_ask 3 .int (gRm 5 0 0) [.ref x, .int p0] L f (gRO (-2 : Int32) L f) := by
  refine gMi.intro (by decide) (Nat.le_of_ble_eq_true rfl) ?_
  intro p e s m below meth c A ls C hr hA hH hl
  have C : gC E cX9_ask 3 RX9 p s m _ meth c := C
  have hl : lv_has ls 3 [(0, .ref x), (1, .int p0)] := hl
  have hx := C.1
  have hb := C.2.1
  refine lv_aload_n hx hb dX9_ask_0 rfl (lv_at hl 0 rfl) ?_
  refine lv_iload_n hx hb dX9_ask_1 rfl (lv_at hl 1 rfl) ?_
  refine g_Vi C hl.1 hA hH (As := [.int p0]) (rest := []) (k_sightRefusal l E L f mx fx mn fn p0) my_X9_sightRefusal wd43 mx fx rfl rfl rfl (Nat.le_of_ble_eq_true rfl) ⟨Nat.le_of_ble_eq_true rfl, Nat.le_of_ble_eq_true rfl⟩ ⟨Nat.le_of_ble_eq_true rfl, Nat.le_of_ble_eq_true rfl⟩ dX9_ask_2 (fun r3 L2 f1 H locs hp hH => ?_)
  obtain ⟨er3, rfl, rfl⟩ := hp
  subst er3
  refine lv_istore_n (lv' := [(2, .int (-2 : Int32)), (0, .ref x), (1, .int p0)]) hx hb dX9_ask_5 rfl hl (by decide) rfl (fun ls hl => ?_)
  refine lv_iload_n hx hb dX9_ask_6 rfl (lv_at hl 0 rfl) ?_
  refine lv_if_eq (tgt := 14) hx hb dX9_ask_7 (by decide) (fun h => absurd h (by decide)) (fun _ => ?_)
  refine lv_iload_n hx hb dX9_ask_10 rfl (lv_at hl 0 rfl) ?_
  refine lv_goto (tgt := 34) hx hb dX9_ask_11 (by decide) ?_
  refine g_iret C hr hH (Nat.le_of_ble_eq_true rfl) (Nat.le_of_ble_eq_true rfl) dX9_ask_34 ?_
  exact ⟨rfl, rfl, rfl⟩
set_option maxHeartbeats 4000000 in
set_option maxRecDepth 100000 in
theorem k_began (l : Launch) (E : gE) (L : List Nat) (f : gF) {x xt xn xr xi xw xs xl xc xh xf xm : Nat} (mx : x ∈ L) (fx : f x = .inr (9, [.ref xt, .ref xn, .ref xr, .ref xi, .ref xw, .ref xs, .ref xl, .ref xc, .ref xh, .ref xf, .ref xm])) {na : Nat → Nat} (mn : xn ∈ L) (fn : f xn = .inr (3, [.int (0 : Int32), .int (0 : Int32), .int (0 : Int32), .int (0 : Int32), .int (0 : Int32), .int (0 : Int32), .int (0 : Int32), .int (0 : Int32), .int (0 : Int32), .int (0 : Int32), .ref (na 0), .ref (na 1), .ref (na 2), .ref (na 3), .ref (na 4), .ref (na 5), .ref (na 6), .ref (na 7), .ref (na 8), .ref (na 9)])) (p0 : Int32) : gMi l E yX9_began cX9_began 3 .int (gRm 5 0 0) [.ref x, .int p0] L f (gRO (-2 : Int32) L f) := by
  refine gMi.intro (by decide) (Nat.le_of_ble_eq_true rfl) ?_
  intro p e s m below meth c A ls C hr hA hH hl
  have C : gC E cX9_began 3 RX9 p s m _ meth c := C
  have hl : lv_has ls 3 [(0, .ref x), (1, .int p0)] := hl
  have hx := C.1
  have hb := C.2.1
  refine lv_aload_n hx hb dX9_began_0 rfl (lv_at hl 0 rfl) ?_
  refine lv_iload_n hx hb dX9_began_1 rfl (lv_at hl 1 rfl) ?_
  refine g_Vi C hl.1 hA hH (As := [.int p0]) (rest := []) (k_reportRefusal l E L f mx fx mn fn p0) my_X9_reportRefusal wd47 mx fx rfl rfl rfl (Nat.le_of_ble_eq_true rfl) ⟨Nat.le_of_ble_eq_true rfl, Nat.le_of_ble_eq_true rfl⟩ ⟨Nat.le_of_ble_eq_true rfl, Nat.le_of_ble_eq_true rfl⟩ dX9_began_2 (fun r3 L2 f1 H locs hp hH => ?_)
  obtain ⟨er3, rfl, rfl⟩ := hp
  subst er3
  refine lv_istore_n (lv' := [(2, .int (-2 : Int32)), (0, .ref x), (1, .int p0)]) hx hb dX9_began_5 rfl hl (by decide) rfl (fun ls hl => ?_)
  refine lv_iload_n hx hb dX9_began_6 rfl (lv_at hl 0 rfl) ?_
  refine lv_if_eq (tgt := 14) hx hb dX9_began_7 (by decide) (fun h => absurd h (by decide)) (fun _ => ?_)
  refine lv_iload_n hx hb dX9_began_10 rfl (lv_at hl 0 rfl) ?_
  refine lv_goto (tgt := 27) hx hb dX9_began_11 (by decide) ?_
  refine g_iret C hr hH (Nat.le_of_ble_eq_true rfl) (Nat.le_of_ble_eq_true rfl) dX9_began_27 ?_
  exact ⟨rfl, rfl, rfl⟩
set_option maxHeartbeats 4000000 in
set_option maxRecDepth 100000 in
theorem k_spots (l : Launch) (E : gE) (L : List Nat) (f : gF) {x xt xn xr xi xw xs xl xc xh xf xm : Nat} (mx : x ∈ L) (fx : f x = .inr (9, [.ref xt, .ref xn, .ref xr, .ref xi, .ref xw, .ref xs, .ref xl, .ref xc, .ref xh, .ref xf, .ref xm])) {na : Nat → Nat} (mn : xn ∈ L) (fn : f xn = .inr (3, [.int (0 : Int32), .int (0 : Int32), .int (0 : Int32), .int (0 : Int32), .int (0 : Int32), .int (0 : Int32), .int (0 : Int32), .int (0 : Int32), .int (0 : Int32), .int (0 : Int32), .ref (na 0), .ref (na 1), .ref (na 2), .ref (na 3), .ref (na 4), .ref (na 5), .ref (na 6), .ref (na 7), .ref (na 8), .ref (na 9)])) (p0 : Int32) : gMi l E yX9_spots cX9_spots 3 .int (gRm 5 0 0) [.ref x, .int p0] L f (gRO (-2 : Int32) L f) := by
  refine gMi.intro (by decide) (Nat.le_of_ble_eq_true rfl) ?_
  intro p e s m below meth c A ls C hr hA hH hl
  have C : gC E cX9_spots 3 RX9 p s m _ meth c := C
  have hl : lv_has ls 3 [(0, .ref x), (1, .int p0)] := hl
  have hx := C.1
  have hb := C.2.1
  refine lv_aload_n hx hb dX9_spots_0 rfl (lv_at hl 0 rfl) ?_
  refine lv_iload_n hx hb dX9_spots_1 rfl (lv_at hl 1 rfl) ?_
  refine g_Vi C hl.1 hA hH (As := [.int p0]) (rest := []) (k_reportRefusal l E L f mx fx mn fn p0) my_X9_reportRefusal wd47 mx fx rfl rfl rfl (Nat.le_of_ble_eq_true rfl) ⟨Nat.le_of_ble_eq_true rfl, Nat.le_of_ble_eq_true rfl⟩ ⟨Nat.le_of_ble_eq_true rfl, Nat.le_of_ble_eq_true rfl⟩ dX9_spots_2 (fun r3 L2 f1 H locs hp hH => ?_)
  obtain ⟨er3, rfl, rfl⟩ := hp
  subst er3
  refine lv_istore_n (lv' := [(2, .int (-2 : Int32)), (0, .ref x), (1, .int p0)]) hx hb dX9_spots_5 rfl hl (by decide) rfl (fun ls hl => ?_)
  refine lv_iload_n hx hb dX9_spots_6 rfl (lv_at hl 0 rfl) ?_
  refine lv_if_eq (tgt := 12) hx hb dX9_spots_7 (by decide) (fun h => absurd h (by decide)) (fun _ => ?_)
  refine lv_iload_n hx hb dX9_spots_10 rfl (lv_at hl 0 rfl) ?_
  refine g_iret C hr hH (Nat.le_of_ble_eq_true rfl) (Nat.le_of_ble_eq_true rfl) dX9_spots_11 ?_
  exact ⟨rfl, rfl, rfl⟩
set_option maxHeartbeats 4000000 in
set_option maxRecDepth 100000 in
theorem k_who (l : Launch) (E : gE) (L : List Nat) (f : gF) {x xt xn xr xi xw xs xl xc xh xf xm : Nat} (mx : x ∈ L) (fx : f x = .inr (9, [.ref xt, .ref xn, .ref xr, .ref xi, .ref xw, .ref xs, .ref xl, .ref xc, .ref xh, .ref xf, .ref xm])) {na : Nat → Nat} (mn : xn ∈ L) (fn : f xn = .inr (3, [.int (0 : Int32), .int (0 : Int32), .int (0 : Int32), .int (0 : Int32), .int (0 : Int32), .int (0 : Int32), .int (0 : Int32), .int (0 : Int32), .int (0 : Int32), .int (0 : Int32), .ref (na 0), .ref (na 1), .ref (na 2), .ref (na 3), .ref (na 4), .ref (na 5), .ref (na 6), .ref (na 7), .ref (na 8), .ref (na 9)])) (p0 : Int32) : gMi l E yX9_who cX9_who 3 .int (gRm 5 0 0) [.ref x, .int p0] L f (gRO (-2 : Int32) L f) := by
  refine gMi.intro (by decide) (Nat.le_of_ble_eq_true rfl) ?_
  intro p e s m below meth c A ls C hr hA hH hl
  have C : gC E cX9_who 3 RX9 p s m _ meth c := C
  have hl : lv_has ls 3 [(0, .ref x), (1, .int p0)] := hl
  have hx := C.1
  have hb := C.2.1
  refine lv_aload_n hx hb dX9_who_0 rfl (lv_at hl 0 rfl) ?_
  refine lv_iload_n hx hb dX9_who_1 rfl (lv_at hl 1 rfl) ?_
  refine g_Vi C hl.1 hA hH (As := [.int p0]) (rest := []) (k_reportRefusal l E L f mx fx mn fn p0) my_X9_reportRefusal wd47 mx fx rfl rfl rfl (Nat.le_of_ble_eq_true rfl) ⟨Nat.le_of_ble_eq_true rfl, Nat.le_of_ble_eq_true rfl⟩ ⟨Nat.le_of_ble_eq_true rfl, Nat.le_of_ble_eq_true rfl⟩ dX9_who_2 (fun r3 L2 f1 H locs hp hH => ?_)
  obtain ⟨er3, rfl, rfl⟩ := hp
  subst er3
  refine lv_istore_n (lv' := [(2, .int (-2 : Int32)), (0, .ref x), (1, .int p0)]) hx hb dX9_who_5 rfl hl (by decide) rfl (fun ls hl => ?_)
  refine lv_iload_n hx hb dX9_who_6 rfl (lv_at hl 0 rfl) ?_
  refine lv_if_eq (tgt := 14) hx hb dX9_who_7 (by decide) (fun h => absurd h (by decide)) (fun _ => ?_)
  refine lv_iload_n hx hb dX9_who_10 rfl (lv_at hl 0 rfl) ?_
  refine lv_goto (tgt := 34) hx hb dX9_who_11 (by decide) ?_
  refine g_iret C hr hH (Nat.le_of_ble_eq_true rfl) (Nat.le_of_ble_eq_true rfl) dX9_who_34 ?_
  exact ⟨rfl, rfl, rfl⟩
set_option maxHeartbeats 4000000 in
set_option maxRecDepth 100000 in
theorem k_leaves (l : Launch) (E : gE) (L : List Nat) (f : gF) {x xt xn xr xi xw xs xl xc xh xf xm : Nat} (mx : x ∈ L) (fx : f x = .inr (9, [.ref xt, .ref xn, .ref xr, .ref xi, .ref xw, .ref xs, .ref xl, .ref xc, .ref xh, .ref xf, .ref xm])) {na : Nat → Nat} (mn : xn ∈ L) (fn : f xn = .inr (3, [.int (0 : Int32), .int (0 : Int32), .int (0 : Int32), .int (0 : Int32), .int (0 : Int32), .int (0 : Int32), .int (0 : Int32), .int (0 : Int32), .int (0 : Int32), .int (0 : Int32), .ref (na 0), .ref (na 1), .ref (na 2), .ref (na 3), .ref (na 4), .ref (na 5), .ref (na 6), .ref (na 7), .ref (na 8), .ref (na 9)])) (p0 : Int32) : gMi l E yX9_leaves cX9_leaves 5 .int (gRm 5 0 0) [.ref x, .int p0] L f (gRO (-2 : Int32) L f) := by
  refine gMi.intro (by decide) (Nat.le_of_ble_eq_true rfl) ?_
  intro p e s m below meth c A ls C hr hA hH hl
  have C : gC E cX9_leaves 5 RX9 p s m _ meth c := C
  have hl : lv_has ls 5 [(0, .ref x), (1, .int p0)] := hl
  have hx := C.1
  have hb := C.2.1
  refine lv_aload_n hx hb dX9_leaves_0 rfl (lv_at hl 0 rfl) ?_
  refine lv_iload_n hx hb dX9_leaves_1 rfl (lv_at hl 1 rfl) ?_
  refine g_Vi C hl.1 hA hH (As := [.int p0]) (rest := []) (k_reportRefusal l E L f mx fx mn fn p0) my_X9_reportRefusal wd47 mx fx rfl rfl rfl (Nat.le_of_ble_eq_true rfl) ⟨Nat.le_of_ble_eq_true rfl, Nat.le_of_ble_eq_true rfl⟩ ⟨Nat.le_of_ble_eq_true rfl, Nat.le_of_ble_eq_true rfl⟩ dX9_leaves_2 (fun r3 L2 f1 H locs hp hH => ?_)
  obtain ⟨er3, rfl, rfl⟩ := hp
  subst er3
  refine lv_istore_n (lv' := [(2, .int (-2 : Int32)), (0, .ref x), (1, .int p0)]) hx hb dX9_leaves_5 rfl hl (by decide) rfl (fun ls hl => ?_)
  refine lv_iload_n hx hb dX9_leaves_6 rfl (lv_at hl 0 rfl) ?_
  refine lv_if_eq (tgt := 12) hx hb dX9_leaves_7 (by decide) (fun h => absurd h (by decide)) (fun _ => ?_)
  refine lv_iload_n hx hb dX9_leaves_10 rfl (lv_at hl 0 rfl) ?_
  refine g_iret C hr hH (Nat.le_of_ble_eq_true rfl) (Nat.le_of_ble_eq_true rfl) dX9_leaves_11 ?_
  exact ⟨rfl, rfl, rfl⟩
set_option maxHeartbeats 4000000 in
set_option maxRecDepth 100000 in
theorem k_odds (l : Launch) (E : gE) (L : List Nat) (f : gF) {x xt xn xr xi xw xs xl xc xh xf xm : Nat} (mx : x ∈ L) (fx : f x = .inr (9, [.ref xt, .ref xn, .ref xr, .ref xi, .ref xw, .ref xs, .ref xl, .ref xc, .ref xh, .ref xf, .ref xm])) {na : Nat → Nat} (mn : xn ∈ L) (fn : f xn = .inr (3, [.int (0 : Int32), .int (0 : Int32), .int (0 : Int32), .int (0 : Int32), .int (0 : Int32), .int (0 : Int32), .int (0 : Int32), .int (0 : Int32), .int (0 : Int32), .int (0 : Int32), .ref (na 0), .ref (na 1), .ref (na 2), .ref (na 3), .ref (na 4), .ref (na 5), .ref (na 6), .ref (na 7), .ref (na 8), .ref (na 9)])) (p0 p1 p2 : Int32) : gMi l E yX9_odds cX9_odds 6 .int (gRm 5 0 0) [.ref x, .int p0, .int p1, .int p2] L f (gRO (-2 : Int32) L f) := by
  refine gMi.intro (by decide) (Nat.le_of_ble_eq_true rfl) ?_
  intro p e s m below meth c A ls C hr hA hH hl
  have C : gC E cX9_odds 6 RX9 p s m _ meth c := C
  have hl : lv_has ls 6 [(0, .ref x), (1, .int p0), (2, .int p1), (3, .int p2)] := hl
  have hx := C.1
  have hb := C.2.1
  refine lv_aload_n hx hb dX9_odds_0 rfl (lv_at hl 0 rfl) ?_
  refine g_get C hH mx fx iX9 rfl 1 (by decide) wd18 rfl rfl dX9_odds_1 ?_
  refine lv_iload_n hx hb dX9_odds_4 rfl (lv_at hl 2 rfl) ?_
  refine g_Vi C hl.1 hA hH (As := [.int p1]) (rest := []) (k_hasMember l E L f mn fn p1) my_X3_hasMember wd27 mn fn rfl rfl rfl (Nat.le_of_ble_eq_true rfl) ⟨Nat.le_of_ble_eq_true rfl, Nat.le_of_ble_eq_true rfl⟩ ⟨Nat.le_of_ble_eq_true rfl, Nat.le_of_ble_eq_true rfl⟩ dX9_odds_5 (fun r3 L2 f1 H locs hp hH => ?_)
  obtain ⟨er3, rfl, rfl⟩ := hp
  subst er3
  refine lv_if_eq (tgt := 18) hx hb dX9_odds_8 (by decide) (fun _ => ?_) (fun h => absurd (by decide) h)
  refine lv_bipush (v := (-2 : Int32)) hx hb dX9_odds_18 (by decide) ?_
  refine g_iret C hr hH (Nat.le_of_ble_eq_true rfl) (Nat.le_of_ble_eq_true rfl) dX9_odds_20 ?_
  exact ⟨rfl, rfl, rfl⟩
set_option maxHeartbeats 4000000 in
set_option maxRecDepth 100000 in
theorem k_homes (l : Launch) (E : gE) (L : List Nat) (f : gF) {x xt xn xr xi xw xs xl xc xh xf xm : Nat} (mx : x ∈ L) (fx : f x = .inr (9, [.ref xt, .ref xn, .ref xr, .ref xi, .ref xw, .ref xs, .ref xl, .ref xc, .ref xh, .ref xf, .ref xm])) {na : Nat → Nat} (mn : xn ∈ L) (fn : f xn = .inr (3, [.int (0 : Int32), .int (0 : Int32), .int (0 : Int32), .int (0 : Int32), .int (0 : Int32), .int (0 : Int32), .int (0 : Int32), .int (0 : Int32), .int (0 : Int32), .int (0 : Int32), .ref (na 0), .ref (na 1), .ref (na 2), .ref (na 3), .ref (na 4), .ref (na 5), .ref (na 6), .ref (na 7), .ref (na 8), .ref (na 9)])) : gMi l E yX9_homes cX9_homes 1 .int (gRm 5 0 0) [.ref x] L f (gRO (-2 : Int32) L f) := by
  refine gMi.intro (by decide) (Nat.le_of_ble_eq_true rfl) ?_
  intro p e s m below meth c A ls C hr hA hH hl
  have C : gC E cX9_homes 1 RX9 p s m _ meth c := C
  have hl : lv_has ls 1 [(0, .ref x)] := hl
  have hx := C.1
  have hb := C.2.1
  refine lv_aload_n hx hb dX9_homes_0 rfl (lv_at hl 0 rfl) ?_
  refine g_get C hH mx fx iX9 rfl 1 (by decide) wd18 rfl rfl dX9_homes_1 ?_
  refine g_Vi C hl.1 hA hH (As := []) (rest := []) (k_isNone l E L f mn fn) my_X3_isNone wd19 mn fn rfl rfl rfl (Nat.le_of_ble_eq_true rfl) ⟨Nat.le_of_ble_eq_true rfl, Nat.le_of_ble_eq_true rfl⟩ ⟨Nat.le_of_ble_eq_true rfl, Nat.le_of_ble_eq_true rfl⟩ dX9_homes_4 (fun r3 L2 f1 H locs hp hH => ?_)
  obtain ⟨er3, rfl, rfl⟩ := hp
  subst er3
  refine lv_if_eq (tgt := 13) hx hb dX9_homes_7 (by decide) (fun h => absurd h (by decide)) (fun _ => ?_)
  refine lv_bipush (v := (-2 : Int32)) hx hb dX9_homes_10 (by decide) ?_
  refine g_iret C hr hH (Nat.le_of_ble_eq_true rfl) (Nat.le_of_ble_eq_true rfl) dX9_homes_12 ?_
  exact ⟨rfl, rfl, rfl⟩
set_option maxHeartbeats 4000000 in
set_option maxRecDepth 100000 in
theorem k_home (l : Launch) (E : gE) (L : List Nat) (f : gF) {x xt xn xr xi xw xs xl xc xh xf xm : Nat} (mx : x ∈ L) (fx : f x = .inr (9, [.ref xt, .ref xn, .ref xr, .ref xi, .ref xw, .ref xs, .ref xl, .ref xc, .ref xh, .ref xf, .ref xm])) {na : Nat → Nat} (mn : xn ∈ L) (fn : f xn = .inr (3, [.int (0 : Int32), .int (0 : Int32), .int (0 : Int32), .int (0 : Int32), .int (0 : Int32), .int (0 : Int32), .int (0 : Int32), .int (0 : Int32), .int (0 : Int32), .int (0 : Int32), .ref (na 0), .ref (na 1), .ref (na 2), .ref (na 3), .ref (na 4), .ref (na 5), .ref (na 6), .ref (na 7), .ref (na 8), .ref (na 9)])) (p0 : Int32) : gMi l E yX9_home cX9_home 2 .int (gRm 5 0 0) [.ref x, .int p0] L f (gRO (-2 : Int32) L f) := by
  refine gMi.intro (by decide) (Nat.le_of_ble_eq_true rfl) ?_
  intro p e s m below meth c A ls C hr hA hH hl
  have C : gC E cX9_home 2 RX9 p s m _ meth c := C
  have hl : lv_has ls 2 [(0, .ref x), (1, .int p0)] := hl
  have hx := C.1
  have hb := C.2.1
  refine lv_aload_n hx hb dX9_home_0 rfl (lv_at hl 0 rfl) ?_
  refine g_get C hH mx fx iX9 rfl 1 (by decide) wd18 rfl rfl dX9_home_1 ?_
  refine lv_iload_n hx hb dX9_home_4 rfl (lv_at hl 1 rfl) ?_
  refine g_Vi C hl.1 hA hH (As := [.int p0]) (rest := []) (k_hasMember l E L f mn fn p0) my_X3_hasMember wd27 mn fn rfl rfl rfl (Nat.le_of_ble_eq_true rfl) ⟨Nat.le_of_ble_eq_true rfl, Nat.le_of_ble_eq_true rfl⟩ ⟨Nat.le_of_ble_eq_true rfl, Nat.le_of_ble_eq_true rfl⟩ dX9_home_5 (fun r3 L2 f1 H locs hp hH => ?_)
  obtain ⟨er3, rfl, rfl⟩ := hp
  subst er3
  refine lv_if_ne (tgt := 14) hx hb dX9_home_8 (by decide) (fun h => absurd (by decide) h) (fun _ => ?_)
  refine lv_bipush (v := (-2 : Int32)) hx hb dX9_home_11 (by decide) ?_
  refine g_iret C hr hH (Nat.le_of_ble_eq_true rfl) (Nat.le_of_ble_eq_true rfl) dX9_home_13 ?_
  exact ⟨rfl, rfl, rfl⟩
set_option maxHeartbeats 4000000 in
set_option maxRecDepth 100000 in
theorem k_swaps (l : Launch) (E : gE) (L : List Nat) (f : gF) {x xt xn xr xi xw xs xl xc xh xf xm : Nat} (mx : x ∈ L) (fx : f x = .inr (9, [.ref xt, .ref xn, .ref xr, .ref xi, .ref xw, .ref xs, .ref xl, .ref xc, .ref xh, .ref xf, .ref xm])) {na : Nat → Nat} (mn : xn ∈ L) (fn : f xn = .inr (3, [.int (0 : Int32), .int (0 : Int32), .int (0 : Int32), .int (0 : Int32), .int (0 : Int32), .int (0 : Int32), .int (0 : Int32), .int (0 : Int32), .int (0 : Int32), .int (0 : Int32), .ref (na 0), .ref (na 1), .ref (na 2), .ref (na 3), .ref (na 4), .ref (na 5), .ref (na 6), .ref (na 7), .ref (na 8), .ref (na 9)])) : gMi l E yX9_swaps cX9_swaps 1 .int (gRm 5 0 0) [.ref x] L f (gRO (-2 : Int32) L f) := by
  refine gMi.intro (by decide) (Nat.le_of_ble_eq_true rfl) ?_
  intro p e s m below meth c A ls C hr hA hH hl
  have C : gC E cX9_swaps 1 RX9 p s m _ meth c := C
  have hl : lv_has ls 1 [(0, .ref x)] := hl
  have hx := C.1
  have hb := C.2.1
  refine lv_aload_n hx hb dX9_swaps_0 rfl (lv_at hl 0 rfl) ?_
  refine g_get C hH mx fx iX9 rfl 1 (by decide) wd18 rfl rfl dX9_swaps_1 ?_
  refine g_Vi C hl.1 hA hH (As := []) (rest := []) (k_isNone l E L f mn fn) my_X3_isNone wd19 mn fn rfl rfl rfl (Nat.le_of_ble_eq_true rfl) ⟨Nat.le_of_ble_eq_true rfl, Nat.le_of_ble_eq_true rfl⟩ ⟨Nat.le_of_ble_eq_true rfl, Nat.le_of_ble_eq_true rfl⟩ dX9_swaps_4 (fun r3 L2 f1 H locs hp hH => ?_)
  obtain ⟨er3, rfl, rfl⟩ := hp
  subst er3
  refine lv_if_eq (tgt := 15) hx hb dX9_swaps_7 (by decide) (fun h => absurd h (by decide)) (fun _ => ?_)
  refine lv_bipush (v := (-2 : Int32)) hx hb dX9_swaps_10 (by decide) ?_
  refine lv_goto (tgt := 22) hx hb dX9_swaps_12 (by decide) ?_
  refine g_iret C hr hH (Nat.le_of_ble_eq_true rfl) (Nat.le_of_ble_eq_true rfl) dX9_swaps_22 ?_
  exact ⟨rfl, rfl, rfl⟩
set_option maxHeartbeats 4000000 in
set_option maxRecDepth 100000 in
theorem k_swap (l : Launch) (E : gE) (L : List Nat) (f : gF) {x xt xn xr xi xw xs xl xc xh xf xm : Nat} (mx : x ∈ L) (fx : f x = .inr (9, [.ref xt, .ref xn, .ref xr, .ref xi, .ref xw, .ref xs, .ref xl, .ref xc, .ref xh, .ref xf, .ref xm])) {na : Nat → Nat} (mn : xn ∈ L) (fn : f xn = .inr (3, [.int (0 : Int32), .int (0 : Int32), .int (0 : Int32), .int (0 : Int32), .int (0 : Int32), .int (0 : Int32), .int (0 : Int32), .int (0 : Int32), .int (0 : Int32), .int (0 : Int32), .ref (na 0), .ref (na 1), .ref (na 2), .ref (na 3), .ref (na 4), .ref (na 5), .ref (na 6), .ref (na 7), .ref (na 8), .ref (na 9)])) : gMi l E yX9_swap cX9_swap 1 .int (gRm 5 0 0) [.ref x] L f (gRO (-2 : Int32) L f) := by
  refine gMi.intro (by decide) (Nat.le_of_ble_eq_true rfl) ?_
  intro p e s m below meth c A ls C hr hA hH hl
  have C : gC E cX9_swap 1 RX9 p s m _ meth c := C
  have hl : lv_has ls 1 [(0, .ref x)] := hl
  have hx := C.1
  have hb := C.2.1
  refine lv_aload_n hx hb dX9_swap_0 rfl (lv_at hl 0 rfl) ?_
  refine g_get C hH mx fx iX9 rfl 1 (by decide) wd18 rfl rfl dX9_swap_1 ?_
  refine g_Vi C hl.1 hA hH (As := []) (rest := []) (k_isNone l E L f mn fn) my_X3_isNone wd19 mn fn rfl rfl rfl (Nat.le_of_ble_eq_true rfl) ⟨Nat.le_of_ble_eq_true rfl, Nat.le_of_ble_eq_true rfl⟩ ⟨Nat.le_of_ble_eq_true rfl, Nat.le_of_ble_eq_true rfl⟩ dX9_swap_4 (fun r3 L2 f1 H locs hp hH => ?_)
  obtain ⟨er3, rfl, rfl⟩ := hp
  subst er3
  refine lv_if_eq (tgt := 15) hx hb dX9_swap_7 (by decide) (fun h => absurd h (by decide)) (fun _ => ?_)
  refine lv_bipush (v := (-2 : Int32)) hx hb dX9_swap_10 (by decide) ?_
  refine lv_goto (tgt := 22) hx hb dX9_swap_12 (by decide) ?_
  refine g_iret C hr hH (Nat.le_of_ble_eq_true rfl) (Nat.le_of_ble_eq_true rfl) dX9_swap_22 ?_
  exact ⟨rfl, rfl, rfl⟩
set_option maxHeartbeats 4000000 in
set_option maxRecDepth 100000 in
theorem k_price (l : Launch) (E : gE) (L : List Nat) (f : gF) {x xt xn xr xi xw xs xl xc xh xf xm : Nat} (mx : x ∈ L) (fx : f x = .inr (9, [.ref xt, .ref xn, .ref xr, .ref xi, .ref xw, .ref xs, .ref xl, .ref xc, .ref xh, .ref xf, .ref xm])) {na : Nat → Nat} (mn : xn ∈ L) (fn : f xn = .inr (3, [.int (0 : Int32), .int (0 : Int32), .int (0 : Int32), .int (0 : Int32), .int (0 : Int32), .int (0 : Int32), .int (0 : Int32), .int (0 : Int32), .int (0 : Int32), .int (0 : Int32), .ref (na 0), .ref (na 1), .ref (na 2), .ref (na 3), .ref (na 4), .ref (na 5), .ref (na 6), .ref (na 7), .ref (na 8), .ref (na 9)])) (p0 : Int32) : gMi l E yX9_price cX9_price 3 .int (gRm 5 0 0) [.ref x, .int p0] L f (gRO (-2 : Int32) L f) := by
  refine gMi.intro (by decide) (Nat.le_of_ble_eq_true rfl) ?_
  intro p e s m below meth c A ls C hr hA hH hl
  have C : gC E cX9_price 3 RX9 p s m _ meth c := C
  have hl : lv_has ls 3 [(0, .ref x), (1, .int p0)] := hl
  have hx := C.1
  have hb := C.2.1
  refine lv_aload_n hx hb dX9_price_0 rfl (lv_at hl 0 rfl) ?_
  refine g_get C hH mx fx iX9 rfl 1 (by decide) wd18 rfl rfl dX9_price_1 ?_
  refine g_Vi C hl.1 hA hH (As := []) (rest := []) (k_isNone l E L f mn fn) my_X3_isNone wd19 mn fn rfl rfl rfl (Nat.le_of_ble_eq_true rfl) ⟨Nat.le_of_ble_eq_true rfl, Nat.le_of_ble_eq_true rfl⟩ ⟨Nat.le_of_ble_eq_true rfl, Nat.le_of_ble_eq_true rfl⟩ dX9_price_4 (fun r3 L2 f1 H locs hp hH => ?_)
  obtain ⟨er3, rfl, rfl⟩ := hp
  subst er3
  refine lv_if_ne (tgt := 21) hx hb dX9_price_7 (by decide) (fun _ => ?_) (fun h => absurd h (by decide))
  refine lv_bipush (v := (-2 : Int32)) hx hb dX9_price_21 (by decide) ?_
  refine g_iret C hr hH (Nat.le_of_ble_eq_true rfl) (Nat.le_of_ble_eq_true rfl) dX9_price_23 ?_
  exact ⟨rfl, rfl, rfl⟩
set_option maxHeartbeats 4000000 in
set_option maxRecDepth 100000 in
theorem k_cut (l : Launch) (E : gE) (L : List Nat) (f : gF) {x xt xn xr xi xw xs xl xc xh xf xm : Nat} (mx : x ∈ L) (fx : f x = .inr (9, [.ref xt, .ref xn, .ref xr, .ref xi, .ref xw, .ref xs, .ref xl, .ref xc, .ref xh, .ref xf, .ref xm])) {na : Nat → Nat} (mn : xn ∈ L) (fn : f xn = .inr (3, [.int (0 : Int32), .int (0 : Int32), .int (0 : Int32), .int (0 : Int32), .int (0 : Int32), .int (0 : Int32), .int (0 : Int32), .int (0 : Int32), .int (0 : Int32), .int (0 : Int32), .ref (na 0), .ref (na 1), .ref (na 2), .ref (na 3), .ref (na 4), .ref (na 5), .ref (na 6), .ref (na 7), .ref (na 8), .ref (na 9)])) (p0 p1 : Int32) : gMi l E yX9_cut cX9_cut 3 .int (gRm 5 0 0) [.ref x, .int p0, .int p1] L f (gRO (-2 : Int32) L f) := by
  refine gMi.intro (by decide) (Nat.le_of_ble_eq_true rfl) ?_
  intro p e s m below meth c A ls C hr hA hH hl
  have C : gC E cX9_cut 3 RX9 p s m _ meth c := C
  have hl : lv_has ls 3 [(0, .ref x), (1, .int p0), (2, .int p1)] := hl
  have hx := C.1
  have hb := C.2.1
  refine lv_aload_n hx hb dX9_cut_0 rfl (lv_at hl 0 rfl) ?_
  refine g_get C hH mx fx iX9 rfl 1 (by decide) wd18 rfl rfl dX9_cut_1 ?_
  refine lv_iload_n hx hb dX9_cut_4 rfl (lv_at hl 1 rfl) ?_
  refine g_Vi C hl.1 hA hH (As := [.int p0]) (rest := []) (k_hasMember l E L f mn fn p0) my_X3_hasMember wd27 mn fn rfl rfl rfl (Nat.le_of_ble_eq_true rfl) ⟨Nat.le_of_ble_eq_true rfl, Nat.le_of_ble_eq_true rfl⟩ ⟨Nat.le_of_ble_eq_true rfl, Nat.le_of_ble_eq_true rfl⟩ dX9_cut_5 (fun r3 L2 f1 H locs hp hH => ?_)
  obtain ⟨er3, rfl, rfl⟩ := hp
  subst er3
  refine lv_if_eq (tgt := 18) hx hb dX9_cut_8 (by decide) (fun _ => ?_) (fun h => absurd (by decide) h)
  refine lv_bipush (v := (-2 : Int32)) hx hb dX9_cut_18 (by decide) ?_
  refine g_iret C hr hH (Nat.le_of_ble_eq_true rfl) (Nat.le_of_ble_eq_true rfl) dX9_cut_20 ?_
  exact ⟨rfl, rfl, rfl⟩
set_option maxHeartbeats 4000000 in
set_option maxRecDepth 100000 in
theorem k_rests (l : Launch) (E : gE) (L : List Nat) (f : gF) {x xt xn xr xi xw xs xl xc xh xf xm : Nat} (mx : x ∈ L) (fx : f x = .inr (9, [.ref xt, .ref xn, .ref xr, .ref xi, .ref xw, .ref xs, .ref xl, .ref xc, .ref xh, .ref xf, .ref xm])) {na : Nat → Nat} (mn : xn ∈ L) (fn : f xn = .inr (3, [.int (0 : Int32), .int (0 : Int32), .int (0 : Int32), .int (0 : Int32), .int (0 : Int32), .int (0 : Int32), .int (0 : Int32), .int (0 : Int32), .int (0 : Int32), .int (0 : Int32), .ref (na 0), .ref (na 1), .ref (na 2), .ref (na 3), .ref (na 4), .ref (na 5), .ref (na 6), .ref (na 7), .ref (na 8), .ref (na 9)])) (p0 p1 : Int32) : gMi l E yX9_rests cX9_rests 6 .int (gRm 5 0 0) [.ref x, .int p0, .int p1] L f (gRO (-2 : Int32) L f) := by
  refine gMi.intro (by decide) (Nat.le_of_ble_eq_true rfl) ?_
  intro p e s m below meth c A ls C hr hA hH hl
  have C : gC E cX9_rests 6 RX9 p s m _ meth c := C
  have hl : lv_has ls 6 [(0, .ref x), (1, .int p0), (2, .int p1)] := hl
  have hx := C.1
  have hb := C.2.1
  refine lv_aload_n hx hb dX9_rests_0 rfl (lv_at hl 0 rfl) ?_
  refine lv_iload_n hx hb dX9_rests_1 rfl (lv_at hl 1 rfl) ?_
  refine lv_iload_n hx hb dX9_rests_2 rfl (lv_at hl 2 rfl) ?_
  refine g_Vi C hl.1 hA hH (As := [.int p0, .int p1]) (rest := []) (k_areTwo l E L f mx fx mn fn p0 p1) my_X9_areTwo wd51 mx fx rfl rfl rfl (Nat.le_of_ble_eq_true rfl) ⟨Nat.le_of_ble_eq_true rfl, Nat.le_of_ble_eq_true rfl⟩ ⟨Nat.le_of_ble_eq_true rfl, Nat.le_of_ble_eq_true rfl⟩ dX9_rests_3 (fun r3 L2 f1 H locs hp hH => ?_)
  obtain ⟨er3, rfl, rfl⟩ := hp
  subst er3
  refine lv_if_ne (tgt := 12) hx hb dX9_rests_6 (by decide) (fun h => absurd (by decide) h) (fun _ => ?_)
  refine lv_bipush (v := (-2 : Int32)) hx hb dX9_rests_9 (by decide) ?_
  refine g_iret C hr hH (Nat.le_of_ble_eq_true rfl) (Nat.le_of_ble_eq_true rfl) dX9_rests_11 ?_
  exact ⟨rfl, rfl, rfl⟩
set_option maxHeartbeats 4000000 in
set_option maxRecDepth 100000 in
theorem k_chance (l : Launch) (E : gE) (L : List Nat) (f : gF) {x xt xn xr xi xw xs xl xc xh xf xm : Nat} (mx : x ∈ L) (fx : f x = .inr (9, [.ref xt, .ref xn, .ref xr, .ref xi, .ref xw, .ref xs, .ref xl, .ref xc, .ref xh, .ref xf, .ref xm])) {na : Nat → Nat} (mn : xn ∈ L) (fn : f xn = .inr (3, [.int (0 : Int32), .int (0 : Int32), .int (0 : Int32), .int (0 : Int32), .int (0 : Int32), .int (0 : Int32), .int (0 : Int32), .int (0 : Int32), .int (0 : Int32), .int (0 : Int32), .ref (na 0), .ref (na 1), .ref (na 2), .ref (na 3), .ref (na 4), .ref (na 5), .ref (na 6), .ref (na 7), .ref (na 8), .ref (na 9)])) (p0 p1 : Int32) : gMi l E yX9_chance cX9_chance 3 .int (gRm 5 0 0) [.ref x, .int p0, .int p1] L f (gRO (-2 : Int32) L f) := by
  refine gMi.intro (by decide) (Nat.le_of_ble_eq_true rfl) ?_
  intro p e s m below meth c A ls C hr hA hH hl
  have C : gC E cX9_chance 3 RX9 p s m _ meth c := C
  have hl : lv_has ls 3 [(0, .ref x), (1, .int p0), (2, .int p1)] := hl
  have hx := C.1
  have hb := C.2.1
  refine lv_aload_n hx hb dX9_chance_0 rfl (lv_at hl 0 rfl) ?_
  refine g_get C hH mx fx iX9 rfl 1 (by decide) wd18 rfl rfl dX9_chance_1 ?_
  refine lv_iload_n hx hb dX9_chance_4 rfl (lv_at hl 1 rfl) ?_
  refine g_Vi C hl.1 hA hH (As := [.int p0]) (rest := []) (k_hasMember l E L f mn fn p0) my_X3_hasMember wd27 mn fn rfl rfl rfl (Nat.le_of_ble_eq_true rfl) ⟨Nat.le_of_ble_eq_true rfl, Nat.le_of_ble_eq_true rfl⟩ ⟨Nat.le_of_ble_eq_true rfl, Nat.le_of_ble_eq_true rfl⟩ dX9_chance_5 (fun r3 L2 f1 H locs hp hH => ?_)
  obtain ⟨er3, rfl, rfl⟩ := hp
  subst er3
  refine lv_if_eq (tgt := 18) hx hb dX9_chance_8 (by decide) (fun _ => ?_) (fun h => absurd (by decide) h)
  refine lv_bipush (v := (-2 : Int32)) hx hb dX9_chance_18 (by decide) ?_
  refine g_iret C hr hH (Nat.le_of_ble_eq_true rfl) (Nat.le_of_ble_eq_true rfl) dX9_chance_20 ?_
  exact ⟨rfl, rfl, rfl⟩
set_option maxHeartbeats 4000000 in
set_option maxRecDepth 100000 in
theorem k_mean (l : Launch) (E : gE) (L : List Nat) (f : gF) {x xt xn xr xi xw xs xl xc xh xf xm : Nat} (mx : x ∈ L) (fx : f x = .inr (9, [.ref xt, .ref xn, .ref xr, .ref xi, .ref xw, .ref xs, .ref xl, .ref xc, .ref xh, .ref xf, .ref xm])) {na : Nat → Nat} (mn : xn ∈ L) (fn : f xn = .inr (3, [.int (0 : Int32), .int (0 : Int32), .int (0 : Int32), .int (0 : Int32), .int (0 : Int32), .int (0 : Int32), .int (0 : Int32), .int (0 : Int32), .int (0 : Int32), .int (0 : Int32), .ref (na 0), .ref (na 1), .ref (na 2), .ref (na 3), .ref (na 4), .ref (na 5), .ref (na 6), .ref (na 7), .ref (na 8), .ref (na 9)])) (p0 : Int32) : gMi l E yX9_mean cX9_mean 2 .int (gRm 5 0 0) [.ref x, .int p0] L f (gRO (-2 : Int32) L f) := by
  refine gMi.intro (by decide) (Nat.le_of_ble_eq_true rfl) ?_
  intro p e s m below meth c A ls C hr hA hH hl
  have C : gC E cX9_mean 2 RX9 p s m _ meth c := C
  have hl : lv_has ls 2 [(0, .ref x), (1, .int p0)] := hl
  have hx := C.1
  have hb := C.2.1
  refine lv_aload_n hx hb dX9_mean_0 rfl (lv_at hl 0 rfl) ?_
  refine g_get C hH mx fx iX9 rfl 1 (by decide) wd18 rfl rfl dX9_mean_1 ?_
  refine g_Vi C hl.1 hA hH (As := []) (rest := []) (k_isNone l E L f mn fn) my_X3_isNone wd19 mn fn rfl rfl rfl (Nat.le_of_ble_eq_true rfl) ⟨Nat.le_of_ble_eq_true rfl, Nat.le_of_ble_eq_true rfl⟩ ⟨Nat.le_of_ble_eq_true rfl, Nat.le_of_ble_eq_true rfl⟩ dX9_mean_4 (fun r3 L2 f1 H locs hp hH => ?_)
  obtain ⟨er3, rfl, rfl⟩ := hp
  subst er3
  refine lv_if_ne (tgt := 17) hx hb dX9_mean_7 (by decide) (fun _ => ?_) (fun h => absurd h (by decide))
  refine lv_bipush (v := (-2 : Int32)) hx hb dX9_mean_17 (by decide) ?_
  refine g_iret C hr hH (Nat.le_of_ble_eq_true rfl) (Nat.le_of_ble_eq_true rfl) dX9_mean_19 ?_
  exact ⟨rfl, rfl, rfl⟩
set_option maxHeartbeats 4000000 in
set_option maxRecDepth 100000 in
theorem k_flown (l : Launch) (E : gE) (L : List Nat) (f : gF) {x xt xn xr xi xw xs xl xc xh xf xm : Nat} (mx : x ∈ L) (fx : f x = .inr (9, [.ref xt, .ref xn, .ref xr, .ref xi, .ref xw, .ref xs, .ref xl, .ref xc, .ref xh, .ref xf, .ref xm])) {na : Nat → Nat} (mn : xn ∈ L) (fn : f xn = .inr (3, [.int (0 : Int32), .int (0 : Int32), .int (0 : Int32), .int (0 : Int32), .int (0 : Int32), .int (0 : Int32), .int (0 : Int32), .int (0 : Int32), .int (0 : Int32), .int (0 : Int32), .ref (na 0), .ref (na 1), .ref (na 2), .ref (na 3), .ref (na 4), .ref (na 5), .ref (na 6), .ref (na 7), .ref (na 8), .ref (na 9)])) (p0 p1 : Int32) : gMi l E yX9_flown cX9_flown 3 .int (gRm 5 0 0) [.ref x, .int p0, .int p1] L f (gRO (-2 : Int32) L f) := by
  refine gMi.intro (by decide) (Nat.le_of_ble_eq_true rfl) ?_
  intro p e s m below meth c A ls C hr hA hH hl
  have C : gC E cX9_flown 3 RX9 p s m _ meth c := C
  have hl : lv_has ls 3 [(0, .ref x), (1, .int p0), (2, .int p1)] := hl
  have hx := C.1
  have hb := C.2.1
  refine lv_aload_n hx hb dX9_flown_0 rfl (lv_at hl 0 rfl) ?_
  refine g_get C hH mx fx iX9 rfl 1 (by decide) wd18 rfl rfl dX9_flown_1 ?_
  refine g_Vi C hl.1 hA hH (As := []) (rest := []) (k_isNone l E L f mn fn) my_X3_isNone wd19 mn fn rfl rfl rfl (Nat.le_of_ble_eq_true rfl) ⟨Nat.le_of_ble_eq_true rfl, Nat.le_of_ble_eq_true rfl⟩ ⟨Nat.le_of_ble_eq_true rfl, Nat.le_of_ble_eq_true rfl⟩ dX9_flown_4 (fun r3 L2 f1 H locs hp hH => ?_)
  obtain ⟨er3, rfl, rfl⟩ := hp
  subst er3
  refine lv_if_ne (tgt := 26) hx hb dX9_flown_7 (by decide) (fun _ => ?_) (fun h => absurd h (by decide))
  refine lv_bipush (v := (-2 : Int32)) hx hb dX9_flown_26 (by decide) ?_
  refine g_iret C hr hH (Nat.le_of_ble_eq_true rfl) (Nat.le_of_ble_eq_true rfl) dX9_flown_28 ?_
  exact ⟨rfl, rfl, rfl⟩
set_option maxHeartbeats 4000000 in
set_option maxRecDepth 100000 in
theorem k_light (l : Launch) (E : gE) (L : List Nat) (f : gF) {x xt xn xr xi xw xs xl xc xh xf xm : Nat} (mx : x ∈ L) (fx : f x = .inr (9, [.ref xt, .ref xn, .ref xr, .ref xi, .ref xw, .ref xs, .ref xl, .ref xc, .ref xh, .ref xf, .ref xm])) {na : Nat → Nat} (mn : xn ∈ L) (fn : f xn = .inr (3, [.int (0 : Int32), .int (0 : Int32), .int (0 : Int32), .int (0 : Int32), .int (0 : Int32), .int (0 : Int32), .int (0 : Int32), .int (0 : Int32), .int (0 : Int32), .int (0 : Int32), .ref (na 0), .ref (na 1), .ref (na 2), .ref (na 3), .ref (na 4), .ref (na 5), .ref (na 6), .ref (na 7), .ref (na 8), .ref (na 9)])) (p0 p1 : Int32) : gMi l E yX9_light cX9_light 3 .int (gRm 5 0 0) [.ref x, .int p0, .int p1] L f (gRO (-2 : Int32) L f) := by
  refine gMi.intro (by decide) (Nat.le_of_ble_eq_true rfl) ?_
  intro p e s m below meth c A ls C hr hA hH hl
  have C : gC E cX9_light 3 RX9 p s m _ meth c := C
  have hl : lv_has ls 3 [(0, .ref x), (1, .int p0), (2, .int p1)] := hl
  have hx := C.1
  have hb := C.2.1
  refine lv_aload_n hx hb dX9_light_0 rfl (lv_at hl 0 rfl) ?_
  refine g_get C hH mx fx iX9 rfl 1 (by decide) wd18 rfl rfl dX9_light_1 ?_
  refine lv_iload_n hx hb dX9_light_4 rfl (lv_at hl 1 rfl) ?_
  refine g_Vi C hl.1 hA hH (As := [.int p0]) (rest := []) (k_hasCell l E L f mn fn p0) my_X3_hasCell wd35 mn fn rfl rfl rfl (Nat.le_of_ble_eq_true rfl) ⟨Nat.le_of_ble_eq_true rfl, Nat.le_of_ble_eq_true rfl⟩ ⟨Nat.le_of_ble_eq_true rfl, Nat.le_of_ble_eq_true rfl⟩ dX9_light_5 (fun r3 L2 f1 H locs hp hH => ?_)
  obtain ⟨er3, rfl, rfl⟩ := hp
  subst er3
  refine lv_if_eq (tgt := 18) hx hb dX9_light_8 (by decide) (fun _ => ?_) (fun h => absurd (by decide) h)
  refine lv_bipush (v := (-2 : Int32)) hx hb dX9_light_18 (by decide) ?_
  refine g_iret C hr hH (Nat.le_of_ble_eq_true rfl) (Nat.le_of_ble_eq_true rfl) dX9_light_20 ?_
  exact ⟨rfl, rfl, rfl⟩
set_option maxHeartbeats 4000000 in
set_option maxRecDepth 100000 in
theorem k_turn (l : Launch) (E : gE) (L : List Nat) (f : gF) {x xt xn xr xi xw xs xl xc xh xf xm : Nat} (mx : x ∈ L) (fx : f x = .inr (9, [.ref xt, .ref xn, .ref xr, .ref xi, .ref xw, .ref xs, .ref xl, .ref xc, .ref xh, .ref xf, .ref xm])) {na : Nat → Nat} (mn : xn ∈ L) (fn : f xn = .inr (3, [.int (0 : Int32), .int (0 : Int32), .int (0 : Int32), .int (0 : Int32), .int (0 : Int32), .int (0 : Int32), .int (0 : Int32), .int (0 : Int32), .int (0 : Int32), .int (0 : Int32), .ref (na 0), .ref (na 1), .ref (na 2), .ref (na 3), .ref (na 4), .ref (na 5), .ref (na 6), .ref (na 7), .ref (na 8), .ref (na 9)])) (p0 p1 : Int32) : gMi l E yX9_turn cX9_turn 3 .int (gRm 5 0 0) [.ref x, .int p0, .int p1] L f (gRO (-2 : Int32) L f) := by
  refine gMi.intro (by decide) (Nat.le_of_ble_eq_true rfl) ?_
  intro p e s m below meth c A ls C hr hA hH hl
  have C : gC E cX9_turn 3 RX9 p s m _ meth c := C
  have hl : lv_has ls 3 [(0, .ref x), (1, .int p0), (2, .int p1)] := hl
  have hx := C.1
  have hb := C.2.1
  refine lv_aload_n hx hb dX9_turn_0 rfl (lv_at hl 0 rfl) ?_
  refine g_get C hH mx fx iX9 rfl 1 (by decide) wd18 rfl rfl dX9_turn_1 ?_
  refine lv_iload_n hx hb dX9_turn_4 rfl (lv_at hl 1 rfl) ?_
  refine g_Vi C hl.1 hA hH (As := [.int p0]) (rest := []) (k_hasFlight l E L f mn fn p0) my_X3_hasFlight wd31 mn fn rfl rfl rfl (Nat.le_of_ble_eq_true rfl) ⟨Nat.le_of_ble_eq_true rfl, Nat.le_of_ble_eq_true rfl⟩ ⟨Nat.le_of_ble_eq_true rfl, Nat.le_of_ble_eq_true rfl⟩ dX9_turn_5 (fun r3 L2 f1 H locs hp hH => ?_)
  obtain ⟨er3, rfl, rfl⟩ := hp
  subst er3
  refine lv_if_eq (tgt := 20) hx hb dX9_turn_8 (by decide) (fun _ => ?_) (fun h => absurd (by decide) h)
  refine lv_bipush (v := (-2 : Int32)) hx hb dX9_turn_20 (by decide) ?_
  refine g_iret C hr hH (Nat.le_of_ble_eq_true rfl) (Nat.le_of_ble_eq_true rfl) dX9_turn_22 ?_
  exact ⟨rfl, rfl, rfl⟩
set_option maxHeartbeats 4000000 in
set_option maxRecDepth 100000 in
theorem k_undo (l : Launch) (E : gE) (L : List Nat) (f : gF) {x xt xn xr xi xw xs xl xc xh xf xm : Nat} (mx : x ∈ L) (fx : f x = .inr (9, [.ref xt, .ref xn, .ref xr, .ref xi, .ref xw, .ref xs, .ref xl, .ref xc, .ref xh, .ref xf, .ref xm])) {na : Nat → Nat} (mn : xn ∈ L) (fn : f xn = .inr (3, [.int (0 : Int32), .int (0 : Int32), .int (0 : Int32), .int (0 : Int32), .int (0 : Int32), .int (0 : Int32), .int (0 : Int32), .int (0 : Int32), .int (0 : Int32), .int (0 : Int32), .ref (na 0), .ref (na 1), .ref (na 2), .ref (na 3), .ref (na 4), .ref (na 5), .ref (na 6), .ref (na 7), .ref (na 8), .ref (na 9)])) : gMi l E yX9_undo cX9_undo 1 .int (gRm 5 0 0) [.ref x] L f (gRO (-2 : Int32) L f) := by
  refine gMi.intro (by decide) (Nat.le_of_ble_eq_true rfl) ?_
  intro p e s m below meth c A ls C hr hA hH hl
  have C : gC E cX9_undo 1 RX9 p s m _ meth c := C
  have hl : lv_has ls 1 [(0, .ref x)] := hl
  have hx := C.1
  have hb := C.2.1
  refine lv_aload_n hx hb dX9_undo_0 rfl (lv_at hl 0 rfl) ?_
  refine g_get C hH mx fx iX9 rfl 1 (by decide) wd18 rfl rfl dX9_undo_1 ?_
  refine g_Vi C hl.1 hA hH (As := []) (rest := []) (k_isNone l E L f mn fn) my_X3_isNone wd19 mn fn rfl rfl rfl (Nat.le_of_ble_eq_true rfl) ⟨Nat.le_of_ble_eq_true rfl, Nat.le_of_ble_eq_true rfl⟩ ⟨Nat.le_of_ble_eq_true rfl, Nat.le_of_ble_eq_true rfl⟩ dX9_undo_4 (fun r3 L2 f1 H locs hp hH => ?_)
  obtain ⟨er3, rfl, rfl⟩ := hp
  subst er3
  refine lv_if_eq (tgt := 13) hx hb dX9_undo_7 (by decide) (fun h => absurd h (by decide)) (fun _ => ?_)
  refine lv_bipush (v := (-2 : Int32)) hx hb dX9_undo_10 (by decide) ?_
  refine g_iret C hr hH (Nat.le_of_ble_eq_true rfl) (Nat.le_of_ble_eq_true rfl) dX9_undo_12 ?_
  exact ⟨rfl, rfl, rfl⟩
set_option maxHeartbeats 4000000 in
set_option maxRecDepth 100000 in
theorem k_anew (l : Launch) (E : gE) (L : List Nat) (f : gF) {x xt xn xr xi xw xs xl xc xh xf xm : Nat} (mx : x ∈ L) (fx : f x = .inr (9, [.ref xt, .ref xn, .ref xr, .ref xi, .ref xw, .ref xs, .ref xl, .ref xc, .ref xh, .ref xf, .ref xm])) {na : Nat → Nat} (mn : xn ∈ L) (fn : f xn = .inr (3, [.int (0 : Int32), .int (0 : Int32), .int (0 : Int32), .int (0 : Int32), .int (0 : Int32), .int (0 : Int32), .int (0 : Int32), .int (0 : Int32), .int (0 : Int32), .int (0 : Int32), .ref (na 0), .ref (na 1), .ref (na 2), .ref (na 3), .ref (na 4), .ref (na 5), .ref (na 6), .ref (na 7), .ref (na 8), .ref (na 9)])) : gMi l E yX9_anew cX9_anew 3 .int (gRm 5 0 0) [.ref x] L f (gRO (-2 : Int32) L f) := by
  refine gMi.intro (by decide) (Nat.le_of_ble_eq_true rfl) ?_
  intro p e s m below meth c A ls C hr hA hH hl
  have C : gC E cX9_anew 3 RX9 p s m _ meth c := C
  have hl : lv_has ls 3 [(0, .ref x)] := hl
  have hx := C.1
  have hb := C.2.1
  refine lv_aload_n hx hb dX9_anew_0 rfl (lv_at hl 0 rfl) ?_
  refine g_get C hH mx fx iX9 rfl 1 (by decide) wd18 rfl rfl dX9_anew_1 ?_
  refine g_Vi C hl.1 hA hH (As := []) (rest := []) (k_isNone l E L f mn fn) my_X3_isNone wd19 mn fn rfl rfl rfl (Nat.le_of_ble_eq_true rfl) ⟨Nat.le_of_ble_eq_true rfl, Nat.le_of_ble_eq_true rfl⟩ ⟨Nat.le_of_ble_eq_true rfl, Nat.le_of_ble_eq_true rfl⟩ dX9_anew_4 (fun r3 L2 f1 H locs hp hH => ?_)
  obtain ⟨er3, rfl, rfl⟩ := hp
  subst er3
  refine lv_if_eq (tgt := 13) hx hb dX9_anew_7 (by decide) (fun h => absurd h (by decide)) (fun _ => ?_)
  refine lv_bipush (v := (-2 : Int32)) hx hb dX9_anew_10 (by decide) ?_
  refine g_iret C hr hH (Nat.le_of_ble_eq_true rfl) (Nat.le_of_ble_eq_true rfl) dX9_anew_12 ?_
  exact ⟨rfl, rfl, rfl⟩
set_option maxHeartbeats 4000000 in
set_option maxRecDepth 100000 in
theorem k_drawn (l : Launch) (E : gE) (L : List Nat) (f : gF) {x xt xn xr xi xw xs xl xc xh xf xm : Nat} (mx : x ∈ L) (fx : f x = .inr (9, [.ref xt, .ref xn, .ref xr, .ref xi, .ref xw, .ref xs, .ref xl, .ref xc, .ref xh, .ref xf, .ref xm])) {na : Nat → Nat} (mn : xn ∈ L) (fn : f xn = .inr (3, [.int (0 : Int32), .int (0 : Int32), .int (0 : Int32), .int (0 : Int32), .int (0 : Int32), .int (0 : Int32), .int (0 : Int32), .int (0 : Int32), .int (0 : Int32), .int (0 : Int32), .ref (na 0), .ref (na 1), .ref (na 2), .ref (na 3), .ref (na 4), .ref (na 5), .ref (na 6), .ref (na 7), .ref (na 8), .ref (na 9)])) (p0 p1 : Int32) : gMi l E yX9_drawn cX9_drawn 4 .int (gRm 5 0 0) [.ref x, .int p0, .int p1] L f (gRO (-2 : Int32) L f) := by
  refine gMi.intro (by decide) (Nat.le_of_ble_eq_true rfl) ?_
  intro p e s m below meth c A ls C hr hA hH hl
  have C : gC E cX9_drawn 4 RX9 p s m _ meth c := C
  have hl : lv_has ls 4 [(0, .ref x), (1, .int p0), (2, .int p1)] := hl
  have hx := C.1
  have hb := C.2.1
  refine lv_aload_n hx hb dX9_drawn_0 rfl (lv_at hl 0 rfl) ?_
  refine g_get C hH mx fx iX9 rfl 1 (by decide) wd18 rfl rfl dX9_drawn_1 ?_
  refine g_Vi C hl.1 hA hH (As := []) (rest := []) (k_isNone l E L f mn fn) my_X3_isNone wd19 mn fn rfl rfl rfl (Nat.le_of_ble_eq_true rfl) ⟨Nat.le_of_ble_eq_true rfl, Nat.le_of_ble_eq_true rfl⟩ ⟨Nat.le_of_ble_eq_true rfl, Nat.le_of_ble_eq_true rfl⟩ dX9_drawn_4 (fun r3 L2 f1 H locs hp hH => ?_)
  obtain ⟨er3, rfl, rfl⟩ := hp
  subst er3
  refine lv_if_ne (tgt := 26) hx hb dX9_drawn_7 (by decide) (fun _ => ?_) (fun h => absurd h (by decide))
  refine lv_bipush (v := (-2 : Int32)) hx hb dX9_drawn_26 (by decide) ?_
  refine g_iret C hr hH (Nat.le_of_ble_eq_true rfl) (Nat.le_of_ble_eq_true rfl) dX9_drawn_28 ?_
  exact ⟨rfl, rfl, rfl⟩
set_option maxHeartbeats 4000000 in
set_option maxRecDepth 100000 in
theorem k_luck (l : Launch) (E : gE) (L : List Nat) (f : gF) {x xt xn xr xi xw xs xl xc xh xf xm : Nat} (mx : x ∈ L) (fx : f x = .inr (9, [.ref xt, .ref xn, .ref xr, .ref xi, .ref xw, .ref xs, .ref xl, .ref xc, .ref xh, .ref xf, .ref xm])) {na : Nat → Nat} (mn : xn ∈ L) (fn : f xn = .inr (3, [.int (0 : Int32), .int (0 : Int32), .int (0 : Int32), .int (0 : Int32), .int (0 : Int32), .int (0 : Int32), .int (0 : Int32), .int (0 : Int32), .int (0 : Int32), .int (0 : Int32), .ref (na 0), .ref (na 1), .ref (na 2), .ref (na 3), .ref (na 4), .ref (na 5), .ref (na 6), .ref (na 7), .ref (na 8), .ref (na 9)])) (p0 p1 p2 : Int32) : gMi l E yX9_luck cX9_luck 6 .int (gRm 5 0 0) [.ref x, .int p0, .int p1, .int p2] L f (gRO (-2 : Int32) L f) := by
  refine gMi.intro (by decide) (Nat.le_of_ble_eq_true rfl) ?_
  intro p e s m below meth c A ls C hr hA hH hl
  have C : gC E cX9_luck 6 RX9 p s m _ meth c := C
  have hl : lv_has ls 6 [(0, .ref x), (1, .int p0), (2, .int p1), (3, .int p2)] := hl
  have hx := C.1
  have hb := C.2.1
  refine lv_aload_n hx hb dX9_luck_0 rfl (lv_at hl 0 rfl) ?_
  refine g_get C hH mx fx iX9 rfl 1 (by decide) wd18 rfl rfl dX9_luck_1 ?_
  refine lv_iload_n hx hb dX9_luck_4 rfl (lv_at hl 3 rfl) ?_
  refine g_Vi C hl.1 hA hH (As := [.int p2]) (rest := []) (k_hasMember l E L f mn fn p2) my_X3_hasMember wd27 mn fn rfl rfl rfl (Nat.le_of_ble_eq_true rfl) ⟨Nat.le_of_ble_eq_true rfl, Nat.le_of_ble_eq_true rfl⟩ ⟨Nat.le_of_ble_eq_true rfl, Nat.le_of_ble_eq_true rfl⟩ dX9_luck_5 (fun r3 L2 f1 H locs hp hH => ?_)
  obtain ⟨er3, rfl, rfl⟩ := hp
  subst er3
  refine lv_if_eq (tgt := 29) hx hb dX9_luck_8 (by decide) (fun _ => ?_) (fun h => absurd (by decide) h)
  refine lv_bipush (v := (-2 : Int32)) hx hb dX9_luck_29 (by decide) ?_
  refine g_iret C hr hH (Nat.le_of_ble_eq_true rfl) (Nat.le_of_ble_eq_true rfl) dX9_luck_31 ?_
  exact ⟨rfl, rfl, rfl⟩
set_option maxHeartbeats 4000000 in
set_option maxRecDepth 100000 in
theorem k_rate (l : Launch) (E : gE) (L : List Nat) (f : gF) {x xt xn xr xi xw xs xl xc xh xf xm : Nat} (mx : x ∈ L) (fx : f x = .inr (9, [.ref xt, .ref xn, .ref xr, .ref xi, .ref xw, .ref xs, .ref xl, .ref xc, .ref xh, .ref xf, .ref xm])) {na : Nat → Nat} (mn : xn ∈ L) (fn : f xn = .inr (3, [.int (0 : Int32), .int (0 : Int32), .int (0 : Int32), .int (0 : Int32), .int (0 : Int32), .int (0 : Int32), .int (0 : Int32), .int (0 : Int32), .int (0 : Int32), .int (0 : Int32), .ref (na 0), .ref (na 1), .ref (na 2), .ref (na 3), .ref (na 4), .ref (na 5), .ref (na 6), .ref (na 7), .ref (na 8), .ref (na 9)])) (p0 p1 : Int32) : gMi l E yX9_rate cX9_rate 4 .int (gRm 5 0 0) [.ref x, .int p0, .int p1] L f (gRO (-2 : Int32) L f) := by
  refine gMi.intro (by decide) (Nat.le_of_ble_eq_true rfl) ?_
  intro p e s m below meth c A ls C hr hA hH hl
  have C : gC E cX9_rate 4 RX9 p s m _ meth c := C
  have hl : lv_has ls 4 [(0, .ref x), (1, .int p0), (2, .int p1)] := hl
  have hx := C.1
  have hb := C.2.1
  refine lv_aload_n hx hb dX9_rate_0 rfl (lv_at hl 0 rfl) ?_
  refine g_get C hH mx fx iX9 rfl 1 (by decide) wd18 rfl rfl dX9_rate_1 ?_
  refine lv_iload_n hx hb dX9_rate_4 rfl (lv_at hl 1 rfl) ?_
  refine g_Vi C hl.1 hA hH (As := [.int p0]) (rest := []) (k_hasMember l E L f mn fn p0) my_X3_hasMember wd27 mn fn rfl rfl rfl (Nat.le_of_ble_eq_true rfl) ⟨Nat.le_of_ble_eq_true rfl, Nat.le_of_ble_eq_true rfl⟩ ⟨Nat.le_of_ble_eq_true rfl, Nat.le_of_ble_eq_true rfl⟩ dX9_rate_5 (fun r3 L2 f1 H locs hp hH => ?_)
  obtain ⟨er3, rfl, rfl⟩ := hp
  subst er3
  refine lv_if_eq (tgt := 21) hx hb dX9_rate_8 (by decide) (fun _ => ?_) (fun h => absurd (by decide) h)
  refine lv_bipush (v := (-2 : Int32)) hx hb dX9_rate_21 (by decide) ?_
  refine g_iret C hr hH (Nat.le_of_ble_eq_true rfl) (Nat.le_of_ble_eq_true rfl) dX9_rate_23 ?_
  exact ⟨rfl, rfl, rfl⟩
set_option maxHeartbeats 4000000 in
set_option maxRecDepth 100000 in
theorem k_has (l : Launch) (E : gE) (L : List Nat) (f : gF) {x xt xn xr xi xw xs xl xc xh xf xm : Nat} (mx : x ∈ L) (fx : f x = .inr (9, [.ref xt, .ref xn, .ref xr, .ref xi, .ref xw, .ref xs, .ref xl, .ref xc, .ref xh, .ref xf, .ref xm])) {na : Nat → Nat} (mn : xn ∈ L) (fn : f xn = .inr (3, [.int (0 : Int32), .int (0 : Int32), .int (0 : Int32), .int (0 : Int32), .int (0 : Int32), .int (0 : Int32), .int (0 : Int32), .int (0 : Int32), .int (0 : Int32), .int (0 : Int32), .ref (na 0), .ref (na 1), .ref (na 2), .ref (na 3), .ref (na 4), .ref (na 5), .ref (na 6), .ref (na 7), .ref (na 8), .ref (na 9)])) (p0 p1 p2 p3 : Int32) : gMi l E yX9_has cX9_has 5 .int (gRm 5 0 0) [.ref x, .int p0, .int p1, .int p2, .int p3] L f (gRO (-1000 : Int32) L f) := by
  refine gMi.intro (by decide) (Nat.le_of_ble_eq_true rfl) ?_
  intro p e s m below meth c A ls C hr hA hH hl
  have C : gC E cX9_has 5 RX9 p s m _ meth c := C
  have hl : lv_has ls 5 [(0, .ref x), (1, .int p0), (2, .int p1), (3, .int p2), (4, .int p3)] := hl
  have hx := C.1
  have hb := C.2.1
  refine lv_aload_n hx hb dX9_has_0 rfl (lv_at hl 0 rfl) ?_
  refine lv_iload_n hx hb dX9_has_1 rfl (lv_at hl 1 rfl) ?_
  refine lv_iload_n hx hb dX9_has_2 rfl (lv_at hl 2 rfl) ?_
  refine g_Vi C hl.1 hA hH (As := [.int p0, .int p1]) (rest := []) (k_areTwo l E L f mx fx mn fn p0 p1) my_X9_areTwo wd51 mx fx rfl rfl rfl (Nat.le_of_ble_eq_true rfl) ⟨Nat.le_of_ble_eq_true rfl, Nat.le_of_ble_eq_true rfl⟩ ⟨Nat.le_of_ble_eq_true rfl, Nat.le_of_ble_eq_true rfl⟩ dX9_has_3 (fun r3 L2 f1 H locs hp hH => ?_)
  obtain ⟨er3, rfl, rfl⟩ := hp
  subst er3
  refine lv_if_eq (tgt := 24) hx hb dX9_has_6 (by decide) (fun _ => ?_) (fun h => absurd (by decide) h)
  refine lv_sipush (v := (-1000 : Int32)) hx hb dX9_has_24 (by decide) ?_
  refine g_iret C hr hH (Nat.le_of_ble_eq_true rfl) (Nat.le_of_ble_eq_true rfl) dX9_has_27 ?_
  exact ⟨rfl, rfl, rfl⟩
