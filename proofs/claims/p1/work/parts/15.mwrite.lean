theorem gIn_cases (v : Int32) (b : Int64) : (gIn v.toInt64 0 b = 0 ∧ (v.toInt < 0 ∨ b.toInt < v.toInt)) ∨ (¬ gIn v.toInt64 0 b = 0 ∧ 0 ≤ v.toInt ∧ v.toInt ≤ b.toInt) := by
  rw [gIn_eq, Int32.toInt_toInt64]
  have e0 : (0 : Int64).toInt = 0 := by decide
  rw [e0]
  by_cases h : v.toInt < 0
  · exact Or.inl ⟨if_pos h, Or.inl h⟩
  · rw [if_neg h]
    by_cases h2 : b.toInt < v.toInt
    · exact Or.inl ⟨if_pos h2, Or.inr h2⟩
    · rw [if_neg h2]
      exact Or.inr ⟨by decide, by omega, by omega⟩
theorem gIn_no {v : Int32} {b : Int64} (h : gIn v.toInt64 0 b = 0) : v.toInt < 0 ∨ b.toInt < v.toInt := (gIn_cases v b).elim (fun q => q.2) (fun q => absurd h q.1)
theorem gIn_yes {v : Int32} {b : Int64} (h : ¬ gIn v.toInt64 0 b = 0) : 0 ≤ v.toInt ∧ v.toInt ≤ b.toInt := (gIn_cases v b).elim (fun q => absurd q.1 h) (fun q => q.2)
theorem ti0 : (0 : Int32).toInt = 0 := by decide
theorem ti3 : (3 : Int32).toInt = 3 := by decide
theorem ti4 : (4 : Int32).toInt = 4 := by decide
theorem tl0 : (0 : Int64).toInt = 0 := by decide
theorem tl2 : (2 : Int64).toInt = 2 := by decide
theorem tl3 : (3 : Int64).toInt = 3 := by decide
theorem g_n60 {x : Int32} (h : 0 ≤ x) (h2 : x ≤ 60) : ∃ n : Nat, n ≤ 60 ∧ x = nI n := nI_of2 (n := 60) (M := 60) (by decide) (fun q => by rw [fa_lt, ti0] at q; rw [fa_le, ti0] at h; omega) h2
theorem gIn_end0 {z : Int32} (h : gIn z.toInt64 0 0 = 0) : (-1 : Int32) = gEnd z := by
  have h1 := gIn_no h
  rw [tl0] at h1
  unfold gEnd
  by_cases h2 : z < 0
  · rw [if_pos h2]
  · rw [if_neg h2, if_neg]
    rw [fa_le, ti0]; rw [fa_lt, ti0] at h2
    omega
theorem gIn_end1 {z : Int32} (h : ¬ gIn z.toInt64 0 0 = 0) : z = gEnd z := by
  have h1 := gIn_yes h
  rw [tl0] at h1
  unfold gEnd
  rw [if_neg (by rw [fa_lt, ti0]; omega), if_pos (by rw [fa_le, ti0]; omega)]
theorem gIn_in2 {z : Int32} (h : ¬ gIn z.toInt64 0 2 = 0) : vp_in z 3 := by
  have h1 := gIn_yes h
  rw [tl2] at h1
  exact vp_inL ⟨by omega, by omega⟩
theorem gIn_k0 {z X : Int32} (h : gIn z.toInt64 0 2 = 0) : (if z < 0 then (-2 : Int32) else if z < 3 then X else -2) = -2 := by
  have h1 := gIn_no h
  rw [tl2] at h1
  by_cases h2 : z < 0
  · rw [if_pos h2]
  · rw [if_neg h2, if_neg]
    rw [fa_lt, ti3]; rw [fa_lt, ti0] at h2
    omega
theorem gIn_k1 {z X : Int32} (h : ¬ gIn z.toInt64 0 2 = 0) : (if z < 0 then (-2 : Int32) else if z < 3 then X else -2) = X := by
  have h1 := gIn_yes h
  rw [tl2] at h1
  rw [if_neg (by rw [fa_lt, ti0]; omega), if_pos (by rw [fa_lt, ti3]; omega)]
theorem gIn_back0 {z : Int32} (h : gIn z.toInt64 0 2 = 0) : (-2 : Int32) = gBack z := (gIn_k0 h).symm
theorem gIn_back1 {z : Int32} (h : ¬ gIn z.toInt64 0 2 = 0) : (-6 : Int32) = gBack z := (gIn_k1 h).symm
theorem gIn_image0 {z : Int32} (h : gIn z.toInt64 0 2 = 0) : (-2 : Int32) = gImage z := (gIn_k0 h).symm
theorem gIn_image1 {z : Int32} (h : ¬ gIn z.toInt64 0 2 = 0) : (0 : Int32) = gImage z := (gIn_k1 h).symm
theorem gRow_w {w X : Int32} (h : ¬ gIn w.toInt64 0 3 = 0) : (if w < 0 then (-2 : Int32) else if 4 ≤ w then -2 else X) = X := by
  have h1 := gIn_yes h
  rw [tl3] at h1
  rw [if_neg (by rw [fa_lt, ti0]; omega), if_neg (by rw [fa_le, ti4]; omega)]
theorem gRow_w0 {w X : Int32} (h : gIn w.toInt64 0 3 = 0) : (if w < 0 then (-2 : Int32) else if 4 ≤ w then -2 else X) = -2 := by
  have h1 := gIn_no h
  rw [tl3] at h1
  by_cases h2 : w < 0
  · rw [if_pos h2]
  · rw [if_neg h2, if_pos]
    rw [fa_le, ti4]; rw [fa_lt, ti0] at h2
    omega
set_option maxHeartbeats 4000000 in
set_option maxRecDepth 100000 in
theorem m_four0 (l : Launch) (E : gE) (L : List Nat) (f : gF) {y : Nat} {ya : Nat → Nat} (my : y ∈ L) (fy : f y = .inr (10, [.int (0 : Int32), .ref (ya 1), .ref (ya 2), .ref (ya 3), .ref (ya 4), .ref (ya 5), .int (0 : Int32), .int (0 : Int32), .int (0 : Int32), .int (0 : Int32), .int (0 : Int32), .long (0 : Int64), .int (0 : Int32), .int (0 : Int32), .int (0 : Int32), .int (-1 : Int32), .ref (ya 16), .ref (ya 17), .ref (ya 18), .ref (ya 19), .ref (ya 20), .ref (ya 21), .int (0 : Int32), .int (0 : Int32), .int (0 : Int32), .ref (ya 25), .ref (ya 26), .ref (ya 27), .ref (ya 28), .ref (ya 29), .ref (ya 30), .ref (ya 31), .ref (ya 32), .ref (ya 33), .ref (ya 34), .ref (ya 35), .int (0 : Int32), .int (0 : Int32), .ref (ya 38), .int (0 : Int32), .int (0 : Int32), .ref (ya 41), .ref (ya 42), .int (0 : Int32), .int (0 : Int32), .int (0 : Int32), .int (0 : Int32), .int (0 : Int32)])) {v : Nat → Int32} (m_t : (ya 5) ∈ L) (f_t : f (ya 5) = .inl (E.2.2 0, 800, .inl v)) (p0 : Int32) : gMv l E yX10_four cX10_four 3 (gRm 1 0 0) [.ref y, .int p0] L f (fun L1 f1 => L = L1 ∧ f1 y = .inr (10, [.int (0 : Int32), .ref (ya 1), .ref (ya 2), .ref (ya 3), .ref (ya 4), .ref (ya 5), .int (4 : Int32), .int (0 : Int32), .int (0 : Int32), .int (0 : Int32), .int (0 : Int32), .long (0 : Int64), .int (0 : Int32), .int (0 : Int32), .int (0 : Int32), .int (-1 : Int32), .ref (ya 16), .ref (ya 17), .ref (ya 18), .ref (ya 19), .ref (ya 20), .ref (ya 21), .int (0 : Int32), .int (0 : Int32), .int (0 : Int32), .ref (ya 25), .ref (ya 26), .ref (ya 27), .ref (ya 28), .ref (ya 29), .ref (ya 30), .ref (ya 31), .ref (ya 32), .ref (ya 33), .ref (ya 34), .ref (ya 35), .int (0 : Int32), .int (0 : Int32), .ref (ya 38), .int (0 : Int32), .int (0 : Int32), .ref (ya 41), .ref (ya 42), .int (0 : Int32), .int (0 : Int32), .int (0 : Int32), .int (0 : Int32), .int (0 : Int32)]) ∧ (∃ z, f1 (ya 5) = .inl (E.2.2 0, 800, .inl z)) ∧ ∀ b, b ≠ y → b ≠ (ya 5) → f1 b = f b) := by
  refine gMv.intro (by decide) (Nat.le_of_ble_eq_true rfl) ?_
  intro p e s m below meth c A ls C hr hnm hA hH hl
  have C : gC E cX10_four 3 RX10 p s m _ meth c := C
  have hl : lv_has ls 3 [(0, .ref y), (1, .int p0)] := hl
  have hx := C.1
  have hb := C.2.1
  refine lv_bipush (v := (24 : Int32)) hx hb dX10_four_0 (by decide) ?_
  refine lv_istore_n (lv' := [(2, .int (24 : Int32)), (0, .ref y), (1, .int p0)]) hx hb dX10_four_2 rfl hl (by decide) rfl (fun ls hl => ?_)
  refine lv_iload_n hx hb dX10_four_3 rfl (lv_at hl 0 rfl) ?_
  refine lv_if_lt (tgt := 36) hx hb dX10_four_4 (by decide) (fun h => absurd h (by decide)) (fun _ => ?_)
  refine lv_aload_n hx hb dX10_four_7 rfl (lv_at hl 1 rfl) ?_
  refine g_get C hH my fy iX10 rfl 5 (by decide) wd307 rfl rfl dX10_four_8 ?_
  refine lv_aload_n hx hb dX10_four_11 rfl (lv_at hl 1 rfl) ?_
  refine g_get C hH my fy iX10 rfl 6 (by decide) wd308 rfl rfl dX10_four_12 ?_
  refine lv_iload_n hx hb dX10_four_15 rfl (lv_at hl 2 rfl) ?_
  refine lv_iload_n hx hb dX10_four_16 rfl (lv_at hl 0 rfl) ?_
  refine lv_ishr hx hb dX10_four_17 ?_
  refine lv_topi (fun z1 ez1 => ?_)
  refine lv_i2b (v := (z1).toInt8.toInt32) hx hb dX10_four_18 rfl ?_
  refine g_bast C hH m_t f_t (vp_inL (by decide)) dX10_four_19 (fun H locs hH => ?_)
  obtain ⟨f2, ef2⟩ : ∃ z : gF, z = va_up f (ya 5) (.inl (E.2.2 0, 800, .inl (upd v ((0 : Int32)).toNatClampNeg (vp_nar .byte ((z1).toInt8.toInt32))))) := ⟨_, rfl⟩
  have hH : gH E A L f2 s.heap H locs := by rw [ef2]; exact hH
  have h3 : f2 (ya 5) = .inl (E.2.2 0, 800, .inl (upd v ((0 : Int32)).toNatClampNeg (vp_nar .byte ((z1).toInt8.toInt32)))) := (congrFun ef2 (ya 5)).trans (va_up_self _ _ _)
  refine lv_aload_n hx hb dX10_four_20 rfl (lv_at hl 1 rfl) ?_
  refine lv_dup hx hb dX10_four_21 rfl ?_
  have h4 : f2 y = .inr (10, [.int (0 : Int32), .ref (ya 1), .ref (ya 2), .ref (ya 3), .ref (ya 4), .ref (ya 5), .int (0 : Int32), .int (0 : Int32), .int (0 : Int32), .int (0 : Int32), .int (0 : Int32), .long (0 : Int64), .int (0 : Int32), .int (0 : Int32), .int (0 : Int32), .int (-1 : Int32), .ref (ya 16), .ref (ya 17), .ref (ya 18), .ref (ya 19), .ref (ya 20), .ref (ya 21), .int (0 : Int32), .int (0 : Int32), .int (0 : Int32), .ref (ya 25), .ref (ya 26), .ref (ya 27), .ref (ya 28), .ref (ya 29), .ref (ya 30), .ref (ya 31), .ref (ya 32), .ref (ya 33), .ref (ya 34), .ref (ya 35), .int (0 : Int32), .int (0 : Int32), .ref (ya 38), .int (0 : Int32), .int (0 : Int32), .ref (ya 41), .ref (ya 42), .int (0 : Int32), .int (0 : Int32), .int (0 : Int32), .int (0 : Int32), .int (0 : Int32)]) := ((congrFun ef2 y).trans (va_up_ne _ _ (g_neOA fy f_t))).trans fy
  refine g_get C hH my h4 iX10 rfl 6 (by decide) wd308 rfl rfl dX10_four_22 ?_
  refine lv_iconst (v := (1 : Int32)) hx hb dX10_four_25 (by decide) ?_
  refine lv_iadd hx hb dX10_four_26 ?_
  refine lv_topi (fun z5 ez5 => ?_)
  obtain rfl : z5 = (1 : Int32) := ez5.trans (by decide)
  refine g_put C hH my h4 iX10 tyX10 tyX10_ok nmX10 rfl 6 (by decide) wd308 rfl rfl rfl rfl (Nat.le_of_ble_eq_true rfl) (fs' := [.int (0 : Int32), .ref (ya 1), .ref (ya 2), .ref (ya 3), .ref (ya 4), .ref (ya 5), .int (1 : Int32), .int (0 : Int32), .int (0 : Int32), .int (0 : Int32), .int (0 : Int32), .long (0 : Int64), .int (0 : Int32), .int (0 : Int32), .int (0 : Int32), .int (-1 : Int32), .ref (ya 16), .ref (ya 17), .ref (ya 18), .ref (ya 19), .ref (ya 20), .ref (ya 21), .int (0 : Int32), .int (0 : Int32), .int (0 : Int32), .ref (ya 25), .ref (ya 26), .ref (ya 27), .ref (ya 28), .ref (ya 29), .ref (ya 30), .ref (ya 31), .ref (ya 32), .ref (ya 33), .ref (ya 34), .ref (ya 35), .int (0 : Int32), .int (0 : Int32), .ref (ya 38), .int (0 : Int32), .int (0 : Int32), .ref (ya 41), .ref (ya 42), .int (0 : Int32), .int (0 : Int32), .int (0 : Int32), .int (0 : Int32), .int (0 : Int32)]) rfl dX10_four_27 (fun H locs hH => ?_)
  obtain ⟨f6, ef6⟩ : ∃ z : gF, z = va_up f2 y (.inr (10, [.int (0 : Int32), .ref (ya 1), .ref (ya 2), .ref (ya 3), .ref (ya 4), .ref (ya 5), .int (1 : Int32), .int (0 : Int32), .int (0 : Int32), .int (0 : Int32), .int (0 : Int32), .long (0 : Int64), .int (0 : Int32), .int (0 : Int32), .int (0 : Int32), .int (-1 : Int32), .ref (ya 16), .ref (ya 17), .ref (ya 18), .ref (ya 19), .ref (ya 20), .ref (ya 21), .int (0 : Int32), .int (0 : Int32), .int (0 : Int32), .ref (ya 25), .ref (ya 26), .ref (ya 27), .ref (ya 28), .ref (ya 29), .ref (ya 30), .ref (ya 31), .ref (ya 32), .ref (ya 33), .ref (ya 34), .ref (ya 35), .int (0 : Int32), .int (0 : Int32), .ref (ya 38), .int (0 : Int32), .int (0 : Int32), .ref (ya 41), .ref (ya 42), .int (0 : Int32), .int (0 : Int32), .int (0 : Int32), .int (0 : Int32), .int (0 : Int32)])) := ⟨_, rfl⟩
  have hH : gH E A L f6 s.heap H locs := by rw [ef6]; exact hH
  have h7 : f6 y = .inr (10, [.int (0 : Int32), .ref (ya 1), .ref (ya 2), .ref (ya 3), .ref (ya 4), .ref (ya 5), .int (1 : Int32), .int (0 : Int32), .int (0 : Int32), .int (0 : Int32), .int (0 : Int32), .long (0 : Int64), .int (0 : Int32), .int (0 : Int32), .int (0 : Int32), .int (-1 : Int32), .ref (ya 16), .ref (ya 17), .ref (ya 18), .ref (ya 19), .ref (ya 20), .ref (ya 21), .int (0 : Int32), .int (0 : Int32), .int (0 : Int32), .ref (ya 25), .ref (ya 26), .ref (ya 27), .ref (ya 28), .ref (ya 29), .ref (ya 30), .ref (ya 31), .ref (ya 32), .ref (ya 33), .ref (ya 34), .ref (ya 35), .int (0 : Int32), .int (0 : Int32), .ref (ya 38), .int (0 : Int32), .int (0 : Int32), .ref (ya 41), .ref (ya 42), .int (0 : Int32), .int (0 : Int32), .int (0 : Int32), .int (0 : Int32), .int (0 : Int32)]) := (congrFun ef6 y).trans (va_up_self _ _ _)
  refine lv_iinc (v := (16 : Int32)) (lv' := [(2, .int (16 : Int32)), (0, .ref y), (1, .int p0)]) hx hb dX10_four_30 hl (k := 0) rfl (by decide) (by decide) rfl (fun ls hl => ?_)
  refine lv_goto (tgt := 3) hx hb dX10_four_33 (by decide) ?_
  refine lv_iload_n hx hb dX10_four_3 rfl (lv_at hl 0 rfl) ?_
  refine lv_if_lt (tgt := 36) hx hb dX10_four_4 (by decide) (fun h => absurd h (by decide)) (fun _ => ?_)
  refine lv_aload_n hx hb dX10_four_7 rfl (lv_at hl 1 rfl) ?_
  refine g_get C hH my h7 iX10 rfl 5 (by decide) wd307 rfl rfl dX10_four_8 ?_
  refine lv_aload_n hx hb dX10_four_11 rfl (lv_at hl 1 rfl) ?_
  refine g_get C hH my h7 iX10 rfl 6 (by decide) wd308 rfl rfl dX10_four_12 ?_
  refine lv_iload_n hx hb dX10_four_15 rfl (lv_at hl 2 rfl) ?_
  refine lv_iload_n hx hb dX10_four_16 rfl (lv_at hl 0 rfl) ?_
  refine lv_ishr hx hb dX10_four_17 ?_
  refine lv_topi (fun z8 ez8 => ?_)
  refine lv_i2b (v := (z8).toInt8.toInt32) hx hb dX10_four_18 rfl ?_
  have h9 : f6 (ya 5) = .inl (E.2.2 0, 800, .inl (upd v ((0 : Int32)).toNatClampNeg (vp_nar .byte ((z1).toInt8.toInt32)))) := ((congrFun ef6 (ya 5)).trans (va_up_ne _ _ (g_neAO h3 h4))).trans h3
  refine g_bast C hH m_t h9 (vp_inL (by decide)) dX10_four_19 (fun H locs hH => ?_)
  obtain ⟨f10, ef10⟩ : ∃ z : gF, z = va_up f6 (ya 5) (.inl (E.2.2 0, 800, .inl (upd (upd v ((0 : Int32)).toNatClampNeg (vp_nar .byte ((z1).toInt8.toInt32))) ((1 : Int32)).toNatClampNeg (vp_nar .byte ((z8).toInt8.toInt32))))) := ⟨_, rfl⟩
  have hH : gH E A L f10 s.heap H locs := by rw [ef10]; exact hH
  have h11 : f10 (ya 5) = .inl (E.2.2 0, 800, .inl (upd (upd v ((0 : Int32)).toNatClampNeg (vp_nar .byte ((z1).toInt8.toInt32))) ((1 : Int32)).toNatClampNeg (vp_nar .byte ((z8).toInt8.toInt32)))) := (congrFun ef10 (ya 5)).trans (va_up_self _ _ _)
  refine lv_aload_n hx hb dX10_four_20 rfl (lv_at hl 1 rfl) ?_
  refine lv_dup hx hb dX10_four_21 rfl ?_
  have h12 : f10 y = .inr (10, [.int (0 : Int32), .ref (ya 1), .ref (ya 2), .ref (ya 3), .ref (ya 4), .ref (ya 5), .int (1 : Int32), .int (0 : Int32), .int (0 : Int32), .int (0 : Int32), .int (0 : Int32), .long (0 : Int64), .int (0 : Int32), .int (0 : Int32), .int (0 : Int32), .int (-1 : Int32), .ref (ya 16), .ref (ya 17), .ref (ya 18), .ref (ya 19), .ref (ya 20), .ref (ya 21), .int (0 : Int32), .int (0 : Int32), .int (0 : Int32), .ref (ya 25), .ref (ya 26), .ref (ya 27), .ref (ya 28), .ref (ya 29), .ref (ya 30), .ref (ya 31), .ref (ya 32), .ref (ya 33), .ref (ya 34), .ref (ya 35), .int (0 : Int32), .int (0 : Int32), .ref (ya 38), .int (0 : Int32), .int (0 : Int32), .ref (ya 41), .ref (ya 42), .int (0 : Int32), .int (0 : Int32), .int (0 : Int32), .int (0 : Int32), .int (0 : Int32)]) := ((congrFun ef10 y).trans (va_up_ne _ _ (g_neOA h7 h9))).trans h7
  refine g_get C hH my h12 iX10 rfl 6 (by decide) wd308 rfl rfl dX10_four_22 ?_
  refine lv_iconst (v := (1 : Int32)) hx hb dX10_four_25 (by decide) ?_
  refine lv_iadd hx hb dX10_four_26 ?_
  refine lv_topi (fun z13 ez13 => ?_)
  obtain rfl : z13 = (2 : Int32) := ez13.trans (by decide)
  refine g_put C hH my h12 iX10 tyX10 tyX10_ok nmX10 rfl 6 (by decide) wd308 rfl rfl rfl rfl (Nat.le_of_ble_eq_true rfl) (fs' := [.int (0 : Int32), .ref (ya 1), .ref (ya 2), .ref (ya 3), .ref (ya 4), .ref (ya 5), .int (2 : Int32), .int (0 : Int32), .int (0 : Int32), .int (0 : Int32), .int (0 : Int32), .long (0 : Int64), .int (0 : Int32), .int (0 : Int32), .int (0 : Int32), .int (-1 : Int32), .ref (ya 16), .ref (ya 17), .ref (ya 18), .ref (ya 19), .ref (ya 20), .ref (ya 21), .int (0 : Int32), .int (0 : Int32), .int (0 : Int32), .ref (ya 25), .ref (ya 26), .ref (ya 27), .ref (ya 28), .ref (ya 29), .ref (ya 30), .ref (ya 31), .ref (ya 32), .ref (ya 33), .ref (ya 34), .ref (ya 35), .int (0 : Int32), .int (0 : Int32), .ref (ya 38), .int (0 : Int32), .int (0 : Int32), .ref (ya 41), .ref (ya 42), .int (0 : Int32), .int (0 : Int32), .int (0 : Int32), .int (0 : Int32), .int (0 : Int32)]) rfl dX10_four_27 (fun H locs hH => ?_)
  obtain ⟨f14, ef14⟩ : ∃ z : gF, z = va_up f10 y (.inr (10, [.int (0 : Int32), .ref (ya 1), .ref (ya 2), .ref (ya 3), .ref (ya 4), .ref (ya 5), .int (2 : Int32), .int (0 : Int32), .int (0 : Int32), .int (0 : Int32), .int (0 : Int32), .long (0 : Int64), .int (0 : Int32), .int (0 : Int32), .int (0 : Int32), .int (-1 : Int32), .ref (ya 16), .ref (ya 17), .ref (ya 18), .ref (ya 19), .ref (ya 20), .ref (ya 21), .int (0 : Int32), .int (0 : Int32), .int (0 : Int32), .ref (ya 25), .ref (ya 26), .ref (ya 27), .ref (ya 28), .ref (ya 29), .ref (ya 30), .ref (ya 31), .ref (ya 32), .ref (ya 33), .ref (ya 34), .ref (ya 35), .int (0 : Int32), .int (0 : Int32), .ref (ya 38), .int (0 : Int32), .int (0 : Int32), .ref (ya 41), .ref (ya 42), .int (0 : Int32), .int (0 : Int32), .int (0 : Int32), .int (0 : Int32), .int (0 : Int32)])) := ⟨_, rfl⟩
  have hH : gH E A L f14 s.heap H locs := by rw [ef14]; exact hH
  have h15 : f14 y = .inr (10, [.int (0 : Int32), .ref (ya 1), .ref (ya 2), .ref (ya 3), .ref (ya 4), .ref (ya 5), .int (2 : Int32), .int (0 : Int32), .int (0 : Int32), .int (0 : Int32), .int (0 : Int32), .long (0 : Int64), .int (0 : Int32), .int (0 : Int32), .int (0 : Int32), .int (-1 : Int32), .ref (ya 16), .ref (ya 17), .ref (ya 18), .ref (ya 19), .ref (ya 20), .ref (ya 21), .int (0 : Int32), .int (0 : Int32), .int (0 : Int32), .ref (ya 25), .ref (ya 26), .ref (ya 27), .ref (ya 28), .ref (ya 29), .ref (ya 30), .ref (ya 31), .ref (ya 32), .ref (ya 33), .ref (ya 34), .ref (ya 35), .int (0 : Int32), .int (0 : Int32), .ref (ya 38), .int (0 : Int32), .int (0 : Int32), .ref (ya 41), .ref (ya 42), .int (0 : Int32), .int (0 : Int32), .int (0 : Int32), .int (0 : Int32), .int (0 : Int32)]) := (congrFun ef14 y).trans (va_up_self _ _ _)
  refine lv_iinc (v := (8 : Int32)) (lv' := [(2, .int (8 : Int32)), (0, .ref y), (1, .int p0)]) hx hb dX10_four_30 hl (k := 0) rfl (by decide) (by decide) rfl (fun ls hl => ?_)
  refine lv_goto (tgt := 3) hx hb dX10_four_33 (by decide) ?_
  refine lv_iload_n hx hb dX10_four_3 rfl (lv_at hl 0 rfl) ?_
  refine lv_if_lt (tgt := 36) hx hb dX10_four_4 (by decide) (fun h => absurd h (by decide)) (fun _ => ?_)
  refine lv_aload_n hx hb dX10_four_7 rfl (lv_at hl 1 rfl) ?_
  refine g_get C hH my h15 iX10 rfl 5 (by decide) wd307 rfl rfl dX10_four_8 ?_
  refine lv_aload_n hx hb dX10_four_11 rfl (lv_at hl 1 rfl) ?_
  refine g_get C hH my h15 iX10 rfl 6 (by decide) wd308 rfl rfl dX10_four_12 ?_
  refine lv_iload_n hx hb dX10_four_15 rfl (lv_at hl 2 rfl) ?_
  refine lv_iload_n hx hb dX10_four_16 rfl (lv_at hl 0 rfl) ?_
  refine lv_ishr hx hb dX10_four_17 ?_
  refine lv_topi (fun z16 ez16 => ?_)
  refine lv_i2b (v := (z16).toInt8.toInt32) hx hb dX10_four_18 rfl ?_
  have h17 : f14 (ya 5) = .inl (E.2.2 0, 800, .inl (upd (upd v ((0 : Int32)).toNatClampNeg (vp_nar .byte ((z1).toInt8.toInt32))) ((1 : Int32)).toNatClampNeg (vp_nar .byte ((z8).toInt8.toInt32)))) := ((congrFun ef14 (ya 5)).trans (va_up_ne _ _ (g_neAO h11 h12))).trans h11
  refine g_bast C hH m_t h17 (vp_inL (by decide)) dX10_four_19 (fun H locs hH => ?_)
  obtain ⟨f18, ef18⟩ : ∃ z : gF, z = va_up f14 (ya 5) (.inl (E.2.2 0, 800, .inl (upd (upd (upd v ((0 : Int32)).toNatClampNeg (vp_nar .byte ((z1).toInt8.toInt32))) ((1 : Int32)).toNatClampNeg (vp_nar .byte ((z8).toInt8.toInt32))) ((2 : Int32)).toNatClampNeg (vp_nar .byte ((z16).toInt8.toInt32))))) := ⟨_, rfl⟩
  have hH : gH E A L f18 s.heap H locs := by rw [ef18]; exact hH
  have h19 : f18 (ya 5) = .inl (E.2.2 0, 800, .inl (upd (upd (upd v ((0 : Int32)).toNatClampNeg (vp_nar .byte ((z1).toInt8.toInt32))) ((1 : Int32)).toNatClampNeg (vp_nar .byte ((z8).toInt8.toInt32))) ((2 : Int32)).toNatClampNeg (vp_nar .byte ((z16).toInt8.toInt32)))) := (congrFun ef18 (ya 5)).trans (va_up_self _ _ _)
  refine lv_aload_n hx hb dX10_four_20 rfl (lv_at hl 1 rfl) ?_
  refine lv_dup hx hb dX10_four_21 rfl ?_
  have h20 : f18 y = .inr (10, [.int (0 : Int32), .ref (ya 1), .ref (ya 2), .ref (ya 3), .ref (ya 4), .ref (ya 5), .int (2 : Int32), .int (0 : Int32), .int (0 : Int32), .int (0 : Int32), .int (0 : Int32), .long (0 : Int64), .int (0 : Int32), .int (0 : Int32), .int (0 : Int32), .int (-1 : Int32), .ref (ya 16), .ref (ya 17), .ref (ya 18), .ref (ya 19), .ref (ya 20), .ref (ya 21), .int (0 : Int32), .int (0 : Int32), .int (0 : Int32), .ref (ya 25), .ref (ya 26), .ref (ya 27), .ref (ya 28), .ref (ya 29), .ref (ya 30), .ref (ya 31), .ref (ya 32), .ref (ya 33), .ref (ya 34), .ref (ya 35), .int (0 : Int32), .int (0 : Int32), .ref (ya 38), .int (0 : Int32), .int (0 : Int32), .ref (ya 41), .ref (ya 42), .int (0 : Int32), .int (0 : Int32), .int (0 : Int32), .int (0 : Int32), .int (0 : Int32)]) := ((congrFun ef18 y).trans (va_up_ne _ _ (g_neOA h15 h17))).trans h15
  refine g_get C hH my h20 iX10 rfl 6 (by decide) wd308 rfl rfl dX10_four_22 ?_
  refine lv_iconst (v := (1 : Int32)) hx hb dX10_four_25 (by decide) ?_
  refine lv_iadd hx hb dX10_four_26 ?_
  refine lv_topi (fun z21 ez21 => ?_)
  obtain rfl : z21 = (3 : Int32) := ez21.trans (by decide)
  refine g_put C hH my h20 iX10 tyX10 tyX10_ok nmX10 rfl 6 (by decide) wd308 rfl rfl rfl rfl (Nat.le_of_ble_eq_true rfl) (fs' := [.int (0 : Int32), .ref (ya 1), .ref (ya 2), .ref (ya 3), .ref (ya 4), .ref (ya 5), .int (3 : Int32), .int (0 : Int32), .int (0 : Int32), .int (0 : Int32), .int (0 : Int32), .long (0 : Int64), .int (0 : Int32), .int (0 : Int32), .int (0 : Int32), .int (-1 : Int32), .ref (ya 16), .ref (ya 17), .ref (ya 18), .ref (ya 19), .ref (ya 20), .ref (ya 21), .int (0 : Int32), .int (0 : Int32), .int (0 : Int32), .ref (ya 25), .ref (ya 26), .ref (ya 27), .ref (ya 28), .ref (ya 29), .ref (ya 30), .ref (ya 31), .ref (ya 32), .ref (ya 33), .ref (ya 34), .ref (ya 35), .int (0 : Int32), .int (0 : Int32), .ref (ya 38), .int (0 : Int32), .int (0 : Int32), .ref (ya 41), .ref (ya 42), .int (0 : Int32), .int (0 : Int32), .int (0 : Int32), .int (0 : Int32), .int (0 : Int32)]) rfl dX10_four_27 (fun H locs hH => ?_)
  obtain ⟨f22, ef22⟩ : ∃ z : gF, z = va_up f18 y (.inr (10, [.int (0 : Int32), .ref (ya 1), .ref (ya 2), .ref (ya 3), .ref (ya 4), .ref (ya 5), .int (3 : Int32), .int (0 : Int32), .int (0 : Int32), .int (0 : Int32), .int (0 : Int32), .long (0 : Int64), .int (0 : Int32), .int (0 : Int32), .int (0 : Int32), .int (-1 : Int32), .ref (ya 16), .ref (ya 17), .ref (ya 18), .ref (ya 19), .ref (ya 20), .ref (ya 21), .int (0 : Int32), .int (0 : Int32), .int (0 : Int32), .ref (ya 25), .ref (ya 26), .ref (ya 27), .ref (ya 28), .ref (ya 29), .ref (ya 30), .ref (ya 31), .ref (ya 32), .ref (ya 33), .ref (ya 34), .ref (ya 35), .int (0 : Int32), .int (0 : Int32), .ref (ya 38), .int (0 : Int32), .int (0 : Int32), .ref (ya 41), .ref (ya 42), .int (0 : Int32), .int (0 : Int32), .int (0 : Int32), .int (0 : Int32), .int (0 : Int32)])) := ⟨_, rfl⟩
  have hH : gH E A L f22 s.heap H locs := by rw [ef22]; exact hH
  have h23 : f22 y = .inr (10, [.int (0 : Int32), .ref (ya 1), .ref (ya 2), .ref (ya 3), .ref (ya 4), .ref (ya 5), .int (3 : Int32), .int (0 : Int32), .int (0 : Int32), .int (0 : Int32), .int (0 : Int32), .long (0 : Int64), .int (0 : Int32), .int (0 : Int32), .int (0 : Int32), .int (-1 : Int32), .ref (ya 16), .ref (ya 17), .ref (ya 18), .ref (ya 19), .ref (ya 20), .ref (ya 21), .int (0 : Int32), .int (0 : Int32), .int (0 : Int32), .ref (ya 25), .ref (ya 26), .ref (ya 27), .ref (ya 28), .ref (ya 29), .ref (ya 30), .ref (ya 31), .ref (ya 32), .ref (ya 33), .ref (ya 34), .ref (ya 35), .int (0 : Int32), .int (0 : Int32), .ref (ya 38), .int (0 : Int32), .int (0 : Int32), .ref (ya 41), .ref (ya 42), .int (0 : Int32), .int (0 : Int32), .int (0 : Int32), .int (0 : Int32), .int (0 : Int32)]) := (congrFun ef22 y).trans (va_up_self _ _ _)
  refine lv_iinc (v := (0 : Int32)) (lv' := [(2, .int (0 : Int32)), (0, .ref y), (1, .int p0)]) hx hb dX10_four_30 hl (k := 0) rfl (by decide) (by decide) rfl (fun ls hl => ?_)
  refine lv_goto (tgt := 3) hx hb dX10_four_33 (by decide) ?_
  refine lv_iload_n hx hb dX10_four_3 rfl (lv_at hl 0 rfl) ?_
  refine lv_if_lt (tgt := 36) hx hb dX10_four_4 (by decide) (fun h => absurd h (by decide)) (fun _ => ?_)
  refine lv_aload_n hx hb dX10_four_7 rfl (lv_at hl 1 rfl) ?_
  refine g_get C hH my h23 iX10 rfl 5 (by decide) wd307 rfl rfl dX10_four_8 ?_
  refine lv_aload_n hx hb dX10_four_11 rfl (lv_at hl 1 rfl) ?_
  refine g_get C hH my h23 iX10 rfl 6 (by decide) wd308 rfl rfl dX10_four_12 ?_
  refine lv_iload_n hx hb dX10_four_15 rfl (lv_at hl 2 rfl) ?_
  refine lv_iload_n hx hb dX10_four_16 rfl (lv_at hl 0 rfl) ?_
  refine lv_ishr hx hb dX10_four_17 ?_
  refine lv_topi (fun z24 ez24 => ?_)
  refine lv_i2b (v := (z24).toInt8.toInt32) hx hb dX10_four_18 rfl ?_
  have h25 : f22 (ya 5) = .inl (E.2.2 0, 800, .inl (upd (upd (upd v ((0 : Int32)).toNatClampNeg (vp_nar .byte ((z1).toInt8.toInt32))) ((1 : Int32)).toNatClampNeg (vp_nar .byte ((z8).toInt8.toInt32))) ((2 : Int32)).toNatClampNeg (vp_nar .byte ((z16).toInt8.toInt32)))) := ((congrFun ef22 (ya 5)).trans (va_up_ne _ _ (g_neAO h19 h20))).trans h19
  refine g_bast C hH m_t h25 (vp_inL (by decide)) dX10_four_19 (fun H locs hH => ?_)
  obtain ⟨f26, ef26⟩ : ∃ z : gF, z = va_up f22 (ya 5) (.inl (E.2.2 0, 800, .inl (upd (upd (upd (upd v ((0 : Int32)).toNatClampNeg (vp_nar .byte ((z1).toInt8.toInt32))) ((1 : Int32)).toNatClampNeg (vp_nar .byte ((z8).toInt8.toInt32))) ((2 : Int32)).toNatClampNeg (vp_nar .byte ((z16).toInt8.toInt32))) ((3 : Int32)).toNatClampNeg (vp_nar .byte ((z24).toInt8.toInt32))))) := ⟨_, rfl⟩
  have hH : gH E A L f26 s.heap H locs := by rw [ef26]; exact hH
  have h27 : f26 (ya 5) = .inl (E.2.2 0, 800, .inl (upd (upd (upd (upd v ((0 : Int32)).toNatClampNeg (vp_nar .byte ((z1).toInt8.toInt32))) ((1 : Int32)).toNatClampNeg (vp_nar .byte ((z8).toInt8.toInt32))) ((2 : Int32)).toNatClampNeg (vp_nar .byte ((z16).toInt8.toInt32))) ((3 : Int32)).toNatClampNeg (vp_nar .byte ((z24).toInt8.toInt32)))) := (congrFun ef26 (ya 5)).trans (va_up_self _ _ _)
  refine lv_aload_n hx hb dX10_four_20 rfl (lv_at hl 1 rfl) ?_
  refine lv_dup hx hb dX10_four_21 rfl ?_
  have h28 : f26 y = .inr (10, [.int (0 : Int32), .ref (ya 1), .ref (ya 2), .ref (ya 3), .ref (ya 4), .ref (ya 5), .int (3 : Int32), .int (0 : Int32), .int (0 : Int32), .int (0 : Int32), .int (0 : Int32), .long (0 : Int64), .int (0 : Int32), .int (0 : Int32), .int (0 : Int32), .int (-1 : Int32), .ref (ya 16), .ref (ya 17), .ref (ya 18), .ref (ya 19), .ref (ya 20), .ref (ya 21), .int (0 : Int32), .int (0 : Int32), .int (0 : Int32), .ref (ya 25), .ref (ya 26), .ref (ya 27), .ref (ya 28), .ref (ya 29), .ref (ya 30), .ref (ya 31), .ref (ya 32), .ref (ya 33), .ref (ya 34), .ref (ya 35), .int (0 : Int32), .int (0 : Int32), .ref (ya 38), .int (0 : Int32), .int (0 : Int32), .ref (ya 41), .ref (ya 42), .int (0 : Int32), .int (0 : Int32), .int (0 : Int32), .int (0 : Int32), .int (0 : Int32)]) := ((congrFun ef26 y).trans (va_up_ne _ _ (g_neOA h23 h25))).trans h23
  refine g_get C hH my h28 iX10 rfl 6 (by decide) wd308 rfl rfl dX10_four_22 ?_
  refine lv_iconst (v := (1 : Int32)) hx hb dX10_four_25 (by decide) ?_
  refine lv_iadd hx hb dX10_four_26 ?_
  refine lv_topi (fun z29 ez29 => ?_)
  obtain rfl : z29 = (4 : Int32) := ez29.trans (by decide)
  refine g_put C hH my h28 iX10 tyX10 tyX10_ok nmX10 rfl 6 (by decide) wd308 rfl rfl rfl rfl (Nat.le_of_ble_eq_true rfl) (fs' := [.int (0 : Int32), .ref (ya 1), .ref (ya 2), .ref (ya 3), .ref (ya 4), .ref (ya 5), .int (4 : Int32), .int (0 : Int32), .int (0 : Int32), .int (0 : Int32), .int (0 : Int32), .long (0 : Int64), .int (0 : Int32), .int (0 : Int32), .int (0 : Int32), .int (-1 : Int32), .ref (ya 16), .ref (ya 17), .ref (ya 18), .ref (ya 19), .ref (ya 20), .ref (ya 21), .int (0 : Int32), .int (0 : Int32), .int (0 : Int32), .ref (ya 25), .ref (ya 26), .ref (ya 27), .ref (ya 28), .ref (ya 29), .ref (ya 30), .ref (ya 31), .ref (ya 32), .ref (ya 33), .ref (ya 34), .ref (ya 35), .int (0 : Int32), .int (0 : Int32), .ref (ya 38), .int (0 : Int32), .int (0 : Int32), .ref (ya 41), .ref (ya 42), .int (0 : Int32), .int (0 : Int32), .int (0 : Int32), .int (0 : Int32), .int (0 : Int32)]) rfl dX10_four_27 (fun H locs hH => ?_)
  obtain ⟨f30, ef30⟩ : ∃ z : gF, z = va_up f26 y (.inr (10, [.int (0 : Int32), .ref (ya 1), .ref (ya 2), .ref (ya 3), .ref (ya 4), .ref (ya 5), .int (4 : Int32), .int (0 : Int32), .int (0 : Int32), .int (0 : Int32), .int (0 : Int32), .long (0 : Int64), .int (0 : Int32), .int (0 : Int32), .int (0 : Int32), .int (-1 : Int32), .ref (ya 16), .ref (ya 17), .ref (ya 18), .ref (ya 19), .ref (ya 20), .ref (ya 21), .int (0 : Int32), .int (0 : Int32), .int (0 : Int32), .ref (ya 25), .ref (ya 26), .ref (ya 27), .ref (ya 28), .ref (ya 29), .ref (ya 30), .ref (ya 31), .ref (ya 32), .ref (ya 33), .ref (ya 34), .ref (ya 35), .int (0 : Int32), .int (0 : Int32), .ref (ya 38), .int (0 : Int32), .int (0 : Int32), .ref (ya 41), .ref (ya 42), .int (0 : Int32), .int (0 : Int32), .int (0 : Int32), .int (0 : Int32), .int (0 : Int32)])) := ⟨_, rfl⟩
  have hH : gH E A L f30 s.heap H locs := by rw [ef30]; exact hH
  have h31 : f30 y = .inr (10, [.int (0 : Int32), .ref (ya 1), .ref (ya 2), .ref (ya 3), .ref (ya 4), .ref (ya 5), .int (4 : Int32), .int (0 : Int32), .int (0 : Int32), .int (0 : Int32), .int (0 : Int32), .long (0 : Int64), .int (0 : Int32), .int (0 : Int32), .int (0 : Int32), .int (-1 : Int32), .ref (ya 16), .ref (ya 17), .ref (ya 18), .ref (ya 19), .ref (ya 20), .ref (ya 21), .int (0 : Int32), .int (0 : Int32), .int (0 : Int32), .ref (ya 25), .ref (ya 26), .ref (ya 27), .ref (ya 28), .ref (ya 29), .ref (ya 30), .ref (ya 31), .ref (ya 32), .ref (ya 33), .ref (ya 34), .ref (ya 35), .int (0 : Int32), .int (0 : Int32), .ref (ya 38), .int (0 : Int32), .int (0 : Int32), .ref (ya 41), .ref (ya 42), .int (0 : Int32), .int (0 : Int32), .int (0 : Int32), .int (0 : Int32), .int (0 : Int32)]) := (congrFun ef30 y).trans (va_up_self _ _ _)
  refine lv_iinc (v := (-8 : Int32)) (lv' := [(2, .int (-8 : Int32)), (0, .ref y), (1, .int p0)]) hx hb dX10_four_30 hl (k := 0) rfl (by decide) (by decide) rfl (fun ls hl => ?_)
  refine lv_goto (tgt := 3) hx hb dX10_four_33 (by decide) ?_
  refine lv_iload_n hx hb dX10_four_3 rfl (lv_at hl 0 rfl) ?_
  refine lv_if_lt (tgt := 36) hx hb dX10_four_4 (by decide) (fun _ => ?_) (fun h => absurd (by decide) h)
  refine g_vret C hr hH (Nat.le_of_ble_eq_true rfl) (Nat.le_of_ble_eq_true rfl) dX10_four_36 ?_
  have h32 : f30 (ya 5) = .inl (E.2.2 0, 800, .inl (upd (upd (upd (upd v ((0 : Int32)).toNatClampNeg (vp_nar .byte ((z1).toInt8.toInt32))) ((1 : Int32)).toNatClampNeg (vp_nar .byte ((z8).toInt8.toInt32))) ((2 : Int32)).toNatClampNeg (vp_nar .byte ((z16).toInt8.toInt32))) ((3 : Int32)).toNatClampNeg (vp_nar .byte ((z24).toInt8.toInt32)))) := ((congrFun ef30 (ya 5)).trans (va_up_ne _ _ (g_neAO h27 h28))).trans h27
  exact ⟨rfl, h31, ⟨_, h32⟩, fun b h1 h2 => by rw [ef30, va_up_ne _ _ h1, ef26, va_up_ne _ _ h2, ef22, va_up_ne _ _ h1, ef18, va_up_ne _ _ h2, ef14, va_up_ne _ _ h1, ef10, va_up_ne _ _ h2, ef6, va_up_ne _ _ h1, ef2, va_up_ne _ _ h2]⟩
set_option maxHeartbeats 4000000 in
set_option maxRecDepth 100000 in
theorem m_four4 (l : Launch) (E : gE) (L : List Nat) (f : gF) {y : Nat} {ya : Nat → Nat} (my : y ∈ L) (fy : f y = .inr (10, [.int (0 : Int32), .ref (ya 1), .ref (ya 2), .ref (ya 3), .ref (ya 4), .ref (ya 5), .int (4 : Int32), .int (0 : Int32), .int (0 : Int32), .int (0 : Int32), .int (0 : Int32), .long (0 : Int64), .int (0 : Int32), .int (0 : Int32), .int (0 : Int32), .int (-1 : Int32), .ref (ya 16), .ref (ya 17), .ref (ya 18), .ref (ya 19), .ref (ya 20), .ref (ya 21), .int (0 : Int32), .int (0 : Int32), .int (0 : Int32), .ref (ya 25), .ref (ya 26), .ref (ya 27), .ref (ya 28), .ref (ya 29), .ref (ya 30), .ref (ya 31), .ref (ya 32), .ref (ya 33), .ref (ya 34), .ref (ya 35), .int (0 : Int32), .int (0 : Int32), .ref (ya 38), .int (0 : Int32), .int (0 : Int32), .ref (ya 41), .ref (ya 42), .int (0 : Int32), .int (0 : Int32), .int (0 : Int32), .int (0 : Int32), .int (0 : Int32)])) {v : Nat → Int32} (m_t : (ya 5) ∈ L) (f_t : f (ya 5) = .inl (E.2.2 0, 800, .inl v)) (p0 : Int32) : gMv l E yX10_four cX10_four 3 (gRm 1 0 0) [.ref y, .int p0] L f (fun L1 f1 => L = L1 ∧ f1 y = .inr (10, [.int (0 : Int32), .ref (ya 1), .ref (ya 2), .ref (ya 3), .ref (ya 4), .ref (ya 5), .int (8 : Int32), .int (0 : Int32), .int (0 : Int32), .int (0 : Int32), .int (0 : Int32), .long (0 : Int64), .int (0 : Int32), .int (0 : Int32), .int (0 : Int32), .int (-1 : Int32), .ref (ya 16), .ref (ya 17), .ref (ya 18), .ref (ya 19), .ref (ya 20), .ref (ya 21), .int (0 : Int32), .int (0 : Int32), .int (0 : Int32), .ref (ya 25), .ref (ya 26), .ref (ya 27), .ref (ya 28), .ref (ya 29), .ref (ya 30), .ref (ya 31), .ref (ya 32), .ref (ya 33), .ref (ya 34), .ref (ya 35), .int (0 : Int32), .int (0 : Int32), .ref (ya 38), .int (0 : Int32), .int (0 : Int32), .ref (ya 41), .ref (ya 42), .int (0 : Int32), .int (0 : Int32), .int (0 : Int32), .int (0 : Int32), .int (0 : Int32)]) ∧ (∃ z, f1 (ya 5) = .inl (E.2.2 0, 800, .inl z)) ∧ ∀ b, b ≠ y → b ≠ (ya 5) → f1 b = f b) := by
  refine gMv.intro (by decide) (Nat.le_of_ble_eq_true rfl) ?_
  intro p e s m below meth c A ls C hr hnm hA hH hl
  have C : gC E cX10_four 3 RX10 p s m _ meth c := C
  have hl : lv_has ls 3 [(0, .ref y), (1, .int p0)] := hl
  have hx := C.1
  have hb := C.2.1
  refine lv_bipush (v := (24 : Int32)) hx hb dX10_four_0 (by decide) ?_
  refine lv_istore_n (lv' := [(2, .int (24 : Int32)), (0, .ref y), (1, .int p0)]) hx hb dX10_four_2 rfl hl (by decide) rfl (fun ls hl => ?_)
  refine lv_iload_n hx hb dX10_four_3 rfl (lv_at hl 0 rfl) ?_
  refine lv_if_lt (tgt := 36) hx hb dX10_four_4 (by decide) (fun h => absurd h (by decide)) (fun _ => ?_)
  refine lv_aload_n hx hb dX10_four_7 rfl (lv_at hl 1 rfl) ?_
  refine g_get C hH my fy iX10 rfl 5 (by decide) wd307 rfl rfl dX10_four_8 ?_
  refine lv_aload_n hx hb dX10_four_11 rfl (lv_at hl 1 rfl) ?_
  refine g_get C hH my fy iX10 rfl 6 (by decide) wd308 rfl rfl dX10_four_12 ?_
  refine lv_iload_n hx hb dX10_four_15 rfl (lv_at hl 2 rfl) ?_
  refine lv_iload_n hx hb dX10_four_16 rfl (lv_at hl 0 rfl) ?_
  refine lv_ishr hx hb dX10_four_17 ?_
  refine lv_topi (fun z1 ez1 => ?_)
  refine lv_i2b (v := (z1).toInt8.toInt32) hx hb dX10_four_18 rfl ?_
  refine g_bast C hH m_t f_t (vp_inL (by decide)) dX10_four_19 (fun H locs hH => ?_)
  obtain ⟨f2, ef2⟩ : ∃ z : gF, z = va_up f (ya 5) (.inl (E.2.2 0, 800, .inl (upd v ((4 : Int32)).toNatClampNeg (vp_nar .byte ((z1).toInt8.toInt32))))) := ⟨_, rfl⟩
  have hH : gH E A L f2 s.heap H locs := by rw [ef2]; exact hH
  have h3 : f2 (ya 5) = .inl (E.2.2 0, 800, .inl (upd v ((4 : Int32)).toNatClampNeg (vp_nar .byte ((z1).toInt8.toInt32)))) := (congrFun ef2 (ya 5)).trans (va_up_self _ _ _)
  refine lv_aload_n hx hb dX10_four_20 rfl (lv_at hl 1 rfl) ?_
  refine lv_dup hx hb dX10_four_21 rfl ?_
  have h4 : f2 y = .inr (10, [.int (0 : Int32), .ref (ya 1), .ref (ya 2), .ref (ya 3), .ref (ya 4), .ref (ya 5), .int (4 : Int32), .int (0 : Int32), .int (0 : Int32), .int (0 : Int32), .int (0 : Int32), .long (0 : Int64), .int (0 : Int32), .int (0 : Int32), .int (0 : Int32), .int (-1 : Int32), .ref (ya 16), .ref (ya 17), .ref (ya 18), .ref (ya 19), .ref (ya 20), .ref (ya 21), .int (0 : Int32), .int (0 : Int32), .int (0 : Int32), .ref (ya 25), .ref (ya 26), .ref (ya 27), .ref (ya 28), .ref (ya 29), .ref (ya 30), .ref (ya 31), .ref (ya 32), .ref (ya 33), .ref (ya 34), .ref (ya 35), .int (0 : Int32), .int (0 : Int32), .ref (ya 38), .int (0 : Int32), .int (0 : Int32), .ref (ya 41), .ref (ya 42), .int (0 : Int32), .int (0 : Int32), .int (0 : Int32), .int (0 : Int32), .int (0 : Int32)]) := ((congrFun ef2 y).trans (va_up_ne _ _ (g_neOA fy f_t))).trans fy
  refine g_get C hH my h4 iX10 rfl 6 (by decide) wd308 rfl rfl dX10_four_22 ?_
  refine lv_iconst (v := (1 : Int32)) hx hb dX10_four_25 (by decide) ?_
  refine lv_iadd hx hb dX10_four_26 ?_
  refine lv_topi (fun z5 ez5 => ?_)
  obtain rfl : z5 = (5 : Int32) := ez5.trans (by decide)
  refine g_put C hH my h4 iX10 tyX10 tyX10_ok nmX10 rfl 6 (by decide) wd308 rfl rfl rfl rfl (Nat.le_of_ble_eq_true rfl) (fs' := [.int (0 : Int32), .ref (ya 1), .ref (ya 2), .ref (ya 3), .ref (ya 4), .ref (ya 5), .int (5 : Int32), .int (0 : Int32), .int (0 : Int32), .int (0 : Int32), .int (0 : Int32), .long (0 : Int64), .int (0 : Int32), .int (0 : Int32), .int (0 : Int32), .int (-1 : Int32), .ref (ya 16), .ref (ya 17), .ref (ya 18), .ref (ya 19), .ref (ya 20), .ref (ya 21), .int (0 : Int32), .int (0 : Int32), .int (0 : Int32), .ref (ya 25), .ref (ya 26), .ref (ya 27), .ref (ya 28), .ref (ya 29), .ref (ya 30), .ref (ya 31), .ref (ya 32), .ref (ya 33), .ref (ya 34), .ref (ya 35), .int (0 : Int32), .int (0 : Int32), .ref (ya 38), .int (0 : Int32), .int (0 : Int32), .ref (ya 41), .ref (ya 42), .int (0 : Int32), .int (0 : Int32), .int (0 : Int32), .int (0 : Int32), .int (0 : Int32)]) rfl dX10_four_27 (fun H locs hH => ?_)
  obtain ⟨f6, ef6⟩ : ∃ z : gF, z = va_up f2 y (.inr (10, [.int (0 : Int32), .ref (ya 1), .ref (ya 2), .ref (ya 3), .ref (ya 4), .ref (ya 5), .int (5 : Int32), .int (0 : Int32), .int (0 : Int32), .int (0 : Int32), .int (0 : Int32), .long (0 : Int64), .int (0 : Int32), .int (0 : Int32), .int (0 : Int32), .int (-1 : Int32), .ref (ya 16), .ref (ya 17), .ref (ya 18), .ref (ya 19), .ref (ya 20), .ref (ya 21), .int (0 : Int32), .int (0 : Int32), .int (0 : Int32), .ref (ya 25), .ref (ya 26), .ref (ya 27), .ref (ya 28), .ref (ya 29), .ref (ya 30), .ref (ya 31), .ref (ya 32), .ref (ya 33), .ref (ya 34), .ref (ya 35), .int (0 : Int32), .int (0 : Int32), .ref (ya 38), .int (0 : Int32), .int (0 : Int32), .ref (ya 41), .ref (ya 42), .int (0 : Int32), .int (0 : Int32), .int (0 : Int32), .int (0 : Int32), .int (0 : Int32)])) := ⟨_, rfl⟩
  have hH : gH E A L f6 s.heap H locs := by rw [ef6]; exact hH
  have h7 : f6 y = .inr (10, [.int (0 : Int32), .ref (ya 1), .ref (ya 2), .ref (ya 3), .ref (ya 4), .ref (ya 5), .int (5 : Int32), .int (0 : Int32), .int (0 : Int32), .int (0 : Int32), .int (0 : Int32), .long (0 : Int64), .int (0 : Int32), .int (0 : Int32), .int (0 : Int32), .int (-1 : Int32), .ref (ya 16), .ref (ya 17), .ref (ya 18), .ref (ya 19), .ref (ya 20), .ref (ya 21), .int (0 : Int32), .int (0 : Int32), .int (0 : Int32), .ref (ya 25), .ref (ya 26), .ref (ya 27), .ref (ya 28), .ref (ya 29), .ref (ya 30), .ref (ya 31), .ref (ya 32), .ref (ya 33), .ref (ya 34), .ref (ya 35), .int (0 : Int32), .int (0 : Int32), .ref (ya 38), .int (0 : Int32), .int (0 : Int32), .ref (ya 41), .ref (ya 42), .int (0 : Int32), .int (0 : Int32), .int (0 : Int32), .int (0 : Int32), .int (0 : Int32)]) := (congrFun ef6 y).trans (va_up_self _ _ _)
  refine lv_iinc (v := (16 : Int32)) (lv' := [(2, .int (16 : Int32)), (0, .ref y), (1, .int p0)]) hx hb dX10_four_30 hl (k := 0) rfl (by decide) (by decide) rfl (fun ls hl => ?_)
  refine lv_goto (tgt := 3) hx hb dX10_four_33 (by decide) ?_
  refine lv_iload_n hx hb dX10_four_3 rfl (lv_at hl 0 rfl) ?_
  refine lv_if_lt (tgt := 36) hx hb dX10_four_4 (by decide) (fun h => absurd h (by decide)) (fun _ => ?_)
  refine lv_aload_n hx hb dX10_four_7 rfl (lv_at hl 1 rfl) ?_
  refine g_get C hH my h7 iX10 rfl 5 (by decide) wd307 rfl rfl dX10_four_8 ?_
  refine lv_aload_n hx hb dX10_four_11 rfl (lv_at hl 1 rfl) ?_
  refine g_get C hH my h7 iX10 rfl 6 (by decide) wd308 rfl rfl dX10_four_12 ?_
  refine lv_iload_n hx hb dX10_four_15 rfl (lv_at hl 2 rfl) ?_
  refine lv_iload_n hx hb dX10_four_16 rfl (lv_at hl 0 rfl) ?_
  refine lv_ishr hx hb dX10_four_17 ?_
  refine lv_topi (fun z8 ez8 => ?_)
  refine lv_i2b (v := (z8).toInt8.toInt32) hx hb dX10_four_18 rfl ?_
  have h9 : f6 (ya 5) = .inl (E.2.2 0, 800, .inl (upd v ((4 : Int32)).toNatClampNeg (vp_nar .byte ((z1).toInt8.toInt32)))) := ((congrFun ef6 (ya 5)).trans (va_up_ne _ _ (g_neAO h3 h4))).trans h3
  refine g_bast C hH m_t h9 (vp_inL (by decide)) dX10_four_19 (fun H locs hH => ?_)
  obtain ⟨f10, ef10⟩ : ∃ z : gF, z = va_up f6 (ya 5) (.inl (E.2.2 0, 800, .inl (upd (upd v ((4 : Int32)).toNatClampNeg (vp_nar .byte ((z1).toInt8.toInt32))) ((5 : Int32)).toNatClampNeg (vp_nar .byte ((z8).toInt8.toInt32))))) := ⟨_, rfl⟩
  have hH : gH E A L f10 s.heap H locs := by rw [ef10]; exact hH
  have h11 : f10 (ya 5) = .inl (E.2.2 0, 800, .inl (upd (upd v ((4 : Int32)).toNatClampNeg (vp_nar .byte ((z1).toInt8.toInt32))) ((5 : Int32)).toNatClampNeg (vp_nar .byte ((z8).toInt8.toInt32)))) := (congrFun ef10 (ya 5)).trans (va_up_self _ _ _)
  refine lv_aload_n hx hb dX10_four_20 rfl (lv_at hl 1 rfl) ?_
  refine lv_dup hx hb dX10_four_21 rfl ?_
  have h12 : f10 y = .inr (10, [.int (0 : Int32), .ref (ya 1), .ref (ya 2), .ref (ya 3), .ref (ya 4), .ref (ya 5), .int (5 : Int32), .int (0 : Int32), .int (0 : Int32), .int (0 : Int32), .int (0 : Int32), .long (0 : Int64), .int (0 : Int32), .int (0 : Int32), .int (0 : Int32), .int (-1 : Int32), .ref (ya 16), .ref (ya 17), .ref (ya 18), .ref (ya 19), .ref (ya 20), .ref (ya 21), .int (0 : Int32), .int (0 : Int32), .int (0 : Int32), .ref (ya 25), .ref (ya 26), .ref (ya 27), .ref (ya 28), .ref (ya 29), .ref (ya 30), .ref (ya 31), .ref (ya 32), .ref (ya 33), .ref (ya 34), .ref (ya 35), .int (0 : Int32), .int (0 : Int32), .ref (ya 38), .int (0 : Int32), .int (0 : Int32), .ref (ya 41), .ref (ya 42), .int (0 : Int32), .int (0 : Int32), .int (0 : Int32), .int (0 : Int32), .int (0 : Int32)]) := ((congrFun ef10 y).trans (va_up_ne _ _ (g_neOA h7 h9))).trans h7
  refine g_get C hH my h12 iX10 rfl 6 (by decide) wd308 rfl rfl dX10_four_22 ?_
  refine lv_iconst (v := (1 : Int32)) hx hb dX10_four_25 (by decide) ?_
  refine lv_iadd hx hb dX10_four_26 ?_
  refine lv_topi (fun z13 ez13 => ?_)
  obtain rfl : z13 = (6 : Int32) := ez13.trans (by decide)
  refine g_put C hH my h12 iX10 tyX10 tyX10_ok nmX10 rfl 6 (by decide) wd308 rfl rfl rfl rfl (Nat.le_of_ble_eq_true rfl) (fs' := [.int (0 : Int32), .ref (ya 1), .ref (ya 2), .ref (ya 3), .ref (ya 4), .ref (ya 5), .int (6 : Int32), .int (0 : Int32), .int (0 : Int32), .int (0 : Int32), .int (0 : Int32), .long (0 : Int64), .int (0 : Int32), .int (0 : Int32), .int (0 : Int32), .int (-1 : Int32), .ref (ya 16), .ref (ya 17), .ref (ya 18), .ref (ya 19), .ref (ya 20), .ref (ya 21), .int (0 : Int32), .int (0 : Int32), .int (0 : Int32), .ref (ya 25), .ref (ya 26), .ref (ya 27), .ref (ya 28), .ref (ya 29), .ref (ya 30), .ref (ya 31), .ref (ya 32), .ref (ya 33), .ref (ya 34), .ref (ya 35), .int (0 : Int32), .int (0 : Int32), .ref (ya 38), .int (0 : Int32), .int (0 : Int32), .ref (ya 41), .ref (ya 42), .int (0 : Int32), .int (0 : Int32), .int (0 : Int32), .int (0 : Int32), .int (0 : Int32)]) rfl dX10_four_27 (fun H locs hH => ?_)
  obtain ⟨f14, ef14⟩ : ∃ z : gF, z = va_up f10 y (.inr (10, [.int (0 : Int32), .ref (ya 1), .ref (ya 2), .ref (ya 3), .ref (ya 4), .ref (ya 5), .int (6 : Int32), .int (0 : Int32), .int (0 : Int32), .int (0 : Int32), .int (0 : Int32), .long (0 : Int64), .int (0 : Int32), .int (0 : Int32), .int (0 : Int32), .int (-1 : Int32), .ref (ya 16), .ref (ya 17), .ref (ya 18), .ref (ya 19), .ref (ya 20), .ref (ya 21), .int (0 : Int32), .int (0 : Int32), .int (0 : Int32), .ref (ya 25), .ref (ya 26), .ref (ya 27), .ref (ya 28), .ref (ya 29), .ref (ya 30), .ref (ya 31), .ref (ya 32), .ref (ya 33), .ref (ya 34), .ref (ya 35), .int (0 : Int32), .int (0 : Int32), .ref (ya 38), .int (0 : Int32), .int (0 : Int32), .ref (ya 41), .ref (ya 42), .int (0 : Int32), .int (0 : Int32), .int (0 : Int32), .int (0 : Int32), .int (0 : Int32)])) := ⟨_, rfl⟩
  have hH : gH E A L f14 s.heap H locs := by rw [ef14]; exact hH
  have h15 : f14 y = .inr (10, [.int (0 : Int32), .ref (ya 1), .ref (ya 2), .ref (ya 3), .ref (ya 4), .ref (ya 5), .int (6 : Int32), .int (0 : Int32), .int (0 : Int32), .int (0 : Int32), .int (0 : Int32), .long (0 : Int64), .int (0 : Int32), .int (0 : Int32), .int (0 : Int32), .int (-1 : Int32), .ref (ya 16), .ref (ya 17), .ref (ya 18), .ref (ya 19), .ref (ya 20), .ref (ya 21), .int (0 : Int32), .int (0 : Int32), .int (0 : Int32), .ref (ya 25), .ref (ya 26), .ref (ya 27), .ref (ya 28), .ref (ya 29), .ref (ya 30), .ref (ya 31), .ref (ya 32), .ref (ya 33), .ref (ya 34), .ref (ya 35), .int (0 : Int32), .int (0 : Int32), .ref (ya 38), .int (0 : Int32), .int (0 : Int32), .ref (ya 41), .ref (ya 42), .int (0 : Int32), .int (0 : Int32), .int (0 : Int32), .int (0 : Int32), .int (0 : Int32)]) := (congrFun ef14 y).trans (va_up_self _ _ _)
  refine lv_iinc (v := (8 : Int32)) (lv' := [(2, .int (8 : Int32)), (0, .ref y), (1, .int p0)]) hx hb dX10_four_30 hl (k := 0) rfl (by decide) (by decide) rfl (fun ls hl => ?_)
  refine lv_goto (tgt := 3) hx hb dX10_four_33 (by decide) ?_
  refine lv_iload_n hx hb dX10_four_3 rfl (lv_at hl 0 rfl) ?_
  refine lv_if_lt (tgt := 36) hx hb dX10_four_4 (by decide) (fun h => absurd h (by decide)) (fun _ => ?_)
  refine lv_aload_n hx hb dX10_four_7 rfl (lv_at hl 1 rfl) ?_
  refine g_get C hH my h15 iX10 rfl 5 (by decide) wd307 rfl rfl dX10_four_8 ?_
  refine lv_aload_n hx hb dX10_four_11 rfl (lv_at hl 1 rfl) ?_
  refine g_get C hH my h15 iX10 rfl 6 (by decide) wd308 rfl rfl dX10_four_12 ?_
  refine lv_iload_n hx hb dX10_four_15 rfl (lv_at hl 2 rfl) ?_
  refine lv_iload_n hx hb dX10_four_16 rfl (lv_at hl 0 rfl) ?_
  refine lv_ishr hx hb dX10_four_17 ?_
  refine lv_topi (fun z16 ez16 => ?_)
  refine lv_i2b (v := (z16).toInt8.toInt32) hx hb dX10_four_18 rfl ?_
  have h17 : f14 (ya 5) = .inl (E.2.2 0, 800, .inl (upd (upd v ((4 : Int32)).toNatClampNeg (vp_nar .byte ((z1).toInt8.toInt32))) ((5 : Int32)).toNatClampNeg (vp_nar .byte ((z8).toInt8.toInt32)))) := ((congrFun ef14 (ya 5)).trans (va_up_ne _ _ (g_neAO h11 h12))).trans h11
  refine g_bast C hH m_t h17 (vp_inL (by decide)) dX10_four_19 (fun H locs hH => ?_)
  obtain ⟨f18, ef18⟩ : ∃ z : gF, z = va_up f14 (ya 5) (.inl (E.2.2 0, 800, .inl (upd (upd (upd v ((4 : Int32)).toNatClampNeg (vp_nar .byte ((z1).toInt8.toInt32))) ((5 : Int32)).toNatClampNeg (vp_nar .byte ((z8).toInt8.toInt32))) ((6 : Int32)).toNatClampNeg (vp_nar .byte ((z16).toInt8.toInt32))))) := ⟨_, rfl⟩
  have hH : gH E A L f18 s.heap H locs := by rw [ef18]; exact hH
  have h19 : f18 (ya 5) = .inl (E.2.2 0, 800, .inl (upd (upd (upd v ((4 : Int32)).toNatClampNeg (vp_nar .byte ((z1).toInt8.toInt32))) ((5 : Int32)).toNatClampNeg (vp_nar .byte ((z8).toInt8.toInt32))) ((6 : Int32)).toNatClampNeg (vp_nar .byte ((z16).toInt8.toInt32)))) := (congrFun ef18 (ya 5)).trans (va_up_self _ _ _)
  refine lv_aload_n hx hb dX10_four_20 rfl (lv_at hl 1 rfl) ?_
  refine lv_dup hx hb dX10_four_21 rfl ?_
  have h20 : f18 y = .inr (10, [.int (0 : Int32), .ref (ya 1), .ref (ya 2), .ref (ya 3), .ref (ya 4), .ref (ya 5), .int (6 : Int32), .int (0 : Int32), .int (0 : Int32), .int (0 : Int32), .int (0 : Int32), .long (0 : Int64), .int (0 : Int32), .int (0 : Int32), .int (0 : Int32), .int (-1 : Int32), .ref (ya 16), .ref (ya 17), .ref (ya 18), .ref (ya 19), .ref (ya 20), .ref (ya 21), .int (0 : Int32), .int (0 : Int32), .int (0 : Int32), .ref (ya 25), .ref (ya 26), .ref (ya 27), .ref (ya 28), .ref (ya 29), .ref (ya 30), .ref (ya 31), .ref (ya 32), .ref (ya 33), .ref (ya 34), .ref (ya 35), .int (0 : Int32), .int (0 : Int32), .ref (ya 38), .int (0 : Int32), .int (0 : Int32), .ref (ya 41), .ref (ya 42), .int (0 : Int32), .int (0 : Int32), .int (0 : Int32), .int (0 : Int32), .int (0 : Int32)]) := ((congrFun ef18 y).trans (va_up_ne _ _ (g_neOA h15 h17))).trans h15
  refine g_get C hH my h20 iX10 rfl 6 (by decide) wd308 rfl rfl dX10_four_22 ?_
  refine lv_iconst (v := (1 : Int32)) hx hb dX10_four_25 (by decide) ?_
  refine lv_iadd hx hb dX10_four_26 ?_
  refine lv_topi (fun z21 ez21 => ?_)
  obtain rfl : z21 = (7 : Int32) := ez21.trans (by decide)
  refine g_put C hH my h20 iX10 tyX10 tyX10_ok nmX10 rfl 6 (by decide) wd308 rfl rfl rfl rfl (Nat.le_of_ble_eq_true rfl) (fs' := [.int (0 : Int32), .ref (ya 1), .ref (ya 2), .ref (ya 3), .ref (ya 4), .ref (ya 5), .int (7 : Int32), .int (0 : Int32), .int (0 : Int32), .int (0 : Int32), .int (0 : Int32), .long (0 : Int64), .int (0 : Int32), .int (0 : Int32), .int (0 : Int32), .int (-1 : Int32), .ref (ya 16), .ref (ya 17), .ref (ya 18), .ref (ya 19), .ref (ya 20), .ref (ya 21), .int (0 : Int32), .int (0 : Int32), .int (0 : Int32), .ref (ya 25), .ref (ya 26), .ref (ya 27), .ref (ya 28), .ref (ya 29), .ref (ya 30), .ref (ya 31), .ref (ya 32), .ref (ya 33), .ref (ya 34), .ref (ya 35), .int (0 : Int32), .int (0 : Int32), .ref (ya 38), .int (0 : Int32), .int (0 : Int32), .ref (ya 41), .ref (ya 42), .int (0 : Int32), .int (0 : Int32), .int (0 : Int32), .int (0 : Int32), .int (0 : Int32)]) rfl dX10_four_27 (fun H locs hH => ?_)
  obtain ⟨f22, ef22⟩ : ∃ z : gF, z = va_up f18 y (.inr (10, [.int (0 : Int32), .ref (ya 1), .ref (ya 2), .ref (ya 3), .ref (ya 4), .ref (ya 5), .int (7 : Int32), .int (0 : Int32), .int (0 : Int32), .int (0 : Int32), .int (0 : Int32), .long (0 : Int64), .int (0 : Int32), .int (0 : Int32), .int (0 : Int32), .int (-1 : Int32), .ref (ya 16), .ref (ya 17), .ref (ya 18), .ref (ya 19), .ref (ya 20), .ref (ya 21), .int (0 : Int32), .int (0 : Int32), .int (0 : Int32), .ref (ya 25), .ref (ya 26), .ref (ya 27), .ref (ya 28), .ref (ya 29), .ref (ya 30), .ref (ya 31), .ref (ya 32), .ref (ya 33), .ref (ya 34), .ref (ya 35), .int (0 : Int32), .int (0 : Int32), .ref (ya 38), .int (0 : Int32), .int (0 : Int32), .ref (ya 41), .ref (ya 42), .int (0 : Int32), .int (0 : Int32), .int (0 : Int32), .int (0 : Int32), .int (0 : Int32)])) := ⟨_, rfl⟩
  have hH : gH E A L f22 s.heap H locs := by rw [ef22]; exact hH
  have h23 : f22 y = .inr (10, [.int (0 : Int32), .ref (ya 1), .ref (ya 2), .ref (ya 3), .ref (ya 4), .ref (ya 5), .int (7 : Int32), .int (0 : Int32), .int (0 : Int32), .int (0 : Int32), .int (0 : Int32), .long (0 : Int64), .int (0 : Int32), .int (0 : Int32), .int (0 : Int32), .int (-1 : Int32), .ref (ya 16), .ref (ya 17), .ref (ya 18), .ref (ya 19), .ref (ya 20), .ref (ya 21), .int (0 : Int32), .int (0 : Int32), .int (0 : Int32), .ref (ya 25), .ref (ya 26), .ref (ya 27), .ref (ya 28), .ref (ya 29), .ref (ya 30), .ref (ya 31), .ref (ya 32), .ref (ya 33), .ref (ya 34), .ref (ya 35), .int (0 : Int32), .int (0 : Int32), .ref (ya 38), .int (0 : Int32), .int (0 : Int32), .ref (ya 41), .ref (ya 42), .int (0 : Int32), .int (0 : Int32), .int (0 : Int32), .int (0 : Int32), .int (0 : Int32)]) := (congrFun ef22 y).trans (va_up_self _ _ _)
  refine lv_iinc (v := (0 : Int32)) (lv' := [(2, .int (0 : Int32)), (0, .ref y), (1, .int p0)]) hx hb dX10_four_30 hl (k := 0) rfl (by decide) (by decide) rfl (fun ls hl => ?_)
  refine lv_goto (tgt := 3) hx hb dX10_four_33 (by decide) ?_
  refine lv_iload_n hx hb dX10_four_3 rfl (lv_at hl 0 rfl) ?_
  refine lv_if_lt (tgt := 36) hx hb dX10_four_4 (by decide) (fun h => absurd h (by decide)) (fun _ => ?_)
  refine lv_aload_n hx hb dX10_four_7 rfl (lv_at hl 1 rfl) ?_
  refine g_get C hH my h23 iX10 rfl 5 (by decide) wd307 rfl rfl dX10_four_8 ?_
  refine lv_aload_n hx hb dX10_four_11 rfl (lv_at hl 1 rfl) ?_
  refine g_get C hH my h23 iX10 rfl 6 (by decide) wd308 rfl rfl dX10_four_12 ?_
  refine lv_iload_n hx hb dX10_four_15 rfl (lv_at hl 2 rfl) ?_
  refine lv_iload_n hx hb dX10_four_16 rfl (lv_at hl 0 rfl) ?_
  refine lv_ishr hx hb dX10_four_17 ?_
  refine lv_topi (fun z24 ez24 => ?_)
  refine lv_i2b (v := (z24).toInt8.toInt32) hx hb dX10_four_18 rfl ?_
  have h25 : f22 (ya 5) = .inl (E.2.2 0, 800, .inl (upd (upd (upd v ((4 : Int32)).toNatClampNeg (vp_nar .byte ((z1).toInt8.toInt32))) ((5 : Int32)).toNatClampNeg (vp_nar .byte ((z8).toInt8.toInt32))) ((6 : Int32)).toNatClampNeg (vp_nar .byte ((z16).toInt8.toInt32)))) := ((congrFun ef22 (ya 5)).trans (va_up_ne _ _ (g_neAO h19 h20))).trans h19
  refine g_bast C hH m_t h25 (vp_inL (by decide)) dX10_four_19 (fun H locs hH => ?_)
  obtain ⟨f26, ef26⟩ : ∃ z : gF, z = va_up f22 (ya 5) (.inl (E.2.2 0, 800, .inl (upd (upd (upd (upd v ((4 : Int32)).toNatClampNeg (vp_nar .byte ((z1).toInt8.toInt32))) ((5 : Int32)).toNatClampNeg (vp_nar .byte ((z8).toInt8.toInt32))) ((6 : Int32)).toNatClampNeg (vp_nar .byte ((z16).toInt8.toInt32))) ((7 : Int32)).toNatClampNeg (vp_nar .byte ((z24).toInt8.toInt32))))) := ⟨_, rfl⟩
  have hH : gH E A L f26 s.heap H locs := by rw [ef26]; exact hH
  have h27 : f26 (ya 5) = .inl (E.2.2 0, 800, .inl (upd (upd (upd (upd v ((4 : Int32)).toNatClampNeg (vp_nar .byte ((z1).toInt8.toInt32))) ((5 : Int32)).toNatClampNeg (vp_nar .byte ((z8).toInt8.toInt32))) ((6 : Int32)).toNatClampNeg (vp_nar .byte ((z16).toInt8.toInt32))) ((7 : Int32)).toNatClampNeg (vp_nar .byte ((z24).toInt8.toInt32)))) := (congrFun ef26 (ya 5)).trans (va_up_self _ _ _)
  refine lv_aload_n hx hb dX10_four_20 rfl (lv_at hl 1 rfl) ?_
  refine lv_dup hx hb dX10_four_21 rfl ?_
  have h28 : f26 y = .inr (10, [.int (0 : Int32), .ref (ya 1), .ref (ya 2), .ref (ya 3), .ref (ya 4), .ref (ya 5), .int (7 : Int32), .int (0 : Int32), .int (0 : Int32), .int (0 : Int32), .int (0 : Int32), .long (0 : Int64), .int (0 : Int32), .int (0 : Int32), .int (0 : Int32), .int (-1 : Int32), .ref (ya 16), .ref (ya 17), .ref (ya 18), .ref (ya 19), .ref (ya 20), .ref (ya 21), .int (0 : Int32), .int (0 : Int32), .int (0 : Int32), .ref (ya 25), .ref (ya 26), .ref (ya 27), .ref (ya 28), .ref (ya 29), .ref (ya 30), .ref (ya 31), .ref (ya 32), .ref (ya 33), .ref (ya 34), .ref (ya 35), .int (0 : Int32), .int (0 : Int32), .ref (ya 38), .int (0 : Int32), .int (0 : Int32), .ref (ya 41), .ref (ya 42), .int (0 : Int32), .int (0 : Int32), .int (0 : Int32), .int (0 : Int32), .int (0 : Int32)]) := ((congrFun ef26 y).trans (va_up_ne _ _ (g_neOA h23 h25))).trans h23
  refine g_get C hH my h28 iX10 rfl 6 (by decide) wd308 rfl rfl dX10_four_22 ?_
  refine lv_iconst (v := (1 : Int32)) hx hb dX10_four_25 (by decide) ?_
  refine lv_iadd hx hb dX10_four_26 ?_
  refine lv_topi (fun z29 ez29 => ?_)
  obtain rfl : z29 = (8 : Int32) := ez29.trans (by decide)
  refine g_put C hH my h28 iX10 tyX10 tyX10_ok nmX10 rfl 6 (by decide) wd308 rfl rfl rfl rfl (Nat.le_of_ble_eq_true rfl) (fs' := [.int (0 : Int32), .ref (ya 1), .ref (ya 2), .ref (ya 3), .ref (ya 4), .ref (ya 5), .int (8 : Int32), .int (0 : Int32), .int (0 : Int32), .int (0 : Int32), .int (0 : Int32), .long (0 : Int64), .int (0 : Int32), .int (0 : Int32), .int (0 : Int32), .int (-1 : Int32), .ref (ya 16), .ref (ya 17), .ref (ya 18), .ref (ya 19), .ref (ya 20), .ref (ya 21), .int (0 : Int32), .int (0 : Int32), .int (0 : Int32), .ref (ya 25), .ref (ya 26), .ref (ya 27), .ref (ya 28), .ref (ya 29), .ref (ya 30), .ref (ya 31), .ref (ya 32), .ref (ya 33), .ref (ya 34), .ref (ya 35), .int (0 : Int32), .int (0 : Int32), .ref (ya 38), .int (0 : Int32), .int (0 : Int32), .ref (ya 41), .ref (ya 42), .int (0 : Int32), .int (0 : Int32), .int (0 : Int32), .int (0 : Int32), .int (0 : Int32)]) rfl dX10_four_27 (fun H locs hH => ?_)
  obtain ⟨f30, ef30⟩ : ∃ z : gF, z = va_up f26 y (.inr (10, [.int (0 : Int32), .ref (ya 1), .ref (ya 2), .ref (ya 3), .ref (ya 4), .ref (ya 5), .int (8 : Int32), .int (0 : Int32), .int (0 : Int32), .int (0 : Int32), .int (0 : Int32), .long (0 : Int64), .int (0 : Int32), .int (0 : Int32), .int (0 : Int32), .int (-1 : Int32), .ref (ya 16), .ref (ya 17), .ref (ya 18), .ref (ya 19), .ref (ya 20), .ref (ya 21), .int (0 : Int32), .int (0 : Int32), .int (0 : Int32), .ref (ya 25), .ref (ya 26), .ref (ya 27), .ref (ya 28), .ref (ya 29), .ref (ya 30), .ref (ya 31), .ref (ya 32), .ref (ya 33), .ref (ya 34), .ref (ya 35), .int (0 : Int32), .int (0 : Int32), .ref (ya 38), .int (0 : Int32), .int (0 : Int32), .ref (ya 41), .ref (ya 42), .int (0 : Int32), .int (0 : Int32), .int (0 : Int32), .int (0 : Int32), .int (0 : Int32)])) := ⟨_, rfl⟩
  have hH : gH E A L f30 s.heap H locs := by rw [ef30]; exact hH
  have h31 : f30 y = .inr (10, [.int (0 : Int32), .ref (ya 1), .ref (ya 2), .ref (ya 3), .ref (ya 4), .ref (ya 5), .int (8 : Int32), .int (0 : Int32), .int (0 : Int32), .int (0 : Int32), .int (0 : Int32), .long (0 : Int64), .int (0 : Int32), .int (0 : Int32), .int (0 : Int32), .int (-1 : Int32), .ref (ya 16), .ref (ya 17), .ref (ya 18), .ref (ya 19), .ref (ya 20), .ref (ya 21), .int (0 : Int32), .int (0 : Int32), .int (0 : Int32), .ref (ya 25), .ref (ya 26), .ref (ya 27), .ref (ya 28), .ref (ya 29), .ref (ya 30), .ref (ya 31), .ref (ya 32), .ref (ya 33), .ref (ya 34), .ref (ya 35), .int (0 : Int32), .int (0 : Int32), .ref (ya 38), .int (0 : Int32), .int (0 : Int32), .ref (ya 41), .ref (ya 42), .int (0 : Int32), .int (0 : Int32), .int (0 : Int32), .int (0 : Int32), .int (0 : Int32)]) := (congrFun ef30 y).trans (va_up_self _ _ _)
  refine lv_iinc (v := (-8 : Int32)) (lv' := [(2, .int (-8 : Int32)), (0, .ref y), (1, .int p0)]) hx hb dX10_four_30 hl (k := 0) rfl (by decide) (by decide) rfl (fun ls hl => ?_)
  refine lv_goto (tgt := 3) hx hb dX10_four_33 (by decide) ?_
  refine lv_iload_n hx hb dX10_four_3 rfl (lv_at hl 0 rfl) ?_
  refine lv_if_lt (tgt := 36) hx hb dX10_four_4 (by decide) (fun _ => ?_) (fun h => absurd (by decide) h)
  refine g_vret C hr hH (Nat.le_of_ble_eq_true rfl) (Nat.le_of_ble_eq_true rfl) dX10_four_36 ?_
  have h32 : f30 (ya 5) = .inl (E.2.2 0, 800, .inl (upd (upd (upd (upd v ((4 : Int32)).toNatClampNeg (vp_nar .byte ((z1).toInt8.toInt32))) ((5 : Int32)).toNatClampNeg (vp_nar .byte ((z8).toInt8.toInt32))) ((6 : Int32)).toNatClampNeg (vp_nar .byte ((z16).toInt8.toInt32))) ((7 : Int32)).toNatClampNeg (vp_nar .byte ((z24).toInt8.toInt32)))) := ((congrFun ef30 (ya 5)).trans (va_up_ne _ _ (g_neAO h27 h28))).trans h27
  exact ⟨rfl, h31, ⟨_, h32⟩, fun b h1 h2 => by rw [ef30, va_up_ne _ _ h1, ef26, va_up_ne _ _ h2, ef22, va_up_ne _ _ h1, ef18, va_up_ne _ _ h2, ef14, va_up_ne _ _ h1, ef10, va_up_ne _ _ h2, ef6, va_up_ne _ _ h1, ef2, va_up_ne _ _ h2]⟩
set_option maxHeartbeats 4000000 in
set_option maxRecDepth 100000 in
theorem m_four8 (l : Launch) (E : gE) (L : List Nat) (f : gF) {y : Nat} {ya : Nat → Nat} (my : y ∈ L) (fy : f y = .inr (10, [.int (0 : Int32), .ref (ya 1), .ref (ya 2), .ref (ya 3), .ref (ya 4), .ref (ya 5), .int (8 : Int32), .int (0 : Int32), .int (0 : Int32), .int (0 : Int32), .int (0 : Int32), .long (0 : Int64), .int (0 : Int32), .int (0 : Int32), .int (0 : Int32), .int (-1 : Int32), .ref (ya 16), .ref (ya 17), .ref (ya 18), .ref (ya 19), .ref (ya 20), .ref (ya 21), .int (0 : Int32), .int (0 : Int32), .int (0 : Int32), .ref (ya 25), .ref (ya 26), .ref (ya 27), .ref (ya 28), .ref (ya 29), .ref (ya 30), .ref (ya 31), .ref (ya 32), .ref (ya 33), .ref (ya 34), .ref (ya 35), .int (0 : Int32), .int (0 : Int32), .ref (ya 38), .int (0 : Int32), .int (0 : Int32), .ref (ya 41), .ref (ya 42), .int (0 : Int32), .int (0 : Int32), .int (0 : Int32), .int (0 : Int32), .int (0 : Int32)])) {v : Nat → Int32} (m_t : (ya 5) ∈ L) (f_t : f (ya 5) = .inl (E.2.2 0, 800, .inl v)) (p0 : Int32) : gMv l E yX10_four cX10_four 3 (gRm 1 0 0) [.ref y, .int p0] L f (fun L1 f1 => L = L1 ∧ f1 y = .inr (10, [.int (0 : Int32), .ref (ya 1), .ref (ya 2), .ref (ya 3), .ref (ya 4), .ref (ya 5), .int (12 : Int32), .int (0 : Int32), .int (0 : Int32), .int (0 : Int32), .int (0 : Int32), .long (0 : Int64), .int (0 : Int32), .int (0 : Int32), .int (0 : Int32), .int (-1 : Int32), .ref (ya 16), .ref (ya 17), .ref (ya 18), .ref (ya 19), .ref (ya 20), .ref (ya 21), .int (0 : Int32), .int (0 : Int32), .int (0 : Int32), .ref (ya 25), .ref (ya 26), .ref (ya 27), .ref (ya 28), .ref (ya 29), .ref (ya 30), .ref (ya 31), .ref (ya 32), .ref (ya 33), .ref (ya 34), .ref (ya 35), .int (0 : Int32), .int (0 : Int32), .ref (ya 38), .int (0 : Int32), .int (0 : Int32), .ref (ya 41), .ref (ya 42), .int (0 : Int32), .int (0 : Int32), .int (0 : Int32), .int (0 : Int32), .int (0 : Int32)]) ∧ (∃ z, f1 (ya 5) = .inl (E.2.2 0, 800, .inl z)) ∧ ∀ b, b ≠ y → b ≠ (ya 5) → f1 b = f b) := by
  refine gMv.intro (by decide) (Nat.le_of_ble_eq_true rfl) ?_
  intro p e s m below meth c A ls C hr hnm hA hH hl
  have C : gC E cX10_four 3 RX10 p s m _ meth c := C
  have hl : lv_has ls 3 [(0, .ref y), (1, .int p0)] := hl
  have hx := C.1
  have hb := C.2.1
  refine lv_bipush (v := (24 : Int32)) hx hb dX10_four_0 (by decide) ?_
  refine lv_istore_n (lv' := [(2, .int (24 : Int32)), (0, .ref y), (1, .int p0)]) hx hb dX10_four_2 rfl hl (by decide) rfl (fun ls hl => ?_)
  refine lv_iload_n hx hb dX10_four_3 rfl (lv_at hl 0 rfl) ?_
  refine lv_if_lt (tgt := 36) hx hb dX10_four_4 (by decide) (fun h => absurd h (by decide)) (fun _ => ?_)
  refine lv_aload_n hx hb dX10_four_7 rfl (lv_at hl 1 rfl) ?_
  refine g_get C hH my fy iX10 rfl 5 (by decide) wd307 rfl rfl dX10_four_8 ?_
  refine lv_aload_n hx hb dX10_four_11 rfl (lv_at hl 1 rfl) ?_
  refine g_get C hH my fy iX10 rfl 6 (by decide) wd308 rfl rfl dX10_four_12 ?_
  refine lv_iload_n hx hb dX10_four_15 rfl (lv_at hl 2 rfl) ?_
  refine lv_iload_n hx hb dX10_four_16 rfl (lv_at hl 0 rfl) ?_
  refine lv_ishr hx hb dX10_four_17 ?_
  refine lv_topi (fun z1 ez1 => ?_)
  refine lv_i2b (v := (z1).toInt8.toInt32) hx hb dX10_four_18 rfl ?_
  refine g_bast C hH m_t f_t (vp_inL (by decide)) dX10_four_19 (fun H locs hH => ?_)
  obtain ⟨f2, ef2⟩ : ∃ z : gF, z = va_up f (ya 5) (.inl (E.2.2 0, 800, .inl (upd v ((8 : Int32)).toNatClampNeg (vp_nar .byte ((z1).toInt8.toInt32))))) := ⟨_, rfl⟩
  have hH : gH E A L f2 s.heap H locs := by rw [ef2]; exact hH
  have h3 : f2 (ya 5) = .inl (E.2.2 0, 800, .inl (upd v ((8 : Int32)).toNatClampNeg (vp_nar .byte ((z1).toInt8.toInt32)))) := (congrFun ef2 (ya 5)).trans (va_up_self _ _ _)
  refine lv_aload_n hx hb dX10_four_20 rfl (lv_at hl 1 rfl) ?_
  refine lv_dup hx hb dX10_four_21 rfl ?_
  have h4 : f2 y = .inr (10, [.int (0 : Int32), .ref (ya 1), .ref (ya 2), .ref (ya 3), .ref (ya 4), .ref (ya 5), .int (8 : Int32), .int (0 : Int32), .int (0 : Int32), .int (0 : Int32), .int (0 : Int32), .long (0 : Int64), .int (0 : Int32), .int (0 : Int32), .int (0 : Int32), .int (-1 : Int32), .ref (ya 16), .ref (ya 17), .ref (ya 18), .ref (ya 19), .ref (ya 20), .ref (ya 21), .int (0 : Int32), .int (0 : Int32), .int (0 : Int32), .ref (ya 25), .ref (ya 26), .ref (ya 27), .ref (ya 28), .ref (ya 29), .ref (ya 30), .ref (ya 31), .ref (ya 32), .ref (ya 33), .ref (ya 34), .ref (ya 35), .int (0 : Int32), .int (0 : Int32), .ref (ya 38), .int (0 : Int32), .int (0 : Int32), .ref (ya 41), .ref (ya 42), .int (0 : Int32), .int (0 : Int32), .int (0 : Int32), .int (0 : Int32), .int (0 : Int32)]) := ((congrFun ef2 y).trans (va_up_ne _ _ (g_neOA fy f_t))).trans fy
  refine g_get C hH my h4 iX10 rfl 6 (by decide) wd308 rfl rfl dX10_four_22 ?_
  refine lv_iconst (v := (1 : Int32)) hx hb dX10_four_25 (by decide) ?_
  refine lv_iadd hx hb dX10_four_26 ?_
  refine lv_topi (fun z5 ez5 => ?_)
  obtain rfl : z5 = (9 : Int32) := ez5.trans (by decide)
  refine g_put C hH my h4 iX10 tyX10 tyX10_ok nmX10 rfl 6 (by decide) wd308 rfl rfl rfl rfl (Nat.le_of_ble_eq_true rfl) (fs' := [.int (0 : Int32), .ref (ya 1), .ref (ya 2), .ref (ya 3), .ref (ya 4), .ref (ya 5), .int (9 : Int32), .int (0 : Int32), .int (0 : Int32), .int (0 : Int32), .int (0 : Int32), .long (0 : Int64), .int (0 : Int32), .int (0 : Int32), .int (0 : Int32), .int (-1 : Int32), .ref (ya 16), .ref (ya 17), .ref (ya 18), .ref (ya 19), .ref (ya 20), .ref (ya 21), .int (0 : Int32), .int (0 : Int32), .int (0 : Int32), .ref (ya 25), .ref (ya 26), .ref (ya 27), .ref (ya 28), .ref (ya 29), .ref (ya 30), .ref (ya 31), .ref (ya 32), .ref (ya 33), .ref (ya 34), .ref (ya 35), .int (0 : Int32), .int (0 : Int32), .ref (ya 38), .int (0 : Int32), .int (0 : Int32), .ref (ya 41), .ref (ya 42), .int (0 : Int32), .int (0 : Int32), .int (0 : Int32), .int (0 : Int32), .int (0 : Int32)]) rfl dX10_four_27 (fun H locs hH => ?_)
  obtain ⟨f6, ef6⟩ : ∃ z : gF, z = va_up f2 y (.inr (10, [.int (0 : Int32), .ref (ya 1), .ref (ya 2), .ref (ya 3), .ref (ya 4), .ref (ya 5), .int (9 : Int32), .int (0 : Int32), .int (0 : Int32), .int (0 : Int32), .int (0 : Int32), .long (0 : Int64), .int (0 : Int32), .int (0 : Int32), .int (0 : Int32), .int (-1 : Int32), .ref (ya 16), .ref (ya 17), .ref (ya 18), .ref (ya 19), .ref (ya 20), .ref (ya 21), .int (0 : Int32), .int (0 : Int32), .int (0 : Int32), .ref (ya 25), .ref (ya 26), .ref (ya 27), .ref (ya 28), .ref (ya 29), .ref (ya 30), .ref (ya 31), .ref (ya 32), .ref (ya 33), .ref (ya 34), .ref (ya 35), .int (0 : Int32), .int (0 : Int32), .ref (ya 38), .int (0 : Int32), .int (0 : Int32), .ref (ya 41), .ref (ya 42), .int (0 : Int32), .int (0 : Int32), .int (0 : Int32), .int (0 : Int32), .int (0 : Int32)])) := ⟨_, rfl⟩
  have hH : gH E A L f6 s.heap H locs := by rw [ef6]; exact hH
  have h7 : f6 y = .inr (10, [.int (0 : Int32), .ref (ya 1), .ref (ya 2), .ref (ya 3), .ref (ya 4), .ref (ya 5), .int (9 : Int32), .int (0 : Int32), .int (0 : Int32), .int (0 : Int32), .int (0 : Int32), .long (0 : Int64), .int (0 : Int32), .int (0 : Int32), .int (0 : Int32), .int (-1 : Int32), .ref (ya 16), .ref (ya 17), .ref (ya 18), .ref (ya 19), .ref (ya 20), .ref (ya 21), .int (0 : Int32), .int (0 : Int32), .int (0 : Int32), .ref (ya 25), .ref (ya 26), .ref (ya 27), .ref (ya 28), .ref (ya 29), .ref (ya 30), .ref (ya 31), .ref (ya 32), .ref (ya 33), .ref (ya 34), .ref (ya 35), .int (0 : Int32), .int (0 : Int32), .ref (ya 38), .int (0 : Int32), .int (0 : Int32), .ref (ya 41), .ref (ya 42), .int (0 : Int32), .int (0 : Int32), .int (0 : Int32), .int (0 : Int32), .int (0 : Int32)]) := (congrFun ef6 y).trans (va_up_self _ _ _)
  refine lv_iinc (v := (16 : Int32)) (lv' := [(2, .int (16 : Int32)), (0, .ref y), (1, .int p0)]) hx hb dX10_four_30 hl (k := 0) rfl (by decide) (by decide) rfl (fun ls hl => ?_)
  refine lv_goto (tgt := 3) hx hb dX10_four_33 (by decide) ?_
  refine lv_iload_n hx hb dX10_four_3 rfl (lv_at hl 0 rfl) ?_
  refine lv_if_lt (tgt := 36) hx hb dX10_four_4 (by decide) (fun h => absurd h (by decide)) (fun _ => ?_)
  refine lv_aload_n hx hb dX10_four_7 rfl (lv_at hl 1 rfl) ?_
  refine g_get C hH my h7 iX10 rfl 5 (by decide) wd307 rfl rfl dX10_four_8 ?_
  refine lv_aload_n hx hb dX10_four_11 rfl (lv_at hl 1 rfl) ?_
  refine g_get C hH my h7 iX10 rfl 6 (by decide) wd308 rfl rfl dX10_four_12 ?_
  refine lv_iload_n hx hb dX10_four_15 rfl (lv_at hl 2 rfl) ?_
  refine lv_iload_n hx hb dX10_four_16 rfl (lv_at hl 0 rfl) ?_
  refine lv_ishr hx hb dX10_four_17 ?_
  refine lv_topi (fun z8 ez8 => ?_)
  refine lv_i2b (v := (z8).toInt8.toInt32) hx hb dX10_four_18 rfl ?_
  have h9 : f6 (ya 5) = .inl (E.2.2 0, 800, .inl (upd v ((8 : Int32)).toNatClampNeg (vp_nar .byte ((z1).toInt8.toInt32)))) := ((congrFun ef6 (ya 5)).trans (va_up_ne _ _ (g_neAO h3 h4))).trans h3
  refine g_bast C hH m_t h9 (vp_inL (by decide)) dX10_four_19 (fun H locs hH => ?_)
  obtain ⟨f10, ef10⟩ : ∃ z : gF, z = va_up f6 (ya 5) (.inl (E.2.2 0, 800, .inl (upd (upd v ((8 : Int32)).toNatClampNeg (vp_nar .byte ((z1).toInt8.toInt32))) ((9 : Int32)).toNatClampNeg (vp_nar .byte ((z8).toInt8.toInt32))))) := ⟨_, rfl⟩
  have hH : gH E A L f10 s.heap H locs := by rw [ef10]; exact hH
  have h11 : f10 (ya 5) = .inl (E.2.2 0, 800, .inl (upd (upd v ((8 : Int32)).toNatClampNeg (vp_nar .byte ((z1).toInt8.toInt32))) ((9 : Int32)).toNatClampNeg (vp_nar .byte ((z8).toInt8.toInt32)))) := (congrFun ef10 (ya 5)).trans (va_up_self _ _ _)
  refine lv_aload_n hx hb dX10_four_20 rfl (lv_at hl 1 rfl) ?_
  refine lv_dup hx hb dX10_four_21 rfl ?_
  have h12 : f10 y = .inr (10, [.int (0 : Int32), .ref (ya 1), .ref (ya 2), .ref (ya 3), .ref (ya 4), .ref (ya 5), .int (9 : Int32), .int (0 : Int32), .int (0 : Int32), .int (0 : Int32), .int (0 : Int32), .long (0 : Int64), .int (0 : Int32), .int (0 : Int32), .int (0 : Int32), .int (-1 : Int32), .ref (ya 16), .ref (ya 17), .ref (ya 18), .ref (ya 19), .ref (ya 20), .ref (ya 21), .int (0 : Int32), .int (0 : Int32), .int (0 : Int32), .ref (ya 25), .ref (ya 26), .ref (ya 27), .ref (ya 28), .ref (ya 29), .ref (ya 30), .ref (ya 31), .ref (ya 32), .ref (ya 33), .ref (ya 34), .ref (ya 35), .int (0 : Int32), .int (0 : Int32), .ref (ya 38), .int (0 : Int32), .int (0 : Int32), .ref (ya 41), .ref (ya 42), .int (0 : Int32), .int (0 : Int32), .int (0 : Int32), .int (0 : Int32), .int (0 : Int32)]) := ((congrFun ef10 y).trans (va_up_ne _ _ (g_neOA h7 h9))).trans h7
  refine g_get C hH my h12 iX10 rfl 6 (by decide) wd308 rfl rfl dX10_four_22 ?_
  refine lv_iconst (v := (1 : Int32)) hx hb dX10_four_25 (by decide) ?_
  refine lv_iadd hx hb dX10_four_26 ?_
  refine lv_topi (fun z13 ez13 => ?_)
  obtain rfl : z13 = (10 : Int32) := ez13.trans (by decide)
  refine g_put C hH my h12 iX10 tyX10 tyX10_ok nmX10 rfl 6 (by decide) wd308 rfl rfl rfl rfl (Nat.le_of_ble_eq_true rfl) (fs' := [.int (0 : Int32), .ref (ya 1), .ref (ya 2), .ref (ya 3), .ref (ya 4), .ref (ya 5), .int (10 : Int32), .int (0 : Int32), .int (0 : Int32), .int (0 : Int32), .int (0 : Int32), .long (0 : Int64), .int (0 : Int32), .int (0 : Int32), .int (0 : Int32), .int (-1 : Int32), .ref (ya 16), .ref (ya 17), .ref (ya 18), .ref (ya 19), .ref (ya 20), .ref (ya 21), .int (0 : Int32), .int (0 : Int32), .int (0 : Int32), .ref (ya 25), .ref (ya 26), .ref (ya 27), .ref (ya 28), .ref (ya 29), .ref (ya 30), .ref (ya 31), .ref (ya 32), .ref (ya 33), .ref (ya 34), .ref (ya 35), .int (0 : Int32), .int (0 : Int32), .ref (ya 38), .int (0 : Int32), .int (0 : Int32), .ref (ya 41), .ref (ya 42), .int (0 : Int32), .int (0 : Int32), .int (0 : Int32), .int (0 : Int32), .int (0 : Int32)]) rfl dX10_four_27 (fun H locs hH => ?_)
  obtain ⟨f14, ef14⟩ : ∃ z : gF, z = va_up f10 y (.inr (10, [.int (0 : Int32), .ref (ya 1), .ref (ya 2), .ref (ya 3), .ref (ya 4), .ref (ya 5), .int (10 : Int32), .int (0 : Int32), .int (0 : Int32), .int (0 : Int32), .int (0 : Int32), .long (0 : Int64), .int (0 : Int32), .int (0 : Int32), .int (0 : Int32), .int (-1 : Int32), .ref (ya 16), .ref (ya 17), .ref (ya 18), .ref (ya 19), .ref (ya 20), .ref (ya 21), .int (0 : Int32), .int (0 : Int32), .int (0 : Int32), .ref (ya 25), .ref (ya 26), .ref (ya 27), .ref (ya 28), .ref (ya 29), .ref (ya 30), .ref (ya 31), .ref (ya 32), .ref (ya 33), .ref (ya 34), .ref (ya 35), .int (0 : Int32), .int (0 : Int32), .ref (ya 38), .int (0 : Int32), .int (0 : Int32), .ref (ya 41), .ref (ya 42), .int (0 : Int32), .int (0 : Int32), .int (0 : Int32), .int (0 : Int32), .int (0 : Int32)])) := ⟨_, rfl⟩
  have hH : gH E A L f14 s.heap H locs := by rw [ef14]; exact hH
  have h15 : f14 y = .inr (10, [.int (0 : Int32), .ref (ya 1), .ref (ya 2), .ref (ya 3), .ref (ya 4), .ref (ya 5), .int (10 : Int32), .int (0 : Int32), .int (0 : Int32), .int (0 : Int32), .int (0 : Int32), .long (0 : Int64), .int (0 : Int32), .int (0 : Int32), .int (0 : Int32), .int (-1 : Int32), .ref (ya 16), .ref (ya 17), .ref (ya 18), .ref (ya 19), .ref (ya 20), .ref (ya 21), .int (0 : Int32), .int (0 : Int32), .int (0 : Int32), .ref (ya 25), .ref (ya 26), .ref (ya 27), .ref (ya 28), .ref (ya 29), .ref (ya 30), .ref (ya 31), .ref (ya 32), .ref (ya 33), .ref (ya 34), .ref (ya 35), .int (0 : Int32), .int (0 : Int32), .ref (ya 38), .int (0 : Int32), .int (0 : Int32), .ref (ya 41), .ref (ya 42), .int (0 : Int32), .int (0 : Int32), .int (0 : Int32), .int (0 : Int32), .int (0 : Int32)]) := (congrFun ef14 y).trans (va_up_self _ _ _)
  refine lv_iinc (v := (8 : Int32)) (lv' := [(2, .int (8 : Int32)), (0, .ref y), (1, .int p0)]) hx hb dX10_four_30 hl (k := 0) rfl (by decide) (by decide) rfl (fun ls hl => ?_)
  refine lv_goto (tgt := 3) hx hb dX10_four_33 (by decide) ?_
  refine lv_iload_n hx hb dX10_four_3 rfl (lv_at hl 0 rfl) ?_
  refine lv_if_lt (tgt := 36) hx hb dX10_four_4 (by decide) (fun h => absurd h (by decide)) (fun _ => ?_)
  refine lv_aload_n hx hb dX10_four_7 rfl (lv_at hl 1 rfl) ?_
  refine g_get C hH my h15 iX10 rfl 5 (by decide) wd307 rfl rfl dX10_four_8 ?_
  refine lv_aload_n hx hb dX10_four_11 rfl (lv_at hl 1 rfl) ?_
  refine g_get C hH my h15 iX10 rfl 6 (by decide) wd308 rfl rfl dX10_four_12 ?_
  refine lv_iload_n hx hb dX10_four_15 rfl (lv_at hl 2 rfl) ?_
  refine lv_iload_n hx hb dX10_four_16 rfl (lv_at hl 0 rfl) ?_
  refine lv_ishr hx hb dX10_four_17 ?_
  refine lv_topi (fun z16 ez16 => ?_)
  refine lv_i2b (v := (z16).toInt8.toInt32) hx hb dX10_four_18 rfl ?_
  have h17 : f14 (ya 5) = .inl (E.2.2 0, 800, .inl (upd (upd v ((8 : Int32)).toNatClampNeg (vp_nar .byte ((z1).toInt8.toInt32))) ((9 : Int32)).toNatClampNeg (vp_nar .byte ((z8).toInt8.toInt32)))) := ((congrFun ef14 (ya 5)).trans (va_up_ne _ _ (g_neAO h11 h12))).trans h11
  refine g_bast C hH m_t h17 (vp_inL (by decide)) dX10_four_19 (fun H locs hH => ?_)
  obtain ⟨f18, ef18⟩ : ∃ z : gF, z = va_up f14 (ya 5) (.inl (E.2.2 0, 800, .inl (upd (upd (upd v ((8 : Int32)).toNatClampNeg (vp_nar .byte ((z1).toInt8.toInt32))) ((9 : Int32)).toNatClampNeg (vp_nar .byte ((z8).toInt8.toInt32))) ((10 : Int32)).toNatClampNeg (vp_nar .byte ((z16).toInt8.toInt32))))) := ⟨_, rfl⟩
  have hH : gH E A L f18 s.heap H locs := by rw [ef18]; exact hH
  have h19 : f18 (ya 5) = .inl (E.2.2 0, 800, .inl (upd (upd (upd v ((8 : Int32)).toNatClampNeg (vp_nar .byte ((z1).toInt8.toInt32))) ((9 : Int32)).toNatClampNeg (vp_nar .byte ((z8).toInt8.toInt32))) ((10 : Int32)).toNatClampNeg (vp_nar .byte ((z16).toInt8.toInt32)))) := (congrFun ef18 (ya 5)).trans (va_up_self _ _ _)
  refine lv_aload_n hx hb dX10_four_20 rfl (lv_at hl 1 rfl) ?_
  refine lv_dup hx hb dX10_four_21 rfl ?_
  have h20 : f18 y = .inr (10, [.int (0 : Int32), .ref (ya 1), .ref (ya 2), .ref (ya 3), .ref (ya 4), .ref (ya 5), .int (10 : Int32), .int (0 : Int32), .int (0 : Int32), .int (0 : Int32), .int (0 : Int32), .long (0 : Int64), .int (0 : Int32), .int (0 : Int32), .int (0 : Int32), .int (-1 : Int32), .ref (ya 16), .ref (ya 17), .ref (ya 18), .ref (ya 19), .ref (ya 20), .ref (ya 21), .int (0 : Int32), .int (0 : Int32), .int (0 : Int32), .ref (ya 25), .ref (ya 26), .ref (ya 27), .ref (ya 28), .ref (ya 29), .ref (ya 30), .ref (ya 31), .ref (ya 32), .ref (ya 33), .ref (ya 34), .ref (ya 35), .int (0 : Int32), .int (0 : Int32), .ref (ya 38), .int (0 : Int32), .int (0 : Int32), .ref (ya 41), .ref (ya 42), .int (0 : Int32), .int (0 : Int32), .int (0 : Int32), .int (0 : Int32), .int (0 : Int32)]) := ((congrFun ef18 y).trans (va_up_ne _ _ (g_neOA h15 h17))).trans h15
  refine g_get C hH my h20 iX10 rfl 6 (by decide) wd308 rfl rfl dX10_four_22 ?_
  refine lv_iconst (v := (1 : Int32)) hx hb dX10_four_25 (by decide) ?_
  refine lv_iadd hx hb dX10_four_26 ?_
  refine lv_topi (fun z21 ez21 => ?_)
  obtain rfl : z21 = (11 : Int32) := ez21.trans (by decide)
  refine g_put C hH my h20 iX10 tyX10 tyX10_ok nmX10 rfl 6 (by decide) wd308 rfl rfl rfl rfl (Nat.le_of_ble_eq_true rfl) (fs' := [.int (0 : Int32), .ref (ya 1), .ref (ya 2), .ref (ya 3), .ref (ya 4), .ref (ya 5), .int (11 : Int32), .int (0 : Int32), .int (0 : Int32), .int (0 : Int32), .int (0 : Int32), .long (0 : Int64), .int (0 : Int32), .int (0 : Int32), .int (0 : Int32), .int (-1 : Int32), .ref (ya 16), .ref (ya 17), .ref (ya 18), .ref (ya 19), .ref (ya 20), .ref (ya 21), .int (0 : Int32), .int (0 : Int32), .int (0 : Int32), .ref (ya 25), .ref (ya 26), .ref (ya 27), .ref (ya 28), .ref (ya 29), .ref (ya 30), .ref (ya 31), .ref (ya 32), .ref (ya 33), .ref (ya 34), .ref (ya 35), .int (0 : Int32), .int (0 : Int32), .ref (ya 38), .int (0 : Int32), .int (0 : Int32), .ref (ya 41), .ref (ya 42), .int (0 : Int32), .int (0 : Int32), .int (0 : Int32), .int (0 : Int32), .int (0 : Int32)]) rfl dX10_four_27 (fun H locs hH => ?_)
  obtain ⟨f22, ef22⟩ : ∃ z : gF, z = va_up f18 y (.inr (10, [.int (0 : Int32), .ref (ya 1), .ref (ya 2), .ref (ya 3), .ref (ya 4), .ref (ya 5), .int (11 : Int32), .int (0 : Int32), .int (0 : Int32), .int (0 : Int32), .int (0 : Int32), .long (0 : Int64), .int (0 : Int32), .int (0 : Int32), .int (0 : Int32), .int (-1 : Int32), .ref (ya 16), .ref (ya 17), .ref (ya 18), .ref (ya 19), .ref (ya 20), .ref (ya 21), .int (0 : Int32), .int (0 : Int32), .int (0 : Int32), .ref (ya 25), .ref (ya 26), .ref (ya 27), .ref (ya 28), .ref (ya 29), .ref (ya 30), .ref (ya 31), .ref (ya 32), .ref (ya 33), .ref (ya 34), .ref (ya 35), .int (0 : Int32), .int (0 : Int32), .ref (ya 38), .int (0 : Int32), .int (0 : Int32), .ref (ya 41), .ref (ya 42), .int (0 : Int32), .int (0 : Int32), .int (0 : Int32), .int (0 : Int32), .int (0 : Int32)])) := ⟨_, rfl⟩
  have hH : gH E A L f22 s.heap H locs := by rw [ef22]; exact hH
  have h23 : f22 y = .inr (10, [.int (0 : Int32), .ref (ya 1), .ref (ya 2), .ref (ya 3), .ref (ya 4), .ref (ya 5), .int (11 : Int32), .int (0 : Int32), .int (0 : Int32), .int (0 : Int32), .int (0 : Int32), .long (0 : Int64), .int (0 : Int32), .int (0 : Int32), .int (0 : Int32), .int (-1 : Int32), .ref (ya 16), .ref (ya 17), .ref (ya 18), .ref (ya 19), .ref (ya 20), .ref (ya 21), .int (0 : Int32), .int (0 : Int32), .int (0 : Int32), .ref (ya 25), .ref (ya 26), .ref (ya 27), .ref (ya 28), .ref (ya 29), .ref (ya 30), .ref (ya 31), .ref (ya 32), .ref (ya 33), .ref (ya 34), .ref (ya 35), .int (0 : Int32), .int (0 : Int32), .ref (ya 38), .int (0 : Int32), .int (0 : Int32), .ref (ya 41), .ref (ya 42), .int (0 : Int32), .int (0 : Int32), .int (0 : Int32), .int (0 : Int32), .int (0 : Int32)]) := (congrFun ef22 y).trans (va_up_self _ _ _)
  refine lv_iinc (v := (0 : Int32)) (lv' := [(2, .int (0 : Int32)), (0, .ref y), (1, .int p0)]) hx hb dX10_four_30 hl (k := 0) rfl (by decide) (by decide) rfl (fun ls hl => ?_)
  refine lv_goto (tgt := 3) hx hb dX10_four_33 (by decide) ?_
  refine lv_iload_n hx hb dX10_four_3 rfl (lv_at hl 0 rfl) ?_
  refine lv_if_lt (tgt := 36) hx hb dX10_four_4 (by decide) (fun h => absurd h (by decide)) (fun _ => ?_)
  refine lv_aload_n hx hb dX10_four_7 rfl (lv_at hl 1 rfl) ?_
  refine g_get C hH my h23 iX10 rfl 5 (by decide) wd307 rfl rfl dX10_four_8 ?_
  refine lv_aload_n hx hb dX10_four_11 rfl (lv_at hl 1 rfl) ?_
  refine g_get C hH my h23 iX10 rfl 6 (by decide) wd308 rfl rfl dX10_four_12 ?_
  refine lv_iload_n hx hb dX10_four_15 rfl (lv_at hl 2 rfl) ?_
  refine lv_iload_n hx hb dX10_four_16 rfl (lv_at hl 0 rfl) ?_
  refine lv_ishr hx hb dX10_four_17 ?_
  refine lv_topi (fun z24 ez24 => ?_)
  refine lv_i2b (v := (z24).toInt8.toInt32) hx hb dX10_four_18 rfl ?_
  have h25 : f22 (ya 5) = .inl (E.2.2 0, 800, .inl (upd (upd (upd v ((8 : Int32)).toNatClampNeg (vp_nar .byte ((z1).toInt8.toInt32))) ((9 : Int32)).toNatClampNeg (vp_nar .byte ((z8).toInt8.toInt32))) ((10 : Int32)).toNatClampNeg (vp_nar .byte ((z16).toInt8.toInt32)))) := ((congrFun ef22 (ya 5)).trans (va_up_ne _ _ (g_neAO h19 h20))).trans h19
  refine g_bast C hH m_t h25 (vp_inL (by decide)) dX10_four_19 (fun H locs hH => ?_)
  obtain ⟨f26, ef26⟩ : ∃ z : gF, z = va_up f22 (ya 5) (.inl (E.2.2 0, 800, .inl (upd (upd (upd (upd v ((8 : Int32)).toNatClampNeg (vp_nar .byte ((z1).toInt8.toInt32))) ((9 : Int32)).toNatClampNeg (vp_nar .byte ((z8).toInt8.toInt32))) ((10 : Int32)).toNatClampNeg (vp_nar .byte ((z16).toInt8.toInt32))) ((11 : Int32)).toNatClampNeg (vp_nar .byte ((z24).toInt8.toInt32))))) := ⟨_, rfl⟩
  have hH : gH E A L f26 s.heap H locs := by rw [ef26]; exact hH
  have h27 : f26 (ya 5) = .inl (E.2.2 0, 800, .inl (upd (upd (upd (upd v ((8 : Int32)).toNatClampNeg (vp_nar .byte ((z1).toInt8.toInt32))) ((9 : Int32)).toNatClampNeg (vp_nar .byte ((z8).toInt8.toInt32))) ((10 : Int32)).toNatClampNeg (vp_nar .byte ((z16).toInt8.toInt32))) ((11 : Int32)).toNatClampNeg (vp_nar .byte ((z24).toInt8.toInt32)))) := (congrFun ef26 (ya 5)).trans (va_up_self _ _ _)
  refine lv_aload_n hx hb dX10_four_20 rfl (lv_at hl 1 rfl) ?_
  refine lv_dup hx hb dX10_four_21 rfl ?_
  have h28 : f26 y = .inr (10, [.int (0 : Int32), .ref (ya 1), .ref (ya 2), .ref (ya 3), .ref (ya 4), .ref (ya 5), .int (11 : Int32), .int (0 : Int32), .int (0 : Int32), .int (0 : Int32), .int (0 : Int32), .long (0 : Int64), .int (0 : Int32), .int (0 : Int32), .int (0 : Int32), .int (-1 : Int32), .ref (ya 16), .ref (ya 17), .ref (ya 18), .ref (ya 19), .ref (ya 20), .ref (ya 21), .int (0 : Int32), .int (0 : Int32), .int (0 : Int32), .ref (ya 25), .ref (ya 26), .ref (ya 27), .ref (ya 28), .ref (ya 29), .ref (ya 30), .ref (ya 31), .ref (ya 32), .ref (ya 33), .ref (ya 34), .ref (ya 35), .int (0 : Int32), .int (0 : Int32), .ref (ya 38), .int (0 : Int32), .int (0 : Int32), .ref (ya 41), .ref (ya 42), .int (0 : Int32), .int (0 : Int32), .int (0 : Int32), .int (0 : Int32), .int (0 : Int32)]) := ((congrFun ef26 y).trans (va_up_ne _ _ (g_neOA h23 h25))).trans h23
  refine g_get C hH my h28 iX10 rfl 6 (by decide) wd308 rfl rfl dX10_four_22 ?_
  refine lv_iconst (v := (1 : Int32)) hx hb dX10_four_25 (by decide) ?_
  refine lv_iadd hx hb dX10_four_26 ?_
  refine lv_topi (fun z29 ez29 => ?_)
  obtain rfl : z29 = (12 : Int32) := ez29.trans (by decide)
  refine g_put C hH my h28 iX10 tyX10 tyX10_ok nmX10 rfl 6 (by decide) wd308 rfl rfl rfl rfl (Nat.le_of_ble_eq_true rfl) (fs' := [.int (0 : Int32), .ref (ya 1), .ref (ya 2), .ref (ya 3), .ref (ya 4), .ref (ya 5), .int (12 : Int32), .int (0 : Int32), .int (0 : Int32), .int (0 : Int32), .int (0 : Int32), .long (0 : Int64), .int (0 : Int32), .int (0 : Int32), .int (0 : Int32), .int (-1 : Int32), .ref (ya 16), .ref (ya 17), .ref (ya 18), .ref (ya 19), .ref (ya 20), .ref (ya 21), .int (0 : Int32), .int (0 : Int32), .int (0 : Int32), .ref (ya 25), .ref (ya 26), .ref (ya 27), .ref (ya 28), .ref (ya 29), .ref (ya 30), .ref (ya 31), .ref (ya 32), .ref (ya 33), .ref (ya 34), .ref (ya 35), .int (0 : Int32), .int (0 : Int32), .ref (ya 38), .int (0 : Int32), .int (0 : Int32), .ref (ya 41), .ref (ya 42), .int (0 : Int32), .int (0 : Int32), .int (0 : Int32), .int (0 : Int32), .int (0 : Int32)]) rfl dX10_four_27 (fun H locs hH => ?_)
  obtain ⟨f30, ef30⟩ : ∃ z : gF, z = va_up f26 y (.inr (10, [.int (0 : Int32), .ref (ya 1), .ref (ya 2), .ref (ya 3), .ref (ya 4), .ref (ya 5), .int (12 : Int32), .int (0 : Int32), .int (0 : Int32), .int (0 : Int32), .int (0 : Int32), .long (0 : Int64), .int (0 : Int32), .int (0 : Int32), .int (0 : Int32), .int (-1 : Int32), .ref (ya 16), .ref (ya 17), .ref (ya 18), .ref (ya 19), .ref (ya 20), .ref (ya 21), .int (0 : Int32), .int (0 : Int32), .int (0 : Int32), .ref (ya 25), .ref (ya 26), .ref (ya 27), .ref (ya 28), .ref (ya 29), .ref (ya 30), .ref (ya 31), .ref (ya 32), .ref (ya 33), .ref (ya 34), .ref (ya 35), .int (0 : Int32), .int (0 : Int32), .ref (ya 38), .int (0 : Int32), .int (0 : Int32), .ref (ya 41), .ref (ya 42), .int (0 : Int32), .int (0 : Int32), .int (0 : Int32), .int (0 : Int32), .int (0 : Int32)])) := ⟨_, rfl⟩
  have hH : gH E A L f30 s.heap H locs := by rw [ef30]; exact hH
  have h31 : f30 y = .inr (10, [.int (0 : Int32), .ref (ya 1), .ref (ya 2), .ref (ya 3), .ref (ya 4), .ref (ya 5), .int (12 : Int32), .int (0 : Int32), .int (0 : Int32), .int (0 : Int32), .int (0 : Int32), .long (0 : Int64), .int (0 : Int32), .int (0 : Int32), .int (0 : Int32), .int (-1 : Int32), .ref (ya 16), .ref (ya 17), .ref (ya 18), .ref (ya 19), .ref (ya 20), .ref (ya 21), .int (0 : Int32), .int (0 : Int32), .int (0 : Int32), .ref (ya 25), .ref (ya 26), .ref (ya 27), .ref (ya 28), .ref (ya 29), .ref (ya 30), .ref (ya 31), .ref (ya 32), .ref (ya 33), .ref (ya 34), .ref (ya 35), .int (0 : Int32), .int (0 : Int32), .ref (ya 38), .int (0 : Int32), .int (0 : Int32), .ref (ya 41), .ref (ya 42), .int (0 : Int32), .int (0 : Int32), .int (0 : Int32), .int (0 : Int32), .int (0 : Int32)]) := (congrFun ef30 y).trans (va_up_self _ _ _)
  refine lv_iinc (v := (-8 : Int32)) (lv' := [(2, .int (-8 : Int32)), (0, .ref y), (1, .int p0)]) hx hb dX10_four_30 hl (k := 0) rfl (by decide) (by decide) rfl (fun ls hl => ?_)
  refine lv_goto (tgt := 3) hx hb dX10_four_33 (by decide) ?_
  refine lv_iload_n hx hb dX10_four_3 rfl (lv_at hl 0 rfl) ?_
  refine lv_if_lt (tgt := 36) hx hb dX10_four_4 (by decide) (fun _ => ?_) (fun h => absurd (by decide) h)
  refine g_vret C hr hH (Nat.le_of_ble_eq_true rfl) (Nat.le_of_ble_eq_true rfl) dX10_four_36 ?_
  have h32 : f30 (ya 5) = .inl (E.2.2 0, 800, .inl (upd (upd (upd (upd v ((8 : Int32)).toNatClampNeg (vp_nar .byte ((z1).toInt8.toInt32))) ((9 : Int32)).toNatClampNeg (vp_nar .byte ((z8).toInt8.toInt32))) ((10 : Int32)).toNatClampNeg (vp_nar .byte ((z16).toInt8.toInt32))) ((11 : Int32)).toNatClampNeg (vp_nar .byte ((z24).toInt8.toInt32)))) := ((congrFun ef30 (ya 5)).trans (va_up_ne _ _ (g_neAO h27 h28))).trans h27
  exact ⟨rfl, h31, ⟨_, h32⟩, fun b h1 h2 => by rw [ef30, va_up_ne _ _ h1, ef26, va_up_ne _ _ h2, ef22, va_up_ne _ _ h1, ef18, va_up_ne _ _ h2, ef14, va_up_ne _ _ h1, ef10, va_up_ne _ _ h2, ef6, va_up_ne _ _ h1, ef2, va_up_ne _ _ h2]⟩
set_option maxHeartbeats 4000000 in
set_option maxRecDepth 100000 in
theorem m_four12 (l : Launch) (E : gE) (L : List Nat) (f : gF) {y : Nat} {ya : Nat → Nat} (my : y ∈ L) (fy : f y = .inr (10, [.int (0 : Int32), .ref (ya 1), .ref (ya 2), .ref (ya 3), .ref (ya 4), .ref (ya 5), .int (12 : Int32), .int (0 : Int32), .int (0 : Int32), .int (0 : Int32), .int (0 : Int32), .long (0 : Int64), .int (0 : Int32), .int (0 : Int32), .int (0 : Int32), .int (-1 : Int32), .ref (ya 16), .ref (ya 17), .ref (ya 18), .ref (ya 19), .ref (ya 20), .ref (ya 21), .int (0 : Int32), .int (0 : Int32), .int (0 : Int32), .ref (ya 25), .ref (ya 26), .ref (ya 27), .ref (ya 28), .ref (ya 29), .ref (ya 30), .ref (ya 31), .ref (ya 32), .ref (ya 33), .ref (ya 34), .ref (ya 35), .int (0 : Int32), .int (0 : Int32), .ref (ya 38), .int (0 : Int32), .int (0 : Int32), .ref (ya 41), .ref (ya 42), .int (0 : Int32), .int (0 : Int32), .int (0 : Int32), .int (0 : Int32), .int (0 : Int32)])) {v : Nat → Int32} (m_t : (ya 5) ∈ L) (f_t : f (ya 5) = .inl (E.2.2 0, 800, .inl v)) (p0 : Int32) : gMv l E yX10_four cX10_four 3 (gRm 1 0 0) [.ref y, .int p0] L f (fun L1 f1 => L = L1 ∧ f1 y = .inr (10, [.int (0 : Int32), .ref (ya 1), .ref (ya 2), .ref (ya 3), .ref (ya 4), .ref (ya 5), .int (16 : Int32), .int (0 : Int32), .int (0 : Int32), .int (0 : Int32), .int (0 : Int32), .long (0 : Int64), .int (0 : Int32), .int (0 : Int32), .int (0 : Int32), .int (-1 : Int32), .ref (ya 16), .ref (ya 17), .ref (ya 18), .ref (ya 19), .ref (ya 20), .ref (ya 21), .int (0 : Int32), .int (0 : Int32), .int (0 : Int32), .ref (ya 25), .ref (ya 26), .ref (ya 27), .ref (ya 28), .ref (ya 29), .ref (ya 30), .ref (ya 31), .ref (ya 32), .ref (ya 33), .ref (ya 34), .ref (ya 35), .int (0 : Int32), .int (0 : Int32), .ref (ya 38), .int (0 : Int32), .int (0 : Int32), .ref (ya 41), .ref (ya 42), .int (0 : Int32), .int (0 : Int32), .int (0 : Int32), .int (0 : Int32), .int (0 : Int32)]) ∧ (∃ z, f1 (ya 5) = .inl (E.2.2 0, 800, .inl z)) ∧ ∀ b, b ≠ y → b ≠ (ya 5) → f1 b = f b) := by
  refine gMv.intro (by decide) (Nat.le_of_ble_eq_true rfl) ?_
  intro p e s m below meth c A ls C hr hnm hA hH hl
  have C : gC E cX10_four 3 RX10 p s m _ meth c := C
  have hl : lv_has ls 3 [(0, .ref y), (1, .int p0)] := hl
  have hx := C.1
  have hb := C.2.1
  refine lv_bipush (v := (24 : Int32)) hx hb dX10_four_0 (by decide) ?_
  refine lv_istore_n (lv' := [(2, .int (24 : Int32)), (0, .ref y), (1, .int p0)]) hx hb dX10_four_2 rfl hl (by decide) rfl (fun ls hl => ?_)
  refine lv_iload_n hx hb dX10_four_3 rfl (lv_at hl 0 rfl) ?_
  refine lv_if_lt (tgt := 36) hx hb dX10_four_4 (by decide) (fun h => absurd h (by decide)) (fun _ => ?_)
  refine lv_aload_n hx hb dX10_four_7 rfl (lv_at hl 1 rfl) ?_
  refine g_get C hH my fy iX10 rfl 5 (by decide) wd307 rfl rfl dX10_four_8 ?_
  refine lv_aload_n hx hb dX10_four_11 rfl (lv_at hl 1 rfl) ?_
  refine g_get C hH my fy iX10 rfl 6 (by decide) wd308 rfl rfl dX10_four_12 ?_
  refine lv_iload_n hx hb dX10_four_15 rfl (lv_at hl 2 rfl) ?_
  refine lv_iload_n hx hb dX10_four_16 rfl (lv_at hl 0 rfl) ?_
  refine lv_ishr hx hb dX10_four_17 ?_
  refine lv_topi (fun z1 ez1 => ?_)
  refine lv_i2b (v := (z1).toInt8.toInt32) hx hb dX10_four_18 rfl ?_
  refine g_bast C hH m_t f_t (vp_inL (by decide)) dX10_four_19 (fun H locs hH => ?_)
  obtain ⟨f2, ef2⟩ : ∃ z : gF, z = va_up f (ya 5) (.inl (E.2.2 0, 800, .inl (upd v ((12 : Int32)).toNatClampNeg (vp_nar .byte ((z1).toInt8.toInt32))))) := ⟨_, rfl⟩
  have hH : gH E A L f2 s.heap H locs := by rw [ef2]; exact hH
  have h3 : f2 (ya 5) = .inl (E.2.2 0, 800, .inl (upd v ((12 : Int32)).toNatClampNeg (vp_nar .byte ((z1).toInt8.toInt32)))) := (congrFun ef2 (ya 5)).trans (va_up_self _ _ _)
  refine lv_aload_n hx hb dX10_four_20 rfl (lv_at hl 1 rfl) ?_
  refine lv_dup hx hb dX10_four_21 rfl ?_
  have h4 : f2 y = .inr (10, [.int (0 : Int32), .ref (ya 1), .ref (ya 2), .ref (ya 3), .ref (ya 4), .ref (ya 5), .int (12 : Int32), .int (0 : Int32), .int (0 : Int32), .int (0 : Int32), .int (0 : Int32), .long (0 : Int64), .int (0 : Int32), .int (0 : Int32), .int (0 : Int32), .int (-1 : Int32), .ref (ya 16), .ref (ya 17), .ref (ya 18), .ref (ya 19), .ref (ya 20), .ref (ya 21), .int (0 : Int32), .int (0 : Int32), .int (0 : Int32), .ref (ya 25), .ref (ya 26), .ref (ya 27), .ref (ya 28), .ref (ya 29), .ref (ya 30), .ref (ya 31), .ref (ya 32), .ref (ya 33), .ref (ya 34), .ref (ya 35), .int (0 : Int32), .int (0 : Int32), .ref (ya 38), .int (0 : Int32), .int (0 : Int32), .ref (ya 41), .ref (ya 42), .int (0 : Int32), .int (0 : Int32), .int (0 : Int32), .int (0 : Int32), .int (0 : Int32)]) := ((congrFun ef2 y).trans (va_up_ne _ _ (g_neOA fy f_t))).trans fy
  refine g_get C hH my h4 iX10 rfl 6 (by decide) wd308 rfl rfl dX10_four_22 ?_
  refine lv_iconst (v := (1 : Int32)) hx hb dX10_four_25 (by decide) ?_
  refine lv_iadd hx hb dX10_four_26 ?_
  refine lv_topi (fun z5 ez5 => ?_)
  obtain rfl : z5 = (13 : Int32) := ez5.trans (by decide)
  refine g_put C hH my h4 iX10 tyX10 tyX10_ok nmX10 rfl 6 (by decide) wd308 rfl rfl rfl rfl (Nat.le_of_ble_eq_true rfl) (fs' := [.int (0 : Int32), .ref (ya 1), .ref (ya 2), .ref (ya 3), .ref (ya 4), .ref (ya 5), .int (13 : Int32), .int (0 : Int32), .int (0 : Int32), .int (0 : Int32), .int (0 : Int32), .long (0 : Int64), .int (0 : Int32), .int (0 : Int32), .int (0 : Int32), .int (-1 : Int32), .ref (ya 16), .ref (ya 17), .ref (ya 18), .ref (ya 19), .ref (ya 20), .ref (ya 21), .int (0 : Int32), .int (0 : Int32), .int (0 : Int32), .ref (ya 25), .ref (ya 26), .ref (ya 27), .ref (ya 28), .ref (ya 29), .ref (ya 30), .ref (ya 31), .ref (ya 32), .ref (ya 33), .ref (ya 34), .ref (ya 35), .int (0 : Int32), .int (0 : Int32), .ref (ya 38), .int (0 : Int32), .int (0 : Int32), .ref (ya 41), .ref (ya 42), .int (0 : Int32), .int (0 : Int32), .int (0 : Int32), .int (0 : Int32), .int (0 : Int32)]) rfl dX10_four_27 (fun H locs hH => ?_)
  obtain ⟨f6, ef6⟩ : ∃ z : gF, z = va_up f2 y (.inr (10, [.int (0 : Int32), .ref (ya 1), .ref (ya 2), .ref (ya 3), .ref (ya 4), .ref (ya 5), .int (13 : Int32), .int (0 : Int32), .int (0 : Int32), .int (0 : Int32), .int (0 : Int32), .long (0 : Int64), .int (0 : Int32), .int (0 : Int32), .int (0 : Int32), .int (-1 : Int32), .ref (ya 16), .ref (ya 17), .ref (ya 18), .ref (ya 19), .ref (ya 20), .ref (ya 21), .int (0 : Int32), .int (0 : Int32), .int (0 : Int32), .ref (ya 25), .ref (ya 26), .ref (ya 27), .ref (ya 28), .ref (ya 29), .ref (ya 30), .ref (ya 31), .ref (ya 32), .ref (ya 33), .ref (ya 34), .ref (ya 35), .int (0 : Int32), .int (0 : Int32), .ref (ya 38), .int (0 : Int32), .int (0 : Int32), .ref (ya 41), .ref (ya 42), .int (0 : Int32), .int (0 : Int32), .int (0 : Int32), .int (0 : Int32), .int (0 : Int32)])) := ⟨_, rfl⟩
  have hH : gH E A L f6 s.heap H locs := by rw [ef6]; exact hH
  have h7 : f6 y = .inr (10, [.int (0 : Int32), .ref (ya 1), .ref (ya 2), .ref (ya 3), .ref (ya 4), .ref (ya 5), .int (13 : Int32), .int (0 : Int32), .int (0 : Int32), .int (0 : Int32), .int (0 : Int32), .long (0 : Int64), .int (0 : Int32), .int (0 : Int32), .int (0 : Int32), .int (-1 : Int32), .ref (ya 16), .ref (ya 17), .ref (ya 18), .ref (ya 19), .ref (ya 20), .ref (ya 21), .int (0 : Int32), .int (0 : Int32), .int (0 : Int32), .ref (ya 25), .ref (ya 26), .ref (ya 27), .ref (ya 28), .ref (ya 29), .ref (ya 30), .ref (ya 31), .ref (ya 32), .ref (ya 33), .ref (ya 34), .ref (ya 35), .int (0 : Int32), .int (0 : Int32), .ref (ya 38), .int (0 : Int32), .int (0 : Int32), .ref (ya 41), .ref (ya 42), .int (0 : Int32), .int (0 : Int32), .int (0 : Int32), .int (0 : Int32), .int (0 : Int32)]) := (congrFun ef6 y).trans (va_up_self _ _ _)
  refine lv_iinc (v := (16 : Int32)) (lv' := [(2, .int (16 : Int32)), (0, .ref y), (1, .int p0)]) hx hb dX10_four_30 hl (k := 0) rfl (by decide) (by decide) rfl (fun ls hl => ?_)
  refine lv_goto (tgt := 3) hx hb dX10_four_33 (by decide) ?_
  refine lv_iload_n hx hb dX10_four_3 rfl (lv_at hl 0 rfl) ?_
  refine lv_if_lt (tgt := 36) hx hb dX10_four_4 (by decide) (fun h => absurd h (by decide)) (fun _ => ?_)
  refine lv_aload_n hx hb dX10_four_7 rfl (lv_at hl 1 rfl) ?_
  refine g_get C hH my h7 iX10 rfl 5 (by decide) wd307 rfl rfl dX10_four_8 ?_
  refine lv_aload_n hx hb dX10_four_11 rfl (lv_at hl 1 rfl) ?_
  refine g_get C hH my h7 iX10 rfl 6 (by decide) wd308 rfl rfl dX10_four_12 ?_
  refine lv_iload_n hx hb dX10_four_15 rfl (lv_at hl 2 rfl) ?_
  refine lv_iload_n hx hb dX10_four_16 rfl (lv_at hl 0 rfl) ?_
  refine lv_ishr hx hb dX10_four_17 ?_
  refine lv_topi (fun z8 ez8 => ?_)
  refine lv_i2b (v := (z8).toInt8.toInt32) hx hb dX10_four_18 rfl ?_
  have h9 : f6 (ya 5) = .inl (E.2.2 0, 800, .inl (upd v ((12 : Int32)).toNatClampNeg (vp_nar .byte ((z1).toInt8.toInt32)))) := ((congrFun ef6 (ya 5)).trans (va_up_ne _ _ (g_neAO h3 h4))).trans h3
  refine g_bast C hH m_t h9 (vp_inL (by decide)) dX10_four_19 (fun H locs hH => ?_)
  obtain ⟨f10, ef10⟩ : ∃ z : gF, z = va_up f6 (ya 5) (.inl (E.2.2 0, 800, .inl (upd (upd v ((12 : Int32)).toNatClampNeg (vp_nar .byte ((z1).toInt8.toInt32))) ((13 : Int32)).toNatClampNeg (vp_nar .byte ((z8).toInt8.toInt32))))) := ⟨_, rfl⟩
  have hH : gH E A L f10 s.heap H locs := by rw [ef10]; exact hH
  have h11 : f10 (ya 5) = .inl (E.2.2 0, 800, .inl (upd (upd v ((12 : Int32)).toNatClampNeg (vp_nar .byte ((z1).toInt8.toInt32))) ((13 : Int32)).toNatClampNeg (vp_nar .byte ((z8).toInt8.toInt32)))) := (congrFun ef10 (ya 5)).trans (va_up_self _ _ _)
  refine lv_aload_n hx hb dX10_four_20 rfl (lv_at hl 1 rfl) ?_
  refine lv_dup hx hb dX10_four_21 rfl ?_
  have h12 : f10 y = .inr (10, [.int (0 : Int32), .ref (ya 1), .ref (ya 2), .ref (ya 3), .ref (ya 4), .ref (ya 5), .int (13 : Int32), .int (0 : Int32), .int (0 : Int32), .int (0 : Int32), .int (0 : Int32), .long (0 : Int64), .int (0 : Int32), .int (0 : Int32), .int (0 : Int32), .int (-1 : Int32), .ref (ya 16), .ref (ya 17), .ref (ya 18), .ref (ya 19), .ref (ya 20), .ref (ya 21), .int (0 : Int32), .int (0 : Int32), .int (0 : Int32), .ref (ya 25), .ref (ya 26), .ref (ya 27), .ref (ya 28), .ref (ya 29), .ref (ya 30), .ref (ya 31), .ref (ya 32), .ref (ya 33), .ref (ya 34), .ref (ya 35), .int (0 : Int32), .int (0 : Int32), .ref (ya 38), .int (0 : Int32), .int (0 : Int32), .ref (ya 41), .ref (ya 42), .int (0 : Int32), .int (0 : Int32), .int (0 : Int32), .int (0 : Int32), .int (0 : Int32)]) := ((congrFun ef10 y).trans (va_up_ne _ _ (g_neOA h7 h9))).trans h7
  refine g_get C hH my h12 iX10 rfl 6 (by decide) wd308 rfl rfl dX10_four_22 ?_
  refine lv_iconst (v := (1 : Int32)) hx hb dX10_four_25 (by decide) ?_
  refine lv_iadd hx hb dX10_four_26 ?_
  refine lv_topi (fun z13 ez13 => ?_)
  obtain rfl : z13 = (14 : Int32) := ez13.trans (by decide)
  refine g_put C hH my h12 iX10 tyX10 tyX10_ok nmX10 rfl 6 (by decide) wd308 rfl rfl rfl rfl (Nat.le_of_ble_eq_true rfl) (fs' := [.int (0 : Int32), .ref (ya 1), .ref (ya 2), .ref (ya 3), .ref (ya 4), .ref (ya 5), .int (14 : Int32), .int (0 : Int32), .int (0 : Int32), .int (0 : Int32), .int (0 : Int32), .long (0 : Int64), .int (0 : Int32), .int (0 : Int32), .int (0 : Int32), .int (-1 : Int32), .ref (ya 16), .ref (ya 17), .ref (ya 18), .ref (ya 19), .ref (ya 20), .ref (ya 21), .int (0 : Int32), .int (0 : Int32), .int (0 : Int32), .ref (ya 25), .ref (ya 26), .ref (ya 27), .ref (ya 28), .ref (ya 29), .ref (ya 30), .ref (ya 31), .ref (ya 32), .ref (ya 33), .ref (ya 34), .ref (ya 35), .int (0 : Int32), .int (0 : Int32), .ref (ya 38), .int (0 : Int32), .int (0 : Int32), .ref (ya 41), .ref (ya 42), .int (0 : Int32), .int (0 : Int32), .int (0 : Int32), .int (0 : Int32), .int (0 : Int32)]) rfl dX10_four_27 (fun H locs hH => ?_)
  obtain ⟨f14, ef14⟩ : ∃ z : gF, z = va_up f10 y (.inr (10, [.int (0 : Int32), .ref (ya 1), .ref (ya 2), .ref (ya 3), .ref (ya 4), .ref (ya 5), .int (14 : Int32), .int (0 : Int32), .int (0 : Int32), .int (0 : Int32), .int (0 : Int32), .long (0 : Int64), .int (0 : Int32), .int (0 : Int32), .int (0 : Int32), .int (-1 : Int32), .ref (ya 16), .ref (ya 17), .ref (ya 18), .ref (ya 19), .ref (ya 20), .ref (ya 21), .int (0 : Int32), .int (0 : Int32), .int (0 : Int32), .ref (ya 25), .ref (ya 26), .ref (ya 27), .ref (ya 28), .ref (ya 29), .ref (ya 30), .ref (ya 31), .ref (ya 32), .ref (ya 33), .ref (ya 34), .ref (ya 35), .int (0 : Int32), .int (0 : Int32), .ref (ya 38), .int (0 : Int32), .int (0 : Int32), .ref (ya 41), .ref (ya 42), .int (0 : Int32), .int (0 : Int32), .int (0 : Int32), .int (0 : Int32), .int (0 : Int32)])) := ⟨_, rfl⟩
  have hH : gH E A L f14 s.heap H locs := by rw [ef14]; exact hH
  have h15 : f14 y = .inr (10, [.int (0 : Int32), .ref (ya 1), .ref (ya 2), .ref (ya 3), .ref (ya 4), .ref (ya 5), .int (14 : Int32), .int (0 : Int32), .int (0 : Int32), .int (0 : Int32), .int (0 : Int32), .long (0 : Int64), .int (0 : Int32), .int (0 : Int32), .int (0 : Int32), .int (-1 : Int32), .ref (ya 16), .ref (ya 17), .ref (ya 18), .ref (ya 19), .ref (ya 20), .ref (ya 21), .int (0 : Int32), .int (0 : Int32), .int (0 : Int32), .ref (ya 25), .ref (ya 26), .ref (ya 27), .ref (ya 28), .ref (ya 29), .ref (ya 30), .ref (ya 31), .ref (ya 32), .ref (ya 33), .ref (ya 34), .ref (ya 35), .int (0 : Int32), .int (0 : Int32), .ref (ya 38), .int (0 : Int32), .int (0 : Int32), .ref (ya 41), .ref (ya 42), .int (0 : Int32), .int (0 : Int32), .int (0 : Int32), .int (0 : Int32), .int (0 : Int32)]) := (congrFun ef14 y).trans (va_up_self _ _ _)
  refine lv_iinc (v := (8 : Int32)) (lv' := [(2, .int (8 : Int32)), (0, .ref y), (1, .int p0)]) hx hb dX10_four_30 hl (k := 0) rfl (by decide) (by decide) rfl (fun ls hl => ?_)
  refine lv_goto (tgt := 3) hx hb dX10_four_33 (by decide) ?_
  refine lv_iload_n hx hb dX10_four_3 rfl (lv_at hl 0 rfl) ?_
  refine lv_if_lt (tgt := 36) hx hb dX10_four_4 (by decide) (fun h => absurd h (by decide)) (fun _ => ?_)
  refine lv_aload_n hx hb dX10_four_7 rfl (lv_at hl 1 rfl) ?_
  refine g_get C hH my h15 iX10 rfl 5 (by decide) wd307 rfl rfl dX10_four_8 ?_
  refine lv_aload_n hx hb dX10_four_11 rfl (lv_at hl 1 rfl) ?_
  refine g_get C hH my h15 iX10 rfl 6 (by decide) wd308 rfl rfl dX10_four_12 ?_
  refine lv_iload_n hx hb dX10_four_15 rfl (lv_at hl 2 rfl) ?_
  refine lv_iload_n hx hb dX10_four_16 rfl (lv_at hl 0 rfl) ?_
  refine lv_ishr hx hb dX10_four_17 ?_
  refine lv_topi (fun z16 ez16 => ?_)
  refine lv_i2b (v := (z16).toInt8.toInt32) hx hb dX10_four_18 rfl ?_
  have h17 : f14 (ya 5) = .inl (E.2.2 0, 800, .inl (upd (upd v ((12 : Int32)).toNatClampNeg (vp_nar .byte ((z1).toInt8.toInt32))) ((13 : Int32)).toNatClampNeg (vp_nar .byte ((z8).toInt8.toInt32)))) := ((congrFun ef14 (ya 5)).trans (va_up_ne _ _ (g_neAO h11 h12))).trans h11
  refine g_bast C hH m_t h17 (vp_inL (by decide)) dX10_four_19 (fun H locs hH => ?_)
  obtain ⟨f18, ef18⟩ : ∃ z : gF, z = va_up f14 (ya 5) (.inl (E.2.2 0, 800, .inl (upd (upd (upd v ((12 : Int32)).toNatClampNeg (vp_nar .byte ((z1).toInt8.toInt32))) ((13 : Int32)).toNatClampNeg (vp_nar .byte ((z8).toInt8.toInt32))) ((14 : Int32)).toNatClampNeg (vp_nar .byte ((z16).toInt8.toInt32))))) := ⟨_, rfl⟩
  have hH : gH E A L f18 s.heap H locs := by rw [ef18]; exact hH
  have h19 : f18 (ya 5) = .inl (E.2.2 0, 800, .inl (upd (upd (upd v ((12 : Int32)).toNatClampNeg (vp_nar .byte ((z1).toInt8.toInt32))) ((13 : Int32)).toNatClampNeg (vp_nar .byte ((z8).toInt8.toInt32))) ((14 : Int32)).toNatClampNeg (vp_nar .byte ((z16).toInt8.toInt32)))) := (congrFun ef18 (ya 5)).trans (va_up_self _ _ _)
  refine lv_aload_n hx hb dX10_four_20 rfl (lv_at hl 1 rfl) ?_
  refine lv_dup hx hb dX10_four_21 rfl ?_
  have h20 : f18 y = .inr (10, [.int (0 : Int32), .ref (ya 1), .ref (ya 2), .ref (ya 3), .ref (ya 4), .ref (ya 5), .int (14 : Int32), .int (0 : Int32), .int (0 : Int32), .int (0 : Int32), .int (0 : Int32), .long (0 : Int64), .int (0 : Int32), .int (0 : Int32), .int (0 : Int32), .int (-1 : Int32), .ref (ya 16), .ref (ya 17), .ref (ya 18), .ref (ya 19), .ref (ya 20), .ref (ya 21), .int (0 : Int32), .int (0 : Int32), .int (0 : Int32), .ref (ya 25), .ref (ya 26), .ref (ya 27), .ref (ya 28), .ref (ya 29), .ref (ya 30), .ref (ya 31), .ref (ya 32), .ref (ya 33), .ref (ya 34), .ref (ya 35), .int (0 : Int32), .int (0 : Int32), .ref (ya 38), .int (0 : Int32), .int (0 : Int32), .ref (ya 41), .ref (ya 42), .int (0 : Int32), .int (0 : Int32), .int (0 : Int32), .int (0 : Int32), .int (0 : Int32)]) := ((congrFun ef18 y).trans (va_up_ne _ _ (g_neOA h15 h17))).trans h15
  refine g_get C hH my h20 iX10 rfl 6 (by decide) wd308 rfl rfl dX10_four_22 ?_
  refine lv_iconst (v := (1 : Int32)) hx hb dX10_four_25 (by decide) ?_
  refine lv_iadd hx hb dX10_four_26 ?_
  refine lv_topi (fun z21 ez21 => ?_)
  obtain rfl : z21 = (15 : Int32) := ez21.trans (by decide)
  refine g_put C hH my h20 iX10 tyX10 tyX10_ok nmX10 rfl 6 (by decide) wd308 rfl rfl rfl rfl (Nat.le_of_ble_eq_true rfl) (fs' := [.int (0 : Int32), .ref (ya 1), .ref (ya 2), .ref (ya 3), .ref (ya 4), .ref (ya 5), .int (15 : Int32), .int (0 : Int32), .int (0 : Int32), .int (0 : Int32), .int (0 : Int32), .long (0 : Int64), .int (0 : Int32), .int (0 : Int32), .int (0 : Int32), .int (-1 : Int32), .ref (ya 16), .ref (ya 17), .ref (ya 18), .ref (ya 19), .ref (ya 20), .ref (ya 21), .int (0 : Int32), .int (0 : Int32), .int (0 : Int32), .ref (ya 25), .ref (ya 26), .ref (ya 27), .ref (ya 28), .ref (ya 29), .ref (ya 30), .ref (ya 31), .ref (ya 32), .ref (ya 33), .ref (ya 34), .ref (ya 35), .int (0 : Int32), .int (0 : Int32), .ref (ya 38), .int (0 : Int32), .int (0 : Int32), .ref (ya 41), .ref (ya 42), .int (0 : Int32), .int (0 : Int32), .int (0 : Int32), .int (0 : Int32), .int (0 : Int32)]) rfl dX10_four_27 (fun H locs hH => ?_)
  obtain ⟨f22, ef22⟩ : ∃ z : gF, z = va_up f18 y (.inr (10, [.int (0 : Int32), .ref (ya 1), .ref (ya 2), .ref (ya 3), .ref (ya 4), .ref (ya 5), .int (15 : Int32), .int (0 : Int32), .int (0 : Int32), .int (0 : Int32), .int (0 : Int32), .long (0 : Int64), .int (0 : Int32), .int (0 : Int32), .int (0 : Int32), .int (-1 : Int32), .ref (ya 16), .ref (ya 17), .ref (ya 18), .ref (ya 19), .ref (ya 20), .ref (ya 21), .int (0 : Int32), .int (0 : Int32), .int (0 : Int32), .ref (ya 25), .ref (ya 26), .ref (ya 27), .ref (ya 28), .ref (ya 29), .ref (ya 30), .ref (ya 31), .ref (ya 32), .ref (ya 33), .ref (ya 34), .ref (ya 35), .int (0 : Int32), .int (0 : Int32), .ref (ya 38), .int (0 : Int32), .int (0 : Int32), .ref (ya 41), .ref (ya 42), .int (0 : Int32), .int (0 : Int32), .int (0 : Int32), .int (0 : Int32), .int (0 : Int32)])) := ⟨_, rfl⟩
  have hH : gH E A L f22 s.heap H locs := by rw [ef22]; exact hH
  have h23 : f22 y = .inr (10, [.int (0 : Int32), .ref (ya 1), .ref (ya 2), .ref (ya 3), .ref (ya 4), .ref (ya 5), .int (15 : Int32), .int (0 : Int32), .int (0 : Int32), .int (0 : Int32), .int (0 : Int32), .long (0 : Int64), .int (0 : Int32), .int (0 : Int32), .int (0 : Int32), .int (-1 : Int32), .ref (ya 16), .ref (ya 17), .ref (ya 18), .ref (ya 19), .ref (ya 20), .ref (ya 21), .int (0 : Int32), .int (0 : Int32), .int (0 : Int32), .ref (ya 25), .ref (ya 26), .ref (ya 27), .ref (ya 28), .ref (ya 29), .ref (ya 30), .ref (ya 31), .ref (ya 32), .ref (ya 33), .ref (ya 34), .ref (ya 35), .int (0 : Int32), .int (0 : Int32), .ref (ya 38), .int (0 : Int32), .int (0 : Int32), .ref (ya 41), .ref (ya 42), .int (0 : Int32), .int (0 : Int32), .int (0 : Int32), .int (0 : Int32), .int (0 : Int32)]) := (congrFun ef22 y).trans (va_up_self _ _ _)
  refine lv_iinc (v := (0 : Int32)) (lv' := [(2, .int (0 : Int32)), (0, .ref y), (1, .int p0)]) hx hb dX10_four_30 hl (k := 0) rfl (by decide) (by decide) rfl (fun ls hl => ?_)
  refine lv_goto (tgt := 3) hx hb dX10_four_33 (by decide) ?_
  refine lv_iload_n hx hb dX10_four_3 rfl (lv_at hl 0 rfl) ?_
  refine lv_if_lt (tgt := 36) hx hb dX10_four_4 (by decide) (fun h => absurd h (by decide)) (fun _ => ?_)
  refine lv_aload_n hx hb dX10_four_7 rfl (lv_at hl 1 rfl) ?_
  refine g_get C hH my h23 iX10 rfl 5 (by decide) wd307 rfl rfl dX10_four_8 ?_
  refine lv_aload_n hx hb dX10_four_11 rfl (lv_at hl 1 rfl) ?_
  refine g_get C hH my h23 iX10 rfl 6 (by decide) wd308 rfl rfl dX10_four_12 ?_
  refine lv_iload_n hx hb dX10_four_15 rfl (lv_at hl 2 rfl) ?_
  refine lv_iload_n hx hb dX10_four_16 rfl (lv_at hl 0 rfl) ?_
  refine lv_ishr hx hb dX10_four_17 ?_
  refine lv_topi (fun z24 ez24 => ?_)
  refine lv_i2b (v := (z24).toInt8.toInt32) hx hb dX10_four_18 rfl ?_
  have h25 : f22 (ya 5) = .inl (E.2.2 0, 800, .inl (upd (upd (upd v ((12 : Int32)).toNatClampNeg (vp_nar .byte ((z1).toInt8.toInt32))) ((13 : Int32)).toNatClampNeg (vp_nar .byte ((z8).toInt8.toInt32))) ((14 : Int32)).toNatClampNeg (vp_nar .byte ((z16).toInt8.toInt32)))) := ((congrFun ef22 (ya 5)).trans (va_up_ne _ _ (g_neAO h19 h20))).trans h19
  refine g_bast C hH m_t h25 (vp_inL (by decide)) dX10_four_19 (fun H locs hH => ?_)
  obtain ⟨f26, ef26⟩ : ∃ z : gF, z = va_up f22 (ya 5) (.inl (E.2.2 0, 800, .inl (upd (upd (upd (upd v ((12 : Int32)).toNatClampNeg (vp_nar .byte ((z1).toInt8.toInt32))) ((13 : Int32)).toNatClampNeg (vp_nar .byte ((z8).toInt8.toInt32))) ((14 : Int32)).toNatClampNeg (vp_nar .byte ((z16).toInt8.toInt32))) ((15 : Int32)).toNatClampNeg (vp_nar .byte ((z24).toInt8.toInt32))))) := ⟨_, rfl⟩
  have hH : gH E A L f26 s.heap H locs := by rw [ef26]; exact hH
  have h27 : f26 (ya 5) = .inl (E.2.2 0, 800, .inl (upd (upd (upd (upd v ((12 : Int32)).toNatClampNeg (vp_nar .byte ((z1).toInt8.toInt32))) ((13 : Int32)).toNatClampNeg (vp_nar .byte ((z8).toInt8.toInt32))) ((14 : Int32)).toNatClampNeg (vp_nar .byte ((z16).toInt8.toInt32))) ((15 : Int32)).toNatClampNeg (vp_nar .byte ((z24).toInt8.toInt32)))) := (congrFun ef26 (ya 5)).trans (va_up_self _ _ _)
  refine lv_aload_n hx hb dX10_four_20 rfl (lv_at hl 1 rfl) ?_
  refine lv_dup hx hb dX10_four_21 rfl ?_
  have h28 : f26 y = .inr (10, [.int (0 : Int32), .ref (ya 1), .ref (ya 2), .ref (ya 3), .ref (ya 4), .ref (ya 5), .int (15 : Int32), .int (0 : Int32), .int (0 : Int32), .int (0 : Int32), .int (0 : Int32), .long (0 : Int64), .int (0 : Int32), .int (0 : Int32), .int (0 : Int32), .int (-1 : Int32), .ref (ya 16), .ref (ya 17), .ref (ya 18), .ref (ya 19), .ref (ya 20), .ref (ya 21), .int (0 : Int32), .int (0 : Int32), .int (0 : Int32), .ref (ya 25), .ref (ya 26), .ref (ya 27), .ref (ya 28), .ref (ya 29), .ref (ya 30), .ref (ya 31), .ref (ya 32), .ref (ya 33), .ref (ya 34), .ref (ya 35), .int (0 : Int32), .int (0 : Int32), .ref (ya 38), .int (0 : Int32), .int (0 : Int32), .ref (ya 41), .ref (ya 42), .int (0 : Int32), .int (0 : Int32), .int (0 : Int32), .int (0 : Int32), .int (0 : Int32)]) := ((congrFun ef26 y).trans (va_up_ne _ _ (g_neOA h23 h25))).trans h23
  refine g_get C hH my h28 iX10 rfl 6 (by decide) wd308 rfl rfl dX10_four_22 ?_
  refine lv_iconst (v := (1 : Int32)) hx hb dX10_four_25 (by decide) ?_
  refine lv_iadd hx hb dX10_four_26 ?_
  refine lv_topi (fun z29 ez29 => ?_)
  obtain rfl : z29 = (16 : Int32) := ez29.trans (by decide)
  refine g_put C hH my h28 iX10 tyX10 tyX10_ok nmX10 rfl 6 (by decide) wd308 rfl rfl rfl rfl (Nat.le_of_ble_eq_true rfl) (fs' := [.int (0 : Int32), .ref (ya 1), .ref (ya 2), .ref (ya 3), .ref (ya 4), .ref (ya 5), .int (16 : Int32), .int (0 : Int32), .int (0 : Int32), .int (0 : Int32), .int (0 : Int32), .long (0 : Int64), .int (0 : Int32), .int (0 : Int32), .int (0 : Int32), .int (-1 : Int32), .ref (ya 16), .ref (ya 17), .ref (ya 18), .ref (ya 19), .ref (ya 20), .ref (ya 21), .int (0 : Int32), .int (0 : Int32), .int (0 : Int32), .ref (ya 25), .ref (ya 26), .ref (ya 27), .ref (ya 28), .ref (ya 29), .ref (ya 30), .ref (ya 31), .ref (ya 32), .ref (ya 33), .ref (ya 34), .ref (ya 35), .int (0 : Int32), .int (0 : Int32), .ref (ya 38), .int (0 : Int32), .int (0 : Int32), .ref (ya 41), .ref (ya 42), .int (0 : Int32), .int (0 : Int32), .int (0 : Int32), .int (0 : Int32), .int (0 : Int32)]) rfl dX10_four_27 (fun H locs hH => ?_)
  obtain ⟨f30, ef30⟩ : ∃ z : gF, z = va_up f26 y (.inr (10, [.int (0 : Int32), .ref (ya 1), .ref (ya 2), .ref (ya 3), .ref (ya 4), .ref (ya 5), .int (16 : Int32), .int (0 : Int32), .int (0 : Int32), .int (0 : Int32), .int (0 : Int32), .long (0 : Int64), .int (0 : Int32), .int (0 : Int32), .int (0 : Int32), .int (-1 : Int32), .ref (ya 16), .ref (ya 17), .ref (ya 18), .ref (ya 19), .ref (ya 20), .ref (ya 21), .int (0 : Int32), .int (0 : Int32), .int (0 : Int32), .ref (ya 25), .ref (ya 26), .ref (ya 27), .ref (ya 28), .ref (ya 29), .ref (ya 30), .ref (ya 31), .ref (ya 32), .ref (ya 33), .ref (ya 34), .ref (ya 35), .int (0 : Int32), .int (0 : Int32), .ref (ya 38), .int (0 : Int32), .int (0 : Int32), .ref (ya 41), .ref (ya 42), .int (0 : Int32), .int (0 : Int32), .int (0 : Int32), .int (0 : Int32), .int (0 : Int32)])) := ⟨_, rfl⟩
  have hH : gH E A L f30 s.heap H locs := by rw [ef30]; exact hH
  have h31 : f30 y = .inr (10, [.int (0 : Int32), .ref (ya 1), .ref (ya 2), .ref (ya 3), .ref (ya 4), .ref (ya 5), .int (16 : Int32), .int (0 : Int32), .int (0 : Int32), .int (0 : Int32), .int (0 : Int32), .long (0 : Int64), .int (0 : Int32), .int (0 : Int32), .int (0 : Int32), .int (-1 : Int32), .ref (ya 16), .ref (ya 17), .ref (ya 18), .ref (ya 19), .ref (ya 20), .ref (ya 21), .int (0 : Int32), .int (0 : Int32), .int (0 : Int32), .ref (ya 25), .ref (ya 26), .ref (ya 27), .ref (ya 28), .ref (ya 29), .ref (ya 30), .ref (ya 31), .ref (ya 32), .ref (ya 33), .ref (ya 34), .ref (ya 35), .int (0 : Int32), .int (0 : Int32), .ref (ya 38), .int (0 : Int32), .int (0 : Int32), .ref (ya 41), .ref (ya 42), .int (0 : Int32), .int (0 : Int32), .int (0 : Int32), .int (0 : Int32), .int (0 : Int32)]) := (congrFun ef30 y).trans (va_up_self _ _ _)
  refine lv_iinc (v := (-8 : Int32)) (lv' := [(2, .int (-8 : Int32)), (0, .ref y), (1, .int p0)]) hx hb dX10_four_30 hl (k := 0) rfl (by decide) (by decide) rfl (fun ls hl => ?_)
  refine lv_goto (tgt := 3) hx hb dX10_four_33 (by decide) ?_
  refine lv_iload_n hx hb dX10_four_3 rfl (lv_at hl 0 rfl) ?_
  refine lv_if_lt (tgt := 36) hx hb dX10_four_4 (by decide) (fun _ => ?_) (fun h => absurd (by decide) h)
  refine g_vret C hr hH (Nat.le_of_ble_eq_true rfl) (Nat.le_of_ble_eq_true rfl) dX10_four_36 ?_
  have h32 : f30 (ya 5) = .inl (E.2.2 0, 800, .inl (upd (upd (upd (upd v ((12 : Int32)).toNatClampNeg (vp_nar .byte ((z1).toInt8.toInt32))) ((13 : Int32)).toNatClampNeg (vp_nar .byte ((z8).toInt8.toInt32))) ((14 : Int32)).toNatClampNeg (vp_nar .byte ((z16).toInt8.toInt32))) ((15 : Int32)).toNatClampNeg (vp_nar .byte ((z24).toInt8.toInt32)))) := ((congrFun ef30 (ya 5)).trans (va_up_ne _ _ (g_neAO h27 h28))).trans h27
  exact ⟨rfl, h31, ⟨_, h32⟩, fun b h1 h2 => by rw [ef30, va_up_ne _ _ h1, ef26, va_up_ne _ _ h2, ef22, va_up_ne _ _ h1, ef18, va_up_ne _ _ h2, ef14, va_up_ne _ _ h1, ef10, va_up_ne _ _ h2, ef6, va_up_ne _ _ h1, ef2, va_up_ne _ _ h2]⟩
set_option maxHeartbeats 4000000 in
set_option maxRecDepth 100000 in
theorem m_four16 (l : Launch) (E : gE) (L : List Nat) (f : gF) {y : Nat} {ya : Nat → Nat} (my : y ∈ L) (fy : f y = .inr (10, [.int (0 : Int32), .ref (ya 1), .ref (ya 2), .ref (ya 3), .ref (ya 4), .ref (ya 5), .int (16 : Int32), .int (0 : Int32), .int (0 : Int32), .int (0 : Int32), .int (0 : Int32), .long (0 : Int64), .int (0 : Int32), .int (0 : Int32), .int (0 : Int32), .int (-1 : Int32), .ref (ya 16), .ref (ya 17), .ref (ya 18), .ref (ya 19), .ref (ya 20), .ref (ya 21), .int (0 : Int32), .int (0 : Int32), .int (0 : Int32), .ref (ya 25), .ref (ya 26), .ref (ya 27), .ref (ya 28), .ref (ya 29), .ref (ya 30), .ref (ya 31), .ref (ya 32), .ref (ya 33), .ref (ya 34), .ref (ya 35), .int (0 : Int32), .int (0 : Int32), .ref (ya 38), .int (0 : Int32), .int (0 : Int32), .ref (ya 41), .ref (ya 42), .int (0 : Int32), .int (0 : Int32), .int (0 : Int32), .int (0 : Int32), .int (0 : Int32)])) {v : Nat → Int32} (m_t : (ya 5) ∈ L) (f_t : f (ya 5) = .inl (E.2.2 0, 800, .inl v)) (p0 : Int32) : gMv l E yX10_four cX10_four 3 (gRm 1 0 0) [.ref y, .int p0] L f (fun L1 f1 => L = L1 ∧ f1 y = .inr (10, [.int (0 : Int32), .ref (ya 1), .ref (ya 2), .ref (ya 3), .ref (ya 4), .ref (ya 5), .int (20 : Int32), .int (0 : Int32), .int (0 : Int32), .int (0 : Int32), .int (0 : Int32), .long (0 : Int64), .int (0 : Int32), .int (0 : Int32), .int (0 : Int32), .int (-1 : Int32), .ref (ya 16), .ref (ya 17), .ref (ya 18), .ref (ya 19), .ref (ya 20), .ref (ya 21), .int (0 : Int32), .int (0 : Int32), .int (0 : Int32), .ref (ya 25), .ref (ya 26), .ref (ya 27), .ref (ya 28), .ref (ya 29), .ref (ya 30), .ref (ya 31), .ref (ya 32), .ref (ya 33), .ref (ya 34), .ref (ya 35), .int (0 : Int32), .int (0 : Int32), .ref (ya 38), .int (0 : Int32), .int (0 : Int32), .ref (ya 41), .ref (ya 42), .int (0 : Int32), .int (0 : Int32), .int (0 : Int32), .int (0 : Int32), .int (0 : Int32)]) ∧ (∃ z, f1 (ya 5) = .inl (E.2.2 0, 800, .inl z)) ∧ ∀ b, b ≠ y → b ≠ (ya 5) → f1 b = f b) := by
  refine gMv.intro (by decide) (Nat.le_of_ble_eq_true rfl) ?_
  intro p e s m below meth c A ls C hr hnm hA hH hl
  have C : gC E cX10_four 3 RX10 p s m _ meth c := C
  have hl : lv_has ls 3 [(0, .ref y), (1, .int p0)] := hl
  have hx := C.1
  have hb := C.2.1
  refine lv_bipush (v := (24 : Int32)) hx hb dX10_four_0 (by decide) ?_
  refine lv_istore_n (lv' := [(2, .int (24 : Int32)), (0, .ref y), (1, .int p0)]) hx hb dX10_four_2 rfl hl (by decide) rfl (fun ls hl => ?_)
  refine lv_iload_n hx hb dX10_four_3 rfl (lv_at hl 0 rfl) ?_
  refine lv_if_lt (tgt := 36) hx hb dX10_four_4 (by decide) (fun h => absurd h (by decide)) (fun _ => ?_)
  refine lv_aload_n hx hb dX10_four_7 rfl (lv_at hl 1 rfl) ?_
  refine g_get C hH my fy iX10 rfl 5 (by decide) wd307 rfl rfl dX10_four_8 ?_
  refine lv_aload_n hx hb dX10_four_11 rfl (lv_at hl 1 rfl) ?_
  refine g_get C hH my fy iX10 rfl 6 (by decide) wd308 rfl rfl dX10_four_12 ?_
  refine lv_iload_n hx hb dX10_four_15 rfl (lv_at hl 2 rfl) ?_
  refine lv_iload_n hx hb dX10_four_16 rfl (lv_at hl 0 rfl) ?_
  refine lv_ishr hx hb dX10_four_17 ?_
  refine lv_topi (fun z1 ez1 => ?_)
  refine lv_i2b (v := (z1).toInt8.toInt32) hx hb dX10_four_18 rfl ?_
  refine g_bast C hH m_t f_t (vp_inL (by decide)) dX10_four_19 (fun H locs hH => ?_)
  obtain ⟨f2, ef2⟩ : ∃ z : gF, z = va_up f (ya 5) (.inl (E.2.2 0, 800, .inl (upd v ((16 : Int32)).toNatClampNeg (vp_nar .byte ((z1).toInt8.toInt32))))) := ⟨_, rfl⟩
  have hH : gH E A L f2 s.heap H locs := by rw [ef2]; exact hH
  have h3 : f2 (ya 5) = .inl (E.2.2 0, 800, .inl (upd v ((16 : Int32)).toNatClampNeg (vp_nar .byte ((z1).toInt8.toInt32)))) := (congrFun ef2 (ya 5)).trans (va_up_self _ _ _)
  refine lv_aload_n hx hb dX10_four_20 rfl (lv_at hl 1 rfl) ?_
  refine lv_dup hx hb dX10_four_21 rfl ?_
  have h4 : f2 y = .inr (10, [.int (0 : Int32), .ref (ya 1), .ref (ya 2), .ref (ya 3), .ref (ya 4), .ref (ya 5), .int (16 : Int32), .int (0 : Int32), .int (0 : Int32), .int (0 : Int32), .int (0 : Int32), .long (0 : Int64), .int (0 : Int32), .int (0 : Int32), .int (0 : Int32), .int (-1 : Int32), .ref (ya 16), .ref (ya 17), .ref (ya 18), .ref (ya 19), .ref (ya 20), .ref (ya 21), .int (0 : Int32), .int (0 : Int32), .int (0 : Int32), .ref (ya 25), .ref (ya 26), .ref (ya 27), .ref (ya 28), .ref (ya 29), .ref (ya 30), .ref (ya 31), .ref (ya 32), .ref (ya 33), .ref (ya 34), .ref (ya 35), .int (0 : Int32), .int (0 : Int32), .ref (ya 38), .int (0 : Int32), .int (0 : Int32), .ref (ya 41), .ref (ya 42), .int (0 : Int32), .int (0 : Int32), .int (0 : Int32), .int (0 : Int32), .int (0 : Int32)]) := ((congrFun ef2 y).trans (va_up_ne _ _ (g_neOA fy f_t))).trans fy
  refine g_get C hH my h4 iX10 rfl 6 (by decide) wd308 rfl rfl dX10_four_22 ?_
  refine lv_iconst (v := (1 : Int32)) hx hb dX10_four_25 (by decide) ?_
  refine lv_iadd hx hb dX10_four_26 ?_
  refine lv_topi (fun z5 ez5 => ?_)
  obtain rfl : z5 = (17 : Int32) := ez5.trans (by decide)
  refine g_put C hH my h4 iX10 tyX10 tyX10_ok nmX10 rfl 6 (by decide) wd308 rfl rfl rfl rfl (Nat.le_of_ble_eq_true rfl) (fs' := [.int (0 : Int32), .ref (ya 1), .ref (ya 2), .ref (ya 3), .ref (ya 4), .ref (ya 5), .int (17 : Int32), .int (0 : Int32), .int (0 : Int32), .int (0 : Int32), .int (0 : Int32), .long (0 : Int64), .int (0 : Int32), .int (0 : Int32), .int (0 : Int32), .int (-1 : Int32), .ref (ya 16), .ref (ya 17), .ref (ya 18), .ref (ya 19), .ref (ya 20), .ref (ya 21), .int (0 : Int32), .int (0 : Int32), .int (0 : Int32), .ref (ya 25), .ref (ya 26), .ref (ya 27), .ref (ya 28), .ref (ya 29), .ref (ya 30), .ref (ya 31), .ref (ya 32), .ref (ya 33), .ref (ya 34), .ref (ya 35), .int (0 : Int32), .int (0 : Int32), .ref (ya 38), .int (0 : Int32), .int (0 : Int32), .ref (ya 41), .ref (ya 42), .int (0 : Int32), .int (0 : Int32), .int (0 : Int32), .int (0 : Int32), .int (0 : Int32)]) rfl dX10_four_27 (fun H locs hH => ?_)
  obtain ⟨f6, ef6⟩ : ∃ z : gF, z = va_up f2 y (.inr (10, [.int (0 : Int32), .ref (ya 1), .ref (ya 2), .ref (ya 3), .ref (ya 4), .ref (ya 5), .int (17 : Int32), .int (0 : Int32), .int (0 : Int32), .int (0 : Int32), .int (0 : Int32), .long (0 : Int64), .int (0 : Int32), .int (0 : Int32), .int (0 : Int32), .int (-1 : Int32), .ref (ya 16), .ref (ya 17), .ref (ya 18), .ref (ya 19), .ref (ya 20), .ref (ya 21), .int (0 : Int32), .int (0 : Int32), .int (0 : Int32), .ref (ya 25), .ref (ya 26), .ref (ya 27), .ref (ya 28), .ref (ya 29), .ref (ya 30), .ref (ya 31), .ref (ya 32), .ref (ya 33), .ref (ya 34), .ref (ya 35), .int (0 : Int32), .int (0 : Int32), .ref (ya 38), .int (0 : Int32), .int (0 : Int32), .ref (ya 41), .ref (ya 42), .int (0 : Int32), .int (0 : Int32), .int (0 : Int32), .int (0 : Int32), .int (0 : Int32)])) := ⟨_, rfl⟩
  have hH : gH E A L f6 s.heap H locs := by rw [ef6]; exact hH
  have h7 : f6 y = .inr (10, [.int (0 : Int32), .ref (ya 1), .ref (ya 2), .ref (ya 3), .ref (ya 4), .ref (ya 5), .int (17 : Int32), .int (0 : Int32), .int (0 : Int32), .int (0 : Int32), .int (0 : Int32), .long (0 : Int64), .int (0 : Int32), .int (0 : Int32), .int (0 : Int32), .int (-1 : Int32), .ref (ya 16), .ref (ya 17), .ref (ya 18), .ref (ya 19), .ref (ya 20), .ref (ya 21), .int (0 : Int32), .int (0 : Int32), .int (0 : Int32), .ref (ya 25), .ref (ya 26), .ref (ya 27), .ref (ya 28), .ref (ya 29), .ref (ya 30), .ref (ya 31), .ref (ya 32), .ref (ya 33), .ref (ya 34), .ref (ya 35), .int (0 : Int32), .int (0 : Int32), .ref (ya 38), .int (0 : Int32), .int (0 : Int32), .ref (ya 41), .ref (ya 42), .int (0 : Int32), .int (0 : Int32), .int (0 : Int32), .int (0 : Int32), .int (0 : Int32)]) := (congrFun ef6 y).trans (va_up_self _ _ _)
  refine lv_iinc (v := (16 : Int32)) (lv' := [(2, .int (16 : Int32)), (0, .ref y), (1, .int p0)]) hx hb dX10_four_30 hl (k := 0) rfl (by decide) (by decide) rfl (fun ls hl => ?_)
  refine lv_goto (tgt := 3) hx hb dX10_four_33 (by decide) ?_
  refine lv_iload_n hx hb dX10_four_3 rfl (lv_at hl 0 rfl) ?_
  refine lv_if_lt (tgt := 36) hx hb dX10_four_4 (by decide) (fun h => absurd h (by decide)) (fun _ => ?_)
  refine lv_aload_n hx hb dX10_four_7 rfl (lv_at hl 1 rfl) ?_
  refine g_get C hH my h7 iX10 rfl 5 (by decide) wd307 rfl rfl dX10_four_8 ?_
  refine lv_aload_n hx hb dX10_four_11 rfl (lv_at hl 1 rfl) ?_
  refine g_get C hH my h7 iX10 rfl 6 (by decide) wd308 rfl rfl dX10_four_12 ?_
  refine lv_iload_n hx hb dX10_four_15 rfl (lv_at hl 2 rfl) ?_
  refine lv_iload_n hx hb dX10_four_16 rfl (lv_at hl 0 rfl) ?_
  refine lv_ishr hx hb dX10_four_17 ?_
  refine lv_topi (fun z8 ez8 => ?_)
  refine lv_i2b (v := (z8).toInt8.toInt32) hx hb dX10_four_18 rfl ?_
  have h9 : f6 (ya 5) = .inl (E.2.2 0, 800, .inl (upd v ((16 : Int32)).toNatClampNeg (vp_nar .byte ((z1).toInt8.toInt32)))) := ((congrFun ef6 (ya 5)).trans (va_up_ne _ _ (g_neAO h3 h4))).trans h3
  refine g_bast C hH m_t h9 (vp_inL (by decide)) dX10_four_19 (fun H locs hH => ?_)
  obtain ⟨f10, ef10⟩ : ∃ z : gF, z = va_up f6 (ya 5) (.inl (E.2.2 0, 800, .inl (upd (upd v ((16 : Int32)).toNatClampNeg (vp_nar .byte ((z1).toInt8.toInt32))) ((17 : Int32)).toNatClampNeg (vp_nar .byte ((z8).toInt8.toInt32))))) := ⟨_, rfl⟩
  have hH : gH E A L f10 s.heap H locs := by rw [ef10]; exact hH
  have h11 : f10 (ya 5) = .inl (E.2.2 0, 800, .inl (upd (upd v ((16 : Int32)).toNatClampNeg (vp_nar .byte ((z1).toInt8.toInt32))) ((17 : Int32)).toNatClampNeg (vp_nar .byte ((z8).toInt8.toInt32)))) := (congrFun ef10 (ya 5)).trans (va_up_self _ _ _)
  refine lv_aload_n hx hb dX10_four_20 rfl (lv_at hl 1 rfl) ?_
  refine lv_dup hx hb dX10_four_21 rfl ?_
  have h12 : f10 y = .inr (10, [.int (0 : Int32), .ref (ya 1), .ref (ya 2), .ref (ya 3), .ref (ya 4), .ref (ya 5), .int (17 : Int32), .int (0 : Int32), .int (0 : Int32), .int (0 : Int32), .int (0 : Int32), .long (0 : Int64), .int (0 : Int32), .int (0 : Int32), .int (0 : Int32), .int (-1 : Int32), .ref (ya 16), .ref (ya 17), .ref (ya 18), .ref (ya 19), .ref (ya 20), .ref (ya 21), .int (0 : Int32), .int (0 : Int32), .int (0 : Int32), .ref (ya 25), .ref (ya 26), .ref (ya 27), .ref (ya 28), .ref (ya 29), .ref (ya 30), .ref (ya 31), .ref (ya 32), .ref (ya 33), .ref (ya 34), .ref (ya 35), .int (0 : Int32), .int (0 : Int32), .ref (ya 38), .int (0 : Int32), .int (0 : Int32), .ref (ya 41), .ref (ya 42), .int (0 : Int32), .int (0 : Int32), .int (0 : Int32), .int (0 : Int32), .int (0 : Int32)]) := ((congrFun ef10 y).trans (va_up_ne _ _ (g_neOA h7 h9))).trans h7
  refine g_get C hH my h12 iX10 rfl 6 (by decide) wd308 rfl rfl dX10_four_22 ?_
  refine lv_iconst (v := (1 : Int32)) hx hb dX10_four_25 (by decide) ?_
  refine lv_iadd hx hb dX10_four_26 ?_
  refine lv_topi (fun z13 ez13 => ?_)
  obtain rfl : z13 = (18 : Int32) := ez13.trans (by decide)
  refine g_put C hH my h12 iX10 tyX10 tyX10_ok nmX10 rfl 6 (by decide) wd308 rfl rfl rfl rfl (Nat.le_of_ble_eq_true rfl) (fs' := [.int (0 : Int32), .ref (ya 1), .ref (ya 2), .ref (ya 3), .ref (ya 4), .ref (ya 5), .int (18 : Int32), .int (0 : Int32), .int (0 : Int32), .int (0 : Int32), .int (0 : Int32), .long (0 : Int64), .int (0 : Int32), .int (0 : Int32), .int (0 : Int32), .int (-1 : Int32), .ref (ya 16), .ref (ya 17), .ref (ya 18), .ref (ya 19), .ref (ya 20), .ref (ya 21), .int (0 : Int32), .int (0 : Int32), .int (0 : Int32), .ref (ya 25), .ref (ya 26), .ref (ya 27), .ref (ya 28), .ref (ya 29), .ref (ya 30), .ref (ya 31), .ref (ya 32), .ref (ya 33), .ref (ya 34), .ref (ya 35), .int (0 : Int32), .int (0 : Int32), .ref (ya 38), .int (0 : Int32), .int (0 : Int32), .ref (ya 41), .ref (ya 42), .int (0 : Int32), .int (0 : Int32), .int (0 : Int32), .int (0 : Int32), .int (0 : Int32)]) rfl dX10_four_27 (fun H locs hH => ?_)
  obtain ⟨f14, ef14⟩ : ∃ z : gF, z = va_up f10 y (.inr (10, [.int (0 : Int32), .ref (ya 1), .ref (ya 2), .ref (ya 3), .ref (ya 4), .ref (ya 5), .int (18 : Int32), .int (0 : Int32), .int (0 : Int32), .int (0 : Int32), .int (0 : Int32), .long (0 : Int64), .int (0 : Int32), .int (0 : Int32), .int (0 : Int32), .int (-1 : Int32), .ref (ya 16), .ref (ya 17), .ref (ya 18), .ref (ya 19), .ref (ya 20), .ref (ya 21), .int (0 : Int32), .int (0 : Int32), .int (0 : Int32), .ref (ya 25), .ref (ya 26), .ref (ya 27), .ref (ya 28), .ref (ya 29), .ref (ya 30), .ref (ya 31), .ref (ya 32), .ref (ya 33), .ref (ya 34), .ref (ya 35), .int (0 : Int32), .int (0 : Int32), .ref (ya 38), .int (0 : Int32), .int (0 : Int32), .ref (ya 41), .ref (ya 42), .int (0 : Int32), .int (0 : Int32), .int (0 : Int32), .int (0 : Int32), .int (0 : Int32)])) := ⟨_, rfl⟩
  have hH : gH E A L f14 s.heap H locs := by rw [ef14]; exact hH
  have h15 : f14 y = .inr (10, [.int (0 : Int32), .ref (ya 1), .ref (ya 2), .ref (ya 3), .ref (ya 4), .ref (ya 5), .int (18 : Int32), .int (0 : Int32), .int (0 : Int32), .int (0 : Int32), .int (0 : Int32), .long (0 : Int64), .int (0 : Int32), .int (0 : Int32), .int (0 : Int32), .int (-1 : Int32), .ref (ya 16), .ref (ya 17), .ref (ya 18), .ref (ya 19), .ref (ya 20), .ref (ya 21), .int (0 : Int32), .int (0 : Int32), .int (0 : Int32), .ref (ya 25), .ref (ya 26), .ref (ya 27), .ref (ya 28), .ref (ya 29), .ref (ya 30), .ref (ya 31), .ref (ya 32), .ref (ya 33), .ref (ya 34), .ref (ya 35), .int (0 : Int32), .int (0 : Int32), .ref (ya 38), .int (0 : Int32), .int (0 : Int32), .ref (ya 41), .ref (ya 42), .int (0 : Int32), .int (0 : Int32), .int (0 : Int32), .int (0 : Int32), .int (0 : Int32)]) := (congrFun ef14 y).trans (va_up_self _ _ _)
  refine lv_iinc (v := (8 : Int32)) (lv' := [(2, .int (8 : Int32)), (0, .ref y), (1, .int p0)]) hx hb dX10_four_30 hl (k := 0) rfl (by decide) (by decide) rfl (fun ls hl => ?_)
  refine lv_goto (tgt := 3) hx hb dX10_four_33 (by decide) ?_
  refine lv_iload_n hx hb dX10_four_3 rfl (lv_at hl 0 rfl) ?_
  refine lv_if_lt (tgt := 36) hx hb dX10_four_4 (by decide) (fun h => absurd h (by decide)) (fun _ => ?_)
  refine lv_aload_n hx hb dX10_four_7 rfl (lv_at hl 1 rfl) ?_
  refine g_get C hH my h15 iX10 rfl 5 (by decide) wd307 rfl rfl dX10_four_8 ?_
  refine lv_aload_n hx hb dX10_four_11 rfl (lv_at hl 1 rfl) ?_
  refine g_get C hH my h15 iX10 rfl 6 (by decide) wd308 rfl rfl dX10_four_12 ?_
  refine lv_iload_n hx hb dX10_four_15 rfl (lv_at hl 2 rfl) ?_
  refine lv_iload_n hx hb dX10_four_16 rfl (lv_at hl 0 rfl) ?_
  refine lv_ishr hx hb dX10_four_17 ?_
  refine lv_topi (fun z16 ez16 => ?_)
  refine lv_i2b (v := (z16).toInt8.toInt32) hx hb dX10_four_18 rfl ?_
  have h17 : f14 (ya 5) = .inl (E.2.2 0, 800, .inl (upd (upd v ((16 : Int32)).toNatClampNeg (vp_nar .byte ((z1).toInt8.toInt32))) ((17 : Int32)).toNatClampNeg (vp_nar .byte ((z8).toInt8.toInt32)))) := ((congrFun ef14 (ya 5)).trans (va_up_ne _ _ (g_neAO h11 h12))).trans h11
  refine g_bast C hH m_t h17 (vp_inL (by decide)) dX10_four_19 (fun H locs hH => ?_)
  obtain ⟨f18, ef18⟩ : ∃ z : gF, z = va_up f14 (ya 5) (.inl (E.2.2 0, 800, .inl (upd (upd (upd v ((16 : Int32)).toNatClampNeg (vp_nar .byte ((z1).toInt8.toInt32))) ((17 : Int32)).toNatClampNeg (vp_nar .byte ((z8).toInt8.toInt32))) ((18 : Int32)).toNatClampNeg (vp_nar .byte ((z16).toInt8.toInt32))))) := ⟨_, rfl⟩
  have hH : gH E A L f18 s.heap H locs := by rw [ef18]; exact hH
  have h19 : f18 (ya 5) = .inl (E.2.2 0, 800, .inl (upd (upd (upd v ((16 : Int32)).toNatClampNeg (vp_nar .byte ((z1).toInt8.toInt32))) ((17 : Int32)).toNatClampNeg (vp_nar .byte ((z8).toInt8.toInt32))) ((18 : Int32)).toNatClampNeg (vp_nar .byte ((z16).toInt8.toInt32)))) := (congrFun ef18 (ya 5)).trans (va_up_self _ _ _)
  refine lv_aload_n hx hb dX10_four_20 rfl (lv_at hl 1 rfl) ?_
  refine lv_dup hx hb dX10_four_21 rfl ?_
  have h20 : f18 y = .inr (10, [.int (0 : Int32), .ref (ya 1), .ref (ya 2), .ref (ya 3), .ref (ya 4), .ref (ya 5), .int (18 : Int32), .int (0 : Int32), .int (0 : Int32), .int (0 : Int32), .int (0 : Int32), .long (0 : Int64), .int (0 : Int32), .int (0 : Int32), .int (0 : Int32), .int (-1 : Int32), .ref (ya 16), .ref (ya 17), .ref (ya 18), .ref (ya 19), .ref (ya 20), .ref (ya 21), .int (0 : Int32), .int (0 : Int32), .int (0 : Int32), .ref (ya 25), .ref (ya 26), .ref (ya 27), .ref (ya 28), .ref (ya 29), .ref (ya 30), .ref (ya 31), .ref (ya 32), .ref (ya 33), .ref (ya 34), .ref (ya 35), .int (0 : Int32), .int (0 : Int32), .ref (ya 38), .int (0 : Int32), .int (0 : Int32), .ref (ya 41), .ref (ya 42), .int (0 : Int32), .int (0 : Int32), .int (0 : Int32), .int (0 : Int32), .int (0 : Int32)]) := ((congrFun ef18 y).trans (va_up_ne _ _ (g_neOA h15 h17))).trans h15
  refine g_get C hH my h20 iX10 rfl 6 (by decide) wd308 rfl rfl dX10_four_22 ?_
  refine lv_iconst (v := (1 : Int32)) hx hb dX10_four_25 (by decide) ?_
  refine lv_iadd hx hb dX10_four_26 ?_
  refine lv_topi (fun z21 ez21 => ?_)
  obtain rfl : z21 = (19 : Int32) := ez21.trans (by decide)
  refine g_put C hH my h20 iX10 tyX10 tyX10_ok nmX10 rfl 6 (by decide) wd308 rfl rfl rfl rfl (Nat.le_of_ble_eq_true rfl) (fs' := [.int (0 : Int32), .ref (ya 1), .ref (ya 2), .ref (ya 3), .ref (ya 4), .ref (ya 5), .int (19 : Int32), .int (0 : Int32), .int (0 : Int32), .int (0 : Int32), .int (0 : Int32), .long (0 : Int64), .int (0 : Int32), .int (0 : Int32), .int (0 : Int32), .int (-1 : Int32), .ref (ya 16), .ref (ya 17), .ref (ya 18), .ref (ya 19), .ref (ya 20), .ref (ya 21), .int (0 : Int32), .int (0 : Int32), .int (0 : Int32), .ref (ya 25), .ref (ya 26), .ref (ya 27), .ref (ya 28), .ref (ya 29), .ref (ya 30), .ref (ya 31), .ref (ya 32), .ref (ya 33), .ref (ya 34), .ref (ya 35), .int (0 : Int32), .int (0 : Int32), .ref (ya 38), .int (0 : Int32), .int (0 : Int32), .ref (ya 41), .ref (ya 42), .int (0 : Int32), .int (0 : Int32), .int (0 : Int32), .int (0 : Int32), .int (0 : Int32)]) rfl dX10_four_27 (fun H locs hH => ?_)
  obtain ⟨f22, ef22⟩ : ∃ z : gF, z = va_up f18 y (.inr (10, [.int (0 : Int32), .ref (ya 1), .ref (ya 2), .ref (ya 3), .ref (ya 4), .ref (ya 5), .int (19 : Int32), .int (0 : Int32), .int (0 : Int32), .int (0 : Int32), .int (0 : Int32), .long (0 : Int64), .int (0 : Int32), .int (0 : Int32), .int (0 : Int32), .int (-1 : Int32), .ref (ya 16), .ref (ya 17), .ref (ya 18), .ref (ya 19), .ref (ya 20), .ref (ya 21), .int (0 : Int32), .int (0 : Int32), .int (0 : Int32), .ref (ya 25), .ref (ya 26), .ref (ya 27), .ref (ya 28), .ref (ya 29), .ref (ya 30), .ref (ya 31), .ref (ya 32), .ref (ya 33), .ref (ya 34), .ref (ya 35), .int (0 : Int32), .int (0 : Int32), .ref (ya 38), .int (0 : Int32), .int (0 : Int32), .ref (ya 41), .ref (ya 42), .int (0 : Int32), .int (0 : Int32), .int (0 : Int32), .int (0 : Int32), .int (0 : Int32)])) := ⟨_, rfl⟩
  have hH : gH E A L f22 s.heap H locs := by rw [ef22]; exact hH
  have h23 : f22 y = .inr (10, [.int (0 : Int32), .ref (ya 1), .ref (ya 2), .ref (ya 3), .ref (ya 4), .ref (ya 5), .int (19 : Int32), .int (0 : Int32), .int (0 : Int32), .int (0 : Int32), .int (0 : Int32), .long (0 : Int64), .int (0 : Int32), .int (0 : Int32), .int (0 : Int32), .int (-1 : Int32), .ref (ya 16), .ref (ya 17), .ref (ya 18), .ref (ya 19), .ref (ya 20), .ref (ya 21), .int (0 : Int32), .int (0 : Int32), .int (0 : Int32), .ref (ya 25), .ref (ya 26), .ref (ya 27), .ref (ya 28), .ref (ya 29), .ref (ya 30), .ref (ya 31), .ref (ya 32), .ref (ya 33), .ref (ya 34), .ref (ya 35), .int (0 : Int32), .int (0 : Int32), .ref (ya 38), .int (0 : Int32), .int (0 : Int32), .ref (ya 41), .ref (ya 42), .int (0 : Int32), .int (0 : Int32), .int (0 : Int32), .int (0 : Int32), .int (0 : Int32)]) := (congrFun ef22 y).trans (va_up_self _ _ _)
  refine lv_iinc (v := (0 : Int32)) (lv' := [(2, .int (0 : Int32)), (0, .ref y), (1, .int p0)]) hx hb dX10_four_30 hl (k := 0) rfl (by decide) (by decide) rfl (fun ls hl => ?_)
  refine lv_goto (tgt := 3) hx hb dX10_four_33 (by decide) ?_
  refine lv_iload_n hx hb dX10_four_3 rfl (lv_at hl 0 rfl) ?_
  refine lv_if_lt (tgt := 36) hx hb dX10_four_4 (by decide) (fun h => absurd h (by decide)) (fun _ => ?_)
  refine lv_aload_n hx hb dX10_four_7 rfl (lv_at hl 1 rfl) ?_
  refine g_get C hH my h23 iX10 rfl 5 (by decide) wd307 rfl rfl dX10_four_8 ?_
  refine lv_aload_n hx hb dX10_four_11 rfl (lv_at hl 1 rfl) ?_
  refine g_get C hH my h23 iX10 rfl 6 (by decide) wd308 rfl rfl dX10_four_12 ?_
  refine lv_iload_n hx hb dX10_four_15 rfl (lv_at hl 2 rfl) ?_
  refine lv_iload_n hx hb dX10_four_16 rfl (lv_at hl 0 rfl) ?_
  refine lv_ishr hx hb dX10_four_17 ?_
  refine lv_topi (fun z24 ez24 => ?_)
  refine lv_i2b (v := (z24).toInt8.toInt32) hx hb dX10_four_18 rfl ?_
  have h25 : f22 (ya 5) = .inl (E.2.2 0, 800, .inl (upd (upd (upd v ((16 : Int32)).toNatClampNeg (vp_nar .byte ((z1).toInt8.toInt32))) ((17 : Int32)).toNatClampNeg (vp_nar .byte ((z8).toInt8.toInt32))) ((18 : Int32)).toNatClampNeg (vp_nar .byte ((z16).toInt8.toInt32)))) := ((congrFun ef22 (ya 5)).trans (va_up_ne _ _ (g_neAO h19 h20))).trans h19
  refine g_bast C hH m_t h25 (vp_inL (by decide)) dX10_four_19 (fun H locs hH => ?_)
  obtain ⟨f26, ef26⟩ : ∃ z : gF, z = va_up f22 (ya 5) (.inl (E.2.2 0, 800, .inl (upd (upd (upd (upd v ((16 : Int32)).toNatClampNeg (vp_nar .byte ((z1).toInt8.toInt32))) ((17 : Int32)).toNatClampNeg (vp_nar .byte ((z8).toInt8.toInt32))) ((18 : Int32)).toNatClampNeg (vp_nar .byte ((z16).toInt8.toInt32))) ((19 : Int32)).toNatClampNeg (vp_nar .byte ((z24).toInt8.toInt32))))) := ⟨_, rfl⟩
  have hH : gH E A L f26 s.heap H locs := by rw [ef26]; exact hH
  have h27 : f26 (ya 5) = .inl (E.2.2 0, 800, .inl (upd (upd (upd (upd v ((16 : Int32)).toNatClampNeg (vp_nar .byte ((z1).toInt8.toInt32))) ((17 : Int32)).toNatClampNeg (vp_nar .byte ((z8).toInt8.toInt32))) ((18 : Int32)).toNatClampNeg (vp_nar .byte ((z16).toInt8.toInt32))) ((19 : Int32)).toNatClampNeg (vp_nar .byte ((z24).toInt8.toInt32)))) := (congrFun ef26 (ya 5)).trans (va_up_self _ _ _)
  refine lv_aload_n hx hb dX10_four_20 rfl (lv_at hl 1 rfl) ?_
  refine lv_dup hx hb dX10_four_21 rfl ?_
  have h28 : f26 y = .inr (10, [.int (0 : Int32), .ref (ya 1), .ref (ya 2), .ref (ya 3), .ref (ya 4), .ref (ya 5), .int (19 : Int32), .int (0 : Int32), .int (0 : Int32), .int (0 : Int32), .int (0 : Int32), .long (0 : Int64), .int (0 : Int32), .int (0 : Int32), .int (0 : Int32), .int (-1 : Int32), .ref (ya 16), .ref (ya 17), .ref (ya 18), .ref (ya 19), .ref (ya 20), .ref (ya 21), .int (0 : Int32), .int (0 : Int32), .int (0 : Int32), .ref (ya 25), .ref (ya 26), .ref (ya 27), .ref (ya 28), .ref (ya 29), .ref (ya 30), .ref (ya 31), .ref (ya 32), .ref (ya 33), .ref (ya 34), .ref (ya 35), .int (0 : Int32), .int (0 : Int32), .ref (ya 38), .int (0 : Int32), .int (0 : Int32), .ref (ya 41), .ref (ya 42), .int (0 : Int32), .int (0 : Int32), .int (0 : Int32), .int (0 : Int32), .int (0 : Int32)]) := ((congrFun ef26 y).trans (va_up_ne _ _ (g_neOA h23 h25))).trans h23
  refine g_get C hH my h28 iX10 rfl 6 (by decide) wd308 rfl rfl dX10_four_22 ?_
  refine lv_iconst (v := (1 : Int32)) hx hb dX10_four_25 (by decide) ?_
  refine lv_iadd hx hb dX10_four_26 ?_
  refine lv_topi (fun z29 ez29 => ?_)
  obtain rfl : z29 = (20 : Int32) := ez29.trans (by decide)
  refine g_put C hH my h28 iX10 tyX10 tyX10_ok nmX10 rfl 6 (by decide) wd308 rfl rfl rfl rfl (Nat.le_of_ble_eq_true rfl) (fs' := [.int (0 : Int32), .ref (ya 1), .ref (ya 2), .ref (ya 3), .ref (ya 4), .ref (ya 5), .int (20 : Int32), .int (0 : Int32), .int (0 : Int32), .int (0 : Int32), .int (0 : Int32), .long (0 : Int64), .int (0 : Int32), .int (0 : Int32), .int (0 : Int32), .int (-1 : Int32), .ref (ya 16), .ref (ya 17), .ref (ya 18), .ref (ya 19), .ref (ya 20), .ref (ya 21), .int (0 : Int32), .int (0 : Int32), .int (0 : Int32), .ref (ya 25), .ref (ya 26), .ref (ya 27), .ref (ya 28), .ref (ya 29), .ref (ya 30), .ref (ya 31), .ref (ya 32), .ref (ya 33), .ref (ya 34), .ref (ya 35), .int (0 : Int32), .int (0 : Int32), .ref (ya 38), .int (0 : Int32), .int (0 : Int32), .ref (ya 41), .ref (ya 42), .int (0 : Int32), .int (0 : Int32), .int (0 : Int32), .int (0 : Int32), .int (0 : Int32)]) rfl dX10_four_27 (fun H locs hH => ?_)
  obtain ⟨f30, ef30⟩ : ∃ z : gF, z = va_up f26 y (.inr (10, [.int (0 : Int32), .ref (ya 1), .ref (ya 2), .ref (ya 3), .ref (ya 4), .ref (ya 5), .int (20 : Int32), .int (0 : Int32), .int (0 : Int32), .int (0 : Int32), .int (0 : Int32), .long (0 : Int64), .int (0 : Int32), .int (0 : Int32), .int (0 : Int32), .int (-1 : Int32), .ref (ya 16), .ref (ya 17), .ref (ya 18), .ref (ya 19), .ref (ya 20), .ref (ya 21), .int (0 : Int32), .int (0 : Int32), .int (0 : Int32), .ref (ya 25), .ref (ya 26), .ref (ya 27), .ref (ya 28), .ref (ya 29), .ref (ya 30), .ref (ya 31), .ref (ya 32), .ref (ya 33), .ref (ya 34), .ref (ya 35), .int (0 : Int32), .int (0 : Int32), .ref (ya 38), .int (0 : Int32), .int (0 : Int32), .ref (ya 41), .ref (ya 42), .int (0 : Int32), .int (0 : Int32), .int (0 : Int32), .int (0 : Int32), .int (0 : Int32)])) := ⟨_, rfl⟩
  have hH : gH E A L f30 s.heap H locs := by rw [ef30]; exact hH
  have h31 : f30 y = .inr (10, [.int (0 : Int32), .ref (ya 1), .ref (ya 2), .ref (ya 3), .ref (ya 4), .ref (ya 5), .int (20 : Int32), .int (0 : Int32), .int (0 : Int32), .int (0 : Int32), .int (0 : Int32), .long (0 : Int64), .int (0 : Int32), .int (0 : Int32), .int (0 : Int32), .int (-1 : Int32), .ref (ya 16), .ref (ya 17), .ref (ya 18), .ref (ya 19), .ref (ya 20), .ref (ya 21), .int (0 : Int32), .int (0 : Int32), .int (0 : Int32), .ref (ya 25), .ref (ya 26), .ref (ya 27), .ref (ya 28), .ref (ya 29), .ref (ya 30), .ref (ya 31), .ref (ya 32), .ref (ya 33), .ref (ya 34), .ref (ya 35), .int (0 : Int32), .int (0 : Int32), .ref (ya 38), .int (0 : Int32), .int (0 : Int32), .ref (ya 41), .ref (ya 42), .int (0 : Int32), .int (0 : Int32), .int (0 : Int32), .int (0 : Int32), .int (0 : Int32)]) := (congrFun ef30 y).trans (va_up_self _ _ _)
  refine lv_iinc (v := (-8 : Int32)) (lv' := [(2, .int (-8 : Int32)), (0, .ref y), (1, .int p0)]) hx hb dX10_four_30 hl (k := 0) rfl (by decide) (by decide) rfl (fun ls hl => ?_)
  refine lv_goto (tgt := 3) hx hb dX10_four_33 (by decide) ?_
  refine lv_iload_n hx hb dX10_four_3 rfl (lv_at hl 0 rfl) ?_
  refine lv_if_lt (tgt := 36) hx hb dX10_four_4 (by decide) (fun _ => ?_) (fun h => absurd (by decide) h)
  refine g_vret C hr hH (Nat.le_of_ble_eq_true rfl) (Nat.le_of_ble_eq_true rfl) dX10_four_36 ?_
  have h32 : f30 (ya 5) = .inl (E.2.2 0, 800, .inl (upd (upd (upd (upd v ((16 : Int32)).toNatClampNeg (vp_nar .byte ((z1).toInt8.toInt32))) ((17 : Int32)).toNatClampNeg (vp_nar .byte ((z8).toInt8.toInt32))) ((18 : Int32)).toNatClampNeg (vp_nar .byte ((z16).toInt8.toInt32))) ((19 : Int32)).toNatClampNeg (vp_nar .byte ((z24).toInt8.toInt32)))) := ((congrFun ef30 (ya 5)).trans (va_up_ne _ _ (g_neAO h27 h28))).trans h27
  exact ⟨rfl, h31, ⟨_, h32⟩, fun b h1 h2 => by rw [ef30, va_up_ne _ _ h1, ef26, va_up_ne _ _ h2, ef22, va_up_ne _ _ h1, ef18, va_up_ne _ _ h2, ef14, va_up_ne _ _ h1, ef10, va_up_ne _ _ h2, ef6, va_up_ne _ _ h1, ef2, va_up_ne _ _ h2]⟩
set_option maxHeartbeats 4000000 in
set_option maxRecDepth 100000 in
theorem m_feed (l : Launch) (E : gE) (L : List Nat) (f : gF) {y : Nat} {ya : Nat → Nat} (my : y ∈ L) (fy : f y = .inr (10, [.int (0 : Int32), .ref (ya 1), .ref (ya 2), .ref (ya 3), .ref (ya 4), .ref (ya 5), .int (0 : Int32), .int (0 : Int32), .int (0 : Int32), .int (0 : Int32), .int (0 : Int32), .long (0 : Int64), .int (0 : Int32), .int (0 : Int32), .int (0 : Int32), .int (-1 : Int32), .ref (ya 16), .ref (ya 17), .ref (ya 18), .ref (ya 19), .ref (ya 20), .ref (ya 21), .int (0 : Int32), .int (0 : Int32), .int (0 : Int32), .ref (ya 25), .ref (ya 26), .ref (ya 27), .ref (ya 28), .ref (ya 29), .ref (ya 30), .ref (ya 31), .ref (ya 32), .ref (ya 33), .ref (ya 34), .ref (ya 35), .int (0 : Int32), .int (0 : Int32), .ref (ya 38), .int (0 : Int32), .int (0 : Int32), .ref (ya 41), .ref (ya 42), .int (0 : Int32), .int (0 : Int32), .int (0 : Int32), .int (0 : Int32), .int (0 : Int32)])) {v : Nat → Int32} (m_t : (ya 5) ∈ L) (f_t : f (ya 5) = .inl (E.2.2 0, 800, .inl v)) (p0 p1 p2 p3 p4 : Int32) : gMi l E yX10_feed cX10_feed 6 .int (gRm 3 0 0) [.ref y, .int p0, .int p1, .int p2, .int p3, .int p4] L f (fun r _ _ => r = 20) := by
  refine gMi.intro (by decide) (Nat.le_of_ble_eq_true rfl) ?_
  intro p e s m below meth c A ls C hr hA hH hl
  have C : gC E cX10_feed 6 RX10 p s m _ meth c := C
  have hl : lv_has ls 6 [(0, .ref y), (1, .int p0), (2, .int p1), (3, .int p2), (4, .int p3), (5, .int p4)] := hl
  have hx := C.1
  have hb := C.2.1
  refine lv_aload_n hx hb dX10_feed_0 rfl (lv_at hl 0 rfl) ?_
  refine lv_iconst (v := (0 : Int32)) hx hb dX10_feed_1 (by decide) ?_
  refine g_put C hH my fy iX10 tyX10 tyX10_ok nmX10 rfl 0 (by decide) wd270 rfl rfl rfl rfl (Nat.le_of_ble_eq_true rfl) (fs' := [.int (0 : Int32), .ref (ya 1), .ref (ya 2), .ref (ya 3), .ref (ya 4), .ref (ya 5), .int (0 : Int32), .int (0 : Int32), .int (0 : Int32), .int (0 : Int32), .int (0 : Int32), .long (0 : Int64), .int (0 : Int32), .int (0 : Int32), .int (0 : Int32), .int (-1 : Int32), .ref (ya 16), .ref (ya 17), .ref (ya 18), .ref (ya 19), .ref (ya 20), .ref (ya 21), .int (0 : Int32), .int (0 : Int32), .int (0 : Int32), .ref (ya 25), .ref (ya 26), .ref (ya 27), .ref (ya 28), .ref (ya 29), .ref (ya 30), .ref (ya 31), .ref (ya 32), .ref (ya 33), .ref (ya 34), .ref (ya 35), .int (0 : Int32), .int (0 : Int32), .ref (ya 38), .int (0 : Int32), .int (0 : Int32), .ref (ya 41), .ref (ya 42), .int (0 : Int32), .int (0 : Int32), .int (0 : Int32), .int (0 : Int32), .int (0 : Int32)]) rfl dX10_feed_2 (fun H locs hH => ?_)
  obtain ⟨f1, ef1⟩ : ∃ z : gF, z = va_up f y (.inr (10, [.int (0 : Int32), .ref (ya 1), .ref (ya 2), .ref (ya 3), .ref (ya 4), .ref (ya 5), .int (0 : Int32), .int (0 : Int32), .int (0 : Int32), .int (0 : Int32), .int (0 : Int32), .long (0 : Int64), .int (0 : Int32), .int (0 : Int32), .int (0 : Int32), .int (-1 : Int32), .ref (ya 16), .ref (ya 17), .ref (ya 18), .ref (ya 19), .ref (ya 20), .ref (ya 21), .int (0 : Int32), .int (0 : Int32), .int (0 : Int32), .ref (ya 25), .ref (ya 26), .ref (ya 27), .ref (ya 28), .ref (ya 29), .ref (ya 30), .ref (ya 31), .ref (ya 32), .ref (ya 33), .ref (ya 34), .ref (ya 35), .int (0 : Int32), .int (0 : Int32), .ref (ya 38), .int (0 : Int32), .int (0 : Int32), .ref (ya 41), .ref (ya 42), .int (0 : Int32), .int (0 : Int32), .int (0 : Int32), .int (0 : Int32), .int (0 : Int32)])) := ⟨_, rfl⟩
  have hH : gH E A L f1 s.heap H locs := by rw [ef1]; exact hH
  have h2 : f1 y = .inr (10, [.int (0 : Int32), .ref (ya 1), .ref (ya 2), .ref (ya 3), .ref (ya 4), .ref (ya 5), .int (0 : Int32), .int (0 : Int32), .int (0 : Int32), .int (0 : Int32), .int (0 : Int32), .long (0 : Int64), .int (0 : Int32), .int (0 : Int32), .int (0 : Int32), .int (-1 : Int32), .ref (ya 16), .ref (ya 17), .ref (ya 18), .ref (ya 19), .ref (ya 20), .ref (ya 21), .int (0 : Int32), .int (0 : Int32), .int (0 : Int32), .ref (ya 25), .ref (ya 26), .ref (ya 27), .ref (ya 28), .ref (ya 29), .ref (ya 30), .ref (ya 31), .ref (ya 32), .ref (ya 33), .ref (ya 34), .ref (ya 35), .int (0 : Int32), .int (0 : Int32), .ref (ya 38), .int (0 : Int32), .int (0 : Int32), .ref (ya 41), .ref (ya 42), .int (0 : Int32), .int (0 : Int32), .int (0 : Int32), .int (0 : Int32), .int (0 : Int32)]) := (congrFun ef1 y).trans (va_up_self _ _ _)
  refine lv_aload_n hx hb dX10_feed_5 rfl (lv_at hl 0 rfl) ?_
  refine g_get C hH my h2 iX10 rfl 6 (by decide) wd308 rfl rfl dX10_feed_6 ?_
  refine lv_bipush (v := (20 : Int32)) hx hb dX10_feed_9 (by decide) ?_
  refine lv_iadd hx hb dX10_feed_11 ?_
  refine lv_topi (fun z3 ez3 => ?_)
  obtain rfl : z3 = (20 : Int32) := ez3.trans (by decide)
  refine lv_sipush (v := (800 : Int32)) hx hb dX10_feed_12 (by decide) ?_
  refine lv_icmp_le (tgt := 20) hx hb dX10_feed_15 (by decide) (fun _ => ?_) (fun h => absurd (by decide) h)
  refine lv_aload_n hx hb dX10_feed_20 rfl (lv_at hl 0 rfl) ?_
  refine lv_iload_n hx hb dX10_feed_21 rfl (lv_at hl 1 rfl) ?_
  have h4 : f1 (ya 5) = .inl (E.2.2 0, 800, .inl v) := ((congrFun ef1 (ya 5)).trans (va_up_ne _ _ (g_neAO f_t fy))).trans f_t
  refine g_Vv C hl.1 hA hH (As := [.int p0]) (rest := []) (m_four0 l E L f1 my h2 m_t h4 p0) my_X10_four wd312 my h2 rfl rfl rfl (Nat.le_of_ble_eq_true rfl) ⟨Nat.le_of_ble_eq_true rfl, Nat.le_of_ble_eq_true rfl⟩ ⟨Nat.le_of_ble_eq_true rfl, Nat.le_of_ble_eq_true rfl⟩ dX10_feed_22 (fun L6 f5 H locs hp hH => ?_)
  obtain ⟨rfl, h7, ⟨v8, h9⟩, k10⟩ := hp
  refine lv_aload_n hx hb dX10_feed_25 rfl (lv_at hl 0 rfl) ?_
  refine lv_iload_n hx hb dX10_feed_26 rfl (lv_at hl 2 rfl) ?_
  refine g_Vv C hl.1 hA hH (As := [.int p1]) (rest := []) (m_four4 l E L f5 my h7 m_t h9 p1) my_X10_four wd312 my h7 rfl rfl rfl (Nat.le_of_ble_eq_true rfl) ⟨Nat.le_of_ble_eq_true rfl, Nat.le_of_ble_eq_true rfl⟩ ⟨Nat.le_of_ble_eq_true rfl, Nat.le_of_ble_eq_true rfl⟩ dX10_feed_27 (fun L12 f11 H locs hp hH => ?_)
  obtain ⟨rfl, h13, ⟨v14, h15⟩, k16⟩ := hp
  refine lv_aload_n hx hb dX10_feed_30 rfl (lv_at hl 0 rfl) ?_
  refine lv_iload_n hx hb dX10_feed_31 rfl (lv_at hl 3 rfl) ?_
  refine g_Vv C hl.1 hA hH (As := [.int p2]) (rest := []) (m_four8 l E L f11 my h13 m_t h15 p2) my_X10_four wd312 my h13 rfl rfl rfl (Nat.le_of_ble_eq_true rfl) ⟨Nat.le_of_ble_eq_true rfl, Nat.le_of_ble_eq_true rfl⟩ ⟨Nat.le_of_ble_eq_true rfl, Nat.le_of_ble_eq_true rfl⟩ dX10_feed_32 (fun L18 f17 H locs hp hH => ?_)
  obtain ⟨rfl, h19, ⟨v20, h21⟩, k22⟩ := hp
  refine lv_aload_n hx hb dX10_feed_35 rfl (lv_at hl 0 rfl) ?_
  refine lv_iload hx hb dX10_feed_36 (lv_at hl 4 rfl) ?_
  refine g_Vv C hl.1 hA hH (As := [.int p3]) (rest := []) (m_four12 l E L f17 my h19 m_t h21 p3) my_X10_four wd312 my h19 rfl rfl rfl (Nat.le_of_ble_eq_true rfl) ⟨Nat.le_of_ble_eq_true rfl, Nat.le_of_ble_eq_true rfl⟩ ⟨Nat.le_of_ble_eq_true rfl, Nat.le_of_ble_eq_true rfl⟩ dX10_feed_38 (fun L24 f23 H locs hp hH => ?_)
  obtain ⟨rfl, h25, ⟨v26, h27⟩, k28⟩ := hp
  refine lv_aload_n hx hb dX10_feed_41 rfl (lv_at hl 0 rfl) ?_
  refine lv_iload hx hb dX10_feed_42 (lv_at hl 5 rfl) ?_
  refine g_Vv C hl.1 hA hH (As := [.int p4]) (rest := []) (m_four16 l E L f23 my h25 m_t h27 p4) my_X10_four wd312 my h25 rfl rfl rfl (Nat.le_of_ble_eq_true rfl) ⟨Nat.le_of_ble_eq_true rfl, Nat.le_of_ble_eq_true rfl⟩ ⟨Nat.le_of_ble_eq_true rfl, Nat.le_of_ble_eq_true rfl⟩ dX10_feed_44 (fun L30 f29 H locs hp hH => ?_)
  obtain ⟨rfl, h31, ⟨v32, h33⟩, k34⟩ := hp
  refine lv_aload_n hx hb dX10_feed_47 rfl (lv_at hl 0 rfl) ?_
  refine g_get C hH my h31 iX10 rfl 6 (by decide) wd308 rfl rfl dX10_feed_48 ?_
  refine g_iret C hr hH (Nat.le_of_ble_eq_true rfl) (Nat.le_of_ble_eq_true rfl) dX10_feed_51 ?_
  exact rfl
set_option maxHeartbeats 4000000 in
set_option maxRecDepth 100000 in
theorem m_end (l : Launch) (E : gE) (L : List Nat) (f : gF) {y : Nat} {ya : Nat → Nat} (my : y ∈ L) (fy : f y = .inr (10, [.int (0 : Int32), .ref (ya 1), .ref (ya 2), .ref (ya 3), .ref (ya 4), .ref (ya 5), .int (0 : Int32), .int (0 : Int32), .int (0 : Int32), .int (0 : Int32), .int (0 : Int32), .long (0 : Int64), .int (0 : Int32), .int (0 : Int32), .int (0 : Int32), .int (-1 : Int32), .ref (ya 16), .ref (ya 17), .ref (ya 18), .ref (ya 19), .ref (ya 20), .ref (ya 21), .int (0 : Int32), .int (0 : Int32), .int (0 : Int32), .ref (ya 25), .ref (ya 26), .ref (ya 27), .ref (ya 28), .ref (ya 29), .ref (ya 30), .ref (ya 31), .ref (ya 32), .ref (ya 33), .ref (ya 34), .ref (ya 35), .int (0 : Int32), .int (0 : Int32), .ref (ya 38), .int (0 : Int32), .int (0 : Int32), .ref (ya 41), .ref (ya 42), .int (0 : Int32), .int (0 : Int32), .int (0 : Int32), .int (0 : Int32), .int (0 : Int32)])) (p0 : Int32) : gMi l E yX10_end cX10_end 2 .int (gRm 3 0 0) [.ref y, .int p0] L f (fun r _ _ => r = gEnd p0) := by
  refine gMi.intro (by decide) (Nat.le_of_ble_eq_true rfl) ?_
  intro p e s m below meth c A ls C hr hA hH hl
  have C : gC E cX10_end 2 RX10 p s m _ meth c := C
  have hl : lv_has ls 2 [(0, .ref y), (1, .int p0)] := hl
  have hx := C.1
  have hb := C.2.1
  refine lv_aload_n hx hb dX10_end_0 rfl (lv_at hl 0 rfl) ?_
  refine lv_iconst (v := (0 : Int32)) hx hb dX10_end_1 (by decide) ?_
  refine g_put C hH my fy iX10 tyX10 tyX10_ok nmX10 rfl 0 (by decide) wd270 rfl rfl rfl rfl (Nat.le_of_ble_eq_true rfl) (fs' := [.int (0 : Int32), .ref (ya 1), .ref (ya 2), .ref (ya 3), .ref (ya 4), .ref (ya 5), .int (0 : Int32), .int (0 : Int32), .int (0 : Int32), .int (0 : Int32), .int (0 : Int32), .long (0 : Int64), .int (0 : Int32), .int (0 : Int32), .int (0 : Int32), .int (-1 : Int32), .ref (ya 16), .ref (ya 17), .ref (ya 18), .ref (ya 19), .ref (ya 20), .ref (ya 21), .int (0 : Int32), .int (0 : Int32), .int (0 : Int32), .ref (ya 25), .ref (ya 26), .ref (ya 27), .ref (ya 28), .ref (ya 29), .ref (ya 30), .ref (ya 31), .ref (ya 32), .ref (ya 33), .ref (ya 34), .ref (ya 35), .int (0 : Int32), .int (0 : Int32), .ref (ya 38), .int (0 : Int32), .int (0 : Int32), .ref (ya 41), .ref (ya 42), .int (0 : Int32), .int (0 : Int32), .int (0 : Int32), .int (0 : Int32), .int (0 : Int32)]) rfl dX10_end_2 (fun H locs hH => ?_)
  obtain ⟨f1, ef1⟩ : ∃ z : gF, z = va_up f y (.inr (10, [.int (0 : Int32), .ref (ya 1), .ref (ya 2), .ref (ya 3), .ref (ya 4), .ref (ya 5), .int (0 : Int32), .int (0 : Int32), .int (0 : Int32), .int (0 : Int32), .int (0 : Int32), .long (0 : Int64), .int (0 : Int32), .int (0 : Int32), .int (0 : Int32), .int (-1 : Int32), .ref (ya 16), .ref (ya 17), .ref (ya 18), .ref (ya 19), .ref (ya 20), .ref (ya 21), .int (0 : Int32), .int (0 : Int32), .int (0 : Int32), .ref (ya 25), .ref (ya 26), .ref (ya 27), .ref (ya 28), .ref (ya 29), .ref (ya 30), .ref (ya 31), .ref (ya 32), .ref (ya 33), .ref (ya 34), .ref (ya 35), .int (0 : Int32), .int (0 : Int32), .ref (ya 38), .int (0 : Int32), .int (0 : Int32), .ref (ya 41), .ref (ya 42), .int (0 : Int32), .int (0 : Int32), .int (0 : Int32), .int (0 : Int32), .int (0 : Int32)])) := ⟨_, rfl⟩
  have hH : gH E A L f1 s.heap H locs := by rw [ef1]; exact hH
  have h2 : f1 y = .inr (10, [.int (0 : Int32), .ref (ya 1), .ref (ya 2), .ref (ya 3), .ref (ya 4), .ref (ya 5), .int (0 : Int32), .int (0 : Int32), .int (0 : Int32), .int (0 : Int32), .int (0 : Int32), .long (0 : Int64), .int (0 : Int32), .int (0 : Int32), .int (0 : Int32), .int (-1 : Int32), .ref (ya 16), .ref (ya 17), .ref (ya 18), .ref (ya 19), .ref (ya 20), .ref (ya 21), .int (0 : Int32), .int (0 : Int32), .int (0 : Int32), .ref (ya 25), .ref (ya 26), .ref (ya 27), .ref (ya 28), .ref (ya 29), .ref (ya 30), .ref (ya 31), .ref (ya 32), .ref (ya 33), .ref (ya 34), .ref (ya 35), .int (0 : Int32), .int (0 : Int32), .ref (ya 38), .int (0 : Int32), .int (0 : Int32), .ref (ya 41), .ref (ya 42), .int (0 : Int32), .int (0 : Int32), .int (0 : Int32), .int (0 : Int32), .int (0 : Int32)]) := (congrFun ef1 y).trans (va_up_self _ _ _)
  refine lv_iload_n hx hb dX10_end_5 rfl (lv_at hl 1 rfl) ?_
  refine lv_i2l (v := (p0).toInt64) hx hb dX10_end_6 rfl ?_
  refine lv_lconst (v := (0 : Int64)) hx hb dX10_end_7 (by decide) ?_
  refine lv_aload_n hx hb dX10_end_8 rfl (lv_at hl 0 rfl) ?_
  refine g_get C hH my h2 iX10 rfl 6 (by decide) wd308 rfl rfl dX10_end_9 ?_
  refine lv_i2l (v := (0 : Int64)) hx hb dX10_end_12 (by decide) ?_
  refine g_Si C hl.1 hA hH (As := [.long (p0).toInt64, .long (0 : Int64), .long (0 : Int64)]) (rest := []) (m_in l E L f1 (p0).toInt64 (0 : Int64) (0 : Int64)) my_X10_in wd242 rfl rfl (Nat.le_of_ble_eq_true rfl) ⟨Nat.le_of_ble_eq_true rfl, Nat.le_of_ble_eq_true rfl⟩ ⟨Nat.le_of_ble_eq_true rfl, Nat.le_of_ble_eq_true rfl⟩ dX10_end_13 (fun r5 L4 f3 H locs hp hH => ?_)
  obtain ⟨er5, rfl, rfl⟩ := hp
  subst er5
  refine lv_if_ne (tgt := 21) hx hb dX10_end_16 (by decide) (fun c6 => ?_) (fun c6 => ?_)
  · skip
    refine lv_aload_n hx hb dX10_end_21 rfl (lv_at hl 0 rfl) ?_
    refine lv_iload_n hx hb dX10_end_22 rfl (lv_at hl 1 rfl) ?_
    refine g_put C hH my h2 iX10 tyX10 tyX10_ok nmX10 rfl 6 (by decide) wd308 rfl rfl rfl rfl (Nat.le_of_ble_eq_true rfl) (fs' := [.int (0 : Int32), .ref (ya 1), .ref (ya 2), .ref (ya 3), .ref (ya 4), .ref (ya 5), .int p0, .int (0 : Int32), .int (0 : Int32), .int (0 : Int32), .int (0 : Int32), .long (0 : Int64), .int (0 : Int32), .int (0 : Int32), .int (0 : Int32), .int (-1 : Int32), .ref (ya 16), .ref (ya 17), .ref (ya 18), .ref (ya 19), .ref (ya 20), .ref (ya 21), .int (0 : Int32), .int (0 : Int32), .int (0 : Int32), .ref (ya 25), .ref (ya 26), .ref (ya 27), .ref (ya 28), .ref (ya 29), .ref (ya 30), .ref (ya 31), .ref (ya 32), .ref (ya 33), .ref (ya 34), .ref (ya 35), .int (0 : Int32), .int (0 : Int32), .ref (ya 38), .int (0 : Int32), .int (0 : Int32), .ref (ya 41), .ref (ya 42), .int (0 : Int32), .int (0 : Int32), .int (0 : Int32), .int (0 : Int32), .int (0 : Int32)]) rfl dX10_end_23 (fun H locs hH => ?_)
    obtain ⟨f7, ef7⟩ : ∃ z : gF, z = va_up f1 y (.inr (10, [.int (0 : Int32), .ref (ya 1), .ref (ya 2), .ref (ya 3), .ref (ya 4), .ref (ya 5), .int p0, .int (0 : Int32), .int (0 : Int32), .int (0 : Int32), .int (0 : Int32), .long (0 : Int64), .int (0 : Int32), .int (0 : Int32), .int (0 : Int32), .int (-1 : Int32), .ref (ya 16), .ref (ya 17), .ref (ya 18), .ref (ya 19), .ref (ya 20), .ref (ya 21), .int (0 : Int32), .int (0 : Int32), .int (0 : Int32), .ref (ya 25), .ref (ya 26), .ref (ya 27), .ref (ya 28), .ref (ya 29), .ref (ya 30), .ref (ya 31), .ref (ya 32), .ref (ya 33), .ref (ya 34), .ref (ya 35), .int (0 : Int32), .int (0 : Int32), .ref (ya 38), .int (0 : Int32), .int (0 : Int32), .ref (ya 41), .ref (ya 42), .int (0 : Int32), .int (0 : Int32), .int (0 : Int32), .int (0 : Int32), .int (0 : Int32)])) := ⟨_, rfl⟩
    have hH : gH E A L f7 s.heap H locs := by rw [ef7]; exact hH
    have h8 : f7 y = .inr (10, [.int (0 : Int32), .ref (ya 1), .ref (ya 2), .ref (ya 3), .ref (ya 4), .ref (ya 5), .int p0, .int (0 : Int32), .int (0 : Int32), .int (0 : Int32), .int (0 : Int32), .long (0 : Int64), .int (0 : Int32), .int (0 : Int32), .int (0 : Int32), .int (-1 : Int32), .ref (ya 16), .ref (ya 17), .ref (ya 18), .ref (ya 19), .ref (ya 20), .ref (ya 21), .int (0 : Int32), .int (0 : Int32), .int (0 : Int32), .ref (ya 25), .ref (ya 26), .ref (ya 27), .ref (ya 28), .ref (ya 29), .ref (ya 30), .ref (ya 31), .ref (ya 32), .ref (ya 33), .ref (ya 34), .ref (ya 35), .int (0 : Int32), .int (0 : Int32), .ref (ya 38), .int (0 : Int32), .int (0 : Int32), .ref (ya 41), .ref (ya 42), .int (0 : Int32), .int (0 : Int32), .int (0 : Int32), .int (0 : Int32), .int (0 : Int32)]) := (congrFun ef7 y).trans (va_up_self _ _ _)
    refine lv_iload_n hx hb dX10_end_26 rfl (lv_at hl 1 rfl) ?_
    refine g_iret C hr hH (Nat.le_of_ble_eq_true rfl) (Nat.le_of_ble_eq_true rfl) dX10_end_27 ?_
    exact gIn_end1 c6
  · skip
    refine lv_iconst (v := (-1 : Int32)) hx hb dX10_end_19 (by decide) ?_
    refine g_iret C hr hH (Nat.le_of_ble_eq_true rfl) (Nat.le_of_ble_eq_true rfl) dX10_end_20 ?_
    exact gIn_end0 c6
set_option maxHeartbeats 4000000 in
set_option maxRecDepth 100000 in
theorem m_fault (l : Launch) (E : gE) (L : List Nat) (f : gF) {y : Nat} {ya : Nat → Nat} (my : y ∈ L) (fy : f y = .inr (10, [.int (0 : Int32), .ref (ya 1), .ref (ya 2), .ref (ya 3), .ref (ya 4), .ref (ya 5), .int (0 : Int32), .int (0 : Int32), .int (0 : Int32), .int (0 : Int32), .int (0 : Int32), .long (0 : Int64), .int (0 : Int32), .int (0 : Int32), .int (0 : Int32), .int (-1 : Int32), .ref (ya 16), .ref (ya 17), .ref (ya 18), .ref (ya 19), .ref (ya 20), .ref (ya 21), .int (0 : Int32), .int (0 : Int32), .int (0 : Int32), .ref (ya 25), .ref (ya 26), .ref (ya 27), .ref (ya 28), .ref (ya 29), .ref (ya 30), .ref (ya 31), .ref (ya 32), .ref (ya 33), .ref (ya 34), .ref (ya 35), .int (0 : Int32), .int (0 : Int32), .ref (ya 38), .int (0 : Int32), .int (0 : Int32), .ref (ya 41), .ref (ya 42), .int (0 : Int32), .int (0 : Int32), .int (0 : Int32), .int (0 : Int32), .int (0 : Int32)])) (p0 : Int32) : gMi l E yX10_fault cX10_fault 2 .int (gRm 3 0 0) [.ref y, .int p0] L f (fun r _ _ => r = gFault p0) := by
  refine gMi.intro (by decide) (Nat.le_of_ble_eq_true rfl) ?_
  intro p e s m below meth c A ls C hr hA hH hl
  have C : gC E cX10_fault 2 RX10 p s m _ meth c := C
  have hl : lv_has ls 2 [(0, .ref y), (1, .int p0)] := hl
  have hx := C.1
  have hb := C.2.1
  refine lv_aload_n hx hb dX10_fault_0 rfl (lv_at hl 0 rfl) ?_
  refine lv_iconst (v := (0 : Int32)) hx hb dX10_fault_1 (by decide) ?_
  refine g_put C hH my fy iX10 tyX10 tyX10_ok nmX10 rfl 0 (by decide) wd270 rfl rfl rfl rfl (Nat.le_of_ble_eq_true rfl) (fs' := [.int (0 : Int32), .ref (ya 1), .ref (ya 2), .ref (ya 3), .ref (ya 4), .ref (ya 5), .int (0 : Int32), .int (0 : Int32), .int (0 : Int32), .int (0 : Int32), .int (0 : Int32), .long (0 : Int64), .int (0 : Int32), .int (0 : Int32), .int (0 : Int32), .int (-1 : Int32), .ref (ya 16), .ref (ya 17), .ref (ya 18), .ref (ya 19), .ref (ya 20), .ref (ya 21), .int (0 : Int32), .int (0 : Int32), .int (0 : Int32), .ref (ya 25), .ref (ya 26), .ref (ya 27), .ref (ya 28), .ref (ya 29), .ref (ya 30), .ref (ya 31), .ref (ya 32), .ref (ya 33), .ref (ya 34), .ref (ya 35), .int (0 : Int32), .int (0 : Int32), .ref (ya 38), .int (0 : Int32), .int (0 : Int32), .ref (ya 41), .ref (ya 42), .int (0 : Int32), .int (0 : Int32), .int (0 : Int32), .int (0 : Int32), .int (0 : Int32)]) rfl dX10_fault_2 (fun H locs hH => ?_)
  obtain ⟨f1, ef1⟩ : ∃ z : gF, z = va_up f y (.inr (10, [.int (0 : Int32), .ref (ya 1), .ref (ya 2), .ref (ya 3), .ref (ya 4), .ref (ya 5), .int (0 : Int32), .int (0 : Int32), .int (0 : Int32), .int (0 : Int32), .int (0 : Int32), .long (0 : Int64), .int (0 : Int32), .int (0 : Int32), .int (0 : Int32), .int (-1 : Int32), .ref (ya 16), .ref (ya 17), .ref (ya 18), .ref (ya 19), .ref (ya 20), .ref (ya 21), .int (0 : Int32), .int (0 : Int32), .int (0 : Int32), .ref (ya 25), .ref (ya 26), .ref (ya 27), .ref (ya 28), .ref (ya 29), .ref (ya 30), .ref (ya 31), .ref (ya 32), .ref (ya 33), .ref (ya 34), .ref (ya 35), .int (0 : Int32), .int (0 : Int32), .ref (ya 38), .int (0 : Int32), .int (0 : Int32), .ref (ya 41), .ref (ya 42), .int (0 : Int32), .int (0 : Int32), .int (0 : Int32), .int (0 : Int32), .int (0 : Int32)])) := ⟨_, rfl⟩
  have hH : gH E A L f1 s.heap H locs := by rw [ef1]; exact hH
  have h2 : f1 y = .inr (10, [.int (0 : Int32), .ref (ya 1), .ref (ya 2), .ref (ya 3), .ref (ya 4), .ref (ya 5), .int (0 : Int32), .int (0 : Int32), .int (0 : Int32), .int (0 : Int32), .int (0 : Int32), .long (0 : Int64), .int (0 : Int32), .int (0 : Int32), .int (0 : Int32), .int (-1 : Int32), .ref (ya 16), .ref (ya 17), .ref (ya 18), .ref (ya 19), .ref (ya 20), .ref (ya 21), .int (0 : Int32), .int (0 : Int32), .int (0 : Int32), .ref (ya 25), .ref (ya 26), .ref (ya 27), .ref (ya 28), .ref (ya 29), .ref (ya 30), .ref (ya 31), .ref (ya 32), .ref (ya 33), .ref (ya 34), .ref (ya 35), .int (0 : Int32), .int (0 : Int32), .ref (ya 38), .int (0 : Int32), .int (0 : Int32), .ref (ya 41), .ref (ya 42), .int (0 : Int32), .int (0 : Int32), .int (0 : Int32), .int (0 : Int32), .int (0 : Int32)]) := (congrFun ef1 y).trans (va_up_self _ _ _)
  refine lv_iload_n hx hb dX10_fault_5 rfl (lv_at hl 1 rfl) ?_
  refine lv_if_ne (tgt := 16) hx hb dX10_fault_6 (by decide) (fun c3 => ?_) (fun c3 => ?_)
  · skip
    refine lv_iload_n hx hb dX10_fault_16 rfl (lv_at hl 1 rfl) ?_
    refine lv_iconst (v := (1 : Int32)) hx hb dX10_fault_17 (by decide) ?_
    refine lv_icmp_ne (tgt := 28) hx hb dX10_fault_18 (by decide) (fun c4 => ?_) (fun c4 => ?_)
    · skip
      refine lv_iconst (v := (-1 : Int32)) hx hb dX10_fault_28 (by decide) ?_
      refine g_iret C hr hH (Nat.le_of_ble_eq_true rfl) (Nat.le_of_ble_eq_true rfl) dX10_fault_29 ?_
      exact (by rw [gFault, if_neg c3])
    · skip
      refine lv_aload_n hx hb dX10_fault_21 rfl (lv_at hl 0 rfl) ?_
      refine g_get C hH my h2 iX10 rfl 15 (by decide) wd313 rfl rfl dX10_fault_22 ?_
      refine lv_goto (tgt := 29) hx hb dX10_fault_25 (by decide) ?_
      refine g_iret C hr hH (Nat.le_of_ble_eq_true rfl) (Nat.le_of_ble_eq_true rfl) dX10_fault_29 ?_
      exact (by rw [gFault, if_neg c3])
  · skip
    refine lv_aload_n hx hb dX10_fault_9 rfl (lv_at hl 0 rfl) ?_
    refine g_get C hH my h2 iX10 rfl 14 (by decide) wd314 rfl rfl dX10_fault_10 ?_
    refine lv_goto (tgt := 29) hx hb dX10_fault_13 (by decide) ?_
    refine g_iret C hr hH (Nat.le_of_ble_eq_true rfl) (Nat.le_of_ble_eq_true rfl) dX10_fault_29 ?_
    exact (by rw [gFault, if_pos c3])
set_option maxHeartbeats 4000000 in
set_option maxRecDepth 100000 in
theorem m_count (l : Launch) (E : gE) (L : List Nat) (f : gF) {y : Nat} {ya : Nat → Nat} (my : y ∈ L) (fy : f y = .inr (10, [.int (0 : Int32), .ref (ya 1), .ref (ya 2), .ref (ya 3), .ref (ya 4), .ref (ya 5), .int (0 : Int32), .int (0 : Int32), .int (0 : Int32), .int (0 : Int32), .int (0 : Int32), .long (0 : Int64), .int (0 : Int32), .int (0 : Int32), .int (0 : Int32), .int (-1 : Int32), .ref (ya 16), .ref (ya 17), .ref (ya 18), .ref (ya 19), .ref (ya 20), .ref (ya 21), .int (0 : Int32), .int (0 : Int32), .int (0 : Int32), .ref (ya 25), .ref (ya 26), .ref (ya 27), .ref (ya 28), .ref (ya 29), .ref (ya 30), .ref (ya 31), .ref (ya 32), .ref (ya 33), .ref (ya 34), .ref (ya 35), .int (0 : Int32), .int (0 : Int32), .ref (ya 38), .int (0 : Int32), .int (0 : Int32), .ref (ya 41), .ref (ya 42), .int (0 : Int32), .int (0 : Int32), .int (0 : Int32), .int (0 : Int32), .int (0 : Int32)])) (m_lines : (ya 16) ∈ L) (f_lines : f (ya 16) = .inl (E.2.2 1, 5, .inl (fun _ => 0))) (m_has : (ya 17) ∈ L) (f_has : f (ya 17) = .inl (E.2.2 1, 45, .inl (fun _ => 0))) {wc : Nat → Int32} (m_w : (ya 1) ∈ L) (f_w : f (ya 1) = .inl (E.2.2 1, 4, .inl wc)) (hw : ∀ k, k < 4 → wc k = -1) (p0 : Int32) : gMi l E yX10_count cX10_count 4 .int (gRm 3 0 0) [.ref y, .int p0] L f (fun r _ _ => r = gCount p0) := by
  refine gMi.intro (by decide) (Nat.le_of_ble_eq_true rfl) ?_
  intro p e s m below meth c A ls C hr hA hH hl
  have C : gC E cX10_count 4 RX10 p s m _ meth c := C
  have hl : lv_has ls 4 [(0, .ref y), (1, .int p0)] := hl
  have hx := C.1
  have hb := C.2.1
  refine lv_aload_n hx hb dX10_count_0 rfl (lv_at hl 0 rfl) ?_
  refine lv_iconst (v := (0 : Int32)) hx hb dX10_count_1 (by decide) ?_
  refine g_put C hH my fy iX10 tyX10 tyX10_ok nmX10 rfl 0 (by decide) wd270 rfl rfl rfl rfl (Nat.le_of_ble_eq_true rfl) (fs' := [.int (0 : Int32), .ref (ya 1), .ref (ya 2), .ref (ya 3), .ref (ya 4), .ref (ya 5), .int (0 : Int32), .int (0 : Int32), .int (0 : Int32), .int (0 : Int32), .int (0 : Int32), .long (0 : Int64), .int (0 : Int32), .int (0 : Int32), .int (0 : Int32), .int (-1 : Int32), .ref (ya 16), .ref (ya 17), .ref (ya 18), .ref (ya 19), .ref (ya 20), .ref (ya 21), .int (0 : Int32), .int (0 : Int32), .int (0 : Int32), .ref (ya 25), .ref (ya 26), .ref (ya 27), .ref (ya 28), .ref (ya 29), .ref (ya 30), .ref (ya 31), .ref (ya 32), .ref (ya 33), .ref (ya 34), .ref (ya 35), .int (0 : Int32), .int (0 : Int32), .ref (ya 38), .int (0 : Int32), .int (0 : Int32), .ref (ya 41), .ref (ya 42), .int (0 : Int32), .int (0 : Int32), .int (0 : Int32), .int (0 : Int32), .int (0 : Int32)]) rfl dX10_count_2 (fun H locs hH => ?_)
  obtain ⟨f1, ef1⟩ : ∃ z : gF, z = va_up f y (.inr (10, [.int (0 : Int32), .ref (ya 1), .ref (ya 2), .ref (ya 3), .ref (ya 4), .ref (ya 5), .int (0 : Int32), .int (0 : Int32), .int (0 : Int32), .int (0 : Int32), .int (0 : Int32), .long (0 : Int64), .int (0 : Int32), .int (0 : Int32), .int (0 : Int32), .int (-1 : Int32), .ref (ya 16), .ref (ya 17), .ref (ya 18), .ref (ya 19), .ref (ya 20), .ref (ya 21), .int (0 : Int32), .int (0 : Int32), .int (0 : Int32), .ref (ya 25), .ref (ya 26), .ref (ya 27), .ref (ya 28), .ref (ya 29), .ref (ya 30), .ref (ya 31), .ref (ya 32), .ref (ya 33), .ref (ya 34), .ref (ya 35), .int (0 : Int32), .int (0 : Int32), .ref (ya 38), .int (0 : Int32), .int (0 : Int32), .ref (ya 41), .ref (ya 42), .int (0 : Int32), .int (0 : Int32), .int (0 : Int32), .int (0 : Int32), .int (0 : Int32)])) := ⟨_, rfl⟩
  have hH : gH E A L f1 s.heap H locs := by rw [ef1]; exact hH
  have h2 : f1 y = .inr (10, [.int (0 : Int32), .ref (ya 1), .ref (ya 2), .ref (ya 3), .ref (ya 4), .ref (ya 5), .int (0 : Int32), .int (0 : Int32), .int (0 : Int32), .int (0 : Int32), .int (0 : Int32), .long (0 : Int64), .int (0 : Int32), .int (0 : Int32), .int (0 : Int32), .int (-1 : Int32), .ref (ya 16), .ref (ya 17), .ref (ya 18), .ref (ya 19), .ref (ya 20), .ref (ya 21), .int (0 : Int32), .int (0 : Int32), .int (0 : Int32), .ref (ya 25), .ref (ya 26), .ref (ya 27), .ref (ya 28), .ref (ya 29), .ref (ya 30), .ref (ya 31), .ref (ya 32), .ref (ya 33), .ref (ya 34), .ref (ya 35), .int (0 : Int32), .int (0 : Int32), .ref (ya 38), .int (0 : Int32), .int (0 : Int32), .ref (ya 41), .ref (ya 42), .int (0 : Int32), .int (0 : Int32), .int (0 : Int32), .int (0 : Int32), .int (0 : Int32)]) := (congrFun ef1 y).trans (va_up_self _ _ _)
  refine lv_iconst (v := (0 : Int32)) hx hb dX10_count_5 (by decide) ?_
  refine lv_istore_n (lv' := [(2, .int (0 : Int32)), (0, .ref y), (1, .int p0)]) hx hb dX10_count_6 rfl hl (by decide) rfl (fun ls hl => ?_)
  refine lv_iload_n hx hb dX10_count_7 rfl (lv_at hl 2 rfl) ?_
  rcases g_sw p0 0 11 (by decide) with c3 | c3
  · refine lv_tableOut (tgt := 138) hx hb dX10_count_8 (by first | exact c3 | omega) (by decide) ?_
    refine lv_iconst (v := (-1 : Int32)) hx hb dX10_count_138 (by decide) ?_
    refine g_iret C hr hH (Nat.le_of_ble_eq_true rfl) (Nat.le_of_ble_eq_true rfl) dX10_count_139 ?_
    exact (if_pos c3).symm
  · obtain ⟨j, hj, ej⟩ := c3
    rcases (show j = 0 ∨ j = 1 ∨ j = 2 ∨ j = 3 ∨ j = 4 ∨ j = 5 ∨ j = 6 ∨ j = 7 ∨ j = 8 ∨ j = 9 ∨ j = 10 ∨ j = 11 by omega) with rfl | rfl | rfl | rfl | rfl | rfl | rfl | rfl | rfl | rfl | rfl | rfl
    · obtain rfl : p0 = (0 : Int32) := g_swE ej (by decide)
      refine lv_tableIn (tgt := 72) (off := 64) hx hb dX10_count_8 (by decide) (by decide) (by decide) (by decide) ?_
      refine lv_aload_n hx hb dX10_count_72 rfl (lv_at hl 1 rfl) ?_
      refine g_get C hH my h2 iX10 rfl 17 (by decide) wd246 rfl rfl dX10_count_73 ?_
      refine lv_iload_n hx hb dX10_count_76 rfl (lv_at hl 2 rfl) ?_
      have h4 : f1 (ya 17) = .inl (E.2.2 1, 45, .inl (fun _ => 0)) := ((congrFun ef1 (ya 17)).trans (va_up_ne _ _ (g_neAO f_has fy))).trans f_has
      refine g_iald C hH m_has h4 (vp_inL (by decide)) dX10_count_77 ?_
      refine g_iret C hr hH (Nat.le_of_ble_eq_true rfl) (Nat.le_of_ble_eq_true rfl) dX10_count_78 ?_
      exact (by decide)
    · obtain rfl : p0 = (1 : Int32) := g_swE ej (by decide)
      refine lv_tableIn (tgt := 72) (off := 64) hx hb dX10_count_8 (by decide) (by decide) (by decide) (by decide) ?_
      refine lv_aload_n hx hb dX10_count_72 rfl (lv_at hl 1 rfl) ?_
      refine g_get C hH my h2 iX10 rfl 17 (by decide) wd246 rfl rfl dX10_count_73 ?_
      refine lv_iload_n hx hb dX10_count_76 rfl (lv_at hl 2 rfl) ?_
      have h5 : f1 (ya 17) = .inl (E.2.2 1, 45, .inl (fun _ => 0)) := ((congrFun ef1 (ya 17)).trans (va_up_ne _ _ (g_neAO f_has fy))).trans f_has
      refine g_iald C hH m_has h5 (vp_inL (by decide)) dX10_count_77 ?_
      refine g_iret C hr hH (Nat.le_of_ble_eq_true rfl) (Nat.le_of_ble_eq_true rfl) dX10_count_78 ?_
      exact (by decide)
    · obtain rfl : p0 = (2 : Int32) := g_swE ej (by decide)
      refine lv_tableIn (tgt := 72) (off := 64) hx hb dX10_count_8 (by decide) (by decide) (by decide) (by decide) ?_
      refine lv_aload_n hx hb dX10_count_72 rfl (lv_at hl 1 rfl) ?_
      refine g_get C hH my h2 iX10 rfl 17 (by decide) wd246 rfl rfl dX10_count_73 ?_
      refine lv_iload_n hx hb dX10_count_76 rfl (lv_at hl 2 rfl) ?_
      have h6 : f1 (ya 17) = .inl (E.2.2 1, 45, .inl (fun _ => 0)) := ((congrFun ef1 (ya 17)).trans (va_up_ne _ _ (g_neAO f_has fy))).trans f_has
      refine g_iald C hH m_has h6 (vp_inL (by decide)) dX10_count_77 ?_
      refine g_iret C hr hH (Nat.le_of_ble_eq_true rfl) (Nat.le_of_ble_eq_true rfl) dX10_count_78 ?_
      exact (by decide)
    · obtain rfl : p0 = (3 : Int32) := g_swE ej (by decide)
      refine lv_tableIn (tgt := 72) (off := 64) hx hb dX10_count_8 (by decide) (by decide) (by decide) (by decide) ?_
      refine lv_aload_n hx hb dX10_count_72 rfl (lv_at hl 1 rfl) ?_
      refine g_get C hH my h2 iX10 rfl 17 (by decide) wd246 rfl rfl dX10_count_73 ?_
      refine lv_iload_n hx hb dX10_count_76 rfl (lv_at hl 2 rfl) ?_
      have h7 : f1 (ya 17) = .inl (E.2.2 1, 45, .inl (fun _ => 0)) := ((congrFun ef1 (ya 17)).trans (va_up_ne _ _ (g_neAO f_has fy))).trans f_has
      refine g_iald C hH m_has h7 (vp_inL (by decide)) dX10_count_77 ?_
      refine g_iret C hr hH (Nat.le_of_ble_eq_true rfl) (Nat.le_of_ble_eq_true rfl) dX10_count_78 ?_
      exact (by decide)
    · obtain rfl : p0 = (4 : Int32) := g_swE ej (by decide)
      refine lv_tableIn (tgt := 72) (off := 64) hx hb dX10_count_8 (by decide) (by decide) (by decide) (by decide) ?_
      refine lv_aload_n hx hb dX10_count_72 rfl (lv_at hl 1 rfl) ?_
      refine g_get C hH my h2 iX10 rfl 17 (by decide) wd246 rfl rfl dX10_count_73 ?_
      refine lv_iload_n hx hb dX10_count_76 rfl (lv_at hl 2 rfl) ?_
      have h8 : f1 (ya 17) = .inl (E.2.2 1, 45, .inl (fun _ => 0)) := ((congrFun ef1 (ya 17)).trans (va_up_ne _ _ (g_neAO f_has fy))).trans f_has
      refine g_iald C hH m_has h8 (vp_inL (by decide)) dX10_count_77 ?_
      refine g_iret C hr hH (Nat.le_of_ble_eq_true rfl) (Nat.le_of_ble_eq_true rfl) dX10_count_78 ?_
      exact (by decide)
    · obtain rfl : p0 = (5 : Int32) := g_swE ej (by decide)
      refine lv_tableIn (tgt := 79) (off := 71) hx hb dX10_count_8 (by decide) (by decide) (by decide) (by decide) ?_
      refine lv_aload_n hx hb dX10_count_79 rfl (lv_at hl 1 rfl) ?_
      have h9 : f1 (ya 16) = .inl (E.2.2 1, 5, .inl (fun _ => 0)) := ((congrFun ef1 (ya 16)).trans (va_up_ne _ _ (g_neAO f_lines fy))).trans f_lines
      have h10 : f1 (ya 17) = .inl (E.2.2 1, 45, .inl (fun _ => 0)) := ((congrFun ef1 (ya 17)).trans (va_up_ne _ _ (g_neAO f_has fy))).trans f_has
      refine g_Vi C hl.1 hA hH (As := []) (rest := []) (m_cellsAll l E L f1 my h2 m_lines h9 m_has h10) my_X10_cellsAll wd250 my h2 rfl rfl rfl (Nat.le_of_ble_eq_true rfl) ⟨Nat.le_of_ble_eq_true rfl, Nat.le_of_ble_eq_true rfl⟩ ⟨Nat.le_of_ble_eq_true rfl, Nat.le_of_ble_eq_true rfl⟩ dX10_count_80 (fun r13 L12 f11 H locs hp hH => ?_)
      obtain ⟨er13, rfl, rfl⟩ := hp
      subst er13
      refine g_iret C hr hH (Nat.le_of_ble_eq_true rfl) (Nat.le_of_ble_eq_true rfl) dX10_count_83 ?_
      exact (by decide)
    · obtain rfl : p0 = (6 : Int32) := g_swE ej (by decide)
      refine lv_tableIn (tgt := 84) (off := 76) hx hb dX10_count_8 (by decide) (by decide) (by decide) (by decide) ?_
      refine lv_aload_n hx hb dX10_count_84 rfl (lv_at hl 1 rfl) ?_
      refine g_get C hH my h2 iX10 rfl 17 (by decide) wd246 rfl rfl dX10_count_85 ?_
      refine lv_iload_n hx hb dX10_count_88 rfl (lv_at hl 2 rfl) ?_
      refine lv_iconst (v := (1 : Int32)) hx hb dX10_count_89 (by decide) ?_
      refine lv_isub hx hb dX10_count_90 ?_
      refine lv_topi (fun z14 ez14 => ?_)
      obtain rfl : z14 = (5 : Int32) := ez14.trans (by decide)
      have h15 : f1 (ya 17) = .inl (E.2.2 1, 45, .inl (fun _ => 0)) := ((congrFun ef1 (ya 17)).trans (va_up_ne _ _ (g_neAO f_has fy))).trans f_has
      refine g_iald C hH m_has h15 (vp_inL (by decide)) dX10_count_91 ?_
      refine g_iret C hr hH (Nat.le_of_ble_eq_true rfl) (Nat.le_of_ble_eq_true rfl) dX10_count_92 ?_
      exact (by decide)
    · obtain rfl : p0 = (7 : Int32) := g_swE ej (by decide)
      refine lv_tableIn (tgt := 84) (off := 76) hx hb dX10_count_8 (by decide) (by decide) (by decide) (by decide) ?_
      refine lv_aload_n hx hb dX10_count_84 rfl (lv_at hl 1 rfl) ?_
      refine g_get C hH my h2 iX10 rfl 17 (by decide) wd246 rfl rfl dX10_count_85 ?_
      refine lv_iload_n hx hb dX10_count_88 rfl (lv_at hl 2 rfl) ?_
      refine lv_iconst (v := (1 : Int32)) hx hb dX10_count_89 (by decide) ?_
      refine lv_isub hx hb dX10_count_90 ?_
      refine lv_topi (fun z16 ez16 => ?_)
      obtain rfl : z16 = (6 : Int32) := ez16.trans (by decide)
      have h17 : f1 (ya 17) = .inl (E.2.2 1, 45, .inl (fun _ => 0)) := ((congrFun ef1 (ya 17)).trans (va_up_ne _ _ (g_neAO f_has fy))).trans f_has
      refine g_iald C hH m_has h17 (vp_inL (by decide)) dX10_count_91 ?_
      refine g_iret C hr hH (Nat.le_of_ble_eq_true rfl) (Nat.le_of_ble_eq_true rfl) dX10_count_92 ?_
      exact (by decide)
    · obtain rfl : p0 = (8 : Int32) := g_swE ej (by decide)
      refine lv_tableIn (tgt := 84) (off := 76) hx hb dX10_count_8 (by decide) (by decide) (by decide) (by decide) ?_
      refine lv_aload_n hx hb dX10_count_84 rfl (lv_at hl 1 rfl) ?_
      refine g_get C hH my h2 iX10 rfl 17 (by decide) wd246 rfl rfl dX10_count_85 ?_
      refine lv_iload_n hx hb dX10_count_88 rfl (lv_at hl 2 rfl) ?_
      refine lv_iconst (v := (1 : Int32)) hx hb dX10_count_89 (by decide) ?_
      refine lv_isub hx hb dX10_count_90 ?_
      refine lv_topi (fun z18 ez18 => ?_)
      obtain rfl : z18 = (7 : Int32) := ez18.trans (by decide)
      have h19 : f1 (ya 17) = .inl (E.2.2 1, 45, .inl (fun _ => 0)) := ((congrFun ef1 (ya 17)).trans (va_up_ne _ _ (g_neAO f_has fy))).trans f_has
      refine g_iald C hH m_has h19 (vp_inL (by decide)) dX10_count_91 ?_
      refine g_iret C hr hH (Nat.le_of_ble_eq_true rfl) (Nat.le_of_ble_eq_true rfl) dX10_count_92 ?_
      exact (by decide)
    · obtain rfl : p0 = (9 : Int32) := g_swE ej (by decide)
      refine lv_tableIn (tgt := 93) (off := 85) hx hb dX10_count_8 (by decide) (by decide) (by decide) (by decide) ?_
      refine lv_aload_n hx hb dX10_count_93 rfl (lv_at hl 1 rfl) ?_
      refine g_get C hH my h2 iX10 rfl 16 (by decide) wd245 rfl rfl dX10_count_94 ?_
      refine lv_iconst (v := (0 : Int32)) hx hb dX10_count_97 (by decide) ?_
      have h20 : f1 (ya 16) = .inl (E.2.2 1, 5, .inl (fun _ => 0)) := ((congrFun ef1 (ya 16)).trans (va_up_ne _ _ (g_neAO f_lines fy))).trans f_lines
      refine g_iald C hH m_lines h20 (vp_inL (by decide)) dX10_count_98 ?_
      refine g_iret C hr hH (Nat.le_of_ble_eq_true rfl) (Nat.le_of_ble_eq_true rfl) dX10_count_99 ?_
      exact (by decide)
    · obtain rfl : p0 = (10 : Int32) := g_swE ej (by decide)
      refine lv_tableIn (tgt := 100) (off := 92) hx hb dX10_count_8 (by decide) (by decide) (by decide) (by decide) ?_
      refine lv_aload_n hx hb dX10_count_100 rfl (lv_at hl 1 rfl) ?_
      refine g_get C hH my h2 iX10 rfl 6 (by decide) wd308 rfl rfl dX10_count_101 ?_
      refine g_iret C hr hH (Nat.le_of_ble_eq_true rfl) (Nat.le_of_ble_eq_true rfl) dX10_count_104 ?_
      exact (by decide)
    · obtain rfl : p0 = (11 : Int32) := g_swE ej (by decide)
      refine lv_tableIn (tgt := 105) (off := 97) hx hb dX10_count_8 (by decide) (by decide) (by decide) (by decide) ?_
      refine lv_iconst (v := (0 : Int32)) hx hb dX10_count_105 (by decide) ?_
      refine lv_istore_n (lv' := [(3, .int (0 : Int32)), (2, .int (0 : Int32)), (0, .ref y), (1, .int (11 : Int32))]) hx hb dX10_count_106 rfl hl (by decide) rfl (fun ls hl => ?_)
      refine lv_iload_n hx hb dX10_count_107 rfl (lv_at hl 0 rfl) ?_
      refine lv_iconst (v := (4 : Int32)) hx hb dX10_count_108 (by decide) ?_
      refine lv_icmp_ge (tgt := 136) hx hb dX10_count_109 (by decide) (fun h => absurd h (by decide)) (fun _ => ?_)
      refine lv_iload_n hx hb dX10_count_112 rfl (lv_at hl 1 rfl) ?_
      refine lv_aload_n hx hb dX10_count_113 rfl (lv_at hl 2 rfl) ?_
      refine g_get C hH my h2 iX10 rfl 1 (by decide) wd315 rfl rfl dX10_count_114 ?_
      refine lv_iload_n hx hb dX10_count_117 rfl (lv_at hl 0 rfl) ?_
      have h21 : f1 (ya 1) = .inl (E.2.2 1, 4, .inl wc) := ((congrFun ef1 (ya 1)).trans (va_up_ne _ _ (g_neAO f_w fy))).trans f_w
      refine g_iald C hH m_w h21 (vp_inL (by decide)) dX10_count_118 ?_
      refine lv_topi (fun z22 ez22 => ?_)
      obtain rfl : z22 = (-1 : Int32) := ez22.trans (hw _ (vp_lt (vp_inL (by decide))))
      refine lv_iconst (v := (-1 : Int32)) hx hb dX10_count_119 (by decide) ?_
      refine lv_icmp_ne (tgt := 127) hx hb dX10_count_120 (by decide) (fun h => absurd (by decide) h) (fun _ => ?_)
      refine lv_iconst (v := (0 : Int32)) hx hb dX10_count_123 (by decide) ?_
      refine lv_goto (tgt := 128) hx hb dX10_count_124 (by decide) ?_
      refine lv_iadd hx hb dX10_count_128 ?_
      refine lv_topi (fun z23 ez23 => ?_)
      obtain rfl : z23 = (0 : Int32) := ez23.trans (by decide)
      refine lv_istore_n (lv' := [(2, .int (0 : Int32)), (3, .int (0 : Int32)), (0, .ref y), (1, .int (11 : Int32))]) hx hb dX10_count_129 rfl hl (by decide) rfl (fun ls hl => ?_)
      refine lv_iinc (v := (1 : Int32)) (lv' := [(3, .int (1 : Int32)), (2, .int (0 : Int32)), (0, .ref y), (1, .int (11 : Int32))]) hx hb dX10_count_130 hl (k := 1) rfl (by decide) (by decide) rfl (fun ls hl => ?_)
      refine lv_goto (tgt := 107) hx hb dX10_count_133 (by decide) ?_
      refine lv_iload_n hx hb dX10_count_107 rfl (lv_at hl 0 rfl) ?_
      refine lv_iconst (v := (4 : Int32)) hx hb dX10_count_108 (by decide) ?_
      refine lv_icmp_ge (tgt := 136) hx hb dX10_count_109 (by decide) (fun h => absurd h (by decide)) (fun _ => ?_)
      refine lv_iload_n hx hb dX10_count_112 rfl (lv_at hl 1 rfl) ?_
      refine lv_aload_n hx hb dX10_count_113 rfl (lv_at hl 2 rfl) ?_
      refine g_get C hH my h2 iX10 rfl 1 (by decide) wd315 rfl rfl dX10_count_114 ?_
      refine lv_iload_n hx hb dX10_count_117 rfl (lv_at hl 0 rfl) ?_
      refine g_iald C hH m_w h21 (vp_inL (by decide)) dX10_count_118 ?_
      refine lv_topi (fun z24 ez24 => ?_)
      obtain rfl : z24 = (-1 : Int32) := ez24.trans (hw _ (vp_lt (vp_inL (by decide))))
      refine lv_iconst (v := (-1 : Int32)) hx hb dX10_count_119 (by decide) ?_
      refine lv_icmp_ne (tgt := 127) hx hb dX10_count_120 (by decide) (fun h => absurd (by decide) h) (fun _ => ?_)
      refine lv_iconst (v := (0 : Int32)) hx hb dX10_count_123 (by decide) ?_
      refine lv_goto (tgt := 128) hx hb dX10_count_124 (by decide) ?_
      refine lv_iadd hx hb dX10_count_128 ?_
      refine lv_topi (fun z25 ez25 => ?_)
      obtain rfl : z25 = (0 : Int32) := ez25.trans (by decide)
      refine lv_istore_n (lv' := [(2, .int (0 : Int32)), (3, .int (1 : Int32)), (0, .ref y), (1, .int (11 : Int32))]) hx hb dX10_count_129 rfl hl (by decide) rfl (fun ls hl => ?_)
      refine lv_iinc (v := (2 : Int32)) (lv' := [(3, .int (2 : Int32)), (2, .int (0 : Int32)), (0, .ref y), (1, .int (11 : Int32))]) hx hb dX10_count_130 hl (k := 1) rfl (by decide) (by decide) rfl (fun ls hl => ?_)
      refine lv_goto (tgt := 107) hx hb dX10_count_133 (by decide) ?_
      refine lv_iload_n hx hb dX10_count_107 rfl (lv_at hl 0 rfl) ?_
      refine lv_iconst (v := (4 : Int32)) hx hb dX10_count_108 (by decide) ?_
      refine lv_icmp_ge (tgt := 136) hx hb dX10_count_109 (by decide) (fun h => absurd h (by decide)) (fun _ => ?_)
      refine lv_iload_n hx hb dX10_count_112 rfl (lv_at hl 1 rfl) ?_
      refine lv_aload_n hx hb dX10_count_113 rfl (lv_at hl 2 rfl) ?_
      refine g_get C hH my h2 iX10 rfl 1 (by decide) wd315 rfl rfl dX10_count_114 ?_
      refine lv_iload_n hx hb dX10_count_117 rfl (lv_at hl 0 rfl) ?_
      refine g_iald C hH m_w h21 (vp_inL (by decide)) dX10_count_118 ?_
      refine lv_topi (fun z26 ez26 => ?_)
      obtain rfl : z26 = (-1 : Int32) := ez26.trans (hw _ (vp_lt (vp_inL (by decide))))
      refine lv_iconst (v := (-1 : Int32)) hx hb dX10_count_119 (by decide) ?_
      refine lv_icmp_ne (tgt := 127) hx hb dX10_count_120 (by decide) (fun h => absurd (by decide) h) (fun _ => ?_)
      refine lv_iconst (v := (0 : Int32)) hx hb dX10_count_123 (by decide) ?_
      refine lv_goto (tgt := 128) hx hb dX10_count_124 (by decide) ?_
      refine lv_iadd hx hb dX10_count_128 ?_
      refine lv_topi (fun z27 ez27 => ?_)
      obtain rfl : z27 = (0 : Int32) := ez27.trans (by decide)
      refine lv_istore_n (lv' := [(2, .int (0 : Int32)), (3, .int (2 : Int32)), (0, .ref y), (1, .int (11 : Int32))]) hx hb dX10_count_129 rfl hl (by decide) rfl (fun ls hl => ?_)
      refine lv_iinc (v := (3 : Int32)) (lv' := [(3, .int (3 : Int32)), (2, .int (0 : Int32)), (0, .ref y), (1, .int (11 : Int32))]) hx hb dX10_count_130 hl (k := 1) rfl (by decide) (by decide) rfl (fun ls hl => ?_)
      refine lv_goto (tgt := 107) hx hb dX10_count_133 (by decide) ?_
      refine lv_iload_n hx hb dX10_count_107 rfl (lv_at hl 0 rfl) ?_
      refine lv_iconst (v := (4 : Int32)) hx hb dX10_count_108 (by decide) ?_
      refine lv_icmp_ge (tgt := 136) hx hb dX10_count_109 (by decide) (fun h => absurd h (by decide)) (fun _ => ?_)
      refine lv_iload_n hx hb dX10_count_112 rfl (lv_at hl 1 rfl) ?_
      refine lv_aload_n hx hb dX10_count_113 rfl (lv_at hl 2 rfl) ?_
      refine g_get C hH my h2 iX10 rfl 1 (by decide) wd315 rfl rfl dX10_count_114 ?_
      refine lv_iload_n hx hb dX10_count_117 rfl (lv_at hl 0 rfl) ?_
      refine g_iald C hH m_w h21 (vp_inL (by decide)) dX10_count_118 ?_
      refine lv_topi (fun z28 ez28 => ?_)
      obtain rfl : z28 = (-1 : Int32) := ez28.trans (hw _ (vp_lt (vp_inL (by decide))))
      refine lv_iconst (v := (-1 : Int32)) hx hb dX10_count_119 (by decide) ?_
      refine lv_icmp_ne (tgt := 127) hx hb dX10_count_120 (by decide) (fun h => absurd (by decide) h) (fun _ => ?_)
      refine lv_iconst (v := (0 : Int32)) hx hb dX10_count_123 (by decide) ?_
      refine lv_goto (tgt := 128) hx hb dX10_count_124 (by decide) ?_
      refine lv_iadd hx hb dX10_count_128 ?_
      refine lv_topi (fun z29 ez29 => ?_)
      obtain rfl : z29 = (0 : Int32) := ez29.trans (by decide)
      refine lv_istore_n (lv' := [(2, .int (0 : Int32)), (3, .int (3 : Int32)), (0, .ref y), (1, .int (11 : Int32))]) hx hb dX10_count_129 rfl hl (by decide) rfl (fun ls hl => ?_)
      refine lv_iinc (v := (4 : Int32)) (lv' := [(3, .int (4 : Int32)), (2, .int (0 : Int32)), (0, .ref y), (1, .int (11 : Int32))]) hx hb dX10_count_130 hl (k := 1) rfl (by decide) (by decide) rfl (fun ls hl => ?_)
      refine lv_goto (tgt := 107) hx hb dX10_count_133 (by decide) ?_
      refine lv_iload_n hx hb dX10_count_107 rfl (lv_at hl 0 rfl) ?_
      refine lv_iconst (v := (4 : Int32)) hx hb dX10_count_108 (by decide) ?_
      refine lv_icmp_ge (tgt := 136) hx hb dX10_count_109 (by decide) (fun _ => ?_) (fun h => absurd (by decide) h)
      refine lv_iload_n hx hb dX10_count_136 rfl (lv_at hl 1 rfl) ?_
      refine g_iret C hr hH (Nat.le_of_ble_eq_true rfl) (Nat.le_of_ble_eq_true rfl) dX10_count_137 ?_
      exact (by decide)
set_option maxHeartbeats 4000000 in
set_option maxRecDepth 100000 in
theorem m_write (l : Launch) (E : gE) (L : List Nat) (f : gF) {y : Nat} {ya : Nat → Nat} (my : y ∈ L) (fy : f y = .inr (10, [.int (0 : Int32), .ref (ya 1), .ref (ya 2), .ref (ya 3), .ref (ya 4), .ref (ya 5), .int (0 : Int32), .int (0 : Int32), .int (0 : Int32), .int (0 : Int32), .int (0 : Int32), .long (0 : Int64), .int (0 : Int32), .int (0 : Int32), .int (0 : Int32), .int (-1 : Int32), .ref (ya 16), .ref (ya 17), .ref (ya 18), .ref (ya 19), .ref (ya 20), .ref (ya 21), .int (0 : Int32), .int (0 : Int32), .int (0 : Int32), .ref (ya 25), .ref (ya 26), .ref (ya 27), .ref (ya 28), .ref (ya 29), .ref (ya 30), .ref (ya 31), .ref (ya 32), .ref (ya 33), .ref (ya 34), .ref (ya 35), .int (0 : Int32), .int (0 : Int32), .ref (ya 38), .int (0 : Int32), .int (0 : Int32), .ref (ya 41), .ref (ya 42), .int (0 : Int32), .int (0 : Int32), .int (0 : Int32), .int (0 : Int32), .int (0 : Int32)])) {wc : Nat → Int32} (m_w : (ya 1) ∈ L) (f_w : f (ya 1) = .inl (E.2.2 1, 4, .inl wc)) (hw : ∀ k, k < 4 → wc k = -1) (p0 p1 : Int32) (p2 : Int64) : gMi l E yX10_write cX10_write 5 .int (gRm 3 0 0) [.ref y, .int p0, .int p1, .long p2] L f (fun r _ _ => r = gWrite p0) := by
  refine gMi.intro (by decide) (Nat.le_of_ble_eq_true rfl) ?_
  intro p e s m below meth c A ls C hr hA hH hl
  have C : gC E cX10_write 5 RX10 p s m _ meth c := C
  have hl : lv_has ls 5 [(0, .ref y), (1, .int p0), (2, .int p1), (3, .long p2)] := hl
  have hx := C.1
  have hb := C.2.1
  refine lv_aload_n hx hb dX10_write_0 rfl (lv_at hl 0 rfl) ?_
  refine lv_iconst (v := (0 : Int32)) hx hb dX10_write_1 (by decide) ?_
  refine g_put C hH my fy iX10 tyX10 tyX10_ok nmX10 rfl 0 (by decide) wd270 rfl rfl rfl rfl (Nat.le_of_ble_eq_true rfl) (fs' := [.int (0 : Int32), .ref (ya 1), .ref (ya 2), .ref (ya 3), .ref (ya 4), .ref (ya 5), .int (0 : Int32), .int (0 : Int32), .int (0 : Int32), .int (0 : Int32), .int (0 : Int32), .long (0 : Int64), .int (0 : Int32), .int (0 : Int32), .int (0 : Int32), .int (-1 : Int32), .ref (ya 16), .ref (ya 17), .ref (ya 18), .ref (ya 19), .ref (ya 20), .ref (ya 21), .int (0 : Int32), .int (0 : Int32), .int (0 : Int32), .ref (ya 25), .ref (ya 26), .ref (ya 27), .ref (ya 28), .ref (ya 29), .ref (ya 30), .ref (ya 31), .ref (ya 32), .ref (ya 33), .ref (ya 34), .ref (ya 35), .int (0 : Int32), .int (0 : Int32), .ref (ya 38), .int (0 : Int32), .int (0 : Int32), .ref (ya 41), .ref (ya 42), .int (0 : Int32), .int (0 : Int32), .int (0 : Int32), .int (0 : Int32), .int (0 : Int32)]) rfl dX10_write_2 (fun H locs hH => ?_)
  obtain ⟨f1, ef1⟩ : ∃ z : gF, z = va_up f y (.inr (10, [.int (0 : Int32), .ref (ya 1), .ref (ya 2), .ref (ya 3), .ref (ya 4), .ref (ya 5), .int (0 : Int32), .int (0 : Int32), .int (0 : Int32), .int (0 : Int32), .int (0 : Int32), .long (0 : Int64), .int (0 : Int32), .int (0 : Int32), .int (0 : Int32), .int (-1 : Int32), .ref (ya 16), .ref (ya 17), .ref (ya 18), .ref (ya 19), .ref (ya 20), .ref (ya 21), .int (0 : Int32), .int (0 : Int32), .int (0 : Int32), .ref (ya 25), .ref (ya 26), .ref (ya 27), .ref (ya 28), .ref (ya 29), .ref (ya 30), .ref (ya 31), .ref (ya 32), .ref (ya 33), .ref (ya 34), .ref (ya 35), .int (0 : Int32), .int (0 : Int32), .ref (ya 38), .int (0 : Int32), .int (0 : Int32), .ref (ya 41), .ref (ya 42), .int (0 : Int32), .int (0 : Int32), .int (0 : Int32), .int (0 : Int32), .int (0 : Int32)])) := ⟨_, rfl⟩
  have hH : gH E A L f1 s.heap H locs := by rw [ef1]; exact hH
  have h2 : f1 y = .inr (10, [.int (0 : Int32), .ref (ya 1), .ref (ya 2), .ref (ya 3), .ref (ya 4), .ref (ya 5), .int (0 : Int32), .int (0 : Int32), .int (0 : Int32), .int (0 : Int32), .int (0 : Int32), .long (0 : Int64), .int (0 : Int32), .int (0 : Int32), .int (0 : Int32), .int (-1 : Int32), .ref (ya 16), .ref (ya 17), .ref (ya 18), .ref (ya 19), .ref (ya 20), .ref (ya 21), .int (0 : Int32), .int (0 : Int32), .int (0 : Int32), .ref (ya 25), .ref (ya 26), .ref (ya 27), .ref (ya 28), .ref (ya 29), .ref (ya 30), .ref (ya 31), .ref (ya 32), .ref (ya 33), .ref (ya 34), .ref (ya 35), .int (0 : Int32), .int (0 : Int32), .ref (ya 38), .int (0 : Int32), .int (0 : Int32), .ref (ya 41), .ref (ya 42), .int (0 : Int32), .int (0 : Int32), .int (0 : Int32), .int (0 : Int32), .int (0 : Int32)]) := (congrFun ef1 y).trans (va_up_self _ _ _)
  refine lv_iload_n hx hb dX10_write_5 rfl (lv_at hl 1 rfl) ?_
  refine g_Si C hl.1 hA hH (As := [.int p0]) (rest := []) (m_isSlot l E L f1 p0) my_X10_isSlot wd269 rfl rfl (Nat.le_of_ble_eq_true rfl) ⟨Nat.le_of_ble_eq_true rfl, Nat.le_of_ble_eq_true rfl⟩ ⟨Nat.le_of_ble_eq_true rfl, Nat.le_of_ble_eq_true rfl⟩ dX10_write_6 (fun r5 L4 f3 H locs hp hH => ?_)
  obtain ⟨er5, rfl, rfl⟩ := hp
  subst er5
  refine lv_if_ne (tgt := 15) hx hb dX10_write_9 (by decide) (fun c6 => ?_) (fun c6 => ?_)
  · skip
    refine lv_aload_n hx hb dX10_write_15 rfl (lv_at hl 0 rfl) ?_
    refine g_get C hH my h2 iX10 rfl 1 (by decide) wd315 rfl rfl dX10_write_16 ?_
    refine lv_iload_n hx hb dX10_write_19 rfl (lv_at hl 1 rfl) ?_
    have h7 : f1 (ya 1) = .inl (E.2.2 1, 4, .inl wc) := ((congrFun ef1 (ya 1)).trans (va_up_ne _ _ (g_neAO f_w fy))).trans f_w
    refine g_iald C hH m_w h7 (gSlot_in c6) dX10_write_20 ?_
    refine lv_topi (fun z8 ez8 => ?_)
    obtain rfl : z8 = (-1 : Int32) := ez8.trans (hw _ (vp_lt (gSlot_in c6)))
    refine lv_iconst (v := (-1 : Int32)) hx hb dX10_write_21 (by decide) ?_
    refine lv_icmp_ne (tgt := 28) hx hb dX10_write_22 (by decide) (fun h => absurd (by decide) h) (fun _ => ?_)
    refine lv_bipush (v := (-6 : Int32)) hx hb dX10_write_25 (by decide) ?_
    refine g_iret C hr hH (Nat.le_of_ble_eq_true rfl) (Nat.le_of_ble_eq_true rfl) dX10_write_27 ?_
    exact (by rw [gWrite, if_neg c6])
  · skip
    refine lv_bipush (v := (-2 : Int32)) hx hb dX10_write_12 (by decide) ?_
    refine g_iret C hr hH (Nat.le_of_ble_eq_true rfl) (Nat.le_of_ble_eq_true rfl) dX10_write_14 ?_
    exact (by rw [gWrite, if_pos c6])
set_option maxHeartbeats 4000000 in
set_option maxRecDepth 100000 in
theorem m_paste (l : Launch) (E : gE) (L : List Nat) (f : gF) {y : Nat} {ya : Nat → Nat} (my : y ∈ L) (fy : f y = .inr (10, [.int (0 : Int32), .ref (ya 1), .ref (ya 2), .ref (ya 3), .ref (ya 4), .ref (ya 5), .int (0 : Int32), .int (0 : Int32), .int (0 : Int32), .int (0 : Int32), .int (0 : Int32), .long (0 : Int64), .int (0 : Int32), .int (0 : Int32), .int (0 : Int32), .int (-1 : Int32), .ref (ya 16), .ref (ya 17), .ref (ya 18), .ref (ya 19), .ref (ya 20), .ref (ya 21), .int (0 : Int32), .int (0 : Int32), .int (0 : Int32), .ref (ya 25), .ref (ya 26), .ref (ya 27), .ref (ya 28), .ref (ya 29), .ref (ya 30), .ref (ya 31), .ref (ya 32), .ref (ya 33), .ref (ya 34), .ref (ya 35), .int (0 : Int32), .int (0 : Int32), .ref (ya 38), .int (0 : Int32), .int (0 : Int32), .ref (ya 41), .ref (ya 42), .int (0 : Int32), .int (0 : Int32), .int (0 : Int32), .int (0 : Int32), .int (0 : Int32)])) {wc : Nat → Int32} (m_w : (ya 1) ∈ L) (f_w : f (ya 1) = .inl (E.2.2 1, 4, .inl wc)) (hw : ∀ k, k < 4 → wc k = -1) (p0 p1 p2 p3 p4 : Int32) : gMi l E yX10_paste cX10_paste 7 .int (gRm 3 0 0) [.ref y, .int p0, .int p1, .int p2, .int p3, .int p4] L f (fun r _ _ => r = gPaste p0 p2) := by
  refine gMi.intro (by decide) (Nat.le_of_ble_eq_true rfl) ?_
  intro p e s m below meth c A ls C hr hA hH hl
  have C : gC E cX10_paste 7 RX10 p s m _ meth c := C
  have hl : lv_has ls 7 [(0, .ref y), (1, .int p0), (2, .int p1), (3, .int p2), (4, .int p3), (5, .int p4)] := hl
  have hx := C.1
  have hb := C.2.1
  refine lv_aload_n hx hb dX10_paste_0 rfl (lv_at hl 0 rfl) ?_
  refine lv_iconst (v := (0 : Int32)) hx hb dX10_paste_1 (by decide) ?_
  refine g_put C hH my fy iX10 tyX10 tyX10_ok nmX10 rfl 0 (by decide) wd270 rfl rfl rfl rfl (Nat.le_of_ble_eq_true rfl) (fs' := [.int (0 : Int32), .ref (ya 1), .ref (ya 2), .ref (ya 3), .ref (ya 4), .ref (ya 5), .int (0 : Int32), .int (0 : Int32), .int (0 : Int32), .int (0 : Int32), .int (0 : Int32), .long (0 : Int64), .int (0 : Int32), .int (0 : Int32), .int (0 : Int32), .int (-1 : Int32), .ref (ya 16), .ref (ya 17), .ref (ya 18), .ref (ya 19), .ref (ya 20), .ref (ya 21), .int (0 : Int32), .int (0 : Int32), .int (0 : Int32), .ref (ya 25), .ref (ya 26), .ref (ya 27), .ref (ya 28), .ref (ya 29), .ref (ya 30), .ref (ya 31), .ref (ya 32), .ref (ya 33), .ref (ya 34), .ref (ya 35), .int (0 : Int32), .int (0 : Int32), .ref (ya 38), .int (0 : Int32), .int (0 : Int32), .ref (ya 41), .ref (ya 42), .int (0 : Int32), .int (0 : Int32), .int (0 : Int32), .int (0 : Int32), .int (0 : Int32)]) rfl dX10_paste_2 (fun H locs hH => ?_)
  obtain ⟨f1, ef1⟩ : ∃ z : gF, z = va_up f y (.inr (10, [.int (0 : Int32), .ref (ya 1), .ref (ya 2), .ref (ya 3), .ref (ya 4), .ref (ya 5), .int (0 : Int32), .int (0 : Int32), .int (0 : Int32), .int (0 : Int32), .int (0 : Int32), .long (0 : Int64), .int (0 : Int32), .int (0 : Int32), .int (0 : Int32), .int (-1 : Int32), .ref (ya 16), .ref (ya 17), .ref (ya 18), .ref (ya 19), .ref (ya 20), .ref (ya 21), .int (0 : Int32), .int (0 : Int32), .int (0 : Int32), .ref (ya 25), .ref (ya 26), .ref (ya 27), .ref (ya 28), .ref (ya 29), .ref (ya 30), .ref (ya 31), .ref (ya 32), .ref (ya 33), .ref (ya 34), .ref (ya 35), .int (0 : Int32), .int (0 : Int32), .ref (ya 38), .int (0 : Int32), .int (0 : Int32), .ref (ya 41), .ref (ya 42), .int (0 : Int32), .int (0 : Int32), .int (0 : Int32), .int (0 : Int32), .int (0 : Int32)])) := ⟨_, rfl⟩
  have hH : gH E A L f1 s.heap H locs := by rw [ef1]; exact hH
  have h2 : f1 y = .inr (10, [.int (0 : Int32), .ref (ya 1), .ref (ya 2), .ref (ya 3), .ref (ya 4), .ref (ya 5), .int (0 : Int32), .int (0 : Int32), .int (0 : Int32), .int (0 : Int32), .int (0 : Int32), .long (0 : Int64), .int (0 : Int32), .int (0 : Int32), .int (0 : Int32), .int (-1 : Int32), .ref (ya 16), .ref (ya 17), .ref (ya 18), .ref (ya 19), .ref (ya 20), .ref (ya 21), .int (0 : Int32), .int (0 : Int32), .int (0 : Int32), .ref (ya 25), .ref (ya 26), .ref (ya 27), .ref (ya 28), .ref (ya 29), .ref (ya 30), .ref (ya 31), .ref (ya 32), .ref (ya 33), .ref (ya 34), .ref (ya 35), .int (0 : Int32), .int (0 : Int32), .ref (ya 38), .int (0 : Int32), .int (0 : Int32), .ref (ya 41), .ref (ya 42), .int (0 : Int32), .int (0 : Int32), .int (0 : Int32), .int (0 : Int32), .int (0 : Int32)]) := (congrFun ef1 y).trans (va_up_self _ _ _)
  refine lv_iload_n hx hb dX10_paste_5 rfl (lv_at hl 1 rfl) ?_
  refine g_Si C hl.1 hA hH (As := [.int p0]) (rest := []) (m_isSlot l E L f1 p0) my_X10_isSlot wd269 rfl rfl (Nat.le_of_ble_eq_true rfl) ⟨Nat.le_of_ble_eq_true rfl, Nat.le_of_ble_eq_true rfl⟩ ⟨Nat.le_of_ble_eq_true rfl, Nat.le_of_ble_eq_true rfl⟩ dX10_paste_6 (fun r5 L4 f3 H locs hp hH => ?_)
  obtain ⟨er5, rfl, rfl⟩ := hp
  subst er5
  refine lv_if_eq (tgt := 19) hx hb dX10_paste_9 (by decide) (fun c6 => ?_) (fun c6 => ?_)
  · skip
    refine lv_bipush (v := (-2 : Int32)) hx hb dX10_paste_19 (by decide) ?_
    refine g_iret C hr hH (Nat.le_of_ble_eq_true rfl) (Nat.le_of_ble_eq_true rfl) dX10_paste_21 ?_
    exact (by rw [gPaste, if_pos c6])
  · skip
    refine lv_iload_n hx hb dX10_paste_12 rfl (lv_at hl 3 rfl) ?_
    refine g_Si C hl.1 hA hH (As := [.int p2]) (rest := []) (m_isSlot l E L f1 p2) my_X10_isSlot wd269 rfl rfl (Nat.le_of_ble_eq_true rfl) ⟨Nat.le_of_ble_eq_true rfl, Nat.le_of_ble_eq_true rfl⟩ ⟨Nat.le_of_ble_eq_true rfl, Nat.le_of_ble_eq_true rfl⟩ dX10_paste_13 (fun r9 L8 f7 H locs hp hH => ?_)
    obtain ⟨er9, rfl, rfl⟩ := hp
    subst er9
    refine lv_if_ne (tgt := 22) hx hb dX10_paste_16 (by decide) (fun c10 => ?_) (fun c10 => ?_)
    · skip
      refine lv_aload_n hx hb dX10_paste_22 rfl (lv_at hl 0 rfl) ?_
      refine g_get C hH my h2 iX10 rfl 1 (by decide) wd315 rfl rfl dX10_paste_23 ?_
      refine lv_iload_n hx hb dX10_paste_26 rfl (lv_at hl 1 rfl) ?_
      have h11 : f1 (ya 1) = .inl (E.2.2 1, 4, .inl wc) := ((congrFun ef1 (ya 1)).trans (va_up_ne _ _ (g_neAO f_w fy))).trans f_w
      refine g_iald C hH m_w h11 (gSlot_in c6) dX10_paste_27 ?_
      refine lv_topi (fun z12 ez12 => ?_)
      obtain rfl : z12 = (-1 : Int32) := ez12.trans (hw _ (vp_lt (gSlot_in c6)))
      refine lv_iconst (v := (-1 : Int32)) hx hb dX10_paste_28 (by decide) ?_
      refine lv_icmp_eq (tgt := 42) hx hb dX10_paste_29 (by decide) (fun _ => ?_) (fun h => absurd (by decide) h)
      refine lv_bipush (v := (-6 : Int32)) hx hb dX10_paste_42 (by decide) ?_
      refine g_iret C hr hH (Nat.le_of_ble_eq_true rfl) (Nat.le_of_ble_eq_true rfl) dX10_paste_44 ?_
      exact (by rw [gPaste, if_neg c6, if_neg c10])
    · skip
      refine lv_bipush (v := (-2 : Int32)) hx hb dX10_paste_19 (by decide) ?_
      refine g_iret C hr hH (Nat.le_of_ble_eq_true rfl) (Nat.le_of_ble_eq_true rfl) dX10_paste_21 ?_
      exact (by rw [gPaste, if_neg c6, if_pos c10])
set_option maxHeartbeats 4000000 in
set_option maxRecDepth 100000 in
theorem m_back (l : Launch) (E : gE) (L : List Nat) (f : gF) {y : Nat} {ya : Nat → Nat} (my : y ∈ L) (fy : f y = .inr (10, [.int (0 : Int32), .ref (ya 1), .ref (ya 2), .ref (ya 3), .ref (ya 4), .ref (ya 5), .int (0 : Int32), .int (0 : Int32), .int (0 : Int32), .int (0 : Int32), .int (0 : Int32), .long (0 : Int64), .int (0 : Int32), .int (0 : Int32), .int (0 : Int32), .int (-1 : Int32), .ref (ya 16), .ref (ya 17), .ref (ya 18), .ref (ya 19), .ref (ya 20), .ref (ya 21), .int (0 : Int32), .int (0 : Int32), .int (0 : Int32), .ref (ya 25), .ref (ya 26), .ref (ya 27), .ref (ya 28), .ref (ya 29), .ref (ya 30), .ref (ya 31), .ref (ya 32), .ref (ya 33), .ref (ya 34), .ref (ya 35), .int (0 : Int32), .int (0 : Int32), .ref (ya 38), .int (0 : Int32), .int (0 : Int32), .ref (ya 41), .ref (ya 42), .int (0 : Int32), .int (0 : Int32), .int (0 : Int32), .int (0 : Int32), .int (0 : Int32)])) (m_z : (ya 21) ∈ L) (f_z : f (ya 21) = .inl (E.2.2 3, 3, .inl (fun _ => 0))) (p0 : Int32) : gMi l E yX10_back cX10_back 2 .int (gRm 3 0 0) [.ref y, .int p0] L f (fun r _ _ => r = gBack p0) := by
  refine gMi.intro (by decide) (Nat.le_of_ble_eq_true rfl) ?_
  intro p e s m below meth c A ls C hr hA hH hl
  have C : gC E cX10_back 2 RX10 p s m _ meth c := C
  have hl : lv_has ls 2 [(0, .ref y), (1, .int p0)] := hl
  have hx := C.1
  have hb := C.2.1
  refine lv_aload_n hx hb dX10_back_0 rfl (lv_at hl 0 rfl) ?_
  refine lv_iconst (v := (0 : Int32)) hx hb dX10_back_1 (by decide) ?_
  refine g_put C hH my fy iX10 tyX10 tyX10_ok nmX10 rfl 0 (by decide) wd270 rfl rfl rfl rfl (Nat.le_of_ble_eq_true rfl) (fs' := [.int (0 : Int32), .ref (ya 1), .ref (ya 2), .ref (ya 3), .ref (ya 4), .ref (ya 5), .int (0 : Int32), .int (0 : Int32), .int (0 : Int32), .int (0 : Int32), .int (0 : Int32), .long (0 : Int64), .int (0 : Int32), .int (0 : Int32), .int (0 : Int32), .int (-1 : Int32), .ref (ya 16), .ref (ya 17), .ref (ya 18), .ref (ya 19), .ref (ya 20), .ref (ya 21), .int (0 : Int32), .int (0 : Int32), .int (0 : Int32), .ref (ya 25), .ref (ya 26), .ref (ya 27), .ref (ya 28), .ref (ya 29), .ref (ya 30), .ref (ya 31), .ref (ya 32), .ref (ya 33), .ref (ya 34), .ref (ya 35), .int (0 : Int32), .int (0 : Int32), .ref (ya 38), .int (0 : Int32), .int (0 : Int32), .ref (ya 41), .ref (ya 42), .int (0 : Int32), .int (0 : Int32), .int (0 : Int32), .int (0 : Int32), .int (0 : Int32)]) rfl dX10_back_2 (fun H locs hH => ?_)
  obtain ⟨f1, ef1⟩ : ∃ z : gF, z = va_up f y (.inr (10, [.int (0 : Int32), .ref (ya 1), .ref (ya 2), .ref (ya 3), .ref (ya 4), .ref (ya 5), .int (0 : Int32), .int (0 : Int32), .int (0 : Int32), .int (0 : Int32), .int (0 : Int32), .long (0 : Int64), .int (0 : Int32), .int (0 : Int32), .int (0 : Int32), .int (-1 : Int32), .ref (ya 16), .ref (ya 17), .ref (ya 18), .ref (ya 19), .ref (ya 20), .ref (ya 21), .int (0 : Int32), .int (0 : Int32), .int (0 : Int32), .ref (ya 25), .ref (ya 26), .ref (ya 27), .ref (ya 28), .ref (ya 29), .ref (ya 30), .ref (ya 31), .ref (ya 32), .ref (ya 33), .ref (ya 34), .ref (ya 35), .int (0 : Int32), .int (0 : Int32), .ref (ya 38), .int (0 : Int32), .int (0 : Int32), .ref (ya 41), .ref (ya 42), .int (0 : Int32), .int (0 : Int32), .int (0 : Int32), .int (0 : Int32), .int (0 : Int32)])) := ⟨_, rfl⟩
  have hH : gH E A L f1 s.heap H locs := by rw [ef1]; exact hH
  have h2 : f1 y = .inr (10, [.int (0 : Int32), .ref (ya 1), .ref (ya 2), .ref (ya 3), .ref (ya 4), .ref (ya 5), .int (0 : Int32), .int (0 : Int32), .int (0 : Int32), .int (0 : Int32), .int (0 : Int32), .long (0 : Int64), .int (0 : Int32), .int (0 : Int32), .int (0 : Int32), .int (-1 : Int32), .ref (ya 16), .ref (ya 17), .ref (ya 18), .ref (ya 19), .ref (ya 20), .ref (ya 21), .int (0 : Int32), .int (0 : Int32), .int (0 : Int32), .ref (ya 25), .ref (ya 26), .ref (ya 27), .ref (ya 28), .ref (ya 29), .ref (ya 30), .ref (ya 31), .ref (ya 32), .ref (ya 33), .ref (ya 34), .ref (ya 35), .int (0 : Int32), .int (0 : Int32), .ref (ya 38), .int (0 : Int32), .int (0 : Int32), .ref (ya 41), .ref (ya 42), .int (0 : Int32), .int (0 : Int32), .int (0 : Int32), .int (0 : Int32), .int (0 : Int32)]) := (congrFun ef1 y).trans (va_up_self _ _ _)
  refine lv_iload_n hx hb dX10_back_5 rfl (lv_at hl 1 rfl) ?_
  refine lv_i2l (v := (p0).toInt64) hx hb dX10_back_6 rfl ?_
  refine lv_lconst (v := (0 : Int64)) hx hb dX10_back_7 (by decide) ?_
  refine lv_ldc2 hx hb C.2.2.2.1 (C.2.2.2.2.1 _ wd316) dX10_back_8 ?_
  refine g_Si C hl.1 hA hH (As := [.long (p0).toInt64, .long (0 : Int64), .long (2 : Int64)]) (rest := []) (m_in l E L f1 (p0).toInt64 (0 : Int64) (2 : Int64)) my_X10_in wd242 rfl rfl (Nat.le_of_ble_eq_true rfl) ⟨Nat.le_of_ble_eq_true rfl, Nat.le_of_ble_eq_true rfl⟩ ⟨Nat.le_of_ble_eq_true rfl, Nat.le_of_ble_eq_true rfl⟩ dX10_back_11 (fun r5 L4 f3 H locs hp hH => ?_)
  obtain ⟨er5, rfl, rfl⟩ := hp
  subst er5
  refine lv_if_ne (tgt := 20) hx hb dX10_back_14 (by decide) (fun c6 => ?_) (fun c6 => ?_)
  · skip
    refine lv_aload_n hx hb dX10_back_20 rfl (lv_at hl 0 rfl) ?_
    refine g_get C hH my h2 iX10 rfl 21 (by decide) wd317 rfl rfl dX10_back_21 ?_
    refine lv_iload_n hx hb dX10_back_24 rfl (lv_at hl 1 rfl) ?_
    have h7 : f1 (ya 21) = .inl (E.2.2 3, 3, .inl (fun _ => 0)) := ((congrFun ef1 (ya 21)).trans (va_up_ne _ _ (g_neAO f_z fy))).trans f_z
    refine g_zald C hH m_z h7 (gIn_in2 c6) dX10_back_25 ?_
    refine lv_if_ne (tgt := 32) hx hb dX10_back_26 (by decide) (fun h => absurd (by decide) h) (fun _ => ?_)
    refine lv_bipush (v := (-6 : Int32)) hx hb dX10_back_29 (by decide) ?_
    refine g_iret C hr hH (Nat.le_of_ble_eq_true rfl) (Nat.le_of_ble_eq_true rfl) dX10_back_31 ?_
    exact gIn_back1 c6
  · skip
    refine lv_bipush (v := (-2 : Int32)) hx hb dX10_back_17 (by decide) ?_
    refine g_iret C hr hH (Nat.le_of_ble_eq_true rfl) (Nat.le_of_ble_eq_true rfl) dX10_back_19 ?_
    exact gIn_back0 c6
set_option maxHeartbeats 4000000 in
set_option maxRecDepth 100000 in
theorem m_rowLoop {l : Launch} {E : gE} {p : Program} {e : Env} {R : Room} {s : State} {m : MethodId} {args : Array Value} {below : List Frame} {meth : Method} {c : Code} {A : Nat → Prop} {L : List Nat} {y ce : Nat} {fs : List Value} {post : Int32 → List Nat → gF → Prop} {mc ms : Nat} (C : gC E cX10_row 5 RX10 p s m args meth c) (hr : meth.sig.returnType = some .int) (my : y ∈ L) (hfs : fs[3]? = some (.ref ce)) (mce : ce ∈ L) {j n : Nat} (hj : j < 4) (hn : n ≤ 60) {w2 : Int32} (hpost : ∀ L1 f1, post 0 L1 f1) : ∀ (k i : Nat) (x : Int32) (f1 : gF) (v1 : Nat → Int64) (H : Heap) (locs : List Loc) (ls : Array Slot), i + k = n → x = nI i → f1 y = .inr (10, fs) → f1 ce = .inl (E.2.2 2, 240, .inr (.inl v1)) → gH E A L f1 s.heap H locs → lv_has ls 5 [(4, .int x), (0, .ref y), (1, .int (nI j)), (2, .int w2), (3, .int (nI n))] → W p l e R s m args below meth c H locs 0 0 (MQ below (gQi E A post) args s mc ms A) (F0 m 57 ls []) := by
  have hx := C.1
  have hb := C.2.1
  intro k
  induction k with
  | zero =>
    intro i x f1 v1 H locs ls hik ex h1 h2 hH hl
    obtain rfl : i = n := by omega
    refine lv_iload hx hb dX10_row_57 (lv_at hl 0 rfl) ?_
    refine lv_iload_n hx hb dX10_row_59 rfl (lv_at hl 4 rfl) ?_
    refine lv_icmp_ge (tgt := 82) hx hb dX10_row_60 (by decide) (fun _ => ?_) (fun h => absurd (by rw [ex]; exact Int32.le_refl _) h)
    refine lv_iconst (v := (0 : Int32)) hx hb dX10_row_82 (by decide) ?_
    exact g_iret C hr hH (Nat.zero_le _) (Nat.zero_le _) dX10_row_83 (hpost _ _)
  | succ k ih =>
    intro i x f1 v1 H locs ls hik ex h1 h2 hH hl
    refine lv_iload hx hb dX10_row_57 (lv_at hl 0 rfl) ?_
    refine lv_iload_n hx hb dX10_row_59 rfl (lv_at hl 4 rfl) ?_
    refine lv_icmp_ge (tgt := 82) hx hb dX10_row_60 (by decide) (fun h => absurd h (by rw [ex]; exact nI_ge (by omega) (by omega))) (fun _ => ?_)
    refine lv_aload_n hx hb dX10_row_63 rfl (lv_at hl 1 rfl) ?_
    refine g_get C hH my h1 iX10 rfl 3 (by decide) wd318 rfl hfs dX10_row_64 ?_
    refine lv_bipush (v := (60 : Int32)) hx hb dX10_row_67 (by decide) ?_
    refine lv_iload_n hx hb dX10_row_69 rfl (lv_at hl 2 rfl) ?_
    refine lv_imul hx hb dX10_row_70 ?_
    refine lv_iload hx hb dX10_row_71 (lv_at hl 0 rfl) ?_
    refine lv_iadd hx hb dX10_row_73 ?_
    refine lv_topi (fun z ez => ?_)
    have ez2 : z = nI (60 * j + i) := by rw [ez, ex, show (60 : Int32) = nI 60 from rfl, pk_mul, nI_add]
    refine lv_lconst (v := (0 : Int64)) hx hb dX10_row_74 (by decide) ?_
    refine g_last C hH mce h2 (by rw [ez2]; exact vp_in_nI (by omega) (by omega)) dX10_row_75 (fun H locs hH => ?_)
    obtain ⟨x2, ex2⟩ : ∃ q : Int32, q = x + 1 := ⟨_, rfl⟩
    refine lv_iinc (v := x2) (lv' := [(4, .int x2), (0, .ref y), (1, .int (nI j)), (2, .int w2), (3, .int (nI n))]) hx hb dX10_row_76 hl (k := 0) rfl (by rw [ex2]; rfl) (by decide) rfl (fun ls hl => ?_)
    refine lv_goto (tgt := 57) hx hb dX10_row_79 (by decide) ?_
    exact ih (i + 1) x2 _ _ _ _ ls (by omega) (by rw [ex2, ex]; exact nI_1 i) ((va_up_ne _ _ (g_neOA h1 h2)).trans h1) (va_up_self _ _ _) hH hl
set_option maxHeartbeats 4000000 in
set_option maxRecDepth 100000 in
theorem m_row (l : Launch) (E : gE) (L : List Nat) (f : gF) {y : Nat} {ya : Nat → Nat} (my : y ∈ L) (fy : f y = .inr (10, [.int (0 : Int32), .ref (ya 1), .ref (ya 2), .ref (ya 3), .ref (ya 4), .ref (ya 5), .int (0 : Int32), .int (0 : Int32), .int (0 : Int32), .int (0 : Int32), .int (0 : Int32), .long (0 : Int64), .int (0 : Int32), .int (0 : Int32), .int (0 : Int32), .int (-1 : Int32), .ref (ya 16), .ref (ya 17), .ref (ya 18), .ref (ya 19), .ref (ya 20), .ref (ya 21), .int (0 : Int32), .int (0 : Int32), .int (0 : Int32), .ref (ya 25), .ref (ya 26), .ref (ya 27), .ref (ya 28), .ref (ya 29), .ref (ya 30), .ref (ya 31), .ref (ya 32), .ref (ya 33), .ref (ya 34), .ref (ya 35), .int (0 : Int32), .int (0 : Int32), .ref (ya 38), .int (0 : Int32), .int (0 : Int32), .ref (ya 41), .ref (ya 42), .int (0 : Int32), .int (0 : Int32), .int (0 : Int32), .int (0 : Int32), .int (0 : Int32)])) {wc : Nat → Int32} (m_w : (ya 1) ∈ L) (f_w : f (ya 1) = .inl (E.2.2 1, 4, .inl wc)) (m_m : (ya 2) ∈ L) (f_m : f (ya 2) = .inl (E.2.2 1, 4, .inl (fun _ => 0))) (m_c : (ya 3) ∈ L) (f_c : f (ya 3) = .inl (E.2.2 2, 240, .inr (.inl (fun _ => 0)))) (p0 p1 p2 : Int32) : gMi l E yX10_row cX10_row 5 .int (gRm 3 0 0) [.ref y, .int p0, .int p1, .int p2] L f (fun r _ _ => r = gRow p0 p1 p2) := by
  refine gMi.intro (by decide) (Nat.le_of_ble_eq_true rfl) ?_
  intro p e s m below meth c A ls C hr hA hH hl
  have C : gC E cX10_row 5 RX10 p s m _ meth c := C
  have hl : lv_has ls 5 [(0, .ref y), (1, .int p0), (2, .int p1), (3, .int p2)] := hl
  have hx := C.1
  have hb := C.2.1
  refine lv_aload_n hx hb dX10_row_0 rfl (lv_at hl 0 rfl) ?_
  refine lv_iconst (v := (0 : Int32)) hx hb dX10_row_1 (by decide) ?_
  refine g_put C hH my fy iX10 tyX10 tyX10_ok nmX10 rfl 0 (by decide) wd270 rfl rfl rfl rfl (Nat.le_of_ble_eq_true rfl) (fs' := [.int (0 : Int32), .ref (ya 1), .ref (ya 2), .ref (ya 3), .ref (ya 4), .ref (ya 5), .int (0 : Int32), .int (0 : Int32), .int (0 : Int32), .int (0 : Int32), .int (0 : Int32), .long (0 : Int64), .int (0 : Int32), .int (0 : Int32), .int (0 : Int32), .int (-1 : Int32), .ref (ya 16), .ref (ya 17), .ref (ya 18), .ref (ya 19), .ref (ya 20), .ref (ya 21), .int (0 : Int32), .int (0 : Int32), .int (0 : Int32), .ref (ya 25), .ref (ya 26), .ref (ya 27), .ref (ya 28), .ref (ya 29), .ref (ya 30), .ref (ya 31), .ref (ya 32), .ref (ya 33), .ref (ya 34), .ref (ya 35), .int (0 : Int32), .int (0 : Int32), .ref (ya 38), .int (0 : Int32), .int (0 : Int32), .ref (ya 41), .ref (ya 42), .int (0 : Int32), .int (0 : Int32), .int (0 : Int32), .int (0 : Int32), .int (0 : Int32)]) rfl dX10_row_2 (fun H locs hH => ?_)
  obtain ⟨f1, ef1⟩ : ∃ z : gF, z = va_up f y (.inr (10, [.int (0 : Int32), .ref (ya 1), .ref (ya 2), .ref (ya 3), .ref (ya 4), .ref (ya 5), .int (0 : Int32), .int (0 : Int32), .int (0 : Int32), .int (0 : Int32), .int (0 : Int32), .long (0 : Int64), .int (0 : Int32), .int (0 : Int32), .int (0 : Int32), .int (-1 : Int32), .ref (ya 16), .ref (ya 17), .ref (ya 18), .ref (ya 19), .ref (ya 20), .ref (ya 21), .int (0 : Int32), .int (0 : Int32), .int (0 : Int32), .ref (ya 25), .ref (ya 26), .ref (ya 27), .ref (ya 28), .ref (ya 29), .ref (ya 30), .ref (ya 31), .ref (ya 32), .ref (ya 33), .ref (ya 34), .ref (ya 35), .int (0 : Int32), .int (0 : Int32), .ref (ya 38), .int (0 : Int32), .int (0 : Int32), .ref (ya 41), .ref (ya 42), .int (0 : Int32), .int (0 : Int32), .int (0 : Int32), .int (0 : Int32), .int (0 : Int32)])) := ⟨_, rfl⟩
  have hH : gH E A L f1 s.heap H locs := by rw [ef1]; exact hH
  have h2 : f1 y = .inr (10, [.int (0 : Int32), .ref (ya 1), .ref (ya 2), .ref (ya 3), .ref (ya 4), .ref (ya 5), .int (0 : Int32), .int (0 : Int32), .int (0 : Int32), .int (0 : Int32), .int (0 : Int32), .long (0 : Int64), .int (0 : Int32), .int (0 : Int32), .int (0 : Int32), .int (-1 : Int32), .ref (ya 16), .ref (ya 17), .ref (ya 18), .ref (ya 19), .ref (ya 20), .ref (ya 21), .int (0 : Int32), .int (0 : Int32), .int (0 : Int32), .ref (ya 25), .ref (ya 26), .ref (ya 27), .ref (ya 28), .ref (ya 29), .ref (ya 30), .ref (ya 31), .ref (ya 32), .ref (ya 33), .ref (ya 34), .ref (ya 35), .int (0 : Int32), .int (0 : Int32), .ref (ya 38), .int (0 : Int32), .int (0 : Int32), .ref (ya 41), .ref (ya 42), .int (0 : Int32), .int (0 : Int32), .int (0 : Int32), .int (0 : Int32), .int (0 : Int32)]) := (congrFun ef1 y).trans (va_up_self _ _ _)
  refine lv_iload_n hx hb dX10_row_5 rfl (lv_at hl 1 rfl) ?_
  refine g_Si C hl.1 hA hH (As := [.int p0]) (rest := []) (m_isSlot l E L f1 p0) my_X10_isSlot wd269 rfl rfl (Nat.le_of_ble_eq_true rfl) ⟨Nat.le_of_ble_eq_true rfl, Nat.le_of_ble_eq_true rfl⟩ ⟨Nat.le_of_ble_eq_true rfl, Nat.le_of_ble_eq_true rfl⟩ dX10_row_6 (fun r5 L4 f3 H locs hp hH => ?_)
  obtain ⟨er5, rfl, rfl⟩ := hp
  subst er5
  refine lv_if_eq (tgt := 30) hx hb dX10_row_9 (by decide) (fun c6 => ?_) (fun c6 => ?_)
  · skip
    refine lv_bipush (v := (-2 : Int32)) hx hb dX10_row_30 (by decide) ?_
    refine g_iret C hr hH (Nat.le_of_ble_eq_true rfl) (Nat.le_of_ble_eq_true rfl) dX10_row_32 ?_
    exact (by rw [gRow, if_pos c6])
  · skip
    refine lv_iload_n hx hb dX10_row_12 rfl (lv_at hl 2 rfl) ?_
    refine lv_i2l (v := (p1).toInt64) hx hb dX10_row_13 rfl ?_
    refine lv_lconst (v := (0 : Int64)) hx hb dX10_row_14 (by decide) ?_
    refine lv_ldc2 hx hb C.2.2.2.1 (C.2.2.2.2.1 _ wd238) dX10_row_15 ?_
    refine g_Si C hl.1 hA hH (As := [.long (p1).toInt64, .long (0 : Int64), .long (3 : Int64)]) (rest := []) (m_in l E L f1 (p1).toInt64 (0 : Int64) (3 : Int64)) my_X10_in wd242 rfl rfl (Nat.le_of_ble_eq_true rfl) ⟨Nat.le_of_ble_eq_true rfl, Nat.le_of_ble_eq_true rfl⟩ ⟨Nat.le_of_ble_eq_true rfl, Nat.le_of_ble_eq_true rfl⟩ dX10_row_18 (fun r9 L8 f7 H locs hp hH => ?_)
    obtain ⟨er9, rfl, rfl⟩ := hp
    subst er9
    refine lv_if_eq (tgt := 30) hx hb dX10_row_21 (by decide) (fun c10 => ?_) (fun c10 => ?_)
    · skip
      refine lv_bipush (v := (-2 : Int32)) hx hb dX10_row_30 (by decide) ?_
      refine g_iret C hr hH (Nat.le_of_ble_eq_true rfl) (Nat.le_of_ble_eq_true rfl) dX10_row_32 ?_
      exact (by rw [gRow, if_neg c6, gRow_w0 c10])
    · skip
      refine lv_iload_n hx hb dX10_row_24 rfl (lv_at hl 3 rfl) ?_
      refine lv_bipush (v := (60 : Int32)) hx hb dX10_row_25 (by decide) ?_
      refine lv_icmp_le (tgt := 33) hx hb dX10_row_27 (by decide) (fun c11 => ?_) (fun c11 => ?_)
      · skip
        refine lv_iload_n hx hb dX10_row_33 rfl (lv_at hl 3 rfl) ?_
        refine lv_if_ge (tgt := 40) hx hb dX10_row_34 (by decide) (fun c12 => ?_) (fun c12 => ?_)
        · skip
          refine lv_aload_n hx hb dX10_row_40 rfl (lv_at hl 0 rfl) ?_
          refine g_get C hH my h2 iX10 rfl 1 (by decide) wd315 rfl rfl dX10_row_41 ?_
          refine lv_iload_n hx hb dX10_row_44 rfl (lv_at hl 1 rfl) ?_
          refine lv_iload_n hx hb dX10_row_45 rfl (lv_at hl 2 rfl) ?_
          have h13 : f1 (ya 1) = .inl (E.2.2 1, 4, .inl wc) := ((congrFun ef1 (ya 1)).trans (va_up_ne _ _ (g_neAO f_w fy))).trans f_w
          refine g_iast C hH m_w h13 (gSlot_in c6) dX10_row_46 (fun H locs hH => ?_)
          obtain ⟨f14, ef14⟩ : ∃ z : gF, z = va_up f1 (ya 1) (.inl (E.2.2 1, 4, .inl (upd wc (p0).toNatClampNeg p1))) := ⟨_, rfl⟩
          have hH : gH E A L f14 s.heap H locs := by rw [ef14]; exact hH
          have h15 : f14 (ya 1) = .inl (E.2.2 1, 4, .inl (upd wc (p0).toNatClampNeg p1)) := (congrFun ef14 (ya 1)).trans (va_up_self _ _ _)
          refine lv_aload_n hx hb dX10_row_47 rfl (lv_at hl 0 rfl) ?_
          have h16 : f14 y = .inr (10, [.int (0 : Int32), .ref (ya 1), .ref (ya 2), .ref (ya 3), .ref (ya 4), .ref (ya 5), .int (0 : Int32), .int (0 : Int32), .int (0 : Int32), .int (0 : Int32), .int (0 : Int32), .long (0 : Int64), .int (0 : Int32), .int (0 : Int32), .int (0 : Int32), .int (-1 : Int32), .ref (ya 16), .ref (ya 17), .ref (ya 18), .ref (ya 19), .ref (ya 20), .ref (ya 21), .int (0 : Int32), .int (0 : Int32), .int (0 : Int32), .ref (ya 25), .ref (ya 26), .ref (ya 27), .ref (ya 28), .ref (ya 29), .ref (ya 30), .ref (ya 31), .ref (ya 32), .ref (ya 33), .ref (ya 34), .ref (ya 35), .int (0 : Int32), .int (0 : Int32), .ref (ya 38), .int (0 : Int32), .int (0 : Int32), .ref (ya 41), .ref (ya 42), .int (0 : Int32), .int (0 : Int32), .int (0 : Int32), .int (0 : Int32), .int (0 : Int32)]) := ((congrFun ef14 y).trans (va_up_ne _ _ (g_neOA h2 h13))).trans h2
          refine g_get C hH my h16 iX10 rfl 2 (by decide) wd319 rfl rfl dX10_row_48 ?_
          refine lv_iload_n hx hb dX10_row_51 rfl (lv_at hl 1 rfl) ?_
          refine lv_iload_n hx hb dX10_row_52 rfl (lv_at hl 3 rfl) ?_
          have h17 : f1 (ya 2) = .inl (E.2.2 1, 4, .inl (fun _ => 0)) := ((congrFun ef1 (ya 2)).trans (va_up_ne _ _ (g_neAO f_m fy))).trans f_m
          obtain ⟨v18, h19⟩ := g_arrUpI ef14 h17 h13
          refine g_iast C hH m_m h19 (gSlot_in c6) dX10_row_53 (fun H locs hH => ?_)
          obtain ⟨f20, ef20⟩ : ∃ z : gF, z = va_up f14 (ya 2) (.inl (E.2.2 1, 4, .inl (upd v18 (p0).toNatClampNeg p2))) := ⟨_, rfl⟩
          have hH : gH E A L f20 s.heap H locs := by rw [ef20]; exact hH
          have h21 : f20 (ya 2) = .inl (E.2.2 1, 4, .inl (upd v18 (p0).toNatClampNeg p2)) := (congrFun ef20 (ya 2)).trans (va_up_self _ _ _)
          refine lv_iconst (v := (0 : Int32)) hx hb dX10_row_54 (by decide) ?_
          refine lv_istore (lv' := [(4, .int (0 : Int32)), (0, .ref y), (1, .int p0), (2, .int p1), (3, .int p2)]) hx hb dX10_row_55 hl (by decide) rfl (fun ls hl => ?_)
          have h22 : f20 y = .inr (10, [.int (0 : Int32), .ref (ya 1), .ref (ya 2), .ref (ya 3), .ref (ya 4), .ref (ya 5), .int (0 : Int32), .int (0 : Int32), .int (0 : Int32), .int (0 : Int32), .int (0 : Int32), .long (0 : Int64), .int (0 : Int32), .int (0 : Int32), .int (0 : Int32), .int (-1 : Int32), .ref (ya 16), .ref (ya 17), .ref (ya 18), .ref (ya 19), .ref (ya 20), .ref (ya 21), .int (0 : Int32), .int (0 : Int32), .int (0 : Int32), .ref (ya 25), .ref (ya 26), .ref (ya 27), .ref (ya 28), .ref (ya 29), .ref (ya 30), .ref (ya 31), .ref (ya 32), .ref (ya 33), .ref (ya 34), .ref (ya 35), .int (0 : Int32), .int (0 : Int32), .ref (ya 38), .int (0 : Int32), .int (0 : Int32), .ref (ya 41), .ref (ya 42), .int (0 : Int32), .int (0 : Int32), .int (0 : Int32), .int (0 : Int32), .int (0 : Int32)]) := ((congrFun ef20 y).trans (va_up_ne _ _ (g_neOA h16 h19))).trans h16
          have h23 : f1 (ya 3) = .inl (E.2.2 2, 240, .inr (.inl (fun _ => 0))) := ((congrFun ef1 (ya 3)).trans (va_up_ne _ _ (g_neAO f_c fy))).trans f_c
          have h24 : f14 (ya 3) = .inl (E.2.2 2, 240, .inr (.inl (fun _ => 0))) := ((congrFun ef14 (ya 3)).trans (va_up_ne _ _ (g_nePr h23 h13))).trans h23
          have h25 : f20 (ya 3) = .inl (E.2.2 2, 240, .inr (.inl (fun _ => 0))) := ((congrFun ef20 (ya 3)).trans (va_up_ne _ _ (g_nePr h24 h19))).trans h24
          have hz : (0 : Int32) = gRow p0 p1 p2 := by rw [gRow, if_neg c6, gRow_w c10, if_pos c11, if_pos c12]
          obtain ⟨j, hj, ej⟩ := vp_in_of (gSlot_in c6) (by decide)
          obtain ⟨n, hn, en⟩ := g_n60 c12 c11
          rw [ej, en] at hl
          exact m_rowLoop C hr my rfl m_c hj hn (fun _ _ => hz) n 0 0 f20 _ H locs ls (by omega) nI_0.symm h22 h25 hH hl
        · skip
          refine lv_bipush (v := (-3 : Int32)) hx hb dX10_row_37 (by decide) ?_
          refine g_iret C hr hH (Nat.le_of_ble_eq_true rfl) (Nat.le_of_ble_eq_true rfl) dX10_row_39 ?_
          exact (by rw [gRow, if_neg c6, gRow_w c10, if_pos c11, if_neg c12])
      · skip
        refine lv_bipush (v := (-2 : Int32)) hx hb dX10_row_30 (by decide) ?_
        refine g_iret C hr hH (Nat.le_of_ble_eq_true rfl) (Nat.le_of_ble_eq_true rfl) dX10_row_32 ?_
        exact (by rw [gRow, if_neg c6, gRow_w c10, if_neg c11])
