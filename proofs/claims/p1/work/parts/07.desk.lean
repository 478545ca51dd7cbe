def gEnd (z : Int32) : Int32 := if z < 0 then -1 else if z ≤ 0 then z else -1
def gFault (z : Int32) : Int32 := if z = 0 then 0 else -1
def gCount (z : Int32) : Int32 := if z.toInt < 0 ∨ 11 < z.toInt then -1 else 0
def gWrite (z : Int32) : Int32 := if gSlot z = 0 then -2 else -6
def gPaste (z t : Int32) : Int32 := if gSlot z = 0 then -2 else if gSlot t = 0 then -2 else -6
def gRow (z w n : Int32) : Int32 := if gSlot z = 0 then -2 else if w < 0 then -2 else if 4 ≤ w then -2 else if n ≤ 60 then (if 0 ≤ n then 0 else -3) else -2
def gImage (k : Int32) : Int32 := if k < 0 then -2 else if k < 3 then 0 else -2
def gBack (k : Int32) : Int32 := if k < 0 then -2 else if k < 3 then -6 else -2
def gRows (E : gE) (L : List Nat) (f : gF) (wv : Nat → Option Nat) : Prop := ∀ k, k < 4 → ∃ (q nu : Nat) (u : Nat → Int64), wv k = some q ∧ q ∈ L ∧ f q = .inr (6, [.ref nu, .int (-1), .int 0]) ∧ nu ∈ L ∧ f nu = .inl (E.2.2 2, 60, .inr (.inl u))
theorem vp_lt {i : Int32} {n : Nat} (h : vp_in i n) : i.toNatClampNeg < n := Nat.not_le.mp fun q => h (Or.inr q)
theorem gSlot_in {z : Int32} (h : ¬ gSlot z = 0) : vp_in z 4 := by
  unfold gSlot at h
  split at h
  · exact absurd rfl h
  · split at h
    · exact absurd rfl h
    · next h1 h2 => exact vp_inL (by rw [fa_lt] at h1; rw [fa_le] at h2; have e0 : (0 : Int32).toInt = 0 := by decide
                                     have e4 : (4 : Int32).toInt = 4 := by decide
                                     omega)
set_option maxHeartbeats 4000000 in
set_option maxRecDepth 100000 in
theorem k_append0 (l : Launch) (E : gE) (L : List Nat) (f : gF) {xt xb : Nat} {v : Nat → Int32} (mt : xt ∈ L) (ft : f xt = .inr (8, [.ref xb, .int (0 : Int32)])) (mb : xb ∈ L) (fb : f xb = .inl (E.2.2 0, 800, .inl v)) (p0 : Int32) : gMv l E yX8_append cX8_append 3 (gRm 1 0 0) [.ref xt, .int p0] L f (fun L1 f1 => L = L1 ∧ f1 xt = .inr (8, [.ref xb, .int (4 : Int32)]) ∧ (∃ z, f1 xb = .inl (E.2.2 0, 800, .inl z)) ∧ ∀ b, b ≠ xt → b ≠ xb → f1 b = f b) := by
  refine gMv.intro (by decide) (Nat.le_of_ble_eq_true rfl) ?_
  intro p e s m below meth c A ls C hr hnm hA hH hl
  have C : gC E cX8_append 3 RX8 p s m _ meth c := C
  have hl : lv_has ls 3 [(0, .ref xt), (1, .int p0)] := hl
  have hx := C.1
  have hb := C.2.1
  refine lv_bipush (v := (24 : Int32)) hx hb dX8_append_0 (by decide) ?_
  refine lv_istore_n (lv' := [(2, .int (24 : Int32)), (0, .ref xt), (1, .int p0)]) hx hb dX8_append_2 rfl hl (by decide) rfl (fun ls hl => ?_)
  refine lv_iload_n hx hb dX8_append_3 rfl (lv_at hl 0 rfl) ?_
  refine lv_if_lt (tgt := 46) hx hb dX8_append_4 (by decide) (fun h => absurd h (by decide)) (fun _ => ?_)
  refine lv_aload_n hx hb dX8_append_7 rfl (lv_at hl 1 rfl) ?_
  refine g_get C hH mt ft iX8 rfl 1 (by decide) wd52 rfl rfl dX8_append_8 ?_
  refine lv_sipush (v := (800 : Int32)) hx hb dX8_append_11 (by decide) ?_
  refine lv_icmp_ge (tgt := 46) hx hb dX8_append_14 (by decide) (fun h => absurd h (by decide)) (fun _ => ?_)
  refine lv_aload_n hx hb dX8_append_17 rfl (lv_at hl 1 rfl) ?_
  refine g_get C hH mt ft iX8 rfl 0 (by decide) wd53 rfl rfl dX8_append_18 ?_
  refine lv_aload_n hx hb dX8_append_21 rfl (lv_at hl 1 rfl) ?_
  refine g_get C hH mt ft iX8 rfl 1 (by decide) wd52 rfl rfl dX8_append_22 ?_
  refine lv_iload_n hx hb dX8_append_25 rfl (lv_at hl 2 rfl) ?_
  refine lv_iload_n hx hb dX8_append_26 rfl (lv_at hl 0 rfl) ?_
  refine lv_ishr hx hb dX8_append_27 ?_
  refine lv_topi (fun z1 ez1 => ?_)
  refine lv_i2b (v := (z1).toInt8.toInt32) hx hb dX8_append_28 rfl ?_
  refine g_bast C hH mb fb (vp_inL (by decide)) dX8_append_29 (fun H locs hH => ?_)
  obtain ⟨f2, ef2⟩ : ∃ z : gF, z = va_up f xb (.inl (E.2.2 0, 800, .inl (upd v ((0 : Int32)).toNatClampNeg (vp_nar .byte ((z1).toInt8.toInt32))))) := ⟨_, rfl⟩
  have hH : gH E A L f2 s.heap H locs := by rw [ef2]; exact hH
  have h3 : f2 xb = .inl (E.2.2 0, 800, .inl (upd v ((0 : Int32)).toNatClampNeg (vp_nar .byte ((z1).toInt8.toInt32)))) := (congrFun ef2 xb).trans (va_up_self _ _ _)
  refine lv_aload_n hx hb dX8_append_30 rfl (lv_at hl 1 rfl) ?_
  refine lv_dup hx hb dX8_append_31 rfl ?_
  have h4 : f2 xt = .inr (8, [.ref xb, .int (0 : Int32)]) := ((congrFun ef2 xt).trans (va_up_ne _ _ (g_neOA ft fb))).trans ft
  refine g_get C hH mt h4 iX8 rfl 1 (by decide) wd52 rfl rfl dX8_append_32 ?_
  refine lv_iconst (v := (1 : Int32)) hx hb dX8_append_35 (by decide) ?_
  refine lv_iadd hx hb dX8_append_36 ?_
  refine lv_topi (fun z5 ez5 => ?_)
  obtain rfl : z5 = (1 : Int32) := ez5.trans (by decide)
  refine g_put C hH mt h4 iX8 tyX8 tyX8_ok nmX8 rfl 1 (by decide) wd52 rfl rfl rfl rfl (Nat.le_of_ble_eq_true rfl) (fs' := [.ref xb, .int (1 : Int32)]) rfl dX8_append_37 (fun H locs hH => ?_)
  obtain ⟨f6, ef6⟩ : ∃ z : gF, z = va_up f2 xt (.inr (8, [.ref xb, .int (1 : Int32)])) := ⟨_, rfl⟩
  have hH : gH E A L f6 s.heap H locs := by rw [ef6]; exact hH
  have h7 : f6 xt = .inr (8, [.ref xb, .int (1 : Int32)]) := (congrFun ef6 xt).trans (va_up_self _ _ _)
  refine lv_iinc (v := (16 : Int32)) (lv' := [(2, .int (16 : Int32)), (0, .ref xt), (1, .int p0)]) hx hb dX8_append_40 hl (k := 0) rfl (by decide) (by decide) rfl (fun ls hl => ?_)
  refine lv_goto (tgt := 3) hx hb dX8_append_43 (by decide) ?_
  refine lv_iload_n hx hb dX8_append_3 rfl (lv_at hl 0 rfl) ?_
  refine lv_if_lt (tgt := 46) hx hb dX8_append_4 (by decide) (fun h => absurd h (by decide)) (fun _ => ?_)
  refine lv_aload_n hx hb dX8_append_7 rfl (lv_at hl 1 rfl) ?_
  refine g_get C hH mt h7 iX8 rfl 1 (by decide) wd52 rfl rfl dX8_append_8 ?_
  refine lv_sipush (v := (800 : Int32)) hx hb dX8_append_11 (by decide) ?_
  refine lv_icmp_ge (tgt := 46) hx hb dX8_append_14 (by decide) (fun h => absurd h (by decide)) (fun _ => ?_)
  refine lv_aload_n hx hb dX8_append_17 rfl (lv_at hl 1 rfl) ?_
  refine g_get C hH mt h7 iX8 rfl 0 (by decide) wd53 rfl rfl dX8_append_18 ?_
  refine lv_aload_n hx hb dX8_append_21 rfl (lv_at hl 1 rfl) ?_
  refine g_get C hH mt h7 iX8 rfl 1 (by decide) wd52 rfl rfl dX8_append_22 ?_
  refine lv_iload_n hx hb dX8_append_25 rfl (lv_at hl 2 rfl) ?_
  refine lv_iload_n hx hb dX8_append_26 rfl (lv_at hl 0 rfl) ?_
  refine lv_ishr hx hb dX8_append_27 ?_
  refine lv_topi (fun z8 ez8 => ?_)
  refine lv_i2b (v := (z8).toInt8.toInt32) hx hb dX8_append_28 rfl ?_
  have h9 : f6 xb = .inl (E.2.2 0, 800, .inl (upd v ((0 : Int32)).toNatClampNeg (vp_nar .byte ((z1).toInt8.toInt32)))) := ((congrFun ef6 xb).trans (va_up_ne _ _ (g_neAO h3 h4))).trans h3
  refine g_bast C hH mb h9 (vp_inL (by decide)) dX8_append_29 (fun H locs hH => ?_)
  obtain ⟨f10, ef10⟩ : ∃ z : gF, z = va_up f6 xb (.inl (E.2.2 0, 800, .inl (upd (upd v ((0 : Int32)).toNatClampNeg (vp_nar .byte ((z1).toInt8.toInt32))) ((1 : Int32)).toNatClampNeg (vp_nar .byte ((z8).toInt8.toInt32))))) := ⟨_, rfl⟩
  have hH : gH E A L f10 s.heap H locs := by rw [ef10]; exact hH
  have h11 : f10 xb = .inl (E.2.2 0, 800, .inl (upd (upd v ((0 : Int32)).toNatClampNeg (vp_nar .byte ((z1).toInt8.toInt32))) ((1 : Int32)).toNatClampNeg (vp_nar .byte ((z8).toInt8.toInt32)))) := (congrFun ef10 xb).trans (va_up_self _ _ _)
  refine lv_aload_n hx hb dX8_append_30 rfl (lv_at hl 1 rfl) ?_
  refine lv_dup hx hb dX8_append_31 rfl ?_
  have h12 : f10 xt = .inr (8, [.ref xb, .int (1 : Int32)]) := ((congrFun ef10 xt).trans (va_up_ne _ _ (g_neOA h7 h9))).trans h7
  refine g_get C hH mt h12 iX8 rfl 1 (by decide) wd52 rfl rfl dX8_append_32 ?_
  refine lv_iconst (v := (1 : Int32)) hx hb dX8_append_35 (by decide) ?_
  refine lv_iadd hx hb dX8_append_36 ?_
  refine lv_topi (fun z13 ez13 => ?_)
  obtain rfl : z13 = (2 : Int32) := ez13.trans (by decide)
  refine g_put C hH mt h12 iX8 tyX8 tyX8_ok nmX8 rfl 1 (by decide) wd52 rfl rfl rfl rfl (Nat.le_of_ble_eq_true rfl) (fs' := [.ref xb, .int (2 : Int32)]) rfl dX8_append_37 (fun H locs hH => ?_)
  obtain ⟨f14, ef14⟩ : ∃ z : gF, z = va_up f10 xt (.inr (8, [.ref xb, .int (2 : Int32)])) := ⟨_, rfl⟩
  have hH : gH E A L f14 s.heap H locs := by rw [ef14]; exact hH
  have h15 : f14 xt = .inr (8, [.ref xb, .int (2 : Int32)]) := (congrFun ef14 xt).trans (va_up_self _ _ _)
  refine lv_iinc (v := (8 : Int32)) (lv' := [(2, .int (8 : Int32)), (0, .ref xt), (1, .int p0)]) hx hb dX8_append_40 hl (k := 0) rfl (by decide) (by decide) rfl (fun ls hl => ?_)
  refine lv_goto (tgt := 3) hx hb dX8_append_43 (by decide) ?_
  refine lv_iload_n hx hb dX8_append_3 rfl (lv_at hl 0 rfl) ?_
  refine lv_if_lt (tgt := 46) hx hb dX8_append_4 (by decide) (fun h => absurd h (by decide)) (fun _ => ?_)
  refine lv_aload_n hx hb dX8_append_7 rfl (lv_at hl 1 rfl) ?_
  refine g_get C hH mt h15 iX8 rfl 1 (by decide) wd52 rfl rfl dX8_append_8 ?_
  refine lv_sipush (v := (800 : Int32)) hx hb dX8_append_11 (by decide) ?_
  refine lv_icmp_ge (tgt := 46) hx hb dX8_append_14 (by decide) (fun h => absurd h (by decide)) (fun _ => ?_)
  refine lv_aload_n hx hb dX8_append_17 rfl (lv_at hl 1 rfl) ?_
  refine g_get C hH mt h15 iX8 rfl 0 (by decide) wd53 rfl rfl dX8_append_18 ?_
  refine lv_aload_n hx hb dX8_append_21 rfl (lv_at hl 1 rfl) ?_
  refine g_get C hH mt h15 iX8 rfl 1 (by decide) wd52 rfl rfl dX8_append_22 ?_
  refine lv_iload_n hx hb dX8_append_25 rfl (lv_at hl 2 rfl) ?_
  refine lv_iload_n hx hb dX8_append_26 rfl (lv_at hl 0 rfl) ?_
  refine lv_ishr hx hb dX8_append_27 ?_
  refine lv_topi (fun z16 ez16 => ?_)
  refine lv_i2b (v := (z16).toInt8.toInt32) hx hb dX8_append_28 rfl ?_
  have h17 : f14 xb = .inl (E.2.2 0, 800, .inl (upd (upd v ((0 : Int32)).toNatClampNeg (vp_nar .byte ((z1).toInt8.toInt32))) ((1 : Int32)).toNatClampNeg (vp_nar .byte ((z8).toInt8.toInt32)))) := ((congrFun ef14 xb).trans (va_up_ne _ _ (g_neAO h11 h12))).trans h11
  refine g_bast C hH mb h17 (vp_inL (by decide)) dX8_append_29 (fun H locs hH => ?_)
  obtain ⟨f18, ef18⟩ : ∃ z : gF, z = va_up f14 xb (.inl (E.2.2 0, 800, .inl (upd (upd (upd v ((0 : Int32)).toNatClampNeg (vp_nar .byte ((z1).toInt8.toInt32))) ((1 : Int32)).toNatClampNeg (vp_nar .byte ((z8).toInt8.toInt32))) ((2 : Int32)).toNatClampNeg (vp_nar .byte ((z16).toInt8.toInt32))))) := ⟨_, rfl⟩
  have hH : gH E A L f18 s.heap H locs := by rw [ef18]; exact hH
  have h19 : f18 xb = .inl (E.2.2 0, 800, .inl (upd (upd (upd v ((0 : Int32)).toNatClampNeg (vp_nar .byte ((z1).toInt8.toInt32))) ((1 : Int32)).toNatClampNeg (vp_nar .byte ((z8).toInt8.toInt32))) ((2 : Int32)).toNatClampNeg (vp_nar .byte ((z16).toInt8.toInt32)))) := (congrFun ef18 xb).trans (va_up_self _ _ _)
  refine lv_aload_n hx hb dX8_append_30 rfl (lv_at hl 1 rfl) ?_
  refine lv_dup hx hb dX8_append_31 rfl ?_
  have h20 : f18 xt = .inr (8, [.ref xb, .int (2 : Int32)]) := ((congrFun ef18 xt).trans (va_up_ne _ _ (g_neOA h15 h17))).trans h15
  refine g_get C hH mt h20 iX8 rfl 1 (by decide) wd52 rfl rfl dX8_append_32 ?_
  refine lv_iconst (v := (1 : Int32)) hx hb dX8_append_35 (by decide) ?_
  refine lv_iadd hx hb dX8_append_36 ?_
  refine lv_topi (fun z21 ez21 => ?_)
  obtain rfl : z21 = (3 : Int32) := ez21.trans (by decide)
  refine g_put C hH mt h20 iX8 tyX8 tyX8_ok nmX8 rfl 1 (by decide) wd52 rfl rfl rfl rfl (Nat.le_of_ble_eq_true rfl) (fs' := [.ref xb, .int (3 : Int32)]) rfl dX8_append_37 (fun H locs hH => ?_)
  obtain ⟨f22, ef22⟩ : ∃ z : gF, z = va_up f18 xt (.inr (8, [.ref xb, .int (3 : Int32)])) := ⟨_, rfl⟩
  have hH : gH E A L f22 s.heap H locs := by rw [ef22]; exact hH
  have h23 : f22 xt = .inr (8, [.ref xb, .int (3 : Int32)]) := (congrFun ef22 xt).trans (va_up_self _ _ _)
  refine lv_iinc (v := (0 : Int32)) (lv' := [(2, .int (0 : Int32)), (0, .ref xt), (1, .int p0)]) hx hb dX8_append_40 hl (k := 0) rfl (by decide) (by decide) rfl (fun ls hl => ?_)
  refine lv_goto (tgt := 3) hx hb dX8_append_43 (by decide) ?_
  refine lv_iload_n hx hb dX8_append_3 rfl (lv_at hl 0 rfl) ?_
  refine lv_if_lt (tgt := 46) hx hb dX8_append_4 (by decide) (fun h => absurd h (by decide)) (fun _ => ?_)
  refine lv_aload_n hx hb dX8_append_7 rfl (lv_at hl 1 rfl) ?_
  refine g_get C hH mt h23 iX8 rfl 1 (by decide) wd52 rfl rfl dX8_append_8 ?_
  refine lv_sipush (v := (800 : Int32)) hx hb dX8_append_11 (by decide) ?_
  refine lv_icmp_ge (tgt := 46) hx hb dX8_append_14 (by decide) (fun h => absurd h (by decide)) (fun _ => ?_)
  refine lv_aload_n hx hb dX8_append_17 rfl (lv_at hl 1 rfl) ?_
  refine g_get C hH mt h23 iX8 rfl 0 (by decide) wd53 rfl rfl dX8_append_18 ?_
  refine lv_aload_n hx hb dX8_append_21 rfl (lv_at hl 1 rfl) ?_
  refine g_get C hH mt h23 iX8 rfl 1 (by decide) wd52 rfl rfl dX8_append_22 ?_
  refine lv_iload_n hx hb dX8_append_25 rfl (lv_at hl 2 rfl) ?_
  refine lv_iload_n hx hb dX8_append_26 rfl (lv_at hl 0 rfl) ?_
  refine lv_ishr hx hb dX8_append_27 ?_
  refine lv_topi (fun z24 ez24 => ?_)
  refine lv_i2b (v := (z24).toInt8.toInt32) hx hb dX8_append_28 rfl ?_
  have h25 : f22 xb = .inl (E.2.2 0, 800, .inl (upd (upd (upd v ((0 : Int32)).toNatClampNeg (vp_nar .byte ((z1).toInt8.toInt32))) ((1 : Int32)).toNatClampNeg (vp_nar .byte ((z8).toInt8.toInt32))) ((2 : Int32)).toNatClampNeg (vp_nar .byte ((z16).toInt8.toInt32)))) := ((congrFun ef22 xb).trans (va_up_ne _ _ (g_neAO h19 h20))).trans h19
  refine g_bast C hH mb h25 (vp_inL (by decide)) dX8_append_29 (fun H locs hH => ?_)
  obtain ⟨f26, ef26⟩ : ∃ z : gF, z = va_up f22 xb (.inl (E.2.2 0, 800, .inl (upd (upd (upd (upd v ((0 : Int32)).toNatClampNeg (vp_nar .byte ((z1).toInt8.toInt32))) ((1 : Int32)).toNatClampNeg (vp_nar .byte ((z8).toInt8.toInt32))) ((2 : Int32)).toNatClampNeg (vp_nar .byte ((z16).toInt8.toInt32))) ((3 : Int32)).toNatClampNeg (vp_nar .byte ((z24).toInt8.toInt32))))) := ⟨_, rfl⟩
  have hH : gH E A L f26 s.heap H locs := by rw [ef26]; exact hH
  have h27 : f26 xb = .inl (E.2.2 0, 800, .inl (upd (upd (upd (upd v ((0 : Int32)).toNatClampNeg (vp_nar .byte ((z1).toInt8.toInt32))) ((1 : Int32)).toNatClampNeg (vp_nar .byte ((z8).toInt8.toInt32))) ((2 : Int32)).toNatClampNeg (vp_nar .byte ((z16).toInt8.toInt32))) ((3 : Int32)).toNatClampNeg (vp_nar .byte ((z24).toInt8.toInt32)))) := (congrFun ef26 xb).trans (va_up_self _ _ _)
  refine lv_aload_n hx hb dX8_append_30 rfl (lv_at hl 1 rfl) ?_
  refine lv_dup hx hb dX8_append_31 rfl ?_
  have h28 : f26 xt = .inr (8, [.ref xb, .int (3 : Int32)]) := ((congrFun ef26 xt).trans (va_up_ne _ _ (g_neOA h23 h25))).trans h23
  refine g_get C hH mt h28 iX8 rfl 1 (by decide) wd52 rfl rfl dX8_append_32 ?_
  refine lv_iconst (v := (1 : Int32)) hx hb dX8_append_35 (by decide) ?_
  refine lv_iadd hx hb dX8_append_36 ?_
  refine lv_topi (fun z29 ez29 => ?_)
  obtain rfl : z29 = (4 : Int32) := ez29.trans (by decide)
  refine g_put C hH mt h28 iX8 tyX8 tyX8_ok nmX8 rfl 1 (by decide) wd52 rfl rfl rfl rfl (Nat.le_of_ble_eq_true rfl) (fs' := [.ref xb, .int (4 : Int32)]) rfl dX8_append_37 (fun H locs hH => ?_)
  obtain ⟨f30, ef30⟩ : ∃ z : gF, z = va_up f26 xt (.inr (8, [.ref xb, .int (4 : Int32)])) := ⟨_, rfl⟩
  have hH : gH E A L f30 s.heap H locs := by rw [ef30]; exact hH
  have h31 : f30 xt = .inr (8, [.ref xb, .int (4 : Int32)]) := (congrFun ef30 xt).trans (va_up_self _ _ _)
  refine lv_iinc (v := (-8 : Int32)) (lv' := [(2, .int (-8 : Int32)), (0, .ref xt), (1, .int p0)]) hx hb dX8_append_40 hl (k := 0) rfl (by decide) (by decide) rfl (fun ls hl => ?_)
  refine lv_goto (tgt := 3) hx hb dX8_append_43 (by decide) ?_
  refine lv_iload_n hx hb dX8_append_3 rfl (lv_at hl 0 rfl) ?_
  refine lv_if_lt (tgt := 46) hx hb dX8_append_4 (by decide) (fun _ => ?_) (fun h => absurd (by decide) h)
  refine g_vret C hr hH (Nat.le_of_ble_eq_true rfl) (Nat.le_of_ble_eq_true rfl) dX8_append_46 ?_
  have h32 : f30 xb = .inl (E.2.2 0, 800, .inl (upd (upd (upd (upd v ((0 : Int32)).toNatClampNeg (vp_nar .byte ((z1).toInt8.toInt32))) ((1 : Int32)).toNatClampNeg (vp_nar .byte ((z8).toInt8.toInt32))) ((2 : Int32)).toNatClampNeg (vp_nar .byte ((z16).toInt8.toInt32))) ((3 : Int32)).toNatClampNeg (vp_nar .byte ((z24).toInt8.toInt32)))) := ((congrFun ef30 xb).trans (va_up_ne _ _ (g_neAO h27 h28))).trans h27
  exact ⟨rfl, h31, ⟨_, h32⟩, fun b h1 h2 => by rw [ef30, va_up_ne _ _ h1, ef26, va_up_ne _ _ h2, ef22, va_up_ne _ _ h1, ef18, va_up_ne _ _ h2, ef14, va_up_ne _ _ h1, ef10, va_up_ne _ _ h2, ef6, va_up_ne _ _ h1, ef2, va_up_ne _ _ h2]⟩
set_option maxHeartbeats 4000000 in
set_option maxRecDepth 100000 in
theorem k_append4 (l : Launch) (E : gE) (L : List Nat) (f : gF) {xt xb : Nat} {v : Nat → Int32} (mt : xt ∈ L) (ft : f xt = .inr (8, [.ref xb, .int (4 : Int32)])) (mb : xb ∈ L) (fb : f xb = .inl (E.2.2 0, 800, .inl v)) (p0 : Int32) : gMv l E yX8_append cX8_append 3 (gRm 1 0 0) [.ref xt, .int p0] L f (fun L1 f1 => L = L1 ∧ f1 xt = .inr (8, [.ref xb, .int (8 : Int32)]) ∧ (∃ z, f1 xb = .inl (E.2.2 0, 800, .inl z)) ∧ ∀ b, b ≠ xt → b ≠ xb → f1 b = f b) := by
  refine gMv.intro (by decide) (Nat.le_of_ble_eq_true rfl) ?_
  intro p e s m below meth c A ls C hr hnm hA hH hl
  have C : gC E cX8_append 3 RX8 p s m _ meth c := C
  have hl : lv_has ls 3 [(0, .ref xt), (1, .int p0)] := hl
  have hx := C.1
  have hb := C.2.1
  refine lv_bipush (v := (24 : Int32)) hx hb dX8_append_0 (by decide) ?_
  refine lv_istore_n (lv' := [(2, .int (24 : Int32)), (0, .ref xt), (1, .int p0)]) hx hb dX8_append_2 rfl hl (by decide) rfl (fun ls hl => ?_)
  refine lv_iload_n hx hb dX8_append_3 rfl (lv_at hl 0 rfl) ?_
  refine lv_if_lt (tgt := 46) hx hb dX8_append_4 (by decide) (fun h => absurd h (by decide)) (fun _ => ?_)
  refine lv_aload_n hx hb dX8_append_7 rfl (lv_at hl 1 rfl) ?_
  refine g_get C hH mt ft iX8 rfl 1 (by decide) wd52 rfl rfl dX8_append_8 ?_
  refine lv_sipush (v := (800 : Int32)) hx hb dX8_append_11 (by decide) ?_
  refine lv_icmp_ge (tgt := 46) hx hb dX8_append_14 (by decide) (fun h => absurd h (by decide)) (fun _ => ?_)
  refine lv_aload_n hx hb dX8_append_17 rfl (lv_at hl 1 rfl) ?_
  refine g_get C hH mt ft iX8 rfl 0 (by decide) wd53 rfl rfl dX8_append_18 ?_
  refine lv_aload_n hx hb dX8_append_21 rfl (lv_at hl 1 rfl) ?_
  refine g_get C hH mt ft iX8 rfl 1 (by decide) wd52 rfl rfl dX8_append_22 ?_
  refine lv_iload_n hx hb dX8_append_25 rfl (lv_at hl 2 rfl) ?_
  refine lv_iload_n hx hb dX8_append_26 rfl (lv_at hl 0 rfl) ?_
  refine lv_ishr hx hb dX8_append_27 ?_
  refine lv_topi (fun z1 ez1 => ?_)
  refine lv_i2b (v := (z1).toInt8.toInt32) hx hb dX8_append_28 rfl ?_
  refine g_bast C hH mb fb (vp_inL (by decide)) dX8_append_29 (fun H locs hH => ?_)
  obtain ⟨f2, ef2⟩ : ∃ z : gF, z = va_up f xb (.inl (E.2.2 0, 800, .inl (upd v ((4 : Int32)).toNatClampNeg (vp_nar .byte ((z1).toInt8.toInt32))))) := ⟨_, rfl⟩
  have hH : gH E A L f2 s.heap H locs := by rw [ef2]; exact hH
  have h3 : f2 xb = .inl (E.2.2 0, 800, .inl (upd v ((4 : Int32)).toNatClampNeg (vp_nar .byte ((z1).toInt8.toInt32)))) := (congrFun ef2 xb).trans (va_up_self _ _ _)
  refine lv_aload_n hx hb dX8_append_30 rfl (lv_at hl 1 rfl) ?_
  refine lv_dup hx hb dX8_append_31 rfl ?_
  have h4 : f2 xt = .inr (8, [.ref xb, .int (4 : Int32)]) := ((congrFun ef2 xt).trans (va_up_ne _ _ (g_neOA ft fb))).trans ft
  refine g_get C hH mt h4 iX8 rfl 1 (by decide) wd52 rfl rfl dX8_append_32 ?_
  refine lv_iconst (v := (1 : Int32)) hx hb dX8_append_35 (by decide) ?_
  refine lv_iadd hx hb dX8_append_36 ?_
  refine lv_topi (fun z5 ez5 => ?_)
  obtain rfl : z5 = (5 : Int32) := ez5.trans (by decide)
  refine g_put C hH mt h4 iX8 tyX8 tyX8_ok nmX8 rfl 1 (by decide) wd52 rfl rfl rfl rfl (Nat.le_of_ble_eq_true rfl) (fs' := [.ref xb, .int (5 : Int32)]) rfl dX8_append_37 (fun H locs hH => ?_)
  obtain ⟨f6, ef6⟩ : ∃ z : gF, z = va_up f2 xt (.inr (8, [.ref xb, .int (5 : Int32)])) := ⟨_, rfl⟩
  have hH : gH E A L f6 s.heap H locs := by rw [ef6]; exact hH
  have h7 : f6 xt = .inr (8, [.ref xb, .int (5 : Int32)]) := (congrFun ef6 xt).trans (va_up_self _ _ _)
  refine lv_iinc (v := (16 : Int32)) (lv' := [(2, .int (16 : Int32)), (0, .ref xt), (1, .int p0)]) hx hb dX8_append_40 hl (k := 0) rfl (by decide) (by decide) rfl (fun ls hl => ?_)
  refine lv_goto (tgt := 3) hx hb dX8_append_43 (by decide) ?_
  refine lv_iload_n hx hb dX8_append_3 rfl (lv_at hl 0 rfl) ?_
  refine lv_if_lt (tgt := 46) hx hb dX8_append_4 (by decide) (fun h => absurd h (by decide)) (fun _ => ?_)
  refine lv_aload_n hx hb dX8_append_7 rfl (lv_at hl 1 rfl) ?_
  refine g_get C hH mt h7 iX8 rfl 1 (by decide) wd52 rfl rfl dX8_append_8 ?_
  refine lv_sipush (v := (800 : Int32)) hx hb dX8_append_11 (by decide) ?_
  refine lv_icmp_ge (tgt := 46) hx hb dX8_append_14 (by decide) (fun h => absurd h (by decide)) (fun _ => ?_)
  refine lv_aload_n hx hb dX8_append_17 rfl (lv_at hl 1 rfl) ?_
  refine g_get C hH mt h7 iX8 rfl 0 (by decide) wd53 rfl rfl dX8_append_18 ?_
  refine lv_aload_n hx hb dX8_append_21 rfl (lv_at hl 1 rfl) ?_
  refine g_get C hH mt h7 iX8 rfl 1 (by decide) wd52 rfl rfl dX8_append_22 ?_
  refine lv_iload_n hx hb dX8_append_25 rfl (lv_at hl 2 rfl) ?_
  refine lv_iload_n hx hb dX8_append_26 rfl (lv_at hl 0 rfl) ?_
  refine lv_ishr hx hb dX8_append_27 ?_
  refine lv_topi (fun z8 ez8 => ?_)
  refine lv_i2b (v := (z8).toInt8.toInt32) hx hb dX8_append_28 rfl ?_
  have h9 : f6 xb = .inl (E.2.2 0, 800, .inl (upd v ((4 : Int32)).toNatClampNeg (vp_nar .byte ((z1).toInt8.toInt32)))) := ((congrFun ef6 xb).trans (va_up_ne _ _ (g_neAO h3 h4))).trans h3
  refine g_bast C hH mb h9 (vp_inL (by decide)) dX8_append_29 (fun H locs hH => ?_)
  obtain ⟨f10, ef10⟩ : ∃ z : gF, z = va_up f6 xb (.inl (E.2.2 0, 800, .inl (upd (upd v ((4 : Int32)).toNatClampNeg (vp_nar .byte ((z1).toInt8.toInt32))) ((5 : Int32)).toNatClampNeg (vp_nar .byte ((z8).toInt8.toInt32))))) := ⟨_, rfl⟩
  have hH : gH E A L f10 s.heap H locs := by rw [ef10]; exact hH
  have h11 : f10 xb = .inl (E.2.2 0, 800, .inl (upd (upd v ((4 : Int32)).toNatClampNeg (vp_nar .byte ((z1).toInt8.toInt32))) ((5 : Int32)).toNatClampNeg (vp_nar .byte ((z8).toInt8.toInt32)))) := (congrFun ef10 xb).trans (va_up_self _ _ _)
  refine lv_aload_n hx hb dX8_append_30 rfl (lv_at hl 1 rfl) ?_
  refine lv_dup hx hb dX8_append_31 rfl ?_
  have h12 : f10 xt = .inr (8, [.ref xb, .int (5 : Int32)]) := ((congrFun ef10 xt).trans (va_up_ne _ _ (g_neOA h7 h9))).trans h7
  refine g_get C hH mt h12 iX8 rfl 1 (by decide) wd52 rfl rfl dX8_append_32 ?_
  refine lv_iconst (v := (1 : Int32)) hx hb dX8_append_35 (by decide) ?_
  refine lv_iadd hx hb dX8_append_36 ?_
  refine lv_topi (fun z13 ez13 => ?_)
  obtain rfl : z13 = (6 : Int32) := ez13.trans (by decide)
  refine g_put C hH mt h12 iX8 tyX8 tyX8_ok nmX8 rfl 1 (by decide) wd52 rfl rfl rfl rfl (Nat.le_of_ble_eq_true rfl) (fs' := [.ref xb, .int (6 : Int32)]) rfl dX8_append_37 (fun H locs hH => ?_)
  obtain ⟨f14, ef14⟩ : ∃ z : gF, z = va_up f10 xt (.inr (8, [.ref xb, .int (6 : Int32)])) := ⟨_, rfl⟩
  have hH : gH E A L f14 s.heap H locs := by rw [ef14]; exact hH
  have h15 : f14 xt = .inr (8, [.ref xb, .int (6 : Int32)]) := (congrFun ef14 xt).trans (va_up_self _ _ _)
  refine lv_iinc (v := (8 : Int32)) (lv' := [(2, .int (8 : Int32)), (0, .ref xt), (1, .int p0)]) hx hb dX8_append_40 hl (k := 0) rfl (by decide) (by decide) rfl (fun ls hl => ?_)
  refine lv_goto (tgt := 3) hx hb dX8_append_43 (by decide) ?_
  refine lv_iload_n hx hb dX8_append_3 rfl (lv_at hl 0 rfl) ?_
  refine lv_if_lt (tgt := 46) hx hb dX8_append_4 (by decide) (fun h => absurd h (by decide)) (fun _ => ?_)
  refine lv_aload_n hx hb dX8_append_7 rfl (lv_at hl 1 rfl) ?_
  refine g_get C hH mt h15 iX8 rfl 1 (by decide) wd52 rfl rfl dX8_append_8 ?_
  refine lv_sipush (v := (800 : Int32)) hx hb dX8_append_11 (by decide) ?_
  refine lv_icmp_ge (tgt := 46) hx hb dX8_append_14 (by decide) (fun h => absurd h (by decide)) (fun _ => ?_)
  refine lv_aload_n hx hb dX8_append_17 rfl (lv_at hl 1 rfl) ?_
  refine g_get C hH mt h15 iX8 rfl 0 (by decide) wd53 rfl rfl dX8_append_18 ?_
  refine lv_aload_n hx hb dX8_append_21 rfl (lv_at hl 1 rfl) ?_
  refine g_get C hH mt h15 iX8 rfl 1 (by decide) wd52 rfl rfl dX8_append_22 ?_
  refine lv_iload_n hx hb dX8_append_25 rfl (lv_at hl 2 rfl) ?_
  refine lv_iload_n hx hb dX8_append_26 rfl (lv_at hl 0 rfl) ?_
  refine lv_ishr hx hb dX8_append_27 ?_
  refine lv_topi (fun z16 ez16 => ?_)
  refine lv_i2b (v := (z16).toInt8.toInt32) hx hb dX8_append_28 rfl ?_
  have h17 : f14 xb = .inl (E.2.2 0, 800, .inl (upd (upd v ((4 : Int32)).toNatClampNeg (vp_nar .byte ((z1).toInt8.toInt32))) ((5 : Int32)).toNatClampNeg (vp_nar .byte ((z8).toInt8.toInt32)))) := ((congrFun ef14 xb).trans (va_up_ne _ _ (g_neAO h11 h12))).trans h11
  refine g_bast C hH mb h17 (vp_inL (by decide)) dX8_append_29 (fun H locs hH => ?_)
  obtain ⟨f18, ef18⟩ : ∃ z : gF, z = va_up f14 xb (.inl (E.2.2 0, 800, .inl (upd (upd (upd v ((4 : Int32)).toNatClampNeg (vp_nar .byte ((z1).toInt8.toInt32))) ((5 : Int32)).toNatClampNeg (vp_nar .byte ((z8).toInt8.toInt32))) ((6 : Int32)).toNatClampNeg (vp_nar .byte ((z16).toInt8.toInt32))))) := ⟨_, rfl⟩
  have hH : gH E A L f18 s.heap H locs := by rw [ef18]; exact hH
  have h19 : f18 xb = .inl (E.2.2 0, 800, .inl (upd (upd (upd v ((4 : Int32)).toNatClampNeg (vp_nar .byte ((z1).toInt8.toInt32))) ((5 : Int32)).toNatClampNeg (vp_nar .byte ((z8).toInt8.toInt32))) ((6 : Int32)).toNatClampNeg (vp_nar .byte ((z16).toInt8.toInt32)))) := (congrFun ef18 xb).trans (va_up_self _ _ _)
  refine lv_aload_n hx hb dX8_append_30 rfl (lv_at hl 1 rfl) ?_
  refine lv_dup hx hb dX8_append_31 rfl ?_
  have h20 : f18 xt = .inr (8, [.ref xb, .int (6 : Int32)]) := ((congrFun ef18 xt).trans (va_up_ne _ _ (g_neOA h15 h17))).trans h15
  refine g_get C hH mt h20 iX8 rfl 1 (by decide) wd52 rfl rfl dX8_append_32 ?_
  refine lv_iconst (v := (1 : Int32)) hx hb dX8_append_35 (by decide) ?_
  refine lv_iadd hx hb dX8_append_36 ?_
  refine lv_topi (fun z21 ez21 => ?_)
  obtain rfl : z21 = (7 : Int32) := ez21.trans (by decide)
  refine g_put C hH mt h20 iX8 tyX8 tyX8_ok nmX8 rfl 1 (by decide) wd52 rfl rfl rfl rfl (Nat.le_of_ble_eq_true rfl) (fs' := [.ref xb, .int (7 : Int32)]) rfl dX8_append_37 (fun H locs hH => ?_)
  obtain ⟨f22, ef22⟩ : ∃ z : gF, z = va_up f18 xt (.inr (8, [.ref xb, .int (7 : Int32)])) := ⟨_, rfl⟩
  have hH : gH E A L f22 s.heap H locs := by rw [ef22]; exact hH
  have h23 : f22 xt = .inr (8, [.ref xb, .int (7 : Int32)]) := (congrFun ef22 xt).trans (va_up_self _ _ _)
  refine lv_iinc (v := (0 : Int32)) (lv' := [(2, .int (0 : Int32)), (0, .ref xt), (1, .int p0)]) hx hb dX8_append_40 hl (k := 0) rfl (by decide) (by decide) rfl (fun ls hl => ?_)
  refine lv_goto (tgt := 3) hx hb dX8_append_43 (by decide) ?_
  refine lv_iload_n hx hb dX8_append_3 rfl (lv_at hl 0 rfl) ?_
  refine lv_if_lt (tgt := 46) hx hb dX8_append_4 (by decide) (fun h => absurd h (by decide)) (fun _ => ?_)
  refine lv_aload_n hx hb dX8_append_7 rfl (lv_at hl 1 rfl) ?_
  refine g_get C hH mt h23 iX8 rfl 1 (by decide) wd52 rfl rfl dX8_append_8 ?_
  refine lv_sipush (v := (800 : Int32)) hx hb dX8_append_11 (by decide) ?_
  refine lv_icmp_ge (tgt := 46) hx hb dX8_append_14 (by decide) (fun h => absurd h (by decide)) (fun _ => ?_)
  refine lv_aload_n hx hb dX8_append_17 rfl (lv_at hl 1 rfl) ?_
  refine g_get C hH mt h23 iX8 rfl 0 (by decide) wd53 rfl rfl dX8_append_18 ?_
  refine lv_aload_n hx hb dX8_append_21 rfl (lv_at hl 1 rfl) ?_
  refine g_get C hH mt h23 iX8 rfl 1 (by decide) wd52 rfl rfl dX8_append_22 ?_
  refine lv_iload_n hx hb dX8_append_25 rfl (lv_at hl 2 rfl) ?_
  refine lv_iload_n hx hb dX8_append_26 rfl (lv_at hl 0 rfl) ?_
  refine lv_ishr hx hb dX8_append_27 ?_
  refine lv_topi (fun z24 ez24 => ?_)
  refine lv_i2b (v := (z24).toInt8.toInt32) hx hb dX8_append_28 rfl ?_
  have h25 : f22 xb = .inl (E.2.2 0, 800, .inl (upd (upd (upd v ((4 : Int32)).toNatClampNeg (vp_nar .byte ((z1).toInt8.toInt32))) ((5 : Int32)).toNatClampNeg (vp_nar .byte ((z8).toInt8.toInt32))) ((6 : Int32)).toNatClampNeg (vp_nar .byte ((z16).toInt8.toInt32)))) := ((congrFun ef22 xb).trans (va_up_ne _ _ (g_neAO h19 h20))).trans h19
  refine g_bast C hH mb h25 (vp_inL (by decide)) dX8_append_29 (fun H locs hH => ?_)
  obtain ⟨f26, ef26⟩ : ∃ z : gF, z = va_up f22 xb (.inl (E.2.2 0, 800, .inl (upd (upd (upd (upd v ((4 : Int32)).toNatClampNeg (vp_nar .byte ((z1).toInt8.toInt32))) ((5 : Int32)).toNatClampNeg (vp_nar .byte ((z8).toInt8.toInt32))) ((6 : Int32)).toNatClampNeg (vp_nar .byte ((z16).toInt8.toInt32))) ((7 : Int32)).toNatClampNeg (vp_nar .byte ((z24).toInt8.toInt32))))) := ⟨_, rfl⟩
  have hH : gH E A L f26 s.heap H locs := by rw [ef26]; exact hH
  have h27 : f26 xb = .inl (E.2.2 0, 800, .inl (upd (upd (upd (upd v ((4 : Int32)).toNatClampNeg (vp_nar .byte ((z1).toInt8.toInt32))) ((5 : Int32)).toNatClampNeg (vp_nar .byte ((z8).toInt8.toInt32))) ((6 : Int32)).toNatClampNeg (vp_nar .byte ((z16).toInt8.toInt32))) ((7 : Int32)).toNatClampNeg (vp_nar .byte ((z24).toInt8.toInt32)))) := (congrFun ef26 xb).trans (va_up_self _ _ _)
  refine lv_aload_n hx hb dX8_append_30 rfl (lv_at hl 1 rfl) ?_
  refine lv_dup hx hb dX8_append_31 rfl ?_
  have h28 : f26 xt = .inr (8, [.ref xb, .int (7 : Int32)]) := ((congrFun ef26 xt).trans (va_up_ne _ _ (g_neOA h23 h25))).trans h23
  refine g_get C hH mt h28 iX8 rfl 1 (by decide) wd52 rfl rfl dX8_append_32 ?_
  refine lv_iconst (v := (1 : Int32)) hx hb dX8_append_35 (by decide) ?_
  refine lv_iadd hx hb dX8_append_36 ?_
  refine lv_topi (fun z29 ez29 => ?_)
  obtain rfl : z29 = (8 : Int32) := ez29.trans (by decide)
  refine g_put C hH mt h28 iX8 tyX8 tyX8_ok nmX8 rfl 1 (by decide) wd52 rfl rfl rfl rfl (Nat.le_of_ble_eq_true rfl) (fs' := [.ref xb, .int (8 : Int32)]) rfl dX8_append_37 (fun H locs hH => ?_)
  obtain ⟨f30, ef30⟩ : ∃ z : gF, z = va_up f26 xt (.inr (8, [.ref xb, .int (8 : Int32)])) := ⟨_, rfl⟩
  have hH : gH E A L f30 s.heap H locs := by rw [ef30]; exact hH
  have h31 : f30 xt = .inr (8, [.ref xb, .int (8 : Int32)]) := (congrFun ef30 xt).trans (va_up_self _ _ _)
  refine lv_iinc (v := (-8 : Int32)) (lv' := [(2, .int (-8 : Int32)), (0, .ref xt), (1, .int p0)]) hx hb dX8_append_40 hl (k := 0) rfl (by decide) (by decide) rfl (fun ls hl => ?_)
  refine lv_goto (tgt := 3) hx hb dX8_append_43 (by decide) ?_
  refine lv_iload_n hx hb dX8_append_3 rfl (lv_at hl 0 rfl) ?_
  refine lv_if_lt (tgt := 46) hx hb dX8_append_4 (by decide) (fun _ => ?_) (fun h => absurd (by decide) h)
  refine g_vret C hr hH (Nat.le_of_ble_eq_true rfl) (Nat.le_of_ble_eq_true rfl) dX8_append_46 ?_
  have h32 : f30 xb = .inl (E.2.2 0, 800, .inl (upd (upd (upd (upd v ((4 : Int32)).toNatClampNeg (vp_nar .byte ((z1).toInt8.toInt32))) ((5 : Int32)).toNatClampNeg (vp_nar .byte ((z8).toInt8.toInt32))) ((6 : Int32)).toNatClampNeg (vp_nar .byte ((z16).toInt8.toInt32))) ((7 : Int32)).toNatClampNeg (vp_nar .byte ((z24).toInt8.toInt32)))) := ((congrFun ef30 xb).trans (va_up_ne _ _ (g_neAO h27 h28))).trans h27
  exact ⟨rfl, h31, ⟨_, h32⟩, fun b h1 h2 => by rw [ef30, va_up_ne _ _ h1, ef26, va_up_ne _ _ h2, ef22, va_up_ne _ _ h1, ef18, va_up_ne _ _ h2, ef14, va_up_ne _ _ h1, ef10, va_up_ne _ _ h2, ef6, va_up_ne _ _ h1, ef2, va_up_ne _ _ h2]⟩
set_option maxHeartbeats 4000000 in
set_option maxRecDepth 100000 in
theorem k_append8 (l : Launch) (E : gE) (L : List Nat) (f : gF) {xt xb : Nat} {v : Nat → Int32} (mt : xt ∈ L) (ft : f xt = .inr (8, [.ref xb, .int (8 : Int32)])) (mb : xb ∈ L) (fb : f xb = .inl (E.2.2 0, 800, .inl v)) (p0 : Int32) : gMv l E yX8_append cX8_append 3 (gRm 1 0 0) [.ref xt, .int p0] L f (fun L1 f1 => L = L1 ∧ f1 xt = .inr (8, [.ref xb, .int (12 : Int32)]) ∧ (∃ z, f1 xb = .inl (E.2.2 0, 800, .inl z)) ∧ ∀ b, b ≠ xt → b ≠ xb → f1 b = f b) := by
  refine gMv.intro (by decide) (Nat.le_of_ble_eq_true rfl) ?_
  intro p e s m below meth c A ls C hr hnm hA hH hl
  have C : gC E cX8_append 3 RX8 p s m _ meth c := C
  have hl : lv_has ls 3 [(0, .ref xt), (1, .int p0)] := hl
  have hx := C.1
  have hb := C.2.1
  refine lv_bipush (v := (24 : Int32)) hx hb dX8_append_0 (by decide) ?_
  refine lv_istore_n (lv' := [(2, .int (24 : Int32)), (0, .ref xt), (1, .int p0)]) hx hb dX8_append_2 rfl hl (by decide) rfl (fun ls hl => ?_)
  refine lv_iload_n hx hb dX8_append_3 rfl (lv_at hl 0 rfl) ?_
  refine lv_if_lt (tgt := 46) hx hb dX8_append_4 (by decide) (fun h => absurd h (by decide)) (fun _ => ?_)
  refine lv_aload_n hx hb dX8_append_7 rfl (lv_at hl 1 rfl) ?_
  refine g_get C hH mt ft iX8 rfl 1 (by decide) wd52 rfl rfl dX8_append_8 ?_
  refine lv_sipush (v := (800 : Int32)) hx hb dX8_append_11 (by decide) ?_
  refine lv_icmp_ge (tgt := 46) hx hb dX8_append_14 (by decide) (fun h => absurd h (by decide)) (fun _ => ?_)
  refine lv_aload_n hx hb dX8_append_17 rfl (lv_at hl 1 rfl) ?_
  refine g_get C hH mt ft iX8 rfl 0 (by decide) wd53 rfl rfl dX8_append_18 ?_
  refine lv_aload_n hx hb dX8_append_21 rfl (lv_at hl 1 rfl) ?_
  refine g_get C hH mt ft iX8 rfl 1 (by decide) wd52 rfl rfl dX8_append_22 ?_
  refine lv_iload_n hx hb dX8_append_25 rfl (lv_at hl 2 rfl) ?_
  refine lv_iload_n hx hb dX8_append_26 rfl (lv_at hl 0 rfl) ?_
  refine lv_ishr hx hb dX8_append_27 ?_
  refine lv_topi (fun z1 ez1 => ?_)
  refine lv_i2b (v := (z1).toInt8.toInt32) hx hb dX8_append_28 rfl ?_
  refine g_bast C hH mb fb (vp_inL (by decide)) dX8_append_29 (fun H locs hH => ?_)
  obtain ⟨f2, ef2⟩ : ∃ z : gF, z = va_up f xb (.inl (E.2.2 0, 800, .inl (upd v ((8 : Int32)).toNatClampNeg (vp_nar .byte ((z1).toInt8.toInt32))))) := ⟨_, rfl⟩
  have hH : gH E A L f2 s.heap H locs := by rw [ef2]; exact hH
  have h3 : f2 xb = .inl (E.2.2 0, 800, .inl (upd v ((8 : Int32)).toNatClampNeg (vp_nar .byte ((z1).toInt8.toInt32)))) := (congrFun ef2 xb).trans (va_up_self _ _ _)
  refine lv_aload_n hx hb dX8_append_30 rfl (lv_at hl 1 rfl) ?_
  refine lv_dup hx hb dX8_append_31 rfl ?_
  have h4 : f2 xt = .inr (8, [.ref xb, .int (8 : Int32)]) := ((congrFun ef2 xt).trans (va_up_ne _ _ (g_neOA ft fb))).trans ft
  refine g_get C hH mt h4 iX8 rfl 1 (by decide) wd52 rfl rfl dX8_append_32 ?_
  refine lv_iconst (v := (1 : Int32)) hx hb dX8_append_35 (by decide) ?_
  refine lv_iadd hx hb dX8_append_36 ?_
  refine lv_topi (fun z5 ez5 => ?_)
  obtain rfl : z5 = (9 : Int32) := ez5.trans (by decide)
  refine g_put C hH mt h4 iX8 tyX8 tyX8_ok nmX8 rfl 1 (by decide) wd52 rfl rfl rfl rfl (Nat.le_of_ble_eq_true rfl) (fs' := [.ref xb, .int (9 : Int32)]) rfl dX8_append_37 (fun H locs hH => ?_)
  obtain ⟨f6, ef6⟩ : ∃ z : gF, z = va_up f2 xt (.inr (8, [.ref xb, .int (9 : Int32)])) := ⟨_, rfl⟩
  have hH : gH E A L f6 s.heap H locs := by rw [ef6]; exact hH
  have h7 : f6 xt = .inr (8, [.ref xb, .int (9 : Int32)]) := (congrFun ef6 xt).trans (va_up_self _ _ _)
  refine lv_iinc (v := (16 : Int32)) (lv' := [(2, .int (16 : Int32)), (0, .ref xt), (1, .int p0)]) hx hb dX8_append_40 hl (k := 0) rfl (by decide) (by decide) rfl (fun ls hl => ?_)
  refine lv_goto (tgt := 3) hx hb dX8_append_43 (by decide) ?_
  refine lv_iload_n hx hb dX8_append_3 rfl (lv_at hl 0 rfl) ?_
  refine lv_if_lt (tgt := 46) hx hb dX8_append_4 (by decide) (fun h => absurd h (by decide)) (fun _ => ?_)
  refine lv_aload_n hx hb dX8_append_7 rfl (lv_at hl 1 rfl) ?_
  refine g_get C hH mt h7 iX8 rfl 1 (by decide) wd52 rfl rfl dX8_append_8 ?_
  refine lv_sipush (v := (800 : Int32)) hx hb dX8_append_11 (by decide) ?_
  refine lv_icmp_ge (tgt := 46) hx hb dX8_append_14 (by decide) (fun h => absurd h (by decide)) (fun _ => ?_)
  refine lv_aload_n hx hb dX8_append_17 rfl (lv_at hl 1 rfl) ?_
  refine g_get C hH mt h7 iX8 rfl 0 (by decide) wd53 rfl rfl dX8_append_18 ?_
  refine lv_aload_n hx hb dX8_append_21 rfl (lv_at hl 1 rfl) ?_
  refine g_get C hH mt h7 iX8 rfl 1 (by decide) wd52 rfl rfl dX8_append_22 ?_
  refine lv_iload_n hx hb dX8_append_25 rfl (lv_at hl 2 rfl) ?_
  refine lv_iload_n hx hb dX8_append_26 rfl (lv_at hl 0 rfl) ?_
  refine lv_ishr hx hb dX8_append_27 ?_
  refine lv_topi (fun z8 ez8 => ?_)
  refine lv_i2b (v := (z8).toInt8.toInt32) hx hb dX8_append_28 rfl ?_
  have h9 : f6 xb = .inl (E.2.2 0, 800, .inl (upd v ((8 : Int32)).toNatClampNeg (vp_nar .byte ((z1).toInt8.toInt32)))) := ((congrFun ef6 xb).trans (va_up_ne _ _ (g_neAO h3 h4))).trans h3
  refine g_bast C hH mb h9 (vp_inL (by decide)) dX8_append_29 (fun H locs hH => ?_)
  obtain ⟨f10, ef10⟩ : ∃ z : gF, z = va_up f6 xb (.inl (E.2.2 0, 800, .inl (upd (upd v ((8 : Int32)).toNatClampNeg (vp_nar .byte ((z1).toInt8.toInt32))) ((9 : Int32)).toNatClampNeg (vp_nar .byte ((z8).toInt8.toInt32))))) := ⟨_, rfl⟩
  have hH : gH E A L f10 s.heap H locs := by rw [ef10]; exact hH
  have h11 : f10 xb = .inl (E.2.2 0, 800, .inl (upd (upd v ((8 : Int32)).toNatClampNeg (vp_nar .byte ((z1).toInt8.toInt32))) ((9 : Int32)).toNatClampNeg (vp_nar .byte ((z8).toInt8.toInt32)))) := (congrFun ef10 xb).trans (va_up_self _ _ _)
  refine lv_aload_n hx hb dX8_append_30 rfl (lv_at hl 1 rfl) ?_
  refine lv_dup hx hb dX8_append_31 rfl ?_
  have h12 : f10 xt = .inr (8, [.ref xb, .int (9 : Int32)]) := ((congrFun ef10 xt).trans (va_up_ne _ _ (g_neOA h7 h9))).trans h7
  refine g_get C hH mt h12 iX8 rfl 1 (by decide) wd52 rfl rfl dX8_append_32 ?_
  refine lv_iconst (v := (1 : Int32)) hx hb dX8_append_35 (by decide) ?_
  refine lv_iadd hx hb dX8_append_36 ?_
  refine lv_topi (fun z13 ez13 => ?_)
  obtain rfl : z13 = (10 : Int32) := ez13.trans (by decide)
  refine g_put C hH mt h12 iX8 tyX8 tyX8_ok nmX8 rfl 1 (by decide) wd52 rfl rfl rfl rfl (Nat.le_of_ble_eq_true rfl) (fs' := [.ref xb, .int (10 : Int32)]) rfl dX8_append_37 (fun H locs hH => ?_)
  obtain ⟨f14, ef14⟩ : ∃ z : gF, z = va_up f10 xt (.inr (8, [.ref xb, .int (10 : Int32)])) := ⟨_, rfl⟩
  have hH : gH E A L f14 s.heap H locs := by rw [ef14]; exact hH
  have h15 : f14 xt = .inr (8, [.ref xb, .int (10 : Int32)]) := (congrFun ef14 xt).trans (va_up_self _ _ _)
  refine lv_iinc (v := (8 : Int32)) (lv' := [(2, .int (8 : Int32)), (0, .ref xt), (1, .int p0)]) hx hb dX8_append_40 hl (k := 0) rfl (by decide) (by decide) rfl (fun ls hl => ?_)
  refine lv_goto (tgt := 3) hx hb dX8_append_43 (by decide) ?_
  refine lv_iload_n hx hb dX8_append_3 rfl (lv_at hl 0 rfl) ?_
  refine lv_if_lt (tgt := 46) hx hb dX8_append_4 (by decide) (fun h => absurd h (by decide)) (fun _ => ?_)
  refine lv_aload_n hx hb dX8_append_7 rfl (lv_at hl 1 rfl) ?_
  refine g_get C hH mt h15 iX8 rfl 1 (by decide) wd52 rfl rfl dX8_append_8 ?_
  refine lv_sipush (v := (800 : Int32)) hx hb dX8_append_11 (by decide) ?_
  refine lv_icmp_ge (tgt := 46) hx hb dX8_append_14 (by decide) (fun h => absurd h (by decide)) (fun _ => ?_)
  refine lv_aload_n hx hb dX8_append_17 rfl (lv_at hl 1 rfl) ?_
  refine g_get C hH mt h15 iX8 rfl 0 (by decide) wd53 rfl rfl dX8_append_18 ?_
  refine lv_aload_n hx hb dX8_append_21 rfl (lv_at hl 1 rfl) ?_
  refine g_get C hH mt h15 iX8 rfl 1 (by decide) wd52 rfl rfl dX8_append_22 ?_
  refine lv_iload_n hx hb dX8_append_25 rfl (lv_at hl 2 rfl) ?_
  refine lv_iload_n hx hb dX8_append_26 rfl (lv_at hl 0 rfl) ?_
  refine lv_ishr hx hb dX8_append_27 ?_
  refine lv_topi (fun z16 ez16 => ?_)
  refine lv_i2b (v := (z16).toInt8.toInt32) hx hb dX8_append_28 rfl ?_
  have h17 : f14 xb = .inl (E.2.2 0, 800, .inl (upd (upd v ((8 : Int32)).toNatClampNeg (vp_nar .byte ((z1).toInt8.toInt32))) ((9 : Int32)).toNatClampNeg (vp_nar .byte ((z8).toInt8.toInt32)))) := ((congrFun ef14 xb).trans (va_up_ne _ _ (g_neAO h11 h12))).trans h11
  refine g_bast C hH mb h17 (vp_inL (by decide)) dX8_append_29 (fun H locs hH => ?_)
  obtain ⟨f18, ef18⟩ : ∃ z : gF, z = va_up f14 xb (.inl (E.2.2 0, 800, .inl (upd (upd (upd v ((8 : Int32)).toNatClampNeg (vp_nar .byte ((z1).toInt8.toInt32))) ((9 : Int32)).toNatClampNeg (vp_nar .byte ((z8).toInt8.toInt32))) ((10 : Int32)).toNatClampNeg (vp_nar .byte ((z16).toInt8.toInt32))))) := ⟨_, rfl⟩
  have hH : gH E A L f18 s.heap H locs := by rw [ef18]; exact hH
  have h19 : f18 xb = .inl (E.2.2 0, 800, .inl (upd (upd (upd v ((8 : Int32)).toNatClampNeg (vp_nar .byte ((z1).toInt8.toInt32))) ((9 : Int32)).toNatClampNeg (vp_nar .byte ((z8).toInt8.toInt32))) ((10 : Int32)).toNatClampNeg (vp_nar .byte ((z16).toInt8.toInt32)))) := (congrFun ef18 xb).trans (va_up_self _ _ _)
  refine lv_aload_n hx hb dX8_append_30 rfl (lv_at hl 1 rfl) ?_
  refine lv_dup hx hb dX8_append_31 rfl ?_
  have h20 : f18 xt = .inr (8, [.ref xb, .int (10 : Int32)]) := ((congrFun ef18 xt).trans (va_up_ne _ _ (g_neOA h15 h17))).trans h15
  refine g_get C hH mt h20 iX8 rfl 1 (by decide) wd52 rfl rfl dX8_append_32 ?_
  refine lv_iconst (v := (1 : Int32)) hx hb dX8_append_35 (by decide) ?_
  refine lv_iadd hx hb dX8_append_36 ?_
  refine lv_topi (fun z21 ez21 => ?_)
  obtain rfl : z21 = (11 : Int32) := ez21.trans (by decide)
  refine g_put C hH mt h20 iX8 tyX8 tyX8_ok nmX8 rfl 1 (by decide) wd52 rfl rfl rfl rfl (Nat.le_of_ble_eq_true rfl) (fs' := [.ref xb, .int (11 : Int32)]) rfl dX8_append_37 (fun H locs hH => ?_)
  obtain ⟨f22, ef22⟩ : ∃ z : gF, z = va_up f18 xt (.inr (8, [.ref xb, .int (11 : Int32)])) := ⟨_, rfl⟩
  have hH : gH E A L f22 s.heap H locs := by rw [ef22]; exact hH
  have h23 : f22 xt = .inr (8, [.ref xb, .int (11 : Int32)]) := (congrFun ef22 xt).trans (va_up_self _ _ _)
  refine lv_iinc (v := (0 : Int32)) (lv' := [(2, .int (0 : Int32)), (0, .ref xt), (1, .int p0)]) hx hb dX8_append_40 hl (k := 0) rfl (by decide) (by decide) rfl (fun ls hl => ?_)
  refine lv_goto (tgt := 3) hx hb dX8_append_43 (by decide) ?_
  refine lv_iload_n hx hb dX8_append_3 rfl (lv_at hl 0 rfl) ?_
  refine lv_if_lt (tgt := 46) hx hb dX8_append_4 (by decide) (fun h => absurd h (by decide)) (fun _ => ?_)
  refine lv_aload_n hx hb dX8_append_7 rfl (lv_at hl 1 rfl) ?_
  refine g_get C hH mt h23 iX8 rfl 1 (by decide) wd52 rfl rfl dX8_append_8 ?_
  refine lv_sipush (v := (800 : Int32)) hx hb dX8_append_11 (by decide) ?_
  refine lv_icmp_ge (tgt := 46) hx hb dX8_append_14 (by decide) (fun h => absurd h (by decide)) (fun _ => ?_)
  refine lv_aload_n hx hb dX8_append_17 rfl (lv_at hl 1 rfl) ?_
  refine g_get C hH mt h23 iX8 rfl 0 (by decide) wd53 rfl rfl dX8_append_18 ?_
  refine lv_aload_n hx hb dX8_append_21 rfl (lv_at hl 1 rfl) ?_
  refine g_get C hH mt h23 iX8 rfl 1 (by decide) wd52 rfl rfl dX8_append_22 ?_
  refine lv_iload_n hx hb dX8_append_25 rfl (lv_at hl 2 rfl) ?_
  refine lv_iload_n hx hb dX8_append_26 rfl (lv_at hl 0 rfl) ?_
  refine lv_ishr hx hb dX8_append_27 ?_
  refine lv_topi (fun z24 ez24 => ?_)
  refine lv_i2b (v := (z24).toInt8.toInt32) hx hb dX8_append_28 rfl ?_
  have h25 : f22 xb = .inl (E.2.2 0, 800, .inl (upd (upd (upd v ((8 : Int32)).toNatClampNeg (vp_nar .byte ((z1).toInt8.toInt32))) ((9 : Int32)).toNatClampNeg (vp_nar .byte ((z8).toInt8.toInt32))) ((10 : Int32)).toNatClampNeg (vp_nar .byte ((z16).toInt8.toInt32)))) := ((congrFun ef22 xb).trans (va_up_ne _ _ (g_neAO h19 h20))).trans h19
  refine g_bast C hH mb h25 (vp_inL (by decide)) dX8_append_29 (fun H locs hH => ?_)
  obtain ⟨f26, ef26⟩ : ∃ z : gF, z = va_up f22 xb (.inl (E.2.2 0, 800, .inl (upd (upd (upd (upd v ((8 : Int32)).toNatClampNeg (vp_nar .byte ((z1).toInt8.toInt32))) ((9 : Int32)).toNatClampNeg (vp_nar .byte ((z8).toInt8.toInt32))) ((10 : Int32)).toNatClampNeg (vp_nar .byte ((z16).toInt8.toInt32))) ((11 : Int32)).toNatClampNeg (vp_nar .byte ((z24).toInt8.toInt32))))) := ⟨_, rfl⟩
  have hH : gH E A L f26 s.heap H locs := by rw [ef26]; exact hH
  have h27 : f26 xb = .inl (E.2.2 0, 800, .inl (upd (upd (upd (upd v ((8 : Int32)).toNatClampNeg (vp_nar .byte ((z1).toInt8.toInt32))) ((9 : Int32)).toNatClampNeg (vp_nar .byte ((z8).toInt8.toInt32))) ((10 : Int32)).toNatClampNeg (vp_nar .byte ((z16).toInt8.toInt32))) ((11 : Int32)).toNatClampNeg (vp_nar .byte ((z24).toInt8.toInt32)))) := (congrFun ef26 xb).trans (va_up_self _ _ _)
  refine lv_aload_n hx hb dX8_append_30 rfl (lv_at hl 1 rfl) ?_
  refine lv_dup hx hb dX8_append_31 rfl ?_
  have h28 : f26 xt = .inr (8, [.ref xb, .int (11 : Int32)]) := ((congrFun ef26 xt).trans (va_up_ne _ _ (g_neOA h23 h25))).trans h23
  refine g_get C hH mt h28 iX8 rfl 1 (by decide) wd52 rfl rfl dX8_append_32 ?_
  refine lv_iconst (v := (1 : Int32)) hx hb dX8_append_35 (by decide) ?_
  refine lv_iadd hx hb dX8_append_36 ?_
  refine lv_topi (fun z29 ez29 => ?_)
  obtain rfl : z29 = (12 : Int32) := ez29.trans (by decide)
  refine g_put C hH mt h28 iX8 tyX8 tyX8_ok nmX8 rfl 1 (by decide) wd52 rfl rfl rfl rfl (Nat.le_of_ble_eq_true rfl) (fs' := [.ref xb, .int (12 : Int32)]) rfl dX8_append_37 (fun H locs hH => ?_)
  obtain ⟨f30, ef30⟩ : ∃ z : gF, z = va_up f26 xt (.inr (8, [.ref xb, .int (12 : Int32)])) := ⟨_, rfl⟩
  have hH : gH E A L f30 s.heap H locs := by rw [ef30]; exact hH
  have h31 : f30 xt = .inr (8, [.ref xb, .int (12 : Int32)]) := (congrFun ef30 xt).trans (va_up_self _ _ _)
  refine lv_iinc (v := (-8 : Int32)) (lv' := [(2, .int (-8 : Int32)), (0, .ref xt), (1, .int p0)]) hx hb dX8_append_40 hl (k := 0) rfl (by decide) (by decide) rfl (fun ls hl => ?_)
  refine lv_goto (tgt := 3) hx hb dX8_append_43 (by decide) ?_
  refine lv_iload_n hx hb dX8_append_3 rfl (lv_at hl 0 rfl) ?_
  refine lv_if_lt (tgt := 46) hx hb dX8_append_4 (by decide) (fun _ => ?_) (fun h => absurd (by decide) h)
  refine g_vret C hr hH (Nat.le_of_ble_eq_true rfl) (Nat.le_of_ble_eq_true rfl) dX8_append_46 ?_
  have h32 : f30 xb = .inl (E.2.2 0, 800, .inl (upd (upd (upd (upd v ((8 : Int32)).toNatClampNeg (vp_nar .byte ((z1).toInt8.toInt32))) ((9 : Int32)).toNatClampNeg (vp_nar .byte ((z8).toInt8.toInt32))) ((10 : Int32)).toNatClampNeg (vp_nar .byte ((z16).toInt8.toInt32))) ((11 : Int32)).toNatClampNeg (vp_nar .byte ((z24).toInt8.toInt32)))) := ((congrFun ef30 xb).trans (va_up_ne _ _ (g_neAO h27 h28))).trans h27
  exact ⟨rfl, h31, ⟨_, h32⟩, fun b h1 h2 => by rw [ef30, va_up_ne _ _ h1, ef26, va_up_ne _ _ h2, ef22, va_up_ne _ _ h1, ef18, va_up_ne _ _ h2, ef14, va_up_ne _ _ h1, ef10, va_up_ne _ _ h2, ef6, va_up_ne _ _ h1, ef2, va_up_ne _ _ h2]⟩
set_option maxHeartbeats 4000000 in
set_option maxRecDepth 100000 in
theorem k_append12 (l : Launch) (E : gE) (L : List Nat) (f : gF) {xt xb : Nat} {v : Nat → Int32} (mt : xt ∈ L) (ft : f xt = .inr (8, [.ref xb, .int (12 : Int32)])) (mb : xb ∈ L) (fb : f xb = .inl (E.2.2 0, 800, .inl v)) (p0 : Int32) : gMv l E yX8_append cX8_append 3 (gRm 1 0 0) [.ref xt, .int p0] L f (fun L1 f1 => L = L1 ∧ f1 xt = .inr (8, [.ref xb, .int (16 : Int32)]) ∧ (∃ z, f1 xb = .inl (E.2.2 0, 800, .inl z)) ∧ ∀ b, b ≠ xt → b ≠ xb → f1 b = f b) := by
  refine gMv.intro (by decide) (Nat.le_of_ble_eq_true rfl) ?_
  intro p e s m below meth c A ls C hr hnm hA hH hl
  have C : gC E cX8_append 3 RX8 p s m _ meth c := C
  have hl : lv_has ls 3 [(0, .ref xt), (1, .int p0)] := hl
  have hx := C.1
  have hb := C.2.1
  refine lv_bipush (v := (24 : Int32)) hx hb dX8_append_0 (by decide) ?_
  refine lv_istore_n (lv' := [(2, .int (24 : Int32)), (0, .ref xt), (1, .int p0)]) hx hb dX8_append_2 rfl hl (by decide) rfl (fun ls hl => ?_)
  refine lv_iload_n hx hb dX8_append_3 rfl (lv_at hl 0 rfl) ?_
  refine lv_if_lt (tgt := 46) hx hb dX8_append_4 (by decide) (fun h => absurd h (by decide)) (fun _ => ?_)
  refine lv_aload_n hx hb dX8_append_7 rfl (lv_at hl 1 rfl) ?_
  refine g_get C hH mt ft iX8 rfl 1 (by decide) wd52 rfl rfl dX8_append_8 ?_
  refine lv_sipush (v := (800 : Int32)) hx hb dX8_append_11 (by decide) ?_
  refine lv_icmp_ge (tgt := 46) hx hb dX8_append_14 (by decide) (fun h => absurd h (by decide)) (fun _ => ?_)
  refine lv_aload_n hx hb dX8_append_17 rfl (lv_at hl 1 rfl) ?_
  refine g_get C hH mt ft iX8 rfl 0 (by decide) wd53 rfl rfl dX8_append_18 ?_
  refine lv_aload_n hx hb dX8_append_21 rfl (lv_at hl 1 rfl) ?_
  refine g_get C hH mt ft iX8 rfl 1 (by decide) wd52 rfl rfl dX8_append_22 ?_
  refine lv_iload_n hx hb dX8_append_25 rfl (lv_at hl 2 rfl) ?_
  refine lv_iload_n hx hb dX8_append_26 rfl (lv_at hl 0 rfl) ?_
  refine lv_ishr hx hb dX8_append_27 ?_
  refine lv_topi (fun z1 ez1 => ?_)
  refine lv_i2b (v := (z1).toInt8.toInt32) hx hb dX8_append_28 rfl ?_
  refine g_bast C hH mb fb (vp_inL (by decide)) dX8_append_29 (fun H locs hH => ?_)
  obtain ⟨f2, ef2⟩ : ∃ z : gF, z = va_up f xb (.inl (E.2.2 0, 800, .inl (upd v ((12 : Int32)).toNatClampNeg (vp_nar .byte ((z1).toInt8.toInt32))))) := ⟨_, rfl⟩
  have hH : gH E A L f2 s.heap H locs := by rw [ef2]; exact hH
  have h3 : f2 xb = .inl (E.2.2 0, 800, .inl (upd v ((12 : Int32)).toNatClampNeg (vp_nar .byte ((z1).toInt8.toInt32)))) := (congrFun ef2 xb).trans (va_up_self _ _ _)
  refine lv_aload_n hx hb dX8_append_30 rfl (lv_at hl 1 rfl) ?_
  refine lv_dup hx hb dX8_append_31 rfl ?_
  have h4 : f2 xt = .inr (8, [.ref xb, .int (12 : Int32)]) := ((congrFun ef2 xt).trans (va_up_ne _ _ (g_neOA ft fb))).trans ft
  refine g_get C hH mt h4 iX8 rfl 1 (by decide) wd52 rfl rfl dX8_append_32 ?_
  refine lv_iconst (v := (1 : Int32)) hx hb dX8_append_35 (by decide) ?_
  refine lv_iadd hx hb dX8_append_36 ?_
  refine lv_topi (fun z5 ez5 => ?_)
  obtain rfl : z5 = (13 : Int32) := ez5.trans (by decide)
  refine g_put C hH mt h4 iX8 tyX8 tyX8_ok nmX8 rfl 1 (by decide) wd52 rfl rfl rfl rfl (Nat.le_of_ble_eq_true rfl) (fs' := [.ref xb, .int (13 : Int32)]) rfl dX8_append_37 (fun H locs hH => ?_)
  obtain ⟨f6, ef6⟩ : ∃ z : gF, z = va_up f2 xt (.inr (8, [.ref xb, .int (13 : Int32)])) := ⟨_, rfl⟩
  have hH : gH E A L f6 s.heap H locs := by rw [ef6]; exact hH
  have h7 : f6 xt = .inr (8, [.ref xb, .int (13 : Int32)]) := (congrFun ef6 xt).trans (va_up_self _ _ _)
  refine lv_iinc (v := (16 : Int32)) (lv' := [(2, .int (16 : Int32)), (0, .ref xt), (1, .int p0)]) hx hb dX8_append_40 hl (k := 0) rfl (by decide) (by decide) rfl (fun ls hl => ?_)
  refine lv_goto (tgt := 3) hx hb dX8_append_43 (by decide) ?_
  refine lv_iload_n hx hb dX8_append_3 rfl (lv_at hl 0 rfl) ?_
  refine lv_if_lt (tgt := 46) hx hb dX8_append_4 (by decide) (fun h => absurd h (by decide)) (fun _ => ?_)
  refine lv_aload_n hx hb dX8_append_7 rfl (lv_at hl 1 rfl) ?_
  refine g_get C hH mt h7 iX8 rfl 1 (by decide) wd52 rfl rfl dX8_append_8 ?_
  refine lv_sipush (v := (800 : Int32)) hx hb dX8_append_11 (by decide) ?_
  refine lv_icmp_ge (tgt := 46) hx hb dX8_append_14 (by decide) (fun h => absurd h (by decide)) (fun _ => ?_)
  refine lv_aload_n hx hb dX8_append_17 rfl (lv_at hl 1 rfl) ?_
  refine g_get C hH mt h7 iX8 rfl 0 (by decide) wd53 rfl rfl dX8_append_18 ?_
  refine lv_aload_n hx hb dX8_append_21 rfl (lv_at hl 1 rfl) ?_
  refine g_get C hH mt h7 iX8 rfl 1 (by decide) wd52 rfl rfl dX8_append_22 ?_
  refine lv_iload_n hx hb dX8_append_25 rfl (lv_at hl 2 rfl) ?_
  refine lv_iload_n hx hb dX8_append_26 rfl (lv_at hl 0 rfl) ?_
  refine lv_ishr hx hb dX8_append_27 ?_
  refine lv_topi (fun z8 ez8 => ?_)
  refine lv_i2b (v := (z8).toInt8.toInt32) hx hb dX8_append_28 rfl ?_
  have h9 : f6 xb = .inl (E.2.2 0, 800, .inl (upd v ((12 : Int32)).toNatClampNeg (vp_nar .byte ((z1).toInt8.toInt32)))) := ((congrFun ef6 xb).trans (va_up_ne _ _ (g_neAO h3 h4))).trans h3
  refine g_bast C hH mb h9 (vp_inL (by decide)) dX8_append_29 (fun H locs hH => ?_)
  obtain ⟨f10, ef10⟩ : ∃ z : gF, z = va_up f6 xb (.inl (E.2.2 0, 800, .inl (upd (upd v ((12 : Int32)).toNatClampNeg (vp_nar .byte ((z1).toInt8.toInt32))) ((13 : Int32)).toNatClampNeg (vp_nar .byte ((z8).toInt8.toInt32))))) := ⟨_, rfl⟩
  have hH : gH E A L f10 s.heap H locs := by rw [ef10]; exact hH
  have h11 : f10 xb = .inl (E.2.2 0, 800, .inl (upd (upd v ((12 : Int32)).toNatClampNeg (vp_nar .byte ((z1).toInt8.toInt32))) ((13 : Int32)).toNatClampNeg (vp_nar .byte ((z8).toInt8.toInt32)))) := (congrFun ef10 xb).trans (va_up_self _ _ _)
  refine lv_aload_n hx hb dX8_append_30 rfl (lv_at hl 1 rfl) ?_
  refine lv_dup hx hb dX8_append_31 rfl ?_
  have h12 : f10 xt = .inr (8, [.ref xb, .int (13 : Int32)]) := ((congrFun ef10 xt).trans (va_up_ne _ _ (g_neOA h7 h9))).trans h7
  refine g_get C hH mt h12 iX8 rfl 1 (by decide) wd52 rfl rfl dX8_append_32 ?_
  refine lv_iconst (v := (1 : Int32)) hx hb dX8_append_35 (by decide) ?_
  refine lv_iadd hx hb dX8_append_36 ?_
  refine lv_topi (fun z13 ez13 => ?_)
  obtain rfl : z13 = (14 : Int32) := ez13.trans (by decide)
  refine g_put C hH mt h12 iX8 tyX8 tyX8_ok nmX8 rfl 1 (by decide) wd52 rfl rfl rfl rfl (Nat.le_of_ble_eq_true rfl) (fs' := [.ref xb, .int (14 : Int32)]) rfl dX8_append_37 (fun H locs hH => ?_)
  obtain ⟨f14, ef14⟩ : ∃ z : gF, z = va_up f10 xt (.inr (8, [.ref xb, .int (14 : Int32)])) := ⟨_, rfl⟩
  have hH : gH E A L f14 s.heap H locs := by rw [ef14]; exact hH
  have h15 : f14 xt = .inr (8, [.ref xb, .int (14 : Int32)]) := (congrFun ef14 xt).trans (va_up_self _ _ _)
  refine lv_iinc (v := (8 : Int32)) (lv' := [(2, .int (8 : Int32)), (0, .ref xt), (1, .int p0)]) hx hb dX8_append_40 hl (k := 0) rfl (by decide) (by decide) rfl (fun ls hl => ?_)
  refine lv_goto (tgt := 3) hx hb dX8_append_43 (by decide) ?_
  refine lv_iload_n hx hb dX8_append_3 rfl (lv_at hl 0 rfl) ?_
  refine lv_if_lt (tgt := 46) hx hb dX8_append_4 (by decide) (fun h => absurd h (by decide)) (fun _ => ?_)
  refine lv_aload_n hx hb dX8_append_7 rfl (lv_at hl 1 rfl) ?_
  refine g_get C hH mt h15 iX8 rfl 1 (by decide) wd52 rfl rfl dX8_append_8 ?_
  refine lv_sipush (v := (800 : Int32)) hx hb dX8_append_11 (by decide) ?_
  refine lv_icmp_ge (tgt := 46) hx hb dX8_append_14 (by decide) (fun h => absurd h (by decide)) (fun _ => ?_)
  refine lv_aload_n hx hb dX8_append_17 rfl (lv_at hl 1 rfl) ?_
  refine g_get C hH mt h15 iX8 rfl 0 (by decide) wd53 rfl rfl dX8_append_18 ?_
  refine lv_aload_n hx hb dX8_append_21 rfl (lv_at hl 1 rfl) ?_
  refine g_get C hH mt h15 iX8 rfl 1 (by decide) wd52 rfl rfl dX8_append_22 ?_
  refine lv_iload_n hx hb dX8_append_25 rfl (lv_at hl 2 rfl) ?_
  refine lv_iload_n hx hb dX8_append_26 rfl (lv_at hl 0 rfl) ?_
  refine lv_ishr hx hb dX8_append_27 ?_
  refine lv_topi (fun z16 ez16 => ?_)
  refine lv_i2b (v := (z16).toInt8.toInt32) hx hb dX8_append_28 rfl ?_
  have h17 : f14 xb = .inl (E.2.2 0, 800, .inl (upd (upd v ((12 : Int32)).toNatClampNeg (vp_nar .byte ((z1).toInt8.toInt32))) ((13 : Int32)).toNatClampNeg (vp_nar .byte ((z8).toInt8.toInt32)))) := ((congrFun ef14 xb).trans (va_up_ne _ _ (g_neAO h11 h12))).trans h11
  refine g_bast C hH mb h17 (vp_inL (by decide)) dX8_append_29 (fun H locs hH => ?_)
  obtain ⟨f18, ef18⟩ : ∃ z : gF, z = va_up f14 xb (.inl (E.2.2 0, 800, .inl (upd (upd (upd v ((12 : Int32)).toNatClampNeg (vp_nar .byte ((z1).toInt8.toInt32))) ((13 : Int32)).toNatClampNeg (vp_nar .byte ((z8).toInt8.toInt32))) ((14 : Int32)).toNatClampNeg (vp_nar .byte ((z16).toInt8.toInt32))))) := ⟨_, rfl⟩
  have hH : gH E A L f18 s.heap H locs := by rw [ef18]; exact hH
  have h19 : f18 xb = .inl (E.2.2 0, 800, .inl (upd (upd (upd v ((12 : Int32)).toNatClampNeg (vp_nar .byte ((z1).toInt8.toInt32))) ((13 : Int32)).toNatClampNeg (vp_nar .byte ((z8).toInt8.toInt32))) ((14 : Int32)).toNatClampNeg (vp_nar .byte ((z16).toInt8.toInt32)))) := (congrFun ef18 xb).trans (va_up_self _ _ _)
  refine lv_aload_n hx hb dX8_append_30 rfl (lv_at hl 1 rfl) ?_
  refine lv_dup hx hb dX8_append_31 rfl ?_
  have h20 : f18 xt = .inr (8, [.ref xb, .int (14 : Int32)]) := ((congrFun ef18 xt).trans (va_up_ne _ _ (g_neOA h15 h17))).trans h15
  refine g_get C hH mt h20 iX8 rfl 1 (by decide) wd52 rfl rfl dX8_append_32 ?_
  refine lv_iconst (v := (1 : Int32)) hx hb dX8_append_35 (by decide) ?_
  refine lv_iadd hx hb dX8_append_36 ?_
  refine lv_topi (fun z21 ez21 => ?_)
  obtain rfl : z21 = (15 : Int32) := ez21.trans (by decide)
  refine g_put C hH mt h20 iX8 tyX8 tyX8_ok nmX8 rfl 1 (by decide) wd52 rfl rfl rfl rfl (Nat.le_of_ble_eq_true rfl) (fs' := [.ref xb, .int (15 : Int32)]) rfl dX8_append_37 (fun H locs hH => ?_)
  obtain ⟨f22, ef22⟩ : ∃ z : gF, z = va_up f18 xt (.inr (8, [.ref xb, .int (15 : Int32)])) := ⟨_, rfl⟩
  have hH : gH E A L f22 s.heap H locs := by rw [ef22]; exact hH
  have h23 : f22 xt = .inr (8, [.ref xb, .int (15 : Int32)]) := (congrFun ef22 xt).trans (va_up_self _ _ _)
  refine lv_iinc (v := (0 : Int32)) (lv' := [(2, .int (0 : Int32)), (0, .ref xt), (1, .int p0)]) hx hb dX8_append_40 hl (k := 0) rfl (by decide) (by decide) rfl (fun ls hl => ?_)
  refine lv_goto (tgt := 3) hx hb dX8_append_43 (by decide) ?_
  refine lv_iload_n hx hb dX8_append_3 rfl (lv_at hl 0 rfl) ?_
  refine lv_if_lt (tgt := 46) hx hb dX8_append_4 (by decide) (fun h => absurd h (by decide)) (fun _ => ?_)
  refine lv_aload_n hx hb dX8_append_7 rfl (lv_at hl 1 rfl) ?_
  refine g_get C hH mt h23 iX8 rfl 1 (by decide) wd52 rfl rfl dX8_append_8 ?_
  refine lv_sipush (v := (800 : Int32)) hx hb dX8_append_11 (by decide) ?_
  refine lv_icmp_ge (tgt := 46) hx hb dX8_append_14 (by decide) (fun h => absurd h (by decide)) (fun _ => ?_)
  refine lv_aload_n hx hb dX8_append_17 rfl (lv_at hl 1 rfl) ?_
  refine g_get C hH mt h23 iX8 rfl 0 (by decide) wd53 rfl rfl dX8_append_18 ?_
  refine lv_aload_n hx hb dX8_append_21 rfl (lv_at hl 1 rfl) ?_
  refine g_get C hH mt h23 iX8 rfl 1 (by decide) wd52 rfl rfl dX8_append_22 ?_
  refine lv_iload_n hx hb dX8_append_25 rfl (lv_at hl 2 rfl) ?_
  refine lv_iload_n hx hb dX8_append_26 rfl (lv_at hl 0 rfl) ?_
  refine lv_ishr hx hb dX8_append_27 ?_
  refine lv_topi (fun z24 ez24 => ?_)
  refine lv_i2b (v := (z24).toInt8.toInt32) hx hb dX8_append_28 rfl ?_
  have h25 : f22 xb = .inl (E.2.2 0, 800, .inl (upd (upd (upd v ((12 : Int32)).toNatClampNeg (vp_nar .byte ((z1).toInt8.toInt32))) ((13 : Int32)).toNatClampNeg (vp_nar .byte ((z8).toInt8.toInt32))) ((14 : Int32)).toNatClampNeg (vp_nar .byte ((z16).toInt8.toInt32)))) := ((congrFun ef22 xb).trans (va_up_ne _ _ (g_neAO h19 h20))).trans h19
  refine g_bast C hH mb h25 (vp_inL (by decide)) dX8_append_29 (fun H locs hH => ?_)
  obtain ⟨f26, ef26⟩ : ∃ z : gF, z = va_up f22 xb (.inl (E.2.2 0, 800, .inl (upd (upd (upd (upd v ((12 : Int32)).toNatClampNeg (vp_nar .byte ((z1).toInt8.toInt32))) ((13 : Int32)).toNatClampNeg (vp_nar .byte ((z8).toInt8.toInt32))) ((14 : Int32)).toNatClampNeg (vp_nar .byte ((z16).toInt8.toInt32))) ((15 : Int32)).toNatClampNeg (vp_nar .byte ((z24).toInt8.toInt32))))) := ⟨_, rfl⟩
  have hH : gH E A L f26 s.heap H locs := by rw [ef26]; exact hH
  have h27 : f26 xb = .inl (E.2.2 0, 800, .inl (upd (upd (upd (upd v ((12 : Int32)).toNatClampNeg (vp_nar .byte ((z1).toInt8.toInt32))) ((13 : Int32)).toNatClampNeg (vp_nar .byte ((z8).toInt8.toInt32))) ((14 : Int32)).toNatClampNeg (vp_nar .byte ((z16).toInt8.toInt32))) ((15 : Int32)).toNatClampNeg (vp_nar .byte ((z24).toInt8.toInt32)))) := (congrFun ef26 xb).trans (va_up_self _ _ _)
  refine lv_aload_n hx hb dX8_append_30 rfl (lv_at hl 1 rfl) ?_
  refine lv_dup hx hb dX8_append_31 rfl ?_
  have h28 : f26 xt = .inr (8, [.ref xb, .int (15 : Int32)]) := ((congrFun ef26 xt).trans (va_up_ne _ _ (g_neOA h23 h25))).trans h23
  refine g_get C hH mt h28 iX8 rfl 1 (by decide) wd52 rfl rfl dX8_append_32 ?_
  refine lv_iconst (v := (1 : Int32)) hx hb dX8_append_35 (by decide) ?_
  refine lv_iadd hx hb dX8_append_36 ?_
  refine lv_topi (fun z29 ez29 => ?_)
  obtain rfl : z29 = (16 : Int32) := ez29.trans (by decide)
  refine g_put C hH mt h28 iX8 tyX8 tyX8_ok nmX8 rfl 1 (by decide) wd52 rfl rfl rfl rfl (Nat.le_of_ble_eq_true rfl) (fs' := [.ref xb, .int (16 : Int32)]) rfl dX8_append_37 (fun H locs hH => ?_)
  obtain ⟨f30, ef30⟩ : ∃ z : gF, z = va_up f26 xt (.inr (8, [.ref xb, .int (16 : Int32)])) := ⟨_, rfl⟩
  have hH : gH E A L f30 s.heap H locs := by rw [ef30]; exact hH
  have h31 : f30 xt = .inr (8, [.ref xb, .int (16 : Int32)]) := (congrFun ef30 xt).trans (va_up_self _ _ _)
  refine lv_iinc (v := (-8 : Int32)) (lv' := [(2, .int (-8 : Int32)), (0, .ref xt), (1, .int p0)]) hx hb dX8_append_40 hl (k := 0) rfl (by decide) (by decide) rfl (fun ls hl => ?_)
  refine lv_goto (tgt := 3) hx hb dX8_append_43 (by decide) ?_
  refine lv_iload_n hx hb dX8_append_3 rfl (lv_at hl 0 rfl) ?_
  refine lv_if_lt (tgt := 46) hx hb dX8_append_4 (by decide) (fun _ => ?_) (fun h => absurd (by decide) h)
  refine g_vret C hr hH (Nat.le_of_ble_eq_true rfl) (Nat.le_of_ble_eq_true rfl) dX8_append_46 ?_
  have h32 : f30 xb = .inl (E.2.2 0, 800, .inl (upd (upd (upd (upd v ((12 : Int32)).toNatClampNeg (vp_nar .byte ((z1).toInt8.toInt32))) ((13 : Int32)).toNatClampNeg (vp_nar .byte ((z8).toInt8.toInt32))) ((14 : Int32)).toNatClampNeg (vp_nar .byte ((z16).toInt8.toInt32))) ((15 : Int32)).toNatClampNeg (vp_nar .byte ((z24).toInt8.toInt32)))) := ((congrFun ef30 xb).trans (va_up_ne _ _ (g_neAO h27 h28))).trans h27
  exact ⟨rfl, h31, ⟨_, h32⟩, fun b h1 h2 => by rw [ef30, va_up_ne _ _ h1, ef26, va_up_ne _ _ h2, ef22, va_up_ne _ _ h1, ef18, va_up_ne _ _ h2, ef14, va_up_ne _ _ h1, ef10, va_up_ne _ _ h2, ef6, va_up_ne _ _ h1, ef2, va_up_ne _ _ h2]⟩
set_option maxHeartbeats 4000000 in
set_option maxRecDepth 100000 in
theorem k_append16 (l : Launch) (E : gE) (L : List Nat) (f : gF) {xt xb : Nat} {v : Nat → Int32} (mt : xt ∈ L) (ft : f xt = .inr (8, [.ref xb, .int (16 : Int32)])) (mb : xb ∈ L) (fb : f xb = .inl (E.2.2 0, 800, .inl v)) (p0 : Int32) : gMv l E yX8_append cX8_append 3 (gRm 1 0 0) [.ref xt, .int p0] L f (fun L1 f1 => L = L1 ∧ f1 xt = .inr (8, [.ref xb, .int (20 : Int32)]) ∧ (∃ z, f1 xb = .inl (E.2.2 0, 800, .inl z)) ∧ ∀ b, b ≠ xt → b ≠ xb → f1 b = f b) := by
  refine gMv.intro (by decide) (Nat.le_of_ble_eq_true rfl) ?_
  intro p e s m below meth c A ls C hr hnm hA hH hl
  have C : gC E cX8_append 3 RX8 p s m _ meth c := C
  have hl : lv_has ls 3 [(0, .ref xt), (1, .int p0)] := hl
  have hx := C.1
  have hb := C.2.1
  refine lv_bipush (v := (24 : Int32)) hx hb dX8_append_0 (by decide) ?_
  refine lv_istore_n (lv' := [(2, .int (24 : Int32)), (0, .ref xt), (1, .int p0)]) hx hb dX8_append_2 rfl hl (by decide) rfl (fun ls hl => ?_)
  refine lv_iload_n hx hb dX8_append_3 rfl (lv_at hl 0 rfl) ?_
  refine lv_if_lt (tgt := 46) hx hb dX8_append_4 (by decide) (fun h => absurd h (by decide)) (fun _ => ?_)
  refine lv_aload_n hx hb dX8_append_7 rfl (lv_at hl 1 rfl) ?_
  refine g_get C hH mt ft iX8 rfl 1 (by decide) wd52 rfl rfl dX8_append_8 ?_
  refine lv_sipush (v := (800 : Int32)) hx hb dX8_append_11 (by decide) ?_
  refine lv_icmp_ge (tgt := 46) hx hb dX8_append_14 (by decide) (fun h => absurd h (by decide)) (fun _ => ?_)
  refine lv_aload_n hx hb dX8_append_17 rfl (lv_at hl 1 rfl) ?_
  refine g_get C hH mt ft iX8 rfl 0 (by decide) wd53 rfl rfl dX8_append_18 ?_
  refine lv_aload_n hx hb dX8_append_21 rfl (lv_at hl 1 rfl) ?_
  refine g_get C hH mt ft iX8 rfl 1 (by decide) wd52 rfl rfl dX8_append_22 ?_
  refine lv_iload_n hx hb dX8_append_25 rfl (lv_at hl 2 rfl) ?_
  refine lv_iload_n hx hb dX8_append_26 rfl (lv_at hl 0 rfl) ?_
  refine lv_ishr hx hb dX8_append_27 ?_
  refine lv_topi (fun z1 ez1 => ?_)
  refine lv_i2b (v := (z1).toInt8.toInt32) hx hb dX8_append_28 rfl ?_
  refine g_bast C hH mb fb (vp_inL (by decide)) dX8_append_29 (fun H locs hH => ?_)
  obtain ⟨f2, ef2⟩ : ∃ z : gF, z = va_up f xb (.inl (E.2.2 0, 800, .inl (upd v ((16 : Int32)).toNatClampNeg (vp_nar .byte ((z1).toInt8.toInt32))))) := ⟨_, rfl⟩
  have hH : gH E A L f2 s.heap H locs := by rw [ef2]; exact hH
  have h3 : f2 xb = .inl (E.2.2 0, 800, .inl (upd v ((16 : Int32)).toNatClampNeg (vp_nar .byte ((z1).toInt8.toInt32)))) := (congrFun ef2 xb).trans (va_up_self _ _ _)
  refine lv_aload_n hx hb dX8_append_30 rfl (lv_at hl 1 rfl) ?_
  refine lv_dup hx hb dX8_append_31 rfl ?_
  have h4 : f2 xt = .inr (8, [.ref xb, .int (16 : Int32)]) := ((congrFun ef2 xt).trans (va_up_ne _ _ (g_neOA ft fb))).trans ft
  refine g_get C hH mt h4 iX8 rfl 1 (by decide) wd52 rfl rfl dX8_append_32 ?_
  refine lv_iconst (v := (1 : Int32)) hx hb dX8_append_35 (by decide) ?_
  refine lv_iadd hx hb dX8_append_36 ?_
  refine lv_topi (fun z5 ez5 => ?_)
  obtain rfl : z5 = (17 : Int32) := ez5.trans (by decide)
  refine g_put C hH mt h4 iX8 tyX8 tyX8_ok nmX8 rfl 1 (by decide) wd52 rfl rfl rfl rfl (Nat.le_of_ble_eq_true rfl) (fs' := [.ref xb, .int (17 : Int32)]) rfl dX8_append_37 (fun H locs hH => ?_)
  obtain ⟨f6, ef6⟩ : ∃ z : gF, z = va_up f2 xt (.inr (8, [.ref xb, .int (17 : Int32)])) := ⟨_, rfl⟩
  have hH : gH E A L f6 s.heap H locs := by rw [ef6]; exact hH
  have h7 : f6 xt = .inr (8, [.ref xb, .int (17 : Int32)]) := (congrFun ef6 xt).trans (va_up_self _ _ _)
  refine lv_iinc (v := (16 : Int32)) (lv' := [(2, .int (16 : Int32)), (0, .ref xt), (1, .int p0)]) hx hb dX8_append_40 hl (k := 0) rfl (by decide) (by decide) rfl (fun ls hl => ?_)
  refine lv_goto (tgt := 3) hx hb dX8_append_43 (by decide) ?_
  refine lv_iload_n hx hb dX8_append_3 rfl (lv_at hl 0 rfl) ?_
  refine lv_if_lt (tgt := 46) hx hb dX8_append_4 (by decide) (fun h => absurd h (by decide)) (fun _ => ?_)
  refine lv_aload_n hx hb dX8_append_7 rfl (lv_at hl 1 rfl) ?_
  refine g_get C hH mt h7 iX8 rfl 1 (by decide) wd52 rfl rfl dX8_append_8 ?_
  refine lv_sipush (v := (800 : Int32)) hx hb dX8_append_11 (by decide) ?_
  refine lv_icmp_ge (tgt := 46) hx hb dX8_append_14 (by decide) (fun h => absurd h (by decide)) (fun _ => ?_)
  refine lv_aload_n hx hb dX8_append_17 rfl (lv_at hl 1 rfl) ?_
  refine g_get C hH mt h7 iX8 rfl 0 (by decide) wd53 rfl rfl dX8_append_18 ?_
  refine lv_aload_n hx hb dX8_append_21 rfl (lv_at hl 1 rfl) ?_
  refine g_get C hH mt h7 iX8 rfl 1 (by decide) wd52 rfl rfl dX8_append_22 ?_
  refine lv_iload_n hx hb dX8_append_25 rfl (lv_at hl 2 rfl) ?_
  refine lv_iload_n hx hb dX8_append_26 rfl (lv_at hl 0 rfl) ?_
  refine lv_ishr hx hb dX8_append_27 ?_
  refine lv_topi (fun z8 ez8 => ?_)
  refine lv_i2b (v := (z8).toInt8.toInt32) hx hb dX8_append_28 rfl ?_
  have h9 : f6 xb = .inl (E.2.2 0, 800, .inl (upd v ((16 : Int32)).toNatClampNeg (vp_nar .byte ((z1).toInt8.toInt32)))) := ((congrFun ef6 xb).trans (va_up_ne _ _ (g_neAO h3 h4))).trans h3
  refine g_bast C hH mb h9 (vp_inL (by decide)) dX8_append_29 (fun H locs hH => ?_)
  obtain ⟨f10, ef10⟩ : ∃ z : gF, z = va_up f6 xb (.inl (E.2.2 0, 800, .inl (upd (upd v ((16 : Int32)).toNatClampNeg (vp_nar .byte ((z1).toInt8.toInt32))) ((17 : Int32)).toNatClampNeg (vp_nar .byte ((z8).toInt8.toInt32))))) := ⟨_, rfl⟩
  have hH : gH E A L f10 s.heap H locs := by rw [ef10]; exact hH
  have h11 : f10 xb = .inl (E.2.2 0, 800, .inl (upd (upd v ((16 : Int32)).toNatClampNeg (vp_nar .byte ((z1).toInt8.toInt32))) ((17 : Int32)).toNatClampNeg (vp_nar .byte ((z8).toInt8.toInt32)))) := (congrFun ef10 xb).trans (va_up_self _ _ _)
  refine lv_aload_n hx hb dX8_append_30 rfl (lv_at hl 1 rfl) ?_
  refine lv_dup hx hb dX8_append_31 rfl ?_
  have h12 : f10 xt = .inr (8, [.ref xb, .int (17 : Int32)]) := ((congrFun ef10 xt).trans (va_up_ne _ _ (g_neOA h7 h9))).trans h7
  refine g_get C hH mt h12 iX8 rfl 1 (by decide) wd52 rfl rfl dX8_append_32 ?_
  refine lv_iconst (v := (1 : Int32)) hx hb dX8_append_35 (by decide) ?_
  refine lv_iadd hx hb dX8_append_36 ?_
  refine lv_topi (fun z13 ez13 => ?_)
  obtain rfl : z13 = (18 : Int32) := ez13.trans (by decide)
  refine g_put C hH mt h12 iX8 tyX8 tyX8_ok nmX8 rfl 1 (by decide) wd52 rfl rfl rfl rfl (Nat.le_of_ble_eq_true rfl) (fs' := [.ref xb, .int (18 : Int32)]) rfl dX8_append_37 (fun H locs hH => ?_)
  obtain ⟨f14, ef14⟩ : ∃ z : gF, z = va_up f10 xt (.inr (8, [.ref xb, .int (18 : Int32)])) := ⟨_, rfl⟩
  have hH : gH E A L f14 s.heap H locs := by rw [ef14]; exact hH
  have h15 : f14 xt = .inr (8, [.ref xb, .int (18 : Int32)]) := (congrFun ef14 xt).trans (va_up_self _ _ _)
  refine lv_iinc (v := (8 : Int32)) (lv' := [(2, .int (8 : Int32)), (0, .ref xt), (1, .int p0)]) hx hb dX8_append_40 hl (k := 0) rfl (by decide) (by decide) rfl (fun ls hl => ?_)
  refine lv_goto (tgt := 3) hx hb dX8_append_43 (by decide) ?_
  refine lv_iload_n hx hb dX8_append_3 rfl (lv_at hl 0 rfl) ?_
  refine lv_if_lt (tgt := 46) hx hb dX8_append_4 (by decide) (fun h => absurd h (by decide)) (fun _ => ?_)
  refine lv_aload_n hx hb dX8_append_7 rfl (lv_at hl 1 rfl) ?_
  refine g_get C hH mt h15 iX8 rfl 1 (by decide) wd52 rfl rfl dX8_append_8 ?_
  refine lv_sipush (v := (800 : Int32)) hx hb dX8_append_11 (by decide) ?_
  refine lv_icmp_ge (tgt := 46) hx hb dX8_append_14 (by decide) (fun h => absurd h (by decide)) (fun _ => ?_)
  refine lv_aload_n hx hb dX8_append_17 rfl (lv_at hl 1 rfl) ?_
  refine g_get C hH mt h15 iX8 rfl 0 (by decide) wd53 rfl rfl dX8_append_18 ?_
  refine lv_aload_n hx hb dX8_append_21 rfl (lv_at hl 1 rfl) ?_
  refine g_get C hH mt h15 iX8 rfl 1 (by decide) wd52 rfl rfl dX8_append_22 ?_
  refine lv_iload_n hx hb dX8_append_25 rfl (lv_at hl 2 rfl) ?_
  refine lv_iload_n hx hb dX8_append_26 rfl (lv_at hl 0 rfl) ?_
  refine lv_ishr hx hb dX8_append_27 ?_
  refine lv_topi (fun z16 ez16 => ?_)
  refine lv_i2b (v := (z16).toInt8.toInt32) hx hb dX8_append_28 rfl ?_
  have h17 : f14 xb = .inl (E.2.2 0, 800, .inl (upd (upd v ((16 : Int32)).toNatClampNeg (vp_nar .byte ((z1).toInt8.toInt32))) ((17 : Int32)).toNatClampNeg (vp_nar .byte ((z8).toInt8.toInt32)))) := ((congrFun ef14 xb).trans (va_up_ne _ _ (g_neAO h11 h12))).trans h11
  refine g_bast C hH mb h17 (vp_inL (by decide)) dX8_append_29 (fun H locs hH => ?_)
  obtain ⟨f18, ef18⟩ : ∃ z : gF, z = va_up f14 xb (.inl (E.2.2 0, 800, .inl (upd (upd (upd v ((16 : Int32)).toNatClampNeg (vp_nar .byte ((z1).toInt8.toInt32))) ((17 : Int32)).toNatClampNeg (vp_nar .byte ((z8).toInt8.toInt32))) ((18 : Int32)).toNatClampNeg (vp_nar .byte ((z16).toInt8.toInt32))))) := ⟨_, rfl⟩
  have hH : gH E A L f18 s.heap H locs := by rw [ef18]; exact hH
  have h19 : f18 xb = .inl (E.2.2 0, 800, .inl (upd (upd (upd v ((16 : Int32)).toNatClampNeg (vp_nar .byte ((z1).toInt8.toInt32))) ((17 : Int32)).toNatClampNeg (vp_nar .byte ((z8).toInt8.toInt32))) ((18 : Int32)).toNatClampNeg (vp_nar .byte ((z16).toInt8.toInt32)))) := (congrFun ef18 xb).trans (va_up_self _ _ _)
  refine lv_aload_n hx hb dX8_append_30 rfl (lv_at hl 1 rfl) ?_
  refine lv_dup hx hb dX8_append_31 rfl ?_
  have h20 : f18 xt = .inr (8, [.ref xb, .int (18 : Int32)]) := ((congrFun ef18 xt).trans (va_up_ne _ _ (g_neOA h15 h17))).trans h15
  refine g_get C hH mt h20 iX8 rfl 1 (by decide) wd52 rfl rfl dX8_append_32 ?_
  refine lv_iconst (v := (1 : Int32)) hx hb dX8_append_35 (by decide) ?_
  refine lv_iadd hx hb dX8_append_36 ?_
  refine lv_topi (fun z21 ez21 => ?_)
  obtain rfl : z21 = (19 : Int32) := ez21.trans (by decide)
  refine g_put C hH mt h20 iX8 tyX8 tyX8_ok nmX8 rfl 1 (by decide) wd52 rfl rfl rfl rfl (Nat.le_of_ble_eq_true rfl) (fs' := [.ref xb, .int (19 : Int32)]) rfl dX8_append_37 (fun H locs hH => ?_)
  obtain ⟨f22, ef22⟩ : ∃ z : gF, z = va_up f18 xt (.inr (8, [.ref xb, .int (19 : Int32)])) := ⟨_, rfl⟩
  have hH : gH E A L f22 s.heap H locs := by rw [ef22]; exact hH
  have h23 : f22 xt = .inr (8, [.ref xb, .int (19 : Int32)]) := (congrFun ef22 xt).trans (va_up_self _ _ _)
  refine lv_iinc (v := (0 : Int32)) (lv' := [(2, .int (0 : Int32)), (0, .ref xt), (1, .int p0)]) hx hb dX8_append_40 hl (k := 0) rfl (by decide) (by decide) rfl (fun ls hl => ?_)
  refine lv_goto (tgt := 3) hx hb dX8_append_43 (by decide) ?_
  refine lv_iload_n hx hb dX8_append_3 rfl (lv_at hl 0 rfl) ?_
  refine lv_if_lt (tgt := 46) hx hb dX8_append_4 (by decide) (fun h => absurd h (by decide)) (fun _ => ?_)
  refine lv_aload_n hx hb dX8_append_7 rfl (lv_at hl 1 rfl) ?_
  refine g_get C hH mt h23 iX8 rfl 1 (by decide) wd52 rfl rfl dX8_append_8 ?_
  refine lv_sipush (v := (800 : Int32)) hx hb dX8_append_11 (by decide) ?_
  refine lv_icmp_ge (tgt := 46) hx hb dX8_append_14 (by decide) (fun h => absurd h (by decide)) (fun _ => ?_)
  refine lv_aload_n hx hb dX8_append_17 rfl (lv_at hl 1 rfl) ?_
  refine g_get C hH mt h23 iX8 rfl 0 (by decide) wd53 rfl rfl dX8_append_18 ?_
  refine lv_aload_n hx hb dX8_append_21 rfl (lv_at hl 1 rfl) ?_
  refine g_get C hH mt h23 iX8 rfl 1 (by decide) wd52 rfl rfl dX8_append_22 ?_
  refine lv_iload_n hx hb dX8_append_25 rfl (lv_at hl 2 rfl) ?_
  refine lv_iload_n hx hb dX8_append_26 rfl (lv_at hl 0 rfl) ?_
  refine lv_ishr hx hb dX8_append_27 ?_
  refine lv_topi (fun z24 ez24 => ?_)
  refine lv_i2b (v := (z24).toInt8.toInt32) hx hb dX8_append_28 rfl ?_
  have h25 : f22 xb = .inl (E.2.2 0, 800, .inl (upd (upd (upd v ((16 : Int32)).toNatClampNeg (vp_nar .byte ((z1).toInt8.toInt32))) ((17 : Int32)).toNatClampNeg (vp_nar .byte ((z8).toInt8.toInt32))) ((18 : Int32)).toNatClampNeg (vp_nar .byte ((z16).toInt8.toInt32)))) := ((congrFun ef22 xb).trans (va_up_ne _ _ (g_neAO h19 h20))).trans h19
  refine g_bast C hH mb h25 (vp_inL (by decide)) dX8_append_29 (fun H locs hH => ?_)
  obtain ⟨f26, ef26⟩ : ∃ z : gF, z = va_up f22 xb (.inl (E.2.2 0, 800, .inl (upd (upd (upd (upd v ((16 : Int32)).toNatClampNeg (vp_nar .byte ((z1).toInt8.toInt32))) ((17 : Int32)).toNatClampNeg (vp_nar .byte ((z8).toInt8.toInt32))) ((18 : Int32)).toNatClampNeg (vp_nar .byte ((z16).toInt8.toInt32))) ((19 : Int32)).toNatClampNeg (vp_nar .byte ((z24).toInt8.toInt32))))) := ⟨_, rfl⟩
  have hH : gH E A L f26 s.heap H locs := by rw [ef26]; exact hH
  have h27 : f26 xb = .inl (E.2.2 0, 800, .inl (upd (upd (upd (upd v ((16 : Int32)).toNatClampNeg (vp_nar .byte ((z1).toInt8.toInt32))) ((17 : Int32)).toNatClampNeg (vp_nar .byte ((z8).toInt8.toInt32))) ((18 : Int32)).toNatClampNeg (vp_nar .byte ((z16).toInt8.toInt32))) ((19 : Int32)).toNatClampNeg (vp_nar .byte ((z24).toInt8.toInt32)))) := (congrFun ef26 xb).trans (va_up_self _ _ _)
  refine lv_aload_n hx hb dX8_append_30 rfl (lv_at hl 1 rfl) ?_
  refine lv_dup hx hb dX8_append_31 rfl ?_
  have h28 : f26 xt = .inr (8, [.ref xb, .int (19 : Int32)]) := ((congrFun ef26 xt).trans (va_up_ne _ _ (g_neOA h23 h25))).trans h23
  refine g_get C hH mt h28 iX8 rfl 1 (by decide) wd52 rfl rfl dX8_append_32 ?_
  refine lv_iconst (v := (1 : Int32)) hx hb dX8_append_35 (by decide) ?_
  refine lv_iadd hx hb dX8_append_36 ?_
  refine lv_topi (fun z29 ez29 => ?_)
  obtain rfl : z29 = (20 : Int32) := ez29.trans (by decide)
  refine g_put C hH mt h28 iX8 tyX8 tyX8_ok nmX8 rfl 1 (by decide) wd52 rfl rfl rfl rfl (Nat.le_of_ble_eq_true rfl) (fs' := [.ref xb, .int (20 : Int32)]) rfl dX8_append_37 (fun H locs hH => ?_)
  obtain ⟨f30, ef30⟩ : ∃ z : gF, z = va_up f26 xt (.inr (8, [.ref xb, .int (20 : Int32)])) := ⟨_, rfl⟩
  have hH : gH E A L f30 s.heap H locs := by rw [ef30]; exact hH
  have h31 : f30 xt = .inr (8, [.ref xb, .int (20 : Int32)]) := (congrFun ef30 xt).trans (va_up_self _ _ _)
  refine lv_iinc (v := (-8 : Int32)) (lv' := [(2, .int (-8 : Int32)), (0, .ref xt), (1, .int p0)]) hx hb dX8_append_40 hl (k := 0) rfl (by decide) (by decide) rfl (fun ls hl => ?_)
  refine lv_goto (tgt := 3) hx hb dX8_append_43 (by decide) ?_
  refine lv_iload_n hx hb dX8_append_3 rfl (lv_at hl 0 rfl) ?_
  refine lv_if_lt (tgt := 46) hx hb dX8_append_4 (by decide) (fun _ => ?_) (fun h => absurd (by decide) h)
  refine g_vret C hr hH (Nat.le_of_ble_eq_true rfl) (Nat.le_of_ble_eq_true rfl) dX8_append_46 ?_
  have h32 : f30 xb = .inl (E.2.2 0, 800, .inl (upd (upd (upd (upd v ((16 : Int32)).toNatClampNeg (vp_nar .byte ((z1).toInt8.toInt32))) ((17 : Int32)).toNatClampNeg (vp_nar .byte ((z8).toInt8.toInt32))) ((18 : Int32)).toNatClampNeg (vp_nar .byte ((z16).toInt8.toInt32))) ((19 : Int32)).toNatClampNeg (vp_nar .byte ((z24).toInt8.toInt32)))) := ((congrFun ef30 xb).trans (va_up_ne _ _ (g_neAO h27 h28))).trans h27
  exact ⟨rfl, h31, ⟨_, h32⟩, fun b h1 h2 => by rw [ef30, va_up_ne _ _ h1, ef26, va_up_ne _ _ h2, ef22, va_up_ne _ _ h1, ef18, va_up_ne _ _ h2, ef14, va_up_ne _ _ h1, ef10, va_up_ne _ _ h2, ef6, va_up_ne _ _ h1, ef2, va_up_ne _ _ h2]⟩
set_option maxHeartbeats 4000000 in
set_option maxRecDepth 100000 in
theorem k_feed (l : Launch) (E : gE) (L : List Nat) (f : gF) {x xt xn xr xi xw xs xl xc xh xf xm : Nat} (mx : x ∈ L) (fx : f x = .inr (9, [.ref xt, .ref xn, .ref xr, .ref xi, .ref xw, .ref xs, .ref xl, .ref xc, .ref xh, .ref xf, .ref xm])) {xb : Nat} {v : Nat → Int32} (mt : xt ∈ L) (ft : f xt = .inr (8, [.ref xb, .int (0 : Int32)])) (mb : xb ∈ L) (fb : f xb = .inl (E.2.2 0, 800, .inl v)) (p0 p1 p2 p3 p4 : Int32) : gMi l E yX9_feed cX9_feed 6 .int (gRm 3 0 0) [.ref x, .int p0, .int p1, .int p2, .int p3, .int p4] L f (fun r _ _ => r = 20) := by
  refine gMi.intro (by decide) (Nat.le_of_ble_eq_true rfl) ?_
  intro p e s m below meth c A ls C hr hA hH hl
  have C : gC E cX9_feed 6 RX9 p s m _ meth c := C
  have hl : lv_has ls 6 [(0, .ref x), (1, .int p0), (2, .int p1), (3, .int p2), (4, .int p3), (5, .int p4)] := hl
  have hx := C.1
  have hb := C.2.1
  refine lv_aload_n hx hb dX9_feed_0 rfl (lv_at hl 0 rfl) ?_
  refine g_get C hH mx fx iX9 rfl 0 (by decide) wd54 rfl rfl dX9_feed_1 ?_
  refine g_get C hH mt ft iX8 rfl 1 (by decide) wd55 rfl rfl dX9_feed_4 ?_
  refine lv_bipush (v := (20 : Int32)) hx hb dX9_feed_7 (by decide) ?_
  refine lv_iadd hx hb dX9_feed_9 ?_
  refine lv_topi (fun z1 ez1 => ?_)
  obtain rfl : z1 = (20 : Int32) := ez1.trans (by decide)
  refine lv_sipush (v := (800 : Int32)) hx hb dX9_feed_10 (by decide) ?_
  refine lv_icmp_le (tgt := 18) hx hb dX9_feed_13 (by decide) (fun _ => ?_) (fun h => absurd (by decide) h)
  refine lv_aload_n hx hb dX9_feed_18 rfl (lv_at hl 0 rfl) ?_
  refine g_get C hH mx fx iX9 rfl 0 (by decide) wd54 rfl rfl dX9_feed_19 ?_
  refine lv_iload_n hx hb dX9_feed_22 rfl (lv_at hl 1 rfl) ?_
  refine g_Vv C hl.1 hA hH (As := [.int p0]) (rest := []) (k_append0 l E L f mt ft mb fb p0) my_X8_append wd60 mt ft rfl rfl rfl (Nat.le_of_ble_eq_true rfl) ⟨Nat.le_of_ble_eq_true rfl, Nat.le_of_ble_eq_true rfl⟩ ⟨Nat.le_of_ble_eq_true rfl, Nat.le_of_ble_eq_true rfl⟩ dX9_feed_23 (fun L3 f2 H locs hp hH => ?_)
  obtain ⟨rfl, h4, ⟨v5, h6⟩, k7⟩ := hp
  refine lv_aload_n hx hb dX9_feed_26 rfl (lv_at hl 0 rfl) ?_
  have h8 : f2 x = .inr (9, [.ref xt, .ref xn, .ref xr, .ref xi, .ref xw, .ref xs, .ref xl, .ref xc, .ref xh, .ref xf, .ref xm]) := (k7 x (g_neO fx ft (by decide)) (g_neOA fx fb)).trans fx
  refine g_get C hH mx h8 iX9 rfl 0 (by decide) wd54 rfl rfl dX9_feed_27 ?_
  refine lv_iload_n hx hb dX9_feed_30 rfl (lv_at hl 2 rfl) ?_
  refine g_Vv C hl.1 hA hH (As := [.int p1]) (rest := []) (k_append4 l E L f2 mt h4 mb h6 p1) my_X8_append wd60 mt h4 rfl rfl rfl (Nat.le_of_ble_eq_true rfl) ⟨Nat.le_of_ble_eq_true rfl, Nat.le_of_ble_eq_true rfl⟩ ⟨Nat.le_of_ble_eq_true rfl, Nat.le_of_ble_eq_true rfl⟩ dX9_feed_31 (fun L10 f9 H locs hp hH => ?_)
  obtain ⟨rfl, h11, ⟨v12, h13⟩, k14⟩ := hp
  refine lv_aload_n hx hb dX9_feed_34 rfl (lv_at hl 0 rfl) ?_
  have h15 : f9 x = .inr (9, [.ref xt, .ref xn, .ref xr, .ref xi, .ref xw, .ref xs, .ref xl, .ref xc, .ref xh, .ref xf, .ref xm]) := (k14 x (g_neO h8 h4 (by decide)) (g_neOA h8 h6)).trans h8
  refine g_get C hH mx h15 iX9 rfl 0 (by decide) wd54 rfl rfl dX9_feed_35 ?_
  refine lv_iload_n hx hb dX9_feed_38 rfl (lv_at hl 3 rfl) ?_
  refine g_Vv C hl.1 hA hH (As := [.int p2]) (rest := []) (k_append8 l E L f9 mt h11 mb h13 p2) my_X8_append wd60 mt h11 rfl rfl rfl (Nat.le_of_ble_eq_true rfl) ⟨Nat.le_of_ble_eq_true rfl, Nat.le_of_ble_eq_true rfl⟩ ⟨Nat.le_of_ble_eq_true rfl, Nat.le_of_ble_eq_true rfl⟩ dX9_feed_39 (fun L17 f16 H locs hp hH => ?_)
  obtain ⟨rfl, h18, ⟨v19, h20⟩, k21⟩ := hp
  refine lv_aload_n hx hb dX9_feed_42 rfl (lv_at hl 0 rfl) ?_
  have h22 : f16 x = .inr (9, [.ref xt, .ref xn, .ref xr, .ref xi, .ref xw, .ref xs, .ref xl, .ref xc, .ref xh, .ref xf, .ref xm]) := (k21 x (g_neO h15 h11 (by decide)) (g_neOA h15 h13)).trans h15
  refine g_get C hH mx h22 iX9 rfl 0 (by decide) wd54 rfl rfl dX9_feed_43 ?_
  refine lv_iload hx hb dX9_feed_46 (lv_at hl 4 rfl) ?_
  refine g_Vv C hl.1 hA hH (As := [.int p3]) (rest := []) (k_append12 l E L f16 mt h18 mb h20 p3) my_X8_append wd60 mt h18 rfl rfl rfl (Nat.le_of_ble_eq_true rfl) ⟨Nat.le_of_ble_eq_true rfl, Nat.le_of_ble_eq_true rfl⟩ ⟨Nat.le_of_ble_eq_true rfl, Nat.le_of_ble_eq_true rfl⟩ dX9_feed_48 (fun L24 f23 H locs hp hH => ?_)
  obtain ⟨rfl, h25, ⟨v26, h27⟩, k28⟩ := hp
  refine lv_aload_n hx hb dX9_feed_51 rfl (lv_at hl 0 rfl) ?_
  have h29 : f23 x = .inr (9, [.ref xt, .ref xn, .ref xr, .ref xi, .ref xw, .ref xs, .ref xl, .ref xc, .ref xh, .ref xf, .ref xm]) := (k28 x (g_neO h22 h18 (by decide)) (g_neOA h22 h20)).trans h22
  refine g_get C hH mx h29 iX9 rfl 0 (by decide) wd54 rfl rfl dX9_feed_52 ?_
  refine lv_iload hx hb dX9_feed_55 (lv_at hl 5 rfl) ?_
  refine g_Vv C hl.1 hA hH (As := [.int p4]) (rest := []) (k_append16 l E L f23 mt h25 mb h27 p4) my_X8_append wd60 mt h25 rfl rfl rfl (Nat.le_of_ble_eq_true rfl) ⟨Nat.le_of_ble_eq_true rfl, Nat.le_of_ble_eq_true rfl⟩ ⟨Nat.le_of_ble_eq_true rfl, Nat.le_of_ble_eq_true rfl⟩ dX9_feed_57 (fun L31 f30 H locs hp hH => ?_)
  obtain ⟨rfl, h32, ⟨v33, h34⟩, k35⟩ := hp
  refine lv_aload_n hx hb dX9_feed_60 rfl (lv_at hl 0 rfl) ?_
  have h36 : f30 x = .inr (9, [.ref xt, .ref xn, .ref xr, .ref xi, .ref xw, .ref xs, .ref xl, .ref xc, .ref xh, .ref xf, .ref xm]) := (k35 x (g_neO h29 h25 (by decide)) (g_neOA h29 h27)).trans h29
  refine g_get C hH mx h36 iX9 rfl 0 (by decide) wd54 rfl rfl dX9_feed_61 ?_
  refine g_get C hH mt h32 iX8 rfl 1 (by decide) wd55 rfl rfl dX9_feed_64 ?_
  refine g_iret C hr hH (Nat.le_of_ble_eq_true rfl) (Nat.le_of_ble_eq_true rfl) dX9_feed_67 ?_
  exact rfl
set_option maxHeartbeats 4000000 in
set_option maxRecDepth 100000 in
theorem k_end (l : Launch) (E : gE) (L : List Nat) (f : gF) {x xt xn xr xi xw xs xl xc xh xf xm : Nat} (mx : x ∈ L) (fx : f x = .inr (9, [.ref xt, .ref xn, .ref xr, .ref xi, .ref xw, .ref xs, .ref xl, .ref xc, .ref xh, .ref xf, .ref xm])) {xb : Nat} {v : Nat → Int32} (mt : xt ∈ L) (ft : f xt = .inr (8, [.ref xb, .int (0 : Int32)])) (mb : xb ∈ L) (fb : f xb = .inl (E.2.2 0, 800, .inl v)) (p0 : Int32) : gMi l E yX9_end cX9_end 2 .int (gRm 1 0 0) [.ref x, .int p0] L f (fun r _ _ => r = gEnd p0) := by
  refine gMi.intro (by decide) (Nat.le_of_ble_eq_true rfl) ?_
  intro p e s m below meth c A ls C hr hA hH hl
  have C : gC E cX9_end 2 RX9 p s m _ meth c := C
  have hl : lv_has ls 2 [(0, .ref x), (1, .int p0)] := hl
  have hx := C.1
  have hb := C.2.1
  refine lv_iload_n hx hb dX9_end_0 rfl (lv_at hl 1 rfl) ?_
  refine lv_if_lt (tgt := 15) hx hb dX9_end_1 (by decide) (fun c1 => ?_) (fun c1 => ?_)
  · skip
    refine lv_iconst (v := (-1 : Int32)) hx hb dX9_end_15 (by decide) ?_
    refine g_iret C hr hH (Nat.le_of_ble_eq_true rfl) (Nat.le_of_ble_eq_true rfl) dX9_end_16 ?_
    exact (by rw [gEnd, if_pos c1])
  · skip
    refine lv_iload_n hx hb dX9_end_4 rfl (lv_at hl 1 rfl) ?_
    refine lv_aload_n hx hb dX9_end_5 rfl (lv_at hl 0 rfl) ?_
    refine g_get C hH mx fx iX9 rfl 0 (by decide) wd54 rfl rfl dX9_end_6 ?_
    refine g_get C hH mt ft iX8 rfl 1 (by decide) wd55 rfl rfl dX9_end_9 ?_
    refine lv_icmp_le (tgt := 17) hx hb dX9_end_12 (by decide) (fun c2 => ?_) (fun c2 => ?_)
    · skip
      refine lv_aload_n hx hb dX9_end_17 rfl (lv_at hl 0 rfl) ?_
      refine g_get C hH mx fx iX9 rfl 0 (by decide) wd54 rfl rfl dX9_end_18 ?_
      refine lv_iload_n hx hb dX9_end_21 rfl (lv_at hl 1 rfl) ?_
      refine g_put C hH mt ft iX8 tyX8 tyX8_ok nmX8 rfl 1 (by decide) wd55 rfl rfl rfl rfl (Nat.le_of_ble_eq_true rfl) (fs' := [.ref xb, .int p0]) rfl dX9_end_22 (fun H locs hH => ?_)
      obtain ⟨f3, ef3⟩ : ∃ z : gF, z = va_up f xt (.inr (8, [.ref xb, .int p0])) := ⟨_, rfl⟩
      have hH : gH E A L f3 s.heap H locs := by rw [ef3]; exact hH
      have h4 : f3 xt = .inr (8, [.ref xb, .int p0]) := (congrFun ef3 xt).trans (va_up_self _ _ _)
      refine lv_iload_n hx hb dX9_end_25 rfl (lv_at hl 1 rfl) ?_
      refine g_iret C hr hH (Nat.le_of_ble_eq_true rfl) (Nat.le_of_ble_eq_true rfl) dX9_end_26 ?_
      exact (by rw [gEnd, if_neg c1, if_pos c2])
    · skip
      refine lv_iconst (v := (-1 : Int32)) hx hb dX9_end_15 (by decide) ?_
      refine g_iret C hr hH (Nat.le_of_ble_eq_true rfl) (Nat.le_of_ble_eq_true rfl) dX9_end_16 ?_
      exact (by rw [gEnd, if_neg c1, if_neg c2])
set_option maxHeartbeats 4000000 in
set_option maxRecDepth 100000 in
theorem k_fault (l : Launch) (E : gE) (L : List Nat) (f : gF) {x xt xn xr xi xw xs xl xc xh xf xm : Nat} (mx : x ∈ L) (fx : f x = .inr (9, [.ref xt, .ref xn, .ref xr, .ref xi, .ref xw, .ref xs, .ref xl, .ref xc, .ref xh, .ref xf, .ref xm])) {xd : Nat} (mr : xr ∈ L) (fr : f xr = .inr (5, [.ref xt, .ref xd, .int (0 : Int32), .int (0 : Int32), .int (0 : Int32), .int (0 : Int32), .int (-1 : Int32)])) (p0 : Int32) : gMi l E yX9_fault cX9_fault 2 .int (gRm 1 0 0) [.ref x, .int p0] L f (fun r _ _ => r = gFault p0) := by
  refine gMi.intro (by decide) (Nat.le_of_ble_eq_true rfl) ?_
  intro p e s m below meth c A ls C hr hA hH hl
  have C : gC E cX9_fault 2 RX9 p s m _ meth c := C
  have hl : lv_has ls 2 [(0, .ref x), (1, .int p0)] := hl
  have hx := C.1
  have hb := C.2.1
  refine lv_iload_n hx hb dX9_fault_0 rfl (lv_at hl 1 rfl) ?_
  refine lv_if_ne (tgt := 12) hx hb dX9_fault_1 (by decide) (fun c1 => ?_) (fun c1 => ?_)
  · skip
    refine lv_iload_n hx hb dX9_fault_12 rfl (lv_at hl 1 rfl) ?_
    refine lv_iconst (v := (1 : Int32)) hx hb dX9_fault_13 (by decide) ?_
    refine lv_icmp_ne (tgt := 27) hx hb dX9_fault_14 (by decide) (fun c2 => ?_) (fun c2 => ?_)
    · skip
      refine lv_iconst (v := (-1 : Int32)) hx hb dX9_fault_27 (by decide) ?_
      refine g_iret C hr hH (Nat.le_of_ble_eq_true rfl) (Nat.le_of_ble_eq_true rfl) dX9_fault_28 ?_
      exact (by rw [gFault, if_neg c1])
    · skip
      refine lv_aload_n hx hb dX9_fault_17 rfl (lv_at hl 0 rfl) ?_
      refine g_get C hH mx fx iX9 rfl 2 (by decide) wd61 rfl rfl dX9_fault_18 ?_
      refine g_get C hH mr fr iX5 rfl 6 (by decide) wd62 rfl rfl dX9_fault_21 ?_
      refine lv_goto (tgt := 28) hx hb dX9_fault_24 (by decide) ?_
      refine g_iret C hr hH (Nat.le_of_ble_eq_true rfl) (Nat.le_of_ble_eq_true rfl) dX9_fault_28 ?_
      exact (by rw [gFault, if_neg c1])
  · skip
    refine lv_aload_n hx hb dX9_fault_4 rfl (lv_at hl 0 rfl) ?_
    refine g_get C hH mx fx iX9 rfl 2 (by decide) wd61 rfl rfl dX9_fault_5 ?_
    refine g_get C hH mr fr iX5 rfl 5 (by decide) wd63 rfl rfl dX9_fault_8 ?_
    refine g_iret C hr hH (Nat.le_of_ble_eq_true rfl) (Nat.le_of_ble_eq_true rfl) dX9_fault_11 ?_
    exact (by rw [gFault, if_pos c1])
set_option maxHeartbeats 4000000 in
set_option maxRecDepth 100000 in
theorem k_isNothing (l : Launch) (E : gE) (L : List Nat) (f : gF) {q nu : Nat} (mq : q ∈ L) (fq : f q = .inr (6, [.ref nu, .int (-1 : Int32), .int (0 : Int32)])) : gMi l E yX6_isNothing cX6_isNothing 1 .boolean (gRm 1 0 0) [.ref q] L f (gRO (1 : Int32) L f) := by
  refine gMi.intro (by decide) (Nat.le_of_ble_eq_true rfl) ?_
  intro p e s m below meth c A ls C hr hA hH hl
  have C : gC E cX6_isNothing 1 RX6 p s m _ meth c := C
  have hl : lv_has ls 1 [(0, .ref q)] := hl
  have hx := C.1
  have hb := C.2.1
  refine lv_aload_n hx hb dX6_isNothing_0 rfl (lv_at hl 0 rfl) ?_
  refine g_get C hH mq fq iX6 rfl 1 (by decide) wd64 rfl rfl dX6_isNothing_1 ?_
  refine lv_iconst (v := (-1 : Int32)) hx hb dX6_isNothing_4 (by decide) ?_
  refine lv_icmp_ne (tgt := 12) hx hb dX6_isNothing_5 (by decide) (fun h => absurd (by decide) h) (fun _ => ?_)
  refine lv_iconst (v := (1 : Int32)) hx hb dX6_isNothing_8 (by decide) ?_
  refine lv_goto (tgt := 13) hx hb dX6_isNothing_9 (by decide) ?_
  refine g_zret C hr (by first | rfl | decide | (exact rfl)) hH (Nat.le_of_ble_eq_true rfl) (Nat.le_of_ble_eq_true rfl) dX6_isNothing_13 ?_
  exact ⟨rfl, rfl, rfl⟩
set_option maxHeartbeats 4000000 in
set_option maxRecDepth 100000 in
theorem k_rowsHad (l : Launch) (E : gE) (L : List Nat) (f : gF) {x xt xn xr xi xw xs xl xc xh xf xm : Nat} (mx : x ∈ L) (fx : f x = .inr (9, [.ref xt, .ref xn, .ref xr, .ref xi, .ref xw, .ref xs, .ref xl, .ref xc, .ref xh, .ref xf, .ref xm])) {wv : Nat → Option Nat} (mw : xw ∈ L) (fw : f xw = .inl (E.2.2 5, 4, .inr (.inr (.inr (.inr wv))))) (wr : gRows E L f wv) : gMi l E yX9_rowsHad cX9_rowsHad 3 .int (gRm 2 0 0) [.ref x] L f (gRO (0 : Int32) L f) := by
  refine gMi.intro (by decide) (Nat.le_of_ble_eq_true rfl) ?_
  intro p e s m below meth c A ls C hr hA hH hl
  have C : gC E cX9_rowsHad 3 RX9 p s m _ meth c := C
  have hl : lv_has ls 3 [(0, .ref x)] := hl
  have hx := C.1
  have hb := C.2.1
  refine lv_iconst (v := (0 : Int32)) hx hb dX9_rowsHad_0 (by decide) ?_
  refine lv_istore_n (lv' := [(1, .int (0 : Int32)), (0, .ref x)]) hx hb dX9_rowsHad_1 rfl hl (by decide) rfl (fun ls hl => ?_)
  refine lv_iconst (v := (0 : Int32)) hx hb dX9_rowsHad_2 (by decide) ?_
  refine lv_istore_n (lv' := [(2, .int (0 : Int32)), (1, .int (0 : Int32)), (0, .ref x)]) hx hb dX9_rowsHad_3 rfl hl (by decide) rfl (fun ls hl => ?_)
  refine lv_iload_n hx hb dX9_rowsHad_4 rfl (lv_at hl 0 rfl) ?_
  refine lv_iconst (v := (4 : Int32)) hx hb dX9_rowsHad_5 (by decide) ?_
  refine lv_icmp_ge (tgt := 30) hx hb dX9_rowsHad_6 (by decide) (fun h => absurd h (by decide)) (fun _ => ?_)
  refine lv_aload_n hx hb dX9_rowsHad_9 rfl (lv_at hl 2 rfl) ?_
  refine g_get C hH mx fx iX9 rfl 4 (by decide) wd65 rfl rfl dX9_rowsHad_10 ?_
  refine lv_iload_n hx hb dX9_rowsHad_13 rfl (lv_at hl 0 rfl) ?_
  obtain ⟨q1, nu2, u3, h4, m5, h6, m7, h8⟩ := wr ((0 : Int32)).toNatClampNeg (vp_lt (vp_inL (by decide)))
  refine g_aald C hH mw 5 rfl fw (vp_inL (by decide)) h4 dX9_rowsHad_14 ?_
  refine g_Vi C hl.1 hA hH (As := []) (rest := []) (k_isNothing l E L f m5 h6) my_X6_isNothing wd70 m5 h6 rfl rfl rfl (Nat.le_of_ble_eq_true rfl) ⟨Nat.le_of_ble_eq_true rfl, Nat.le_of_ble_eq_true rfl⟩ ⟨Nat.le_of_ble_eq_true rfl, Nat.le_of_ble_eq_true rfl⟩ dX9_rowsHad_15 (fun r11 L10 f9 H locs hp hH => ?_)
  obtain ⟨er11, rfl, rfl⟩ := hp
  subst er11
  refine lv_if_ne (tgt := 24) hx hb dX9_rowsHad_18 (by decide) (fun _ => ?_) (fun h => absurd h (by decide))
  refine lv_iinc (v := (1 : Int32)) (lv' := [(2, .int (1 : Int32)), (1, .int (0 : Int32)), (0, .ref x)]) hx hb dX9_rowsHad_24 hl (k := 0) rfl (by decide) (by decide) rfl (fun ls hl => ?_)
  refine lv_goto (tgt := 4) hx hb dX9_rowsHad_27 (by decide) ?_
  refine lv_iload_n hx hb dX9_rowsHad_4 rfl (lv_at hl 0 rfl) ?_
  refine lv_iconst (v := (4 : Int32)) hx hb dX9_rowsHad_5 (by decide) ?_
  refine lv_icmp_ge (tgt := 30) hx hb dX9_rowsHad_6 (by decide) (fun h => absurd h (by decide)) (fun _ => ?_)
  refine lv_aload_n hx hb dX9_rowsHad_9 rfl (lv_at hl 2 rfl) ?_
  refine g_get C hH mx fx iX9 rfl 4 (by decide) wd65 rfl rfl dX9_rowsHad_10 ?_
  refine lv_iload_n hx hb dX9_rowsHad_13 rfl (lv_at hl 0 rfl) ?_
  obtain ⟨q12, nu13, u14, h15, m16, h17, m18, h19⟩ := wr ((1 : Int32)).toNatClampNeg (vp_lt (vp_inL (by decide)))
  refine g_aald C hH mw 5 rfl fw (vp_inL (by decide)) h15 dX9_rowsHad_14 ?_
  refine g_Vi C hl.1 hA hH (As := []) (rest := []) (k_isNothing l E L f m16 h17) my_X6_isNothing wd70 m16 h17 rfl rfl rfl (Nat.le_of_ble_eq_true rfl) ⟨Nat.le_of_ble_eq_true rfl, Nat.le_of_ble_eq_true rfl⟩ ⟨Nat.le_of_ble_eq_true rfl, Nat.le_of_ble_eq_true rfl⟩ dX9_rowsHad_15 (fun r22 L21 f20 H locs hp hH => ?_)
  obtain ⟨er22, rfl, rfl⟩ := hp
  subst er22
  refine lv_if_ne (tgt := 24) hx hb dX9_rowsHad_18 (by decide) (fun _ => ?_) (fun h => absurd h (by decide))
  refine lv_iinc (v := (2 : Int32)) (lv' := [(2, .int (2 : Int32)), (1, .int (0 : Int32)), (0, .ref x)]) hx hb dX9_rowsHad_24 hl (k := 0) rfl (by decide) (by decide) rfl (fun ls hl => ?_)
  refine lv_goto (tgt := 4) hx hb dX9_rowsHad_27 (by decide) ?_
  refine lv_iload_n hx hb dX9_rowsHad_4 rfl (lv_at hl 0 rfl) ?_
  refine lv_iconst (v := (4 : Int32)) hx hb dX9_rowsHad_5 (by decide) ?_
  refine lv_icmp_ge (tgt := 30) hx hb dX9_rowsHad_6 (by decide) (fun h => absurd h (by decide)) (fun _ => ?_)
  refine lv_aload_n hx hb dX9_rowsHad_9 rfl (lv_at hl 2 rfl) ?_
  refine g_get C hH mx fx iX9 rfl 4 (by decide) wd65 rfl rfl dX9_rowsHad_10 ?_
  refine lv_iload_n hx hb dX9_rowsHad_13 rfl (lv_at hl 0 rfl) ?_
  obtain ⟨q23, nu24, u25, h26, m27, h28, m29, h30⟩ := wr ((2 : Int32)).toNatClampNeg (vp_lt (vp_inL (by decide)))
  refine g_aald C hH mw 5 rfl fw (vp_inL (by decide)) h26 dX9_rowsHad_14 ?_
  refine g_Vi C hl.1 hA hH (As := []) (rest := []) (k_isNothing l E L f m27 h28) my_X6_isNothing wd70 m27 h28 rfl rfl rfl (Nat.le_of_ble_eq_true rfl) ⟨Nat.le_of_ble_eq_true rfl, Nat.le_of_ble_eq_true rfl⟩ ⟨Nat.le_of_ble_eq_true rfl, Nat.le_of_ble_eq_true rfl⟩ dX9_rowsHad_15 (fun r33 L32 f31 H locs hp hH => ?_)
  obtain ⟨er33, rfl, rfl⟩ := hp
  subst er33
  refine lv_if_ne (tgt := 24) hx hb dX9_rowsHad_18 (by decide) (fun _ => ?_) (fun h => absurd h (by decide))
  refine lv_iinc (v := (3 : Int32)) (lv' := [(2, .int (3 : Int32)), (1, .int (0 : Int32)), (0, .ref x)]) hx hb dX9_rowsHad_24 hl (k := 0) rfl (by decide) (by decide) rfl (fun ls hl => ?_)
  refine lv_goto (tgt := 4) hx hb dX9_rowsHad_27 (by decide) ?_
  refine lv_iload_n hx hb dX9_rowsHad_4 rfl (lv_at hl 0 rfl) ?_
  refine lv_iconst (v := (4 : Int32)) hx hb dX9_rowsHad_5 (by decide) ?_
  refine lv_icmp_ge (tgt := 30) hx hb dX9_rowsHad_6 (by decide) (fun h => absurd h (by decide)) (fun _ => ?_)
  refine lv_aload_n hx hb dX9_rowsHad_9 rfl (lv_at hl 2 rfl) ?_
  refine g_get C hH mx fx iX9 rfl 4 (by decide) wd65 rfl rfl dX9_rowsHad_10 ?_
  refine lv_iload_n hx hb dX9_rowsHad_13 rfl (lv_at hl 0 rfl) ?_
  obtain ⟨q34, nu35, u36, h37, m38, h39, m40, h41⟩ := wr ((3 : Int32)).toNatClampNeg (vp_lt (vp_inL (by decide)))
  refine g_aald C hH mw 5 rfl fw (vp_inL (by decide)) h37 dX9_rowsHad_14 ?_
  refine g_Vi C hl.1 hA hH (As := []) (rest := []) (k_isNothing l E L f m38 h39) my_X6_isNothing wd70 m38 h39 rfl rfl rfl (Nat.le_of_ble_eq_true rfl) ⟨Nat.le_of_ble_eq_true rfl, Nat.le_of_ble_eq_true rfl⟩ ⟨Nat.le_of_ble_eq_true rfl, Nat.le_of_ble_eq_true rfl⟩ dX9_rowsHad_15 (fun r44 L43 f42 H locs hp hH => ?_)
  obtain ⟨er44, rfl, rfl⟩ := hp
  subst er44
  refine lv_if_ne (tgt := 24) hx hb dX9_rowsHad_18 (by decide) (fun _ => ?_) (fun h => absurd h (by decide))
  refine lv_iinc (v := (4 : Int32)) (lv' := [(2, .int (4 : Int32)), (1, .int (0 : Int32)), (0, .ref x)]) hx hb dX9_rowsHad_24 hl (k := 0) rfl (by decide) (by decide) rfl (fun ls hl => ?_)
  refine lv_goto (tgt := 4) hx hb dX9_rowsHad_27 (by decide) ?_
  refine lv_iload_n hx hb dX9_rowsHad_4 rfl (lv_at hl 0 rfl) ?_
  refine lv_iconst (v := (4 : Int32)) hx hb dX9_rowsHad_5 (by decide) ?_
  refine lv_icmp_ge (tgt := 30) hx hb dX9_rowsHad_6 (by decide) (fun _ => ?_) (fun h => absurd (by decide) h)
  refine lv_iload_n hx hb dX9_rowsHad_30 rfl (lv_at hl 1 rfl) ?_
  refine g_iret C hr hH (Nat.le_of_ble_eq_true rfl) (Nat.le_of_ble_eq_true rfl) dX9_rowsHad_31 ?_
  exact ⟨rfl, rfl, rfl⟩
set_option maxHeartbeats 4000000 in
set_option maxRecDepth 100000 in
theorem k_count (l : Launch) (E : gE) (L : List Nat) (f : gF) {x xt xn xr xi xw xs xl xc xh xf xm : Nat} (mx : x ∈ L) (fx : f x = .inr (9, [.ref xt, .ref xn, .ref xr, .ref xi, .ref xw, .ref xs, .ref xl, .ref xc, .ref xh, .ref xf, .ref xm])) {na : Nat → Nat} (mn : xn ∈ L) (fn : f xn = .inr (3, [.int (0 : Int32), .int (0 : Int32), .int (0 : Int32), .int (0 : Int32), .int (0 : Int32), .int (0 : Int32), .int (0 : Int32), .int (0 : Int32), .int (0 : Int32), .int (0 : Int32), .ref (na 0), .ref (na 1), .ref (na 2), .ref (na 3), .ref (na 4), .ref (na 5), .ref (na 6), .ref (na 7), .ref (na 8), .ref (na 9)])) {xb : Nat} {v : Nat → Int32} (mt : xt ∈ L) (ft : f xt = .inr (8, [.ref xb, .int (0 : Int32)])) (mb : xb ∈ L) (fb : f xb = .inl (E.2.2 0, 800, .inl v)) {wv : Nat → Option Nat} (mw : xw ∈ L) (fw : f xw = .inl (E.2.2 5, 4, .inr (.inr (.inr (.inr wv))))) (wr : gRows E L f wv) (p0 : Int32) : gMi l E yX9_count cX9_count 2 .int (gRm 3 0 0) [.ref x, .int p0] L f (fun r _ _ => r = gCount p0) := by
  refine gMi.intro (by decide) (Nat.le_of_ble_eq_true rfl) ?_
  intro p e s m below meth c A ls C hr hA hH hl
  have C : gC E cX9_count 2 RX9 p s m _ meth c := C
  have hl : lv_has ls 2 [(0, .ref x), (1, .int p0)] := hl
  have hx := C.1
  have hb := C.2.1
  refine lv_iload_n hx hb dX9_count_0 rfl (lv_at hl 1 rfl) ?_
  rcases g_sw p0 0 11 (by decide) with c1 | c1
  · refine lv_tableOut (tgt := 157) hx hb dX9_count_1 (by first | exact c1 | omega) (by decide) ?_
    refine lv_iconst (v := (-1 : Int32)) hx hb dX9_count_157 (by decide) ?_
    refine g_iret C hr hH (Nat.le_of_ble_eq_true rfl) (Nat.le_of_ble_eq_true rfl) dX9_count_158 ?_
    exact (if_pos c1).symm
  · obtain ⟨j, hj, ej⟩ := c1
    rcases (show j = 0 ∨ j = 1 ∨ j = 2 ∨ j = 3 ∨ j = 4 ∨ j = 5 ∨ j = 6 ∨ j = 7 ∨ j = 8 ∨ j = 9 ∨ j = 10 ∨ j = 11 by omega) with rfl | rfl | rfl | rfl | rfl | rfl | rfl | rfl | rfl | rfl | rfl | rfl
    · obtain rfl : p0 = (0 : Int32) := g_swE ej (by decide)
      refine lv_tableIn (tgt := 64) (off := 63) hx hb dX9_count_1 (by decide) (by decide) (by decide) (by decide) ?_
      refine lv_aload_n hx hb dX9_count_64 rfl (lv_at hl 0 rfl) ?_
      refine g_get C hH mx fx iX9 rfl 1 (by decide) wd18 rfl rfl dX9_count_65 ?_
      refine g_get C hH mn fn iX3 rfl 1 (by decide) wd71 rfl rfl dX9_count_68 ?_
      refine g_iret C hr hH (Nat.le_of_ble_eq_true rfl) (Nat.le_of_ble_eq_true rfl) dX9_count_71 ?_
      exact (by decide)
    · obtain rfl : p0 = (1 : Int32) := g_swE ej (by decide)
      refine lv_tableIn (tgt := 72) (off := 71) hx hb dX9_count_1 (by decide) (by decide) (by decide) (by decide) ?_
      refine lv_aload_n hx hb dX9_count_72 rfl (lv_at hl 0 rfl) ?_
      refine g_get C hH mx fx iX9 rfl 1 (by decide) wd18 rfl rfl dX9_count_73 ?_
      refine g_get C hH mn fn iX3 rfl 2 (by decide) wd72 rfl rfl dX9_count_76 ?_
      refine g_iret C hr hH (Nat.le_of_ble_eq_true rfl) (Nat.le_of_ble_eq_true rfl) dX9_count_79 ?_
      exact (by decide)
    · obtain rfl : p0 = (2 : Int32) := g_swE ej (by decide)
      refine lv_tableIn (tgt := 80) (off := 79) hx hb dX9_count_1 (by decide) (by decide) (by decide) (by decide) ?_
      refine lv_aload_n hx hb dX9_count_80 rfl (lv_at hl 0 rfl) ?_
      refine g_get C hH mx fx iX9 rfl 1 (by decide) wd18 rfl rfl dX9_count_81 ?_
      refine g_get C hH mn fn iX3 rfl 3 (by decide) wd73 rfl rfl dX9_count_84 ?_
      refine g_iret C hr hH (Nat.le_of_ble_eq_true rfl) (Nat.le_of_ble_eq_true rfl) dX9_count_87 ?_
      exact (by decide)
    · obtain rfl : p0 = (3 : Int32) := g_swE ej (by decide)
      refine lv_tableIn (tgt := 88) (off := 87) hx hb dX9_count_1 (by decide) (by decide) (by decide) (by decide) ?_
      refine lv_aload_n hx hb dX9_count_88 rfl (lv_at hl 0 rfl) ?_
      refine g_get C hH mx fx iX9 rfl 1 (by decide) wd18 rfl rfl dX9_count_89 ?_
      refine g_get C hH mn fn iX3 rfl 4 (by decide) wd74 rfl rfl dX9_count_92 ?_
      refine g_iret C hr hH (Nat.le_of_ble_eq_true rfl) (Nat.le_of_ble_eq_true rfl) dX9_count_95 ?_
      exact (by decide)
    · obtain rfl : p0 = (4 : Int32) := g_swE ej (by decide)
      refine lv_tableIn (tgt := 96) (off := 95) hx hb dX9_count_1 (by decide) (by decide) (by decide) (by decide) ?_
      refine lv_aload_n hx hb dX9_count_96 rfl (lv_at hl 0 rfl) ?_
      refine g_get C hH mx fx iX9 rfl 1 (by decide) wd18 rfl rfl dX9_count_97 ?_
      refine g_get C hH mn fn iX3 rfl 5 (by decide) wd75 rfl rfl dX9_count_100 ?_
      refine g_iret C hr hH (Nat.le_of_ble_eq_true rfl) (Nat.le_of_ble_eq_true rfl) dX9_count_103 ?_
      exact (by decide)
    · obtain rfl : p0 = (5 : Int32) := g_swE ej (by decide)
      refine lv_tableIn (tgt := 104) (off := 103) hx hb dX9_count_1 (by decide) (by decide) (by decide) (by decide) ?_
      refine lv_aload_n hx hb dX9_count_104 rfl (lv_at hl 0 rfl) ?_
      refine g_get C hH mx fx iX9 rfl 1 (by decide) wd18 rfl rfl dX9_count_105 ?_
      refine g_Vi C hl.1 hA hH (As := []) (rest := []) (k_cells l E L f mn fn) my_X3_cells wd76 mn fn rfl rfl rfl (Nat.le_of_ble_eq_true rfl) ⟨Nat.le_of_ble_eq_true rfl, Nat.le_of_ble_eq_true rfl⟩ ⟨Nat.le_of_ble_eq_true rfl, Nat.le_of_ble_eq_true rfl⟩ dX9_count_108 (fun r4 L3 f2 H locs hp hH => ?_)
      obtain ⟨er4, rfl, rfl⟩ := hp
      subst er4
      refine g_iret C hr hH (Nat.le_of_ble_eq_true rfl) (Nat.le_of_ble_eq_true rfl) dX9_count_111 ?_
      exact (by decide)
    · obtain rfl : p0 = (6 : Int32) := g_swE ej (by decide)
      refine lv_tableIn (tgt := 112) (off := 111) hx hb dX9_count_1 (by decide) (by decide) (by decide) (by decide) ?_
      refine lv_aload_n hx hb dX9_count_112 rfl (lv_at hl 0 rfl) ?_
      refine g_get C hH mx fx iX9 rfl 1 (by decide) wd18 rfl rfl dX9_count_113 ?_
      refine g_get C hH mn fn iX3 rfl 6 (by decide) wd77 rfl rfl dX9_count_116 ?_
      refine g_iret C hr hH (Nat.le_of_ble_eq_true rfl) (Nat.le_of_ble_eq_true rfl) dX9_count_119 ?_
      exact (by decide)
    · obtain rfl : p0 = (7 : Int32) := g_swE ej (by decide)
      refine lv_tableIn (tgt := 120) (off := 119) hx hb dX9_count_1 (by decide) (by decide) (by decide) (by decide) ?_
      refine lv_aload_n hx hb dX9_count_120 rfl (lv_at hl 0 rfl) ?_
      refine g_get C hH mx fx iX9 rfl 1 (by decide) wd18 rfl rfl dX9_count_121 ?_
      refine g_get C hH mn fn iX3 rfl 7 (by decide) wd78 rfl rfl dX9_count_124 ?_
      refine g_iret C hr hH (Nat.le_of_ble_eq_true rfl) (Nat.le_of_ble_eq_true rfl) dX9_count_127 ?_
      exact (by decide)
    · obtain rfl : p0 = (8 : Int32) := g_swE ej (by decide)
      refine lv_tableIn (tgt := 128) (off := 127) hx hb dX9_count_1 (by decide) (by decide) (by decide) (by decide) ?_
      refine lv_aload_n hx hb dX9_count_128 rfl (lv_at hl 0 rfl) ?_
      refine g_get C hH mx fx iX9 rfl 1 (by decide) wd18 rfl rfl dX9_count_129 ?_
      refine g_get C hH mn fn iX3 rfl 9 (by decide) wd79 rfl rfl dX9_count_132 ?_
      refine g_iret C hr hH (Nat.le_of_ble_eq_true rfl) (Nat.le_of_ble_eq_true rfl) dX9_count_135 ?_
      exact (by decide)
    · obtain rfl : p0 = (9 : Int32) := g_swE ej (by decide)
      refine lv_tableIn (tgt := 136) (off := 135) hx hb dX9_count_1 (by decide) (by decide) (by decide) (by decide) ?_
      refine lv_aload_n hx hb dX9_count_136 rfl (lv_at hl 0 rfl) ?_
      refine g_get C hH mx fx iX9 rfl 1 (by decide) wd18 rfl rfl dX9_count_137 ?_
      refine g_get C hH mn fn iX3 rfl 0 (by decide) wd80 rfl rfl dX9_count_140 ?_
      refine g_iret C hr hH (Nat.le_of_ble_eq_true rfl) (Nat.le_of_ble_eq_true rfl) dX9_count_143 ?_
      exact (by decide)
    · obtain rfl : p0 = (10 : Int32) := g_swE ej (by decide)
      refine lv_tableIn (tgt := 144) (off := 143) hx hb dX9_count_1 (by decide) (by decide) (by decide) (by decide) ?_
      refine lv_aload_n hx hb dX9_count_144 rfl (lv_at hl 0 rfl) ?_
      refine g_get C hH mx fx iX9 rfl 0 (by decide) wd54 rfl rfl dX9_count_145 ?_
      refine g_get C hH mt ft iX8 rfl 1 (by decide) wd55 rfl rfl dX9_count_148 ?_
      refine g_iret C hr hH (Nat.le_of_ble_eq_true rfl) (Nat.le_of_ble_eq_true rfl) dX9_count_151 ?_
      exact (by decide)
    · obtain rfl : p0 = (11 : Int32) := g_swE ej (by decide)
      refine lv_tableIn (tgt := 152) (off := 151) hx hb dX9_count_1 (by decide) (by decide) (by decide) (by decide) ?_
      refine lv_aload_n hx hb dX9_count_152 rfl (lv_at hl 0 rfl) ?_
      refine g_Vi C hl.1 hA hH (As := []) (rest := []) (k_rowsHad l E L f mx fx mw fw wr) my_X9_rowsHad wd84 mx fx rfl rfl rfl (Nat.le_of_ble_eq_true rfl) ⟨Nat.le_of_ble_eq_true rfl, Nat.le_of_ble_eq_true rfl⟩ ⟨Nat.le_of_ble_eq_true rfl, Nat.le_of_ble_eq_true rfl⟩ dX9_count_153 (fun r7 L6 f5 H locs hp hH => ?_)
      obtain ⟨er7, rfl, rfl⟩ := hp
      subst er7
      refine g_iret C hr hH (Nat.le_of_ble_eq_true rfl) (Nat.le_of_ble_eq_true rfl) dX9_count_156 ?_
      exact (by decide)
set_option maxHeartbeats 4000000 in
set_option maxRecDepth 100000 in
theorem k_write (l : Launch) (E : gE) (L : List Nat) (f : gF) {x xt xn xr xi xw xs xl xc xh xf xm : Nat} (mx : x ∈ L) (fx : f x = .inr (9, [.ref xt, .ref xn, .ref xr, .ref xi, .ref xw, .ref xs, .ref xl, .ref xc, .ref xh, .ref xf, .ref xm])) {wv : Nat → Option Nat} (mw : xw ∈ L) (fw : f xw = .inl (E.2.2 5, 4, .inr (.inr (.inr (.inr wv))))) (wr : gRows E L f wv) (p0 p1 : Int32) (p2 : Int64) : gMi l E yX9_write cX9_write 6 .int (gRm 2 0 0) [.ref x, .int p0, .int p1, .long p2] L f (fun r _ _ => r = gWrite p0) := by
  refine gMi.intro (by decide) (Nat.le_of_ble_eq_true rfl) ?_
  intro p e s m below meth c A ls C hr hA hH hl
  have C : gC E cX9_write 6 RX9 p s m _ meth c := C
  have hl : lv_has ls 6 [(0, .ref x), (1, .int p0), (2, .int p1), (3, .long p2)] := hl
  have hx := C.1
  have hb := C.2.1
  refine lv_iload_n hx hb dX9_write_0 rfl (lv_at hl 1 rfl) ?_
  refine g_Si C hl.1 hA hH (As := [.int p0]) (rest := []) (k_isSlot l E L f p0) my_X9_isSlot wd17 rfl rfl (Nat.le_of_ble_eq_true rfl) ⟨Nat.le_of_ble_eq_true rfl, Nat.le_of_ble_eq_true rfl⟩ ⟨Nat.le_of_ble_eq_true rfl, Nat.le_of_ble_eq_true rfl⟩ dX9_write_1 (fun r3 L2 f1 H locs hp hH => ?_)
  obtain ⟨er3, rfl, rfl⟩ := hp
  subst er3
  refine lv_if_ne (tgt := 10) hx hb dX9_write_4 (by decide) (fun c4 => ?_) (fun c4 => ?_)
  · skip
    refine lv_aload_n hx hb dX9_write_10 rfl (lv_at hl 0 rfl) ?_
    refine g_get C hH mx fx iX9 rfl 4 (by decide) wd65 rfl rfl dX9_write_11 ?_
    refine lv_iload_n hx hb dX9_write_14 rfl (lv_at hl 1 rfl) ?_
    obtain ⟨q5, nu6, u7, h8, m9, h10, m11, h12⟩ := wr (p0).toNatClampNeg (vp_lt (gSlot_in c4))
    refine g_aald C hH mw 5 rfl fw (gSlot_in c4) h8 dX9_write_15 ?_
    refine lv_astore (lv' := [(5, .ref q5), (0, .ref x), (1, .int p0), (2, .int p1), (3, .long p2)]) hx hb dX9_write_16 hl (by decide) rfl (fun ls hl => ?_)
    refine lv_aload hx hb dX9_write_18 (lv_at hl 0 rfl) ?_
    refine g_Vi C hl.1 hA hH (As := []) (rest := []) (k_isNothing l E L f m9 h10) my_X6_isNothing wd70 m9 h10 rfl rfl rfl (Nat.le_of_ble_eq_true rfl) ⟨Nat.le_of_ble_eq_true rfl, Nat.le_of_ble_eq_true rfl⟩ ⟨Nat.le_of_ble_eq_true rfl, Nat.le_of_ble_eq_true rfl⟩ dX9_write_20 (fun r15 L14 f13 H locs hp hH => ?_)
    obtain ⟨er15, rfl, rfl⟩ := hp
    subst er15
    refine lv_if_eq (tgt := 29) hx hb dX9_write_23 (by decide) (fun h => absurd h (by decide)) (fun _ => ?_)
    refine lv_bipush (v := (-6 : Int32)) hx hb dX9_write_26 (by decide) ?_
    refine g_iret C hr hH (Nat.le_of_ble_eq_true rfl) (Nat.le_of_ble_eq_true rfl) dX9_write_28 ?_
    exact (by rw [gWrite, if_neg c4])
  · skip
    refine lv_bipush (v := (-2 : Int32)) hx hb dX9_write_7 (by decide) ?_
    refine g_iret C hr hH (Nat.le_of_ble_eq_true rfl) (Nat.le_of_ble_eq_true rfl) dX9_write_9 ?_
    exact (by rw [gWrite, if_pos c4])
set_option maxHeartbeats 4000000 in
set_option maxRecDepth 100000 in
theorem k_paste (l : Launch) (E : gE) (L : List Nat) (f : gF) {x xt xn xr xi xw xs xl xc xh xf xm : Nat} (mx : x ∈ L) (fx : f x = .inr (9, [.ref xt, .ref xn, .ref xr, .ref xi, .ref xw, .ref xs, .ref xl, .ref xc, .ref xh, .ref xf, .ref xm])) {wv : Nat → Option Nat} (mw : xw ∈ L) (fw : f xw = .inl (E.2.2 5, 4, .inr (.inr (.inr (.inr wv))))) (wr : gRows E L f wv) (p0 p1 p2 p3 p4 : Int32) : gMi l E yX9_paste cX9_paste 8 .int (gRm 2 0 0) [.ref x, .int p0, .int p1, .int p2, .int p3, .int p4] L f (fun r _ _ => r = gPaste p0 p2) := by
  refine gMi.intro (by decide) (Nat.le_of_ble_eq_true rfl) ?_
  intro p e s m below meth c A ls C hr hA hH hl
  have C : gC E cX9_paste 8 RX9 p s m _ meth c := C
  have hl : lv_has ls 8 [(0, .ref x), (1, .int p0), (2, .int p1), (3, .int p2), (4, .int p3), (5, .int p4)] := hl
  have hx := C.1
  have hb := C.2.1
  refine lv_iload_n hx hb dX9_paste_0 rfl (lv_at hl 1 rfl) ?_
  refine g_Si C hl.1 hA hH (As := [.int p0]) (rest := []) (k_isSlot l E L f p0) my_X9_isSlot wd17 rfl rfl (Nat.le_of_ble_eq_true rfl) ⟨Nat.le_of_ble_eq_true rfl, Nat.le_of_ble_eq_true rfl⟩ ⟨Nat.le_of_ble_eq_true rfl, Nat.le_of_ble_eq_true rfl⟩ dX9_paste_1 (fun r3 L2 f1 H locs hp hH => ?_)
  obtain ⟨er3, rfl, rfl⟩ := hp
  subst er3
  refine lv_if_eq (tgt := 14) hx hb dX9_paste_4 (by decide) (fun c4 => ?_) (fun c4 => ?_)
  · skip
    refine lv_bipush (v := (-2 : Int32)) hx hb dX9_paste_14 (by decide) ?_
    refine g_iret C hr hH (Nat.le_of_ble_eq_true rfl) (Nat.le_of_ble_eq_true rfl) dX9_paste_16 ?_
    exact (by rw [gPaste, if_pos c4])
  · skip
    refine lv_iload_n hx hb dX9_paste_7 rfl (lv_at hl 3 rfl) ?_
    refine g_Si C hl.1 hA hH (As := [.int p2]) (rest := []) (k_isSlot l E L f p2) my_X9_isSlot wd17 rfl rfl (Nat.le_of_ble_eq_true rfl) ⟨Nat.le_of_ble_eq_true rfl, Nat.le_of_ble_eq_true rfl⟩ ⟨Nat.le_of_ble_eq_true rfl, Nat.le_of_ble_eq_true rfl⟩ dX9_paste_8 (fun r7 L6 f5 H locs hp hH => ?_)
    obtain ⟨er7, rfl, rfl⟩ := hp
    subst er7
    refine lv_if_ne (tgt := 17) hx hb dX9_paste_11 (by decide) (fun c8 => ?_) (fun c8 => ?_)
    · skip
      refine lv_aload_n hx hb dX9_paste_17 rfl (lv_at hl 0 rfl) ?_
      refine g_get C hH mx fx iX9 rfl 4 (by decide) wd65 rfl rfl dX9_paste_18 ?_
      refine lv_iload_n hx hb dX9_paste_21 rfl (lv_at hl 1 rfl) ?_
      obtain ⟨q9, nu10, u11, h12, m13, h14, m15, h16⟩ := wr (p0).toNatClampNeg (vp_lt (gSlot_in c4))
      refine g_aald C hH mw 5 rfl fw (gSlot_in c4) h12 dX9_paste_22 ?_
      refine lv_astore (lv' := [(6, .ref q9), (0, .ref x), (1, .int p0), (2, .int p1), (3, .int p2), (4, .int p3), (5, .int p4)]) hx hb dX9_paste_23 hl (by decide) rfl (fun ls hl => ?_)
      refine lv_aload_n hx hb dX9_paste_25 rfl (lv_at hl 1 rfl) ?_
      refine g_get C hH mx fx iX9 rfl 4 (by decide) wd65 rfl rfl dX9_paste_26 ?_
      refine lv_iload_n hx hb dX9_paste_29 rfl (lv_at hl 4 rfl) ?_
      obtain ⟨q17, nu18, u19, h20, m21, h22, m23, h24⟩ := wr (p2).toNatClampNeg (vp_lt (gSlot_in c8))
      refine g_aald C hH mw 5 rfl fw (gSlot_in c8) h20 dX9_paste_30 ?_
      refine lv_astore (lv' := [(7, .ref q17), (6, .ref q9), (0, .ref x), (1, .int p0), (2, .int p1), (3, .int p2), (4, .int p3), (5, .int p4)]) hx hb dX9_paste_31 hl (by decide) rfl (fun ls hl => ?_)
      refine lv_aload hx hb dX9_paste_33 (lv_at hl 1 rfl) ?_
      refine g_Vi C hl.1 hA hH (As := []) (rest := []) (k_isNothing l E L f m13 h14) my_X6_isNothing wd70 m13 h14 rfl rfl rfl (Nat.le_of_ble_eq_true rfl) ⟨Nat.le_of_ble_eq_true rfl, Nat.le_of_ble_eq_true rfl⟩ ⟨Nat.le_of_ble_eq_true rfl, Nat.le_of_ble_eq_true rfl⟩ dX9_paste_35 (fun r27 L26 f25 H locs hp hH => ?_)
      obtain ⟨er27, rfl, rfl⟩ := hp
      subst er27
      refine lv_if_ne (tgt := 49) hx hb dX9_paste_38 (by decide) (fun _ => ?_) (fun h => absurd h (by decide))
      refine lv_bipush (v := (-6 : Int32)) hx hb dX9_paste_49 (by decide) ?_
      refine g_iret C hr hH (Nat.le_of_ble_eq_true rfl) (Nat.le_of_ble_eq_true rfl) dX9_paste_51 ?_
      exact (by rw [gPaste, if_neg c4, if_neg c8])
    · skip
      refine lv_bipush (v := (-2 : Int32)) hx hb dX9_paste_14 (by decide) ?_
      refine g_iret C hr hH (Nat.le_of_ble_eq_true rfl) (Nat.le_of_ble_eq_true rfl) dX9_paste_16 ?_
      exact (by rw [gPaste, if_neg c4, if_pos c8])
