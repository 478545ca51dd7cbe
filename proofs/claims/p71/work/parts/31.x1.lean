set_option maxHeartbeats 4000000 in
set_option maxRecDepth 100000 in
theorem t_X9_hasBit (l : Launch) (E : gE) (J : Nat → Nat) (τ : Nat → Nat) (L : List Nat) (f : gF) (hI : tI E L τ f) (p0 : Int32) (p1 : Int32) : tMi l E J yX9_hasBit cX9_hasBit 2 .boolean (gRm (1) 0 0) [.int p0, .int p1] L f (tPi E L τ [] f (fun r f1 => rg r 0 1)) := by
  refine tMi.intro (by decide) (Nat.le_of_ble_eq_true rfl) ?_
  intro p e s m below meth c A ls C hr hA hO hH hl
  have C : gC E cX9_hasBit 2 RX9 p s m _ meth c := C
  have hl : lv_has ls 2 [(0, .int p0), (1, .int p1)] := hl
  have hx := C.1
  have hb := C.2.1
  have hI := hI.S []
  refine lv_iload_n hx hb dX9_hasBit_0 rfl (lv_at hl 0 rfl) ?_
  refine lv_iload_n hx hb dX9_hasBit_1 rfl (lv_at hl 1 rfl) ?_
  refine lv_ishr hx hb dX9_hasBit_2 ?_
  refine lv_topi (fun z1 ez1 => ?_)
  refine lv_iconst (v := (1 : Int32)) hx hb dX9_hasBit_3 (by decide) ?_
  refine lv_iand hx hb dX9_hasBit_4 ?_
  refine lv_topi (fun z2 ez2 => ?_)
  have r3 : rg z2 0 1 := rg_andr ez2 rl_1 (by decide)
  refine lv_if_eq (tgt := 12) hx hb dX9_hasBit_5 (by decide) (fun c4 => ?_) (fun c4 => ?_)
  · skip
    have r5 : rg z2 0 0 := rf_eql (c_eq c4) r3 rl_0 (by decide)
    refine lv_iconst (v := (0 : Int32)) hx hb dX9_hasBit_12 (by decide) ?_
    exact g_zret C hr (rg_z (rg_w rl_0 (by decide))) hH (Nat.zero_le _) (Nat.zero_le _) dX9_hasBit_13 ⟨rfl, hI, (rg_w rl_0 (by decide))⟩
  · skip
    have r6 : rg z2 1 1 := rf_nel (n_eq c4) r3 rl_0 (by decide)
    refine lv_iconst (v := (1 : Int32)) hx hb dX9_hasBit_8 (by decide) ?_
    refine lv_goto (tgt := 13) hx hb dX9_hasBit_9 (by decide) ?_
    exact g_zret C hr (rg_z (rg_w rl_1 (by decide))) hH (Nat.zero_le _) (Nat.zero_le _) dX9_hasBit_13 ⟨rfl, hI, (rg_w rl_1 (by decide))⟩
set_option maxHeartbeats 4000000 in
set_option maxRecDepth 100000 in
theorem t_X9_isStep (l : Launch) (E : gE) (J : Nat → Nat) (τ : Nat → Nat) (L : List Nat) (f : gF) (hI : tI E L τ f) (p0 : Int32) : tMi l E J yX9_isStep cX9_isStep 1 .boolean (gRm (1) 0 0) [.int p0] L f (tPi E L τ [] f (fun r f1 => rg r 0 1 ∧ (¬ r = 0 → rg p0 0 40))) := by
  refine tMi.intro (by decide) (Nat.le_of_ble_eq_true rfl) ?_
  intro p e s m below meth c A ls C hr hA hO hH hl
  have C : gC E cX9_isStep 1 RX9 p s m _ meth c := C
  have hl : lv_has ls 1 [(0, .int p0)] := hl
  have hx := C.1
  have hb := C.2.1
  have hI := hI.S []
  refine lv_iload_n hx hb dX9_isStep_0 rfl (lv_at hl 0 rfl) ?_
  refine lv_if_lt (tgt := 14) hx hb dX9_isStep_1 (by decide) (fun c1 => ?_) (fun c1 => ?_)
  · skip
    have r2 : rg p0 (-2147483648) (-1) := rf_ltl (c_lt c1) (rg_all _) rl_0 (by decide)
    refine lv_iconst (v := (0 : Int32)) hx hb dX9_isStep_14 (by decide) ?_
    exact g_zret C hr (rg_z (rg_w rl_0 (by decide))) hH (Nat.zero_le _) (Nat.zero_le _) dX9_isStep_15 ⟨rfl, hI, ⟨(rg_w rl_0 (by decide)), (fun h => absurd rfl h)⟩⟩
  · skip
    have r3 : rg p0 0 2147483647 := rf_ler (n_lt c1) rl_0 (rg_all _) (by decide)
    refine lv_iload_n hx hb dX9_isStep_4 rfl (lv_at hl 0 rfl) ?_
    refine lv_bipush (v := (41 : Int32)) hx hb dX9_isStep_5 (by decide) ?_
    refine lv_icmp_ge (tgt := 14) hx hb dX9_isStep_7 (by decide) (fun c4 => ?_) (fun c4 => ?_)
    · skip
      have r5 : rg p0 41 2147483647 := rf_ler (c_le c4) rl_41 r3 (by decide)
      refine lv_iconst (v := (0 : Int32)) hx hb dX9_isStep_14 (by decide) ?_
      exact g_zret C hr (rg_z (rg_w rl_0 (by decide))) hH (Nat.zero_le _) (Nat.zero_le _) dX9_isStep_15 ⟨rfl, hI, ⟨(rg_w rl_0 (by decide)), (fun h => absurd rfl h)⟩⟩
    · skip
      have r6 : rg p0 0 40 := rf_ltl (n_le c4) r3 rl_41 (by decide)
      refine lv_iconst (v := (1 : Int32)) hx hb dX9_isStep_10 (by decide) ?_
      refine lv_goto (tgt := 15) hx hb dX9_isStep_11 (by decide) ?_
      exact g_zret C hr (rg_z (rg_w rl_1 (by decide))) hH (Nat.zero_le _) (Nat.zero_le _) dX9_isStep_15 ⟨rfl, hI, ⟨(rg_w rl_1 (by decide)), (fun _ => r6)⟩⟩
set_option maxHeartbeats 4000000 in
set_option maxRecDepth 100000 in
theorem t_X9_isLampCount (l : Launch) (E : gE) (J : Nat → Nat) (τ : Nat → Nat) (L : List Nat) (f : gF) (hI : tI E L τ f) (p0 : Int32) : tMi l E J yX9_isLampCount cX9_isLampCount 1 .boolean (gRm (1) 0 0) [.int p0] L f (tPi E L τ [] f (fun r f1 => rg r 0 1 ∧ (¬ r = 0 → rg p0 0 3))) := by
  refine tMi.intro (by decide) (Nat.le_of_ble_eq_true rfl) ?_
  intro p e s m below meth c A ls C hr hA hO hH hl
  have C : gC E cX9_isLampCount 1 RX9 p s m _ meth c := C
  have hl : lv_has ls 1 [(0, .int p0)] := hl
  have hx := C.1
  have hb := C.2.1
  have hI := hI.S []
  refine lv_iload_n hx hb dX9_isLampCount_0 rfl (lv_at hl 0 rfl) ?_
  refine lv_if_lt (tgt := 13) hx hb dX9_isLampCount_1 (by decide) (fun c1 => ?_) (fun c1 => ?_)
  · skip
    have r2 : rg p0 (-2147483648) (-1) := rf_ltl (c_lt c1) (rg_all _) rl_0 (by decide)
    refine lv_iconst (v := (0 : Int32)) hx hb dX9_isLampCount_13 (by decide) ?_
    exact g_zret C hr (rg_z (rg_w rl_0 (by decide))) hH (Nat.zero_le _) (Nat.zero_le _) dX9_isLampCount_14 ⟨rfl, hI, ⟨(rg_w rl_0 (by decide)), (fun h => absurd rfl h)⟩⟩
  · skip
    have r3 : rg p0 0 2147483647 := rf_ler (n_lt c1) rl_0 (rg_all _) (by decide)
    refine lv_iload_n hx hb dX9_isLampCount_4 rfl (lv_at hl 0 rfl) ?_
    refine lv_iconst (v := (3 : Int32)) hx hb dX9_isLampCount_5 (by decide) ?_
    refine lv_icmp_gt (tgt := 13) hx hb dX9_isLampCount_6 (by decide) (fun c4 => ?_) (fun c4 => ?_)
    · skip
      have r5 : rg p0 4 2147483647 := rf_ltr (c_lt c4) rl_3 r3 (by decide)
      refine lv_iconst (v := (0 : Int32)) hx hb dX9_isLampCount_13 (by decide) ?_
      exact g_zret C hr (rg_z (rg_w rl_0 (by decide))) hH (Nat.zero_le _) (Nat.zero_le _) dX9_isLampCount_14 ⟨rfl, hI, ⟨(rg_w rl_0 (by decide)), (fun h => absurd rfl h)⟩⟩
    · skip
      have r6 : rg p0 0 3 := rf_lel (n_lt c4) r3 rl_3 (by decide)
      refine lv_iconst (v := (1 : Int32)) hx hb dX9_isLampCount_9 (by decide) ?_
      refine lv_goto (tgt := 14) hx hb dX9_isLampCount_10 (by decide) ?_
      exact g_zret C hr (rg_z (rg_w rl_1 (by decide))) hH (Nat.zero_le _) (Nat.zero_le _) dX9_isLampCount_14 ⟨rfl, hI, ⟨(rg_w rl_1 (by decide)), (fun _ => r6)⟩⟩
set_option maxHeartbeats 4000000 in
set_option maxRecDepth 100000 in
theorem t_X9_isFractionPart (l : Launch) (E : gE) (J : Nat → Nat) (τ : Nat → Nat) (L : List Nat) (f : gF) (hI : tI E L τ f) (p0 : Int32) : tMi l E J yX9_isFractionPart cX9_isFractionPart 1 .boolean (gRm (1) 0 0) [.int p0] L f (tPi E L τ [] f (fun r f1 => rg r 0 1)) := by
  refine tMi.intro (by decide) (Nat.le_of_ble_eq_true rfl) ?_
  intro p e s m below meth c A ls C hr hA hO hH hl
  have C : gC E cX9_isFractionPart 1 RX9 p s m _ meth c := C
  have hl : lv_has ls 1 [(0, .int p0)] := hl
  have hx := C.1
  have hb := C.2.1
  have hI := hI.S []
  refine lv_iload_n hx hb dX9_isFractionPart_0 rfl (lv_at hl 0 rfl) ?_
  refine lv_if_eq (tgt := 9) hx hb dX9_isFractionPart_1 (by decide) (fun c1 => ?_) (fun c1 => ?_)
  · skip
    have r2 : rg p0 0 0 := rf_eql (c_eq c1) (rg_all _) rl_0 (by decide)
    refine lv_iconst (v := (1 : Int32)) hx hb dX9_isFractionPart_9 (by decide) ?_
    refine lv_goto (tgt := 14) hx hb dX9_isFractionPart_10 (by decide) ?_
    exact g_zret C hr (rg_z (rg_w rl_1 (by decide))) hH (Nat.zero_le _) (Nat.zero_le _) dX9_isFractionPart_14 ⟨rfl, hI, (rg_w rl_1 (by decide))⟩
  · skip
    refine lv_iload_n hx hb dX9_isFractionPart_4 rfl (lv_at hl 0 rfl) ?_
    refine lv_iconst (v := (1 : Int32)) hx hb dX9_isFractionPart_5 (by decide) ?_
    refine lv_icmp_ne (tgt := 13) hx hb dX9_isFractionPart_6 (by decide) (fun c3 => ?_) (fun c3 => ?_)
    · skip
      refine lv_iconst (v := (0 : Int32)) hx hb dX9_isFractionPart_13 (by decide) ?_
      exact g_zret C hr (rg_z (rg_w rl_0 (by decide))) hH (Nat.zero_le _) (Nat.zero_le _) dX9_isFractionPart_14 ⟨rfl, hI, (rg_w rl_0 (by decide))⟩
    · skip
      have r4 : rg p0 1 1 := rf_eql (c_eq c3) (rg_all _) rl_1 (by decide)
      refine lv_iconst (v := (1 : Int32)) hx hb dX9_isFractionPart_9 (by decide) ?_
      refine lv_goto (tgt := 14) hx hb dX9_isFractionPart_10 (by decide) ?_
      exact g_zret C hr (rg_z (rg_w rl_1 (by decide))) hH (Nat.zero_le _) (Nat.zero_le _) dX9_isFractionPart_14 ⟨rfl, hI, (rg_w rl_1 (by decide))⟩
set_option maxHeartbeats 4000000 in
set_option maxRecDepth 100000 in
theorem t_X9_isChoice (l : Launch) (E : gE) (J : Nat → Nat) (τ : Nat → Nat) (L : List Nat) (f : gF) (hI : tI E L τ f) (p0 : Int32) : tMi l E J yX9_isChoice cX9_isChoice 1 .boolean (gRm (1) 0 0) [.int p0] L f (tPi E L τ [] f (fun r f1 => rg r 0 1)) := by
  refine tMi.intro (by decide) (Nat.le_of_ble_eq_true rfl) ?_
  intro p e s m below meth c A ls C hr hA hO hH hl
  have C : gC E cX9_isChoice 1 RX9 p s m _ meth c := C
  have hl : lv_has ls 1 [(0, .int p0)] := hl
  have hx := C.1
  have hb := C.2.1
  have hI := hI.S []
  refine lv_iload_n hx hb dX9_isChoice_0 rfl (lv_at hl 0 rfl) ?_
  refine lv_if_eq (tgt := 9) hx hb dX9_isChoice_1 (by decide) (fun c1 => ?_) (fun c1 => ?_)
  · skip
    have r2 : rg p0 0 0 := rf_eql (c_eq c1) (rg_all _) rl_0 (by decide)
    refine lv_iconst (v := (1 : Int32)) hx hb dX9_isChoice_9 (by decide) ?_
    refine lv_goto (tgt := 14) hx hb dX9_isChoice_10 (by decide) ?_
    exact g_zret C hr (rg_z (rg_w rl_1 (by decide))) hH (Nat.zero_le _) (Nat.zero_le _) dX9_isChoice_14 ⟨rfl, hI, (rg_w rl_1 (by decide))⟩
  · skip
    refine lv_iload_n hx hb dX9_isChoice_4 rfl (lv_at hl 0 rfl) ?_
    refine lv_iconst (v := (1 : Int32)) hx hb dX9_isChoice_5 (by decide) ?_
    refine lv_icmp_ne (tgt := 13) hx hb dX9_isChoice_6 (by decide) (fun c3 => ?_) (fun c3 => ?_)
    · skip
      refine lv_iconst (v := (0 : Int32)) hx hb dX9_isChoice_13 (by decide) ?_
      exact g_zret C hr (rg_z (rg_w rl_0 (by decide))) hH (Nat.zero_le _) (Nat.zero_le _) dX9_isChoice_14 ⟨rfl, hI, (rg_w rl_0 (by decide))⟩
    · skip
      have r4 : rg p0 1 1 := rf_eql (c_eq c3) (rg_all _) rl_1 (by decide)
      refine lv_iconst (v := (1 : Int32)) hx hb dX9_isChoice_9 (by decide) ?_
      refine lv_goto (tgt := 14) hx hb dX9_isChoice_10 (by decide) ?_
      exact g_zret C hr (rg_z (rg_w rl_1 (by decide))) hH (Nat.zero_le _) (Nat.zero_le _) dX9_isChoice_14 ⟨rfl, hI, (rg_w rl_1 (by decide))⟩
set_option maxHeartbeats 4000000 in
set_option maxRecDepth 100000 in
theorem t_X9_isSeed (l : Launch) (E : gE) (J : Nat → Nat) (τ : Nat → Nat) (L : List Nat) (f : gF) (hI : tI E L τ f) (p0 : Int32) : tMi l E J yX9_isSeed cX9_isSeed 1 .boolean (gRm (1) 0 0) [.int p0] L f (tPi E L τ [] f (fun r f1 => rg r 0 1 ∧ (¬ r = 0 → rg p0 0 2000000000))) := by
  refine tMi.intro (by decide) (Nat.le_of_ble_eq_true rfl) ?_
  intro p e s m below meth c A ls C hr hA hO hH hl
  have C : gC E cX9_isSeed 1 RX9 p s m _ meth c := C
  have hl : lv_has ls 1 [(0, .int p0)] := hl
  have hx := C.1
  have hb := C.2.1
  have hI := hI.S []
  refine lv_iload_n hx hb dX9_isSeed_0 rfl (lv_at hl 0 rfl) ?_
  refine lv_if_lt (tgt := 15) hx hb dX9_isSeed_1 (by decide) (fun c1 => ?_) (fun c1 => ?_)
  · skip
    have r2 : rg p0 (-2147483648) (-1) := rf_ltl (c_lt c1) (rg_all _) rl_0 (by decide)
    refine lv_iconst (v := (0 : Int32)) hx hb dX9_isSeed_15 (by decide) ?_
    exact g_zret C hr (rg_z (rg_w rl_0 (by decide))) hH (Nat.zero_le _) (Nat.zero_le _) dX9_isSeed_16 ⟨rfl, hI, ⟨(rg_w rl_0 (by decide)), (fun h => absurd rfl h)⟩⟩
  · skip
    have r3 : rg p0 0 2147483647 := rf_ler (n_lt c1) rl_0 (rg_all _) (by decide)
    refine lv_iload_n hx hb dX9_isSeed_4 rfl (lv_at hl 0 rfl) ?_
    refine lv_ldcw hx hb C.2.2.2.1 (C.2.2.2.2.1 _ wd0) dX9_isSeed_5 ?_
    refine lv_icmp_gt (tgt := 15) hx hb dX9_isSeed_8 (by decide) (fun c4 => ?_) (fun c4 => ?_)
    · skip
      have r5 : rg p0 2000000001 2147483647 := rf_ltr (c_lt c4) rl_2000000000 r3 (by decide)
      refine lv_iconst (v := (0 : Int32)) hx hb dX9_isSeed_15 (by decide) ?_
      exact g_zret C hr (rg_z (rg_w rl_0 (by decide))) hH (Nat.zero_le _) (Nat.zero_le _) dX9_isSeed_16 ⟨rfl, hI, ⟨(rg_w rl_0 (by decide)), (fun h => absurd rfl h)⟩⟩
    · skip
      have r6 : rg p0 0 2000000000 := rf_lel (n_lt c4) r3 rl_2000000000 (by decide)
      refine lv_iconst (v := (1 : Int32)) hx hb dX9_isSeed_11 (by decide) ?_
      refine lv_goto (tgt := 16) hx hb dX9_isSeed_12 (by decide) ?_
      exact g_zret C hr (rg_z (rg_w rl_1 (by decide))) hH (Nat.zero_le _) (Nat.zero_le _) dX9_isSeed_16 ⟨rfl, hI, ⟨(rg_w rl_1 (by decide)), (fun _ => r6)⟩⟩
set_option maxHeartbeats 4000000 in
set_option maxRecDepth 100000 in
theorem t_X9_isSlot (l : Launch) (E : gE) (J : Nat → Nat) (τ : Nat → Nat) (L : List Nat) (f : gF) (hI : tI E L τ f) (p0 : Int32) : tMi l E J yX9_isSlot cX9_isSlot 1 .boolean (gRm (1) 0 0) [.int p0] L f (tPi E L τ [] f (fun r f1 => rg r 0 1 ∧ (¬ r = 0 → rg p0 0 3))) := by
  refine tMi.intro (by decide) (Nat.le_of_ble_eq_true rfl) ?_
  intro p e s m below meth c A ls C hr hA hO hH hl
  have C : gC E cX9_isSlot 1 RX9 p s m _ meth c := C
  have hl : lv_has ls 1 [(0, .int p0)] := hl
  have hx := C.1
  have hb := C.2.1
  have hI := hI.S []
  refine lv_iload_n hx hb dX9_isSlot_0 rfl (lv_at hl 0 rfl) ?_
  refine lv_if_lt (tgt := 13) hx hb dX9_isSlot_1 (by decide) (fun c1 => ?_) (fun c1 => ?_)
  · skip
    have r2 : rg p0 (-2147483648) (-1) := rf_ltl (c_lt c1) (rg_all _) rl_0 (by decide)
    refine lv_iconst (v := (0 : Int32)) hx hb dX9_isSlot_13 (by decide) ?_
    exact g_zret C hr (rg_z (rg_w rl_0 (by decide))) hH (Nat.zero_le _) (Nat.zero_le _) dX9_isSlot_14 ⟨rfl, hI, ⟨(rg_w rl_0 (by decide)), (fun h => absurd rfl h)⟩⟩
  · skip
    have r3 : rg p0 0 2147483647 := rf_ler (n_lt c1) rl_0 (rg_all _) (by decide)
    refine lv_iload_n hx hb dX9_isSlot_4 rfl (lv_at hl 0 rfl) ?_
    refine lv_iconst (v := (4 : Int32)) hx hb dX9_isSlot_5 (by decide) ?_
    refine lv_icmp_ge (tgt := 13) hx hb dX9_isSlot_6 (by decide) (fun c4 => ?_) (fun c4 => ?_)
    · skip
      have r5 : rg p0 4 2147483647 := rf_ler (c_le c4) rl_4 r3 (by decide)
      refine lv_iconst (v := (0 : Int32)) hx hb dX9_isSlot_13 (by decide) ?_
      exact g_zret C hr (rg_z (rg_w rl_0 (by decide))) hH (Nat.zero_le _) (Nat.zero_le _) dX9_isSlot_14 ⟨rfl, hI, ⟨(rg_w rl_0 (by decide)), (fun h => absurd rfl h)⟩⟩
    · skip
      have r6 : rg p0 0 3 := rf_ltl (n_le c4) r3 rl_4 (by decide)
      refine lv_iconst (v := (1 : Int32)) hx hb dX9_isSlot_9 (by decide) ?_
      refine lv_goto (tgt := 14) hx hb dX9_isSlot_10 (by decide) ?_
      exact g_zret C hr (rg_z (rg_w rl_1 (by decide))) hH (Nat.zero_le _) (Nat.zero_le _) dX9_isSlot_14 ⟨rfl, hI, ⟨(rg_w rl_1 (by decide)), (fun _ => r6)⟩⟩
set_option maxHeartbeats 4000000 in
set_option maxRecDepth 100000 in
theorem t_X9_commonDivisor (l : Launch) (E : gE) (J : Nat → Nat) (τ : Nat → Nat) (L : List Nat) (f : gF) (hI : tI E L τ f) (p0 : Int32) (p1 : Int32) : tMi l E J yX9_commonDivisor cX9_commonDivisor 6 .int (gRm (1) 0 0) [.int p0, .int p1] L f (tPi E L τ [] f (fun r f1 => rg r (-2147483648) 2147483647)) := by
  refine tMi.intro (by decide) (Nat.le_of_ble_eq_true rfl) ?_
  intro p e s m below meth c A ls C hr hA hO hH hl
  have C : gC E cX9_commonDivisor 6 RX9 p s m _ meth c := C
  have hl : lv_has ls 6 [(0, .int p0), (1, .int p1)] := hl
  have hx := C.1
  have hb := C.2.1
  have hI := hI.S []
  have cut7 : ∀ (n : Nat) (fh7 : gF) (H : Heap) (locs : List Loc) (ls : Array Slot) (v7_2 : Int32) (v7_3 : Int32) (v7_4 : Int32), 64 - v7_4.toInt < (n : Int) → tS E L τ [] f fh7 → gH E A L fh7 s.heap H locs → rg v7_4 0 64 → lv_has ls 6 [(0, .int p0), (1, .int p1), (2, .int v7_2), (3, .int v7_3), (4, .int v7_4)] → W p l e (gRm (1) 0 0) s m [.int p0, .int p1].toArray below meth c H locs 0 0 (MQ below (gQi E A (tPi E L τ [] f (fun r f1 => rg r (-2147483648) 2147483647))) [.int p0, .int p1].toArray s (gRm (1) 0 0).cells (gRm (1) 0 0).slots A) (F0 m 7 ls []) := by
    intro n
    induction n with
    | zero =>
      intro fh7 H locs ls v7_2 v7_3 v7_4 hfu7 hI hH r_v7_4 hl
      exact (fu_0 hfu7 r_v7_4).elim
    | succ n ih7 =>
      intro fh7 H locs ls v7_2 v7_3 v7_4 hfu7 hI hH r_v7_4 hl
      refine lv_iload hx hb dX9_commonDivisor_7 (lv_at hl 4 rfl) ?_
      refine lv_bipush (v := (64 : Int32)) hx hb dX9_commonDivisor_9 (by decide) ?_
      refine lv_icmp_ge (tgt := 34) hx hb dX9_commonDivisor_11 (by decide) (fun c1 => ?_) (fun c1 => ?_)
      · skip
        have r2 : rg v7_4 64 64 := rf_ler (c_le c1) rl_64 r_v7_4 (by decide)
        refine lv_iload_n hx hb dX9_commonDivisor_34 rfl (lv_at hl 2 rfl) ?_
        exact g_iret C hr hH (Nat.zero_le _) (Nat.zero_le _) dX9_commonDivisor_35 ⟨rfl, hI, (rg_all _)⟩
      · skip
        have r3 : rg v7_4 0 63 := rf_ltl (n_le c1) r_v7_4 rl_64 (by decide)
        refine lv_iload_n hx hb dX9_commonDivisor_14 rfl (lv_at hl 3 rfl) ?_
        refine lv_if_eq (tgt := 34) hx hb dX9_commonDivisor_15 (by decide) (fun c4 => ?_) (fun c4 => ?_)
        · skip
          have r5 : rg v7_3 0 0 := rf_eql (c_eq c4) (rg_all _) rl_0 (by decide)
          refine lv_iload_n hx hb dX9_commonDivisor_34 rfl (lv_at hl 2 rfl) ?_
          exact g_iret C hr hH (Nat.zero_le _) (Nat.zero_le _) dX9_commonDivisor_35 ⟨rfl, hI, (rg_all _)⟩
        · skip
          refine lv_iload_n hx hb dX9_commonDivisor_18 rfl (lv_at hl 2 rfl) ?_
          refine lv_iload_n hx hb dX9_commonDivisor_19 rfl (lv_at hl 3 rfl) ?_
          refine lv_irem hx hb dX9_commonDivisor_20 c4 ?_
          refine lv_topi (fun z6 ez6 => ?_)
          refine lv_istore (lv' := [(5, .int z6), (0, .int p0), (1, .int p1), (2, .int v7_2), (3, .int v7_3), (4, .int v7_4)]) hx hb dX9_commonDivisor_21 hl (by decide) rfl (fun ls hl => ?_)
          refine lv_iload_n hx hb dX9_commonDivisor_23 rfl (lv_at hl 4 rfl) ?_
          refine lv_istore_n (lv' := [(2, .int v7_3), (5, .int z6), (0, .int p0), (1, .int p1), (3, .int v7_3), (4, .int v7_4)]) hx hb dX9_commonDivisor_24 rfl hl (by decide) rfl (fun ls hl => ?_)
          refine lv_iload hx hb dX9_commonDivisor_25 (lv_at hl 1 rfl) ?_
          refine lv_istore_n (lv' := [(3, .int z6), (2, .int v7_3), (5, .int z6), (0, .int p0), (1, .int p1), (4, .int v7_4)]) hx hb dX9_commonDivisor_27 rfl hl (by decide) rfl (fun ls hl => ?_)
          obtain ⟨z7, ez7⟩ : ∃ y : Int32, y = v7_4 + (1 : Int32) := ⟨_, rfl⟩
          have r8 : rg z7 1 64 := rg_add ez7 r3 rl_1 (by decide)
          have a9 : z7.toInt = v7_4.toInt + 1 := ai_add ez7 r3 tl_1 (by decide)
          refine lv_iinc (v := z7) (lv' := [(4, .int z7), (3, .int z6), (2, .int v7_3), (5, .int z6), (0, .int p0), (1, .int p1)]) hx hb dX9_commonDivisor_28 hl (k := 5) rfl (by rw [ez7]; rfl) (by decide) rfl (fun ls hl => ?_)
          refine lv_goto (tgt := 7) hx hb dX9_commonDivisor_31 (by decide) ?_
          exact ih7 _ _ _ _ v7_3 z6 z7 (fu_s hfu7 a9 (by decide)) hI hH (rg_w r8 (by decide)) (lv_sub hl [4, 5, 2, 1, 0] rfl)
  refine lv_iload_n hx hb dX9_commonDivisor_0 rfl (lv_at hl 0 rfl) ?_
  refine lv_istore_n (lv' := [(2, .int p0), (0, .int p0), (1, .int p1)]) hx hb dX9_commonDivisor_1 rfl hl (by decide) rfl (fun ls hl => ?_)
  refine lv_iload_n hx hb dX9_commonDivisor_2 rfl (lv_at hl 2 rfl) ?_
  refine lv_istore_n (lv' := [(3, .int p1), (2, .int p0), (0, .int p0), (1, .int p1)]) hx hb dX9_commonDivisor_3 rfl hl (by decide) rfl (fun ls hl => ?_)
  refine lv_iconst (v := (0 : Int32)) hx hb dX9_commonDivisor_4 (by decide) ?_
  refine lv_istore (lv' := [(4, .int (0 : Int32)), (3, .int p1), (2, .int p0), (0, .int p0), (1, .int p1)]) hx hb dX9_commonDivisor_5 hl (by decide) rfl (fun ls hl => ?_)
  exact cut7 65 _ _ _ _ p0 p1 (0 : Int32) (fu_i 65 rl_0 (by decide)) hI hH (rg_w rl_0 (by decide)) (lv_sub hl [3, 4, 2, 1, 0] rfl)
set_option maxHeartbeats 4000000 in
set_option maxRecDepth 100000 in
theorem t_X9_partOf (l : Launch) (E : gE) (J : Nat → Nat) (τ : Nat → Nat) (L : List Nat) (f : gF) (hI : tI E L τ f) (p0 : Int32) (p1 : Int32) (p2 : Int32) : tMi l E J yX9_partOf cX9_partOf 4 .int (gRm (2) 0 0) [.int p0, .int p1, .int p2] L f (tPi E L τ [] f (fun r f1 => rg r (-2147483648) 2147483647)) := by
  refine tMi.intro (by decide) (Nat.le_of_ble_eq_true rfl) ?_
  intro p e s m below meth c A ls C hr hA hO hH hl
  have C : gC E cX9_partOf 4 RX9 p s m _ meth c := C
  have hl : lv_has ls 4 [(0, .int p0), (1, .int p1), (2, .int p2)] := hl
  have hx := C.1
  have hb := C.2.1
  have hI := hI.S []
  refine lv_iload_n hx hb dX9_partOf_0 rfl (lv_at hl 0 rfl) ?_
  refine lv_iload_n hx hb dX9_partOf_1 rfl (lv_at hl 1 rfl) ?_
  refine t_Si C hO hl.1 hA hH (As := [.int p0, .int p1]) (rest := []) (t_X9_commonDivisor l E J τ L f hI.1 p0 p1) my_X9_commonDivisor wd4 rfl rfl (Nat.le_of_ble_eq_true rfl) ⟨Nat.le_of_ble_eq_true rfl, Nat.le_of_ble_eq_true rfl⟩ ⟨rfl, rfl⟩ dX9_partOf_2 (fun r2 L1 f1 H locs hp hH => ?_)
  obtain ⟨rfl, s3, h4⟩ := hp
  have hI := hI.call s3 (by decide)
  refine lv_istore_n (lv' := [(3, .int r2), (0, .int p0), (1, .int p1), (2, .int p2)]) hx hb dX9_partOf_5 rfl hl (by decide) rfl (fun ls hl => ?_)
  refine lv_iload_n hx hb dX9_partOf_6 rfl (lv_at hl 0 rfl) ?_
  refine lv_iconst (v := (1 : Int32)) hx hb dX9_partOf_7 (by decide) ?_
  refine lv_icmp_ge (tgt := 13) hx hb dX9_partOf_8 (by decide) (fun c5 => ?_) (fun c5 => ?_)
  · skip
    have r6 : rg r2 1 2147483647 := rf_ler (c_le c5) rl_1 h4 (by decide)
    refine lv_iload_n hx hb dX9_partOf_13 rfl (lv_at hl 3 rfl) ?_
    refine lv_if_ne (tgt := 21) hx hb dX9_partOf_14 (by decide) (fun c7 => ?_) (fun c7 => ?_)
    · skip
      refine lv_iload_n hx hb dX9_partOf_21 rfl (lv_at hl 2 rfl) ?_
      refine lv_iload_n hx hb dX9_partOf_22 rfl (lv_at hl 0 rfl) ?_
      refine lv_idiv hx hb dX9_partOf_23 (rg_ne0 r6 (by decide)) ?_
      refine lv_topi (fun z8 ez8 => ?_)
      exact g_iret C hr hH (Nat.zero_le _) (Nat.zero_le _) dX9_partOf_24 ⟨rfl, hI, (rg_all _)⟩
    · skip
      have r9 : rg p2 0 0 := rf_eql (c_eq c7) (rg_all _) rl_0 (by decide)
      refine lv_iload_n hx hb dX9_partOf_17 rfl (lv_at hl 1 rfl) ?_
      refine lv_goto (tgt := 22) hx hb dX9_partOf_18 (by decide) ?_
      refine lv_iload_n hx hb dX9_partOf_22 rfl (lv_at hl 0 rfl) ?_
      refine lv_idiv hx hb dX9_partOf_23 (rg_ne0 r6 (by decide)) ?_
      refine lv_topi (fun z10 ez10 => ?_)
      exact g_iret C hr hH (Nat.zero_le _) (Nat.zero_le _) dX9_partOf_24 ⟨rfl, hI, (rg_all _)⟩
  · skip
    have r11 : rg r2 (-2147483648) 0 := rf_ltl (n_le c5) h4 rl_1 (by decide)
    refine lv_iload_n hx hb dX9_partOf_11 rfl (lv_at hl 3 rfl) ?_
    exact g_iret C hr hH (Nat.zero_le _) (Nat.zero_le _) dX9_partOf_12 ⟨rfl, hI, (rg_all _)⟩
set_option maxHeartbeats 4000000 in
set_option maxRecDepth 100000 in
theorem t_X8_append (l : Launch) (E : gE) (J : Nat → Nat) (τ : Nat → Nat) (L : List Nat) (f : gF) (hI : tI E L τ f) {q : Nat} (mq : q ∈ L) (tq : τ q = 1) (p1 : Int32) : tMv l E J yX8_append cX8_append 3 (gRm (1) 0 0) [.ref q, .int p1] L f (tPv E L τ [1, 2] f (fun f1 => True)) := by
  refine tMv.intro (by decide) (Nat.le_of_ble_eq_true rfl) ?_
  intro p e s m below meth c A ls C hr hA hO hH hl
  have C : gC E cX8_append 3 RX8 p s m _ meth c := C
  have hl : lv_has ls 3 [(0, .ref q), (1, .int p1)] := hl
  have hx := C.1
  have hb := C.2.1
  have hI := hI.S [1, 2]
  obtain ⟨q_0, mq_0, tq_0, kq_0⟩ := t_fldr hI.1 mq tq td_1 (k := 0) rfl
  have cut3 : ∀ (n : Nat) (fh3 : gF) (H : Heap) (locs : List Loc) (ls : Array Slot) (v3_2 : Int32), v3_2.toInt - (-8) < (n : Int) → tS E L τ [1, 2] f fh3 → gH E A L fh3 s.heap H locs → rg v3_2 (-8) 24 → lv_has ls 3 [(0, .ref q), (1, .int p1), (2, .int v3_2)] → W p l e (gRm (1) 0 0) s m [.ref q, .int p1].toArray below meth c H locs 0 0 (MQ below (gQv E A (tPv E L τ [1, 2] f (fun f1 => True))) [.ref q, .int p1].toArray s (gRm (1) 0 0).cells (gRm (1) 0 0).slots A) (F0 m 3 ls []) := by
    intro n
    induction n with
    | zero =>
      intro fh3 H locs ls v3_2 hfu3 hI hH r_v3_2 hl
      exact (fd_0 hfu3 r_v3_2).elim
    | succ n ih3 =>
      intro fh3 H locs ls v3_2 hfu3 hI hH r_v3_2 hl
      refine lv_iload_n hx hb dX8_append_3 rfl (lv_at hl 2 rfl) ?_
      refine lv_if_lt (tgt := 46) hx hb dX8_append_4 (by decide) (fun c1 => ?_) (fun c1 => ?_)
      · skip
        have r2 : rg v3_2 (-8) (-1) := rf_ltl (c_lt c1) r_v3_2 rl_0 (by decide)
        exact g_vret C hr hH (Nat.zero_le _) (Nat.zero_le _) dX8_append_46 ⟨rfl, hI, trivial⟩
      · skip
        have r3 : rg v3_2 0 24 := rf_ler (n_lt c1) rl_0 r_v3_2 (by decide)
        refine lv_aload_n hx hb dX8_append_7 rfl (lv_at hl 0 rfl) ?_
        obtain ⟨z4, rz4, kz4⟩ := t_fldi hI.1 mq tq td_1 (k := 1) rfl
        refine t_getX C hH hI.1 mq tq td_1 iX8 rfl 1 (by decide) wd5 rfl kz4 dX8_append_8 ?_
        refine lv_sipush (v := (800 : Int32)) hx hb dX8_append_11 (by decide) ?_
        refine lv_icmp_ge (tgt := 46) hx hb dX8_append_14 (by decide) (fun c5 => ?_) (fun c5 => ?_)
        · skip
          have r6 : rg z4 800 800 := rf_ler (c_le c5) rl_800 rz4 (by decide)
          exact g_vret C hr hH (Nat.zero_le _) (Nat.zero_le _) dX8_append_46 ⟨rfl, hI, trivial⟩
        · skip
          have r7 : rg z4 0 799 := rf_ltl (n_le c5) rz4 rl_800 (by decide)
          refine lv_aload_n hx hb dX8_append_17 rfl (lv_at hl 0 rfl) ?_
          refine t_getX C hH hI.1 mq tq td_1 iX8 rfl 0 (by decide) wd6 rfl (hI.rf kq_0) dX8_append_18 ?_
          refine lv_aload_n hx hb dX8_append_21 rfl (lv_at hl 0 rfl) ?_
          refine t_getX C hH hI.1 mq tq td_1 iX8 rfl 1 (by decide) wd5 rfl kz4 dX8_append_22 ?_
          refine lv_iload_n hx hb dX8_append_25 rfl (lv_at hl 1 rfl) ?_
          refine lv_iload_n hx hb dX8_append_26 rfl (lv_at hl 2 rfl) ?_
          refine lv_ishr hx hb dX8_append_27 ?_
          refine lv_topi (fun z8 ez8 => ?_)
          refine lv_i2b (v := _) hx hb dX8_append_28 rfl ?_
          refine lv_topi (fun z9 ez9 => ?_)
          refine t_bast C hH hI mq_0 tq_0 (by decide) td_2 (rg_in r7 (by decide)) dX8_append_29 (fun f10 H locs hH hI bf10 => ?_)
          have k11 : fld f10 q 1 (.int z4) := fld.eq kz4 (bf10 q (ty_ne tq tq_0 rfl))
          refine lv_aload_n hx hb dX8_append_30 rfl (lv_at hl 0 rfl) ?_
          refine lv_dup hx hb dX8_append_31 rfl ?_
          refine t_getX C hH hI.1 mq tq td_1 iX8 rfl 1 (by decide) wd5 rfl k11 dX8_append_32 ?_
          refine lv_iconst (v := (1 : Int32)) hx hb dX8_append_35 (by decide) ?_
          refine lv_iadd hx hb dX8_append_36 ?_
          refine lv_topi (fun z12 ez12 => ?_)
          have r13 : rg z12 1 800 := rg_add ez12 r7 rl_1 (by decide)
          have a14 : z12.toInt = z4.toInt + 1 := ai_add ez12 r7 tl_1 (by decide)
          refine t_put C hH hI mq tq (by decide) td_1 iX8 tyX8 tyX8_ok nmX8 rfl 1 (by decide) wd5 rfl rfl (v := .int z12) rfl rfl rfl ⟨_, rfl, (rg_w r13 (by decide))⟩ (fun _ h => nomatch h) dX8_append_37 (fun f15 H locs hH hI nf15 of15 bf15 => ?_)
          obtain ⟨z16, ez16⟩ : ∃ y : Int32, y = v3_2 + (-8 : Int32) := ⟨_, rfl⟩
          have r17 : rg z16 (-8) 16 := rg_add ez16 r3 rl_m8 (by decide)
          have a18 : z16.toInt = v3_2.toInt + (-8) := ai_add ez16 r3 tl_m8 (by decide)
          refine lv_iinc (v := z16) (lv' := [(2, .int z16), (0, .ref q), (1, .int p1)]) hx hb dX8_append_40 hl (k := 2) rfl (by rw [ez16]; rfl) (by decide) rfl (fun ls hl => ?_)
          refine lv_goto (tgt := 3) hx hb dX8_append_43 (by decide) ?_
          exact ih3 _ _ _ _ z16 (fd_s hfu3 a18 (by decide)) hI hH (rg_w r17 (by decide)) (lv_sub hl [1, 2, 0] rfl)
  refine lv_bipush (v := (24 : Int32)) hx hb dX8_append_0 (by decide) ?_
  refine lv_istore_n (lv' := [(2, .int (24 : Int32)), (0, .ref q), (1, .int p1)]) hx hb dX8_append_2 rfl hl (by decide) rfl (fun ls hl => ?_)
  exact cut3 33 _ _ _ _ (24 : Int32) (fd_i 33 rl_24 (by decide)) hI hH (rg_w rl_24 (by decide)) (lv_sub hl [1, 2, 0] rfl)
set_option maxHeartbeats 4000000 in
set_option maxRecDepth 100000 in
theorem t_X3_clear (l : Launch) (E : gE) (J : Nat → Nat) (τ : Nat → Nat) (L : List Nat) (f : gF) (hI : tI E L τ f) {q : Nat} (mq : q ∈ L) (tq : τ q = 35) : tMv l E J yX3_clear cX3_clear 1 (gRm (1) 0 0) [.ref q] L f (tPv E L τ [35] f (fun f1 => True)) := by
  refine tMv.intro (by decide) (Nat.le_of_ble_eq_true rfl) ?_
  intro p e s m below meth c A ls C hr hA hO hH hl
  have C : gC E cX3_clear 1 RX3 p s m _ meth c := C
  have hl : lv_has ls 1 [(0, .ref q)] := hl
  have hx := C.1
  have hb := C.2.1
  have hI := hI.S [35]
  refine lv_aload_n hx hb dX3_clear_0 rfl (lv_at hl 0 rfl) ?_
  refine lv_iconst (v := (0 : Int32)) hx hb dX3_clear_1 (by decide) ?_
  refine t_put C hH hI mq tq (by decide) td_35 iX3 tyX3 tyX3_ok nmX3 rfl 0 (by decide) wd7 rfl rfl (v := .int (0 : Int32)) rfl rfl rfl ⟨_, rfl, (rg_w rl_0 (by decide))⟩ (fun _ h => nomatch h) dX3_clear_2 (fun f1 H locs hH hI nf1 of1 bf1 => ?_)
  refine lv_aload_n hx hb dX3_clear_5 rfl (lv_at hl 0 rfl) ?_
  refine lv_iconst (v := (0 : Int32)) hx hb dX3_clear_6 (by decide) ?_
  refine t_put C hH hI mq tq (by decide) td_35 iX3 tyX3 tyX3_ok nmX3 rfl 1 (by decide) wd8 rfl rfl (v := .int (0 : Int32)) rfl rfl rfl ⟨_, rfl, (rg_w rl_0 (by decide))⟩ (fun _ h => nomatch h) dX3_clear_7 (fun f2 H locs hH hI nf2 of2 bf2 => ?_)
  refine lv_aload_n hx hb dX3_clear_10 rfl (lv_at hl 0 rfl) ?_
  refine lv_iconst (v := (0 : Int32)) hx hb dX3_clear_11 (by decide) ?_
  refine t_put C hH hI mq tq (by decide) td_35 iX3 tyX3 tyX3_ok nmX3 rfl 2 (by decide) wd9 rfl rfl (v := .int (0 : Int32)) rfl rfl rfl ⟨_, rfl, (rg_w rl_0 (by decide))⟩ (fun _ h => nomatch h) dX3_clear_12 (fun f3 H locs hH hI nf3 of3 bf3 => ?_)
  refine lv_aload_n hx hb dX3_clear_15 rfl (lv_at hl 0 rfl) ?_
  refine lv_iconst (v := (0 : Int32)) hx hb dX3_clear_16 (by decide) ?_
  refine t_put C hH hI mq tq (by decide) td_35 iX3 tyX3 tyX3_ok nmX3 rfl 3 (by decide) wd10 rfl rfl (v := .int (0 : Int32)) rfl rfl rfl ⟨_, rfl, (rg_w rl_0 (by decide))⟩ (fun _ h => nomatch h) dX3_clear_17 (fun f4 H locs hH hI nf4 of4 bf4 => ?_)
  refine lv_aload_n hx hb dX3_clear_20 rfl (lv_at hl 0 rfl) ?_
  refine lv_iconst (v := (0 : Int32)) hx hb dX3_clear_21 (by decide) ?_
  refine t_put C hH hI mq tq (by decide) td_35 iX3 tyX3 tyX3_ok nmX3 rfl 4 (by decide) wd11 rfl rfl (v := .int (0 : Int32)) rfl rfl rfl ⟨_, rfl, (rg_w rl_0 (by decide))⟩ (fun _ h => nomatch h) dX3_clear_22 (fun f5 H locs hH hI nf5 of5 bf5 => ?_)
  refine lv_aload_n hx hb dX3_clear_25 rfl (lv_at hl 0 rfl) ?_
  refine lv_iconst (v := (0 : Int32)) hx hb dX3_clear_26 (by decide) ?_
  refine t_put C hH hI mq tq (by decide) td_35 iX3 tyX3 tyX3_ok nmX3 rfl 5 (by decide) wd12 rfl rfl (v := .int (0 : Int32)) rfl rfl rfl ⟨_, rfl, (rg_w rl_0 (by decide))⟩ (fun _ h => nomatch h) dX3_clear_27 (fun f6 H locs hH hI nf6 of6 bf6 => ?_)
  refine lv_aload_n hx hb dX3_clear_30 rfl (lv_at hl 0 rfl) ?_
  refine lv_iconst (v := (0 : Int32)) hx hb dX3_clear_31 (by decide) ?_
  refine t_put C hH hI mq tq (by decide) td_35 iX3 tyX3 tyX3_ok nmX3 rfl 6 (by decide) wd13 rfl rfl (v := .int (0 : Int32)) rfl rfl rfl ⟨_, rfl, (rg_w rl_0 (by decide))⟩ (fun _ h => nomatch h) dX3_clear_32 (fun f7 H locs hH hI nf7 of7 bf7 => ?_)
  refine lv_aload_n hx hb dX3_clear_35 rfl (lv_at hl 0 rfl) ?_
  refine lv_iconst (v := (0 : Int32)) hx hb dX3_clear_36 (by decide) ?_
  refine t_put C hH hI mq tq (by decide) td_35 iX3 tyX3 tyX3_ok nmX3 rfl 7 (by decide) wd14 rfl rfl (v := .int (0 : Int32)) rfl rfl rfl ⟨_, rfl, (rg_w rl_0 (by decide))⟩ (fun _ h => nomatch h) dX3_clear_37 (fun f8 H locs hH hI nf8 of8 bf8 => ?_)
  refine lv_aload_n hx hb dX3_clear_40 rfl (lv_at hl 0 rfl) ?_
  refine lv_iconst (v := (0 : Int32)) hx hb dX3_clear_41 (by decide) ?_
  refine t_put C hH hI mq tq (by decide) td_35 iX3 tyX3 tyX3_ok nmX3 rfl 8 (by decide) wd15 rfl rfl (v := .int (0 : Int32)) rfl rfl rfl ⟨_, rfl, (rg_w rl_0 (by decide))⟩ (fun _ h => nomatch h) dX3_clear_42 (fun f9 H locs hH hI nf9 of9 bf9 => ?_)
  refine lv_aload_n hx hb dX3_clear_45 rfl (lv_at hl 0 rfl) ?_
  refine lv_iconst (v := (0 : Int32)) hx hb dX3_clear_46 (by decide) ?_
  refine t_put C hH hI mq tq (by decide) td_35 iX3 tyX3 tyX3_ok nmX3 rfl 9 (by decide) wd16 rfl rfl (v := .int (0 : Int32)) rfl rfl rfl ⟨_, rfl, (rg_w rl_0 (by decide))⟩ (fun _ h => nomatch h) dX3_clear_47 (fun f10 H locs hH hI nf10 of10 bf10 => ?_)
  exact g_vret C hr hH (Nat.zero_le _) (Nat.zero_le _) dX3_clear_50 ⟨rfl, hI, trivial⟩
set_option maxHeartbeats 4000000 in
set_option maxRecDepth 100000 in
theorem t_X3_isNone (l : Launch) (E : gE) (J : Nat → Nat) (τ : Nat → Nat) (L : List Nat) (f : gF) (hI : tI E L τ f) {q : Nat} (mq : q ∈ L) (tq : τ q = 3) : tMi l E J yX3_isNone cX3_isNone 1 .boolean (gRm (1) 0 0) [.ref q] L f (tPi E L τ [] f (fun r f1 => rg r 0 1)) := by
  refine tMi.intro (by decide) (Nat.le_of_ble_eq_true rfl) ?_
  intro p e s m below meth c A ls C hr hA hO hH hl
  have C : gC E cX3_isNone 1 RX3 p s m _ meth c := C
  have hl : lv_has ls 1 [(0, .ref q)] := hl
  have hx := C.1
  have hb := C.2.1
  have hI := hI.S []
  refine lv_aload_n hx hb dX3_isNone_0 rfl (lv_at hl 0 rfl) ?_
  refine t_geti C hH hI.1 mq tq td_3 iX3 rfl 0 (by decide) wd7 rfl rfl dX3_isNone_1 (fun z1 rz1 => ?_)
  refine lv_if_ne (tgt := 11) hx hb dX3_isNone_4 (by decide) (fun c2 => ?_) (fun c2 => ?_)
  · skip
    refine lv_iconst (v := (0 : Int32)) hx hb dX3_isNone_11 (by decide) ?_
    exact g_zret C hr (rg_z (rg_w rl_0 (by decide))) hH (Nat.zero_le _) (Nat.zero_le _) dX3_isNone_12 ⟨rfl, hI, (rg_w rl_0 (by decide))⟩
  · skip
    have r3 : rg z1 0 0 := rf_eql (c_eq c2) rz1 rl_0 (by decide)
    refine lv_iconst (v := (1 : Int32)) hx hb dX3_isNone_7 (by decide) ?_
    refine lv_goto (tgt := 12) hx hb dX3_isNone_8 (by decide) ?_
    exact g_zret C hr (rg_z (rg_w rl_1 (by decide))) hH (Nat.zero_le _) (Nat.zero_le _) dX3_isNone_12 ⟨rfl, hI, (rg_w rl_1 (by decide))⟩
set_option maxHeartbeats 4000000 in
set_option maxRecDepth 100000 in
theorem t_X3_cells (l : Launch) (E : gE) (J : Nat → Nat) (τ : Nat → Nat) (L : List Nat) (f : gF) (hI : tI E L τ f) {q : Nat} (mq : q ∈ L) (tq : τ q = 3) : tMi l E J yX3_cells cX3_cells 1 .int (gRm (1) 0 0) [.ref q] L f (tPi E L τ [] f (fun r f1 => rg r 0 20)) := by
  refine tMi.intro (by decide) (Nat.le_of_ble_eq_true rfl) ?_
  intro p e s m below meth c A ls C hr hA hO hH hl
  have C : gC E cX3_cells 1 RX3 p s m _ meth c := C
  have hl : lv_has ls 1 [(0, .ref q)] := hl
  have hx := C.1
  have hb := C.2.1
  have hI := hI.S []
  refine lv_aload_n hx hb dX3_cells_0 rfl (lv_at hl 0 rfl) ?_
  refine t_geti C hH hI.1 mq tq td_3 iX3 rfl 1 (by decide) wd8 rfl rfl dX3_cells_1 (fun z1 rz1 => ?_)
  refine lv_aload_n hx hb dX3_cells_4 rfl (lv_at hl 0 rfl) ?_
  refine t_geti C hH hI.1 mq tq td_3 iX3 rfl 2 (by decide) wd9 rfl rfl dX3_cells_5 (fun z2 rz2 => ?_)
  refine lv_imul hx hb dX3_cells_8 ?_
  refine lv_topi (fun z3 ez3 => ?_)
  have r4 : rg z3 0 20 := rg_mul ez3 rz1 rz2 (by decide)
  exact g_iret C hr hH (Nat.zero_le _) (Nat.zero_le _) dX3_cells_9 ⟨rfl, hI, r4⟩
set_option maxHeartbeats 4000000 in
set_option maxRecDepth 100000 in
theorem t_X3_allCells (l : Launch) (E : gE) (J : Nat → Nat) (τ : Nat → Nat) (L : List Nat) (f : gF) (hI : tI E L τ f) {q : Nat} (mq : q ∈ L) (tq : τ q = 3) : tMi l E J yX3_allCells cX3_allCells 1 .int (gRm (2) 0 0) [.ref q] L f (tPi E L τ [] f (fun r f1 => rg r 0 1048575)) := by
  refine tMi.intro (by decide) (Nat.le_of_ble_eq_true rfl) ?_
  intro p e s m below meth c A ls C hr hA hO hH hl
  have C : gC E cX3_allCells 1 RX3 p s m _ meth c := C
  have hl : lv_has ls 1 [(0, .ref q)] := hl
  have hx := C.1
  have hb := C.2.1
  have hI := hI.S []
  refine lv_iconst (v := (1 : Int32)) hx hb dX3_allCells_0 (by decide) ?_
  refine lv_aload_n hx hb dX3_allCells_1 rfl (lv_at hl 0 rfl) ?_
  refine t_Vi C hO hl.1 hA hH hI.1 (As := []) (rest := [.int (1 : Int32)]) (t_X3_cells l E J τ L f hI.1 mq tq) my_X3_cells wd21 mq tq td_3 rfl rfl rfl (Nat.le_of_ble_eq_true rfl) ⟨Nat.le_of_ble_eq_true rfl, Nat.le_of_ble_eq_true rfl⟩ ⟨rfl, rfl⟩ dX3_allCells_2 (fun r2 L1 f1 H locs hp hH => ?_)
  obtain ⟨rfl, s3, h4⟩ := hp
  have hI := hI.call s3 (by decide)
  refine lv_ishl hx hb dX3_allCells_5 ?_
  refine lv_topi (fun z5 ez5 => ?_)
  have r6 : rg z5 1 1048576 := rg_shl 0 20 ez5 h4 (by decide)
  refine lv_iconst (v := (1 : Int32)) hx hb dX3_allCells_6 (by decide) ?_
  refine lv_isub hx hb dX3_allCells_7 ?_
  refine lv_topi (fun z7 ez7 => ?_)
  have r8 : rg z7 0 1048575 := rg_sub ez7 r6 rl_1 (by decide)
  exact g_iret C hr hH (Nat.zero_le _) (Nat.zero_le _) dX3_allCells_8 ⟨rfl, hI, r8⟩
set_option maxHeartbeats 4000000 in
set_option maxRecDepth 100000 in
theorem t_X3_allMembers (l : Launch) (E : gE) (J : Nat → Nat) (τ : Nat → Nat) (L : List Nat) (f : gF) (hI : tI E L τ f) {q : Nat} (mq : q ∈ L) (tq : τ q = 3) : tMi l E J yX3_allMembers cX3_allMembers 1 .int (gRm (1) 0 0) [.ref q] L f (tPi E L τ [] f (fun r f1 => rg r 0 63)) := by
  refine tMi.intro (by decide) (Nat.le_of_ble_eq_true rfl) ?_
  intro p e s m below meth c A ls C hr hA hO hH hl
  have C : gC E cX3_allMembers 1 RX3 p s m _ meth c := C
  have hl : lv_has ls 1 [(0, .ref q)] := hl
  have hx := C.1
  have hb := C.2.1
  have hI := hI.S []
  refine lv_iconst (v := (1 : Int32)) hx hb dX3_allMembers_0 (by decide) ?_
  refine lv_aload_n hx hb dX3_allMembers_1 rfl (lv_at hl 0 rfl) ?_
  refine t_geti C hH hI.1 mq tq td_3 iX3 rfl 7 (by decide) wd14 rfl rfl dX3_allMembers_2 (fun z1 rz1 => ?_)
  refine lv_ishl hx hb dX3_allMembers_5 ?_
  refine lv_topi (fun z2 ez2 => ?_)
  have r3 : rg z2 1 64 := rg_shl 0 6 ez2 rz1 (by decide)
  refine lv_iconst (v := (1 : Int32)) hx hb dX3_allMembers_6 (by decide) ?_
  refine lv_isub hx hb dX3_allMembers_7 ?_
  refine lv_topi (fun z4 ez4 => ?_)
  have r5 : rg z4 0 63 := rg_sub ez4 r3 rl_1 (by decide)
  exact g_iret C hr hH (Nat.zero_le _) (Nat.zero_le _) dX3_allMembers_8 ⟨rfl, hI, r5⟩
set_option maxHeartbeats 4000000 in
set_option maxRecDepth 100000 in
theorem t_X3_hasFlight (l : Launch) (E : gE) (J : Nat → Nat) (τ : Nat → Nat) (L : List Nat) (f : gF) (hI : tI E L τ f) {q : Nat} (mq : q ∈ L) (tq : τ q = 3) (p1 : Int32) : tMi l E J yX3_hasFlight cX3_hasFlight 2 .boolean (gRm (1) 0 0) [.ref q, .int p1] L f (tPi E L τ [] f (fun r f1 => rg r 0 1 ∧ (¬ r = 0 → rg p1 0 3))) := by
  refine tMi.intro (by decide) (Nat.le_of_ble_eq_true rfl) ?_
  intro p e s m below meth c A ls C hr hA hO hH hl
  have C : gC E cX3_hasFlight 2 RX3 p s m _ meth c := C
  have hl : lv_has ls 2 [(0, .ref q), (1, .int p1)] := hl
  have hx := C.1
  have hb := C.2.1
  have hI := hI.S []
  refine lv_iload_n hx hb dX3_hasFlight_0 rfl (lv_at hl 1 rfl) ?_
  refine lv_if_lt (tgt := 16) hx hb dX3_hasFlight_1 (by decide) (fun c1 => ?_) (fun c1 => ?_)
  · skip
    have r2 : rg p1 (-2147483648) (-1) := rf_ltl (c_lt c1) (rg_all _) rl_0 (by decide)
    refine lv_iconst (v := (0 : Int32)) hx hb dX3_hasFlight_16 (by decide) ?_
    exact g_zret C hr (rg_z (rg_w rl_0 (by decide))) hH (Nat.zero_le _) (Nat.zero_le _) dX3_hasFlight_17 ⟨rfl, hI, ⟨(rg_w rl_0 (by decide)), (fun h => absurd rfl h)⟩⟩
  · skip
    have r3 : rg p1 0 2147483647 := rf_ler (n_lt c1) rl_0 (rg_all _) (by decide)
    refine lv_iload_n hx hb dX3_hasFlight_4 rfl (lv_at hl 1 rfl) ?_
    refine lv_aload_n hx hb dX3_hasFlight_5 rfl (lv_at hl 0 rfl) ?_
    refine t_geti C hH hI.1 mq tq td_3 iX3 rfl 6 (by decide) wd13 rfl rfl dX3_hasFlight_6 (fun z4 rz4 => ?_)
    refine lv_icmp_ge (tgt := 16) hx hb dX3_hasFlight_9 (by decide) (fun c5 => ?_) (fun c5 => ?_)
    · skip
      refine lv_iconst (v := (0 : Int32)) hx hb dX3_hasFlight_16 (by decide) ?_
      exact g_zret C hr (rg_z (rg_w rl_0 (by decide))) hH (Nat.zero_le _) (Nat.zero_le _) dX3_hasFlight_17 ⟨rfl, hI, ⟨(rg_w rl_0 (by decide)), (fun h => absurd rfl h)⟩⟩
    · skip
      have r6 : rg p1 0 3 := rf_ltl (n_le c5) r3 rz4 (by decide)
      have r7 : rg z4 1 4 := rf_ltr (n_le c5) r3 rz4 (by decide)
      refine lv_iconst (v := (1 : Int32)) hx hb dX3_hasFlight_12 (by decide) ?_
      refine lv_goto (tgt := 17) hx hb dX3_hasFlight_13 (by decide) ?_
      exact g_zret C hr (rg_z (rg_w rl_1 (by decide))) hH (Nat.zero_le _) (Nat.zero_le _) dX3_hasFlight_17 ⟨rfl, hI, ⟨(rg_w rl_1 (by decide)), (fun _ => r6)⟩⟩
set_option maxHeartbeats 4000000 in
set_option maxRecDepth 100000 in
theorem t_X3_hasMember (l : Launch) (E : gE) (J : Nat → Nat) (τ : Nat → Nat) (L : List Nat) (f : gF) (hI : tI E L τ f) {q : Nat} (mq : q ∈ L) (tq : τ q = 3) (p1 : Int32) : tMi l E J yX3_hasMember cX3_hasMember 2 .boolean (gRm (1) 0 0) [.ref q, .int p1] L f (tPi E L τ [] f (fun r f1 => rg r 0 1 ∧ (¬ r = 0 → rg p1 0 5))) := by
  refine tMi.intro (by decide) (Nat.le_of_ble_eq_true rfl) ?_
  intro p e s m below meth c A ls C hr hA hO hH hl
  have C : gC E cX3_hasMember 2 RX3 p s m _ meth c := C
  have hl : lv_has ls 2 [(0, .ref q), (1, .int p1)] := hl
  have hx := C.1
  have hb := C.2.1
  have hI := hI.S []
  refine lv_iload_n hx hb dX3_hasMember_0 rfl (lv_at hl 1 rfl) ?_
  refine lv_if_lt (tgt := 16) hx hb dX3_hasMember_1 (by decide) (fun c1 => ?_) (fun c1 => ?_)
  · skip
    have r2 : rg p1 (-2147483648) (-1) := rf_ltl (c_lt c1) (rg_all _) rl_0 (by decide)
    refine lv_iconst (v := (0 : Int32)) hx hb dX3_hasMember_16 (by decide) ?_
    exact g_zret C hr (rg_z (rg_w rl_0 (by decide))) hH (Nat.zero_le _) (Nat.zero_le _) dX3_hasMember_17 ⟨rfl, hI, ⟨(rg_w rl_0 (by decide)), (fun h => absurd rfl h)⟩⟩
  · skip
    have r3 : rg p1 0 2147483647 := rf_ler (n_lt c1) rl_0 (rg_all _) (by decide)
    refine lv_iload_n hx hb dX3_hasMember_4 rfl (lv_at hl 1 rfl) ?_
    refine lv_aload_n hx hb dX3_hasMember_5 rfl (lv_at hl 0 rfl) ?_
    refine t_geti C hH hI.1 mq tq td_3 iX3 rfl 7 (by decide) wd14 rfl rfl dX3_hasMember_6 (fun z4 rz4 => ?_)
    refine lv_icmp_ge (tgt := 16) hx hb dX3_hasMember_9 (by decide) (fun c5 => ?_) (fun c5 => ?_)
    · skip
      refine lv_iconst (v := (0 : Int32)) hx hb dX3_hasMember_16 (by decide) ?_
      exact g_zret C hr (rg_z (rg_w rl_0 (by decide))) hH (Nat.zero_le _) (Nat.zero_le _) dX3_hasMember_17 ⟨rfl, hI, ⟨(rg_w rl_0 (by decide)), (fun h => absurd rfl h)⟩⟩
    · skip
      have r6 : rg p1 0 5 := rf_ltl (n_le c5) r3 rz4 (by decide)
      have r7 : rg z4 1 6 := rf_ltr (n_le c5) r3 rz4 (by decide)
      refine lv_iconst (v := (1 : Int32)) hx hb dX3_hasMember_12 (by decide) ?_
      refine lv_goto (tgt := 17) hx hb dX3_hasMember_13 (by decide) ?_
      exact g_zret C hr (rg_z (rg_w rl_1 (by decide))) hH (Nat.zero_le _) (Nat.zero_le _) dX3_hasMember_17 ⟨rfl, hI, ⟨(rg_w rl_1 (by decide)), (fun _ => r6)⟩⟩
set_option maxHeartbeats 4000000 in
set_option maxRecDepth 100000 in
theorem t_X3_hasCell (l : Launch) (E : gE) (J : Nat → Nat) (τ : Nat → Nat) (L : List Nat) (f : gF) (hI : tI E L τ f) {q : Nat} (mq : q ∈ L) (tq : τ q = 3) (p1 : Int32) : tMi l E J yX3_hasCell cX3_hasCell 2 .boolean (gRm (2) 0 0) [.ref q, .int p1] L f (tPi E L τ [] f (fun r f1 => rg r 0 1 ∧ (¬ r = 0 → rg p1 0 19))) := by
  refine tMi.intro (by decide) (Nat.le_of_ble_eq_true rfl) ?_
  intro p e s m below meth c A ls C hr hA hO hH hl
  have C : gC E cX3_hasCell 2 RX3 p s m _ meth c := C
  have hl : lv_has ls 2 [(0, .ref q), (1, .int p1)] := hl
  have hx := C.1
  have hb := C.2.1
  have hI := hI.S []
  refine lv_iload_n hx hb dX3_hasCell_0 rfl (lv_at hl 1 rfl) ?_
  refine lv_if_lt (tgt := 16) hx hb dX3_hasCell_1 (by decide) (fun c1 => ?_) (fun c1 => ?_)
  · skip
    have r2 : rg p1 (-2147483648) (-1) := rf_ltl (c_lt c1) (rg_all _) rl_0 (by decide)
    refine lv_iconst (v := (0 : Int32)) hx hb dX3_hasCell_16 (by decide) ?_
    exact g_zret C hr (rg_z (rg_w rl_0 (by decide))) hH (Nat.zero_le _) (Nat.zero_le _) dX3_hasCell_17 ⟨rfl, hI, ⟨(rg_w rl_0 (by decide)), (fun h => absurd rfl h)⟩⟩
  · skip
    have r3 : rg p1 0 2147483647 := rf_ler (n_lt c1) rl_0 (rg_all _) (by decide)
    refine lv_iload_n hx hb dX3_hasCell_4 rfl (lv_at hl 1 rfl) ?_
    refine lv_aload_n hx hb dX3_hasCell_5 rfl (lv_at hl 0 rfl) ?_
    refine t_Vi C hO hl.1 hA hH hI.1 (As := []) (rest := [.int p1]) (t_X3_cells l E J τ L f hI.1 mq tq) my_X3_cells wd21 mq tq td_3 rfl rfl rfl (Nat.le_of_ble_eq_true rfl) ⟨Nat.le_of_ble_eq_true rfl, Nat.le_of_ble_eq_true rfl⟩ ⟨rfl, rfl⟩ dX3_hasCell_6 (fun r5 L1 f4 H locs hp hH => ?_)
    obtain ⟨rfl, s6, h7⟩ := hp
    have hI := hI.call s6 (by decide)
    refine lv_icmp_ge (tgt := 16) hx hb dX3_hasCell_9 (by decide) (fun c8 => ?_) (fun c8 => ?_)
    · skip
      refine lv_iconst (v := (0 : Int32)) hx hb dX3_hasCell_16 (by decide) ?_
      exact g_zret C hr (rg_z (rg_w rl_0 (by decide))) hH (Nat.zero_le _) (Nat.zero_le _) dX3_hasCell_17 ⟨rfl, hI, ⟨(rg_w rl_0 (by decide)), (fun h => absurd rfl h)⟩⟩
    · skip
      have r9 : rg p1 0 19 := rf_ltl (n_le c8) r3 h7 (by decide)
      have r10 : rg r5 1 20 := rf_ltr (n_le c8) r3 h7 (by decide)
      refine lv_iconst (v := (1 : Int32)) hx hb dX3_hasCell_12 (by decide) ?_
      refine lv_goto (tgt := 17) hx hb dX3_hasCell_13 (by decide) ?_
      exact g_zret C hr (rg_z (rg_w rl_1 (by decide))) hH (Nat.zero_le _) (Nat.zero_le _) dX3_hasCell_17 ⟨rfl, hI, ⟨(rg_w rl_1 (by decide)), (fun _ => r9)⟩⟩
set_option maxHeartbeats 4000000 in
set_option maxRecDepth 100000 in
theorem t_X3_hasSet (l : Launch) (E : gE) (J : Nat → Nat) (τ : Nat → Nat) (L : List Nat) (f : gF) (hI : tI E L τ f) {q : Nat} (mq : q ∈ L) (tq : τ q = 3) (p1 : Int32) : tMi l E J yX3_hasSet cX3_hasSet 2 .boolean (gRm (2) 0 0) [.ref q, .int p1] L f (tPi E L τ [] f (fun r f1 => rg r 0 1 ∧ (¬ r = 0 → rg p1 0 63))) := by
  refine tMi.intro (by decide) (Nat.le_of_ble_eq_true rfl) ?_
  intro p e s m below meth c A ls C hr hA hO hH hl
  have C : gC E cX3_hasSet 2 RX3 p s m _ meth c := C
  have hl : lv_has ls 2 [(0, .ref q), (1, .int p1)] := hl
  have hx := C.1
  have hb := C.2.1
  have hI := hI.S []
  refine lv_aload_n hx hb dX3_hasSet_0 rfl (lv_at hl 0 rfl) ?_
  refine t_Vi C hO hl.1 hA hH hI.1 (As := []) (rest := []) (t_X3_isNone l E J τ L f hI.1 mq tq) my_X3_isNone wd25 mq tq td_3 rfl rfl rfl (Nat.le_of_ble_eq_true rfl) ⟨Nat.le_of_ble_eq_true rfl, Nat.le_of_ble_eq_true rfl⟩ ⟨rfl, rfl⟩ dX3_hasSet_1 (fun r2 L1 f1 H locs hp hH => ?_)
  obtain ⟨rfl, s3, h4⟩ := hp
  have hI := hI.call s3 (by decide)
  refine lv_if_ne (tgt := 23) hx hb dX3_hasSet_4 (by decide) (fun c5 => ?_) (fun c5 => ?_)
  · skip
    have r6 : rg r2 1 1 := rf_nel (n_eq c5) h4 rl_0 (by decide)
    refine lv_iconst (v := (0 : Int32)) hx hb dX3_hasSet_23 (by decide) ?_
    exact g_zret C hr (rg_z (rg_w rl_0 (by decide))) hH (Nat.zero_le _) (Nat.zero_le _) dX3_hasSet_24 ⟨rfl, hI, ⟨(rg_w rl_0 (by decide)), (fun h => absurd rfl h)⟩⟩
  · skip
    have r7 : rg r2 0 0 := rf_eql (c_eq c5) h4 rl_0 (by decide)
    refine lv_iload_n hx hb dX3_hasSet_7 rfl (lv_at hl 1 rfl) ?_
    refine lv_if_lt (tgt := 23) hx hb dX3_hasSet_8 (by decide) (fun c8 => ?_) (fun c8 => ?_)
    · skip
      have r9 : rg p1 (-2147483648) (-1) := rf_ltl (c_lt c8) (rg_all _) rl_0 (by decide)
      refine lv_iconst (v := (0 : Int32)) hx hb dX3_hasSet_23 (by decide) ?_
      exact g_zret C hr (rg_z (rg_w rl_0 (by decide))) hH (Nat.zero_le _) (Nat.zero_le _) dX3_hasSet_24 ⟨rfl, hI, ⟨(rg_w rl_0 (by decide)), (fun h => absurd rfl h)⟩⟩
    · skip
      have r10 : rg p1 0 2147483647 := rf_ler (n_lt c8) rl_0 (rg_all _) (by decide)
      refine lv_iload_n hx hb dX3_hasSet_11 rfl (lv_at hl 1 rfl) ?_
      refine lv_aload_n hx hb dX3_hasSet_12 rfl (lv_at hl 0 rfl) ?_
      refine t_Vi C hO hl.1 hA hH hI.1 (As := []) (rest := [.int p1]) (t_X3_allMembers l E J τ L f1 hI.1 mq tq) my_X3_allMembers wd29 mq tq td_3 rfl rfl rfl (Nat.le_of_ble_eq_true rfl) ⟨Nat.le_of_ble_eq_true rfl, Nat.le_of_ble_eq_true rfl⟩ ⟨rfl, rfl⟩ dX3_hasSet_13 (fun r12 L1 f11 H locs hp hH => ?_)
      obtain ⟨rfl, s13, h14⟩ := hp
      have hI := hI.call s13 (by decide)
      refine lv_icmp_gt (tgt := 23) hx hb dX3_hasSet_16 (by decide) (fun c15 => ?_) (fun c15 => ?_)
      · skip
        have r16 : rg p1 1 2147483647 := rf_ltr (c_lt c15) h14 r10 (by decide)
        refine lv_iconst (v := (0 : Int32)) hx hb dX3_hasSet_23 (by decide) ?_
        exact g_zret C hr (rg_z (rg_w rl_0 (by decide))) hH (Nat.zero_le _) (Nat.zero_le _) dX3_hasSet_24 ⟨rfl, hI, ⟨(rg_w rl_0 (by decide)), (fun h => absurd rfl h)⟩⟩
      · skip
        have r17 : rg p1 0 63 := rf_lel (n_lt c15) r10 h14 (by decide)
        refine lv_iconst (v := (1 : Int32)) hx hb dX3_hasSet_19 (by decide) ?_
        refine lv_goto (tgt := 24) hx hb dX3_hasSet_20 (by decide) ?_
        exact g_zret C hr (rg_z (rg_w rl_1 (by decide))) hH (Nat.zero_le _) (Nat.zero_le _) dX3_hasSet_24 ⟨rfl, hI, ⟨(rg_w rl_1 (by decide)), (fun _ => r17)⟩⟩
set_option maxHeartbeats 4000000 in
set_option maxRecDepth 100000 in
theorem t_X3_rowOf (l : Launch) (E : gE) (J : Nat → Nat) (τ : Nat → Nat) (L : List Nat) (f : gF) (hI : tI E L τ f) {q : Nat} (mq : q ∈ L) (tq : τ q = 3) (p1 : Int32) : tMi l E J yX3_rowOf cX3_rowOf 2 .int (gRm (1) 0 0) [.ref q, .int p1] L f (tPi E L τ [] f (fun r f1 => rg r (-2147483648) 2147483647)) := by
  refine tMi.intro (by decide) (Nat.le_of_ble_eq_true rfl) ?_
  intro p e s m below meth c A ls C hr hA hO hH hl
  have C : gC E cX3_rowOf 2 RX3 p s m _ meth c := C
  have hl : lv_has ls 2 [(0, .ref q), (1, .int p1)] := hl
  have hx := C.1
  have hb := C.2.1
  have hI := hI.S []
  refine lv_aload_n hx hb dX3_rowOf_0 rfl (lv_at hl 0 rfl) ?_
  obtain ⟨z1, rz1, kz1⟩ := t_fldi hI.1 mq tq td_3 (k := 1) rfl
  refine t_getX C hH hI.1 mq tq td_3 iX3 rfl 1 (by decide) wd8 rfl kz1 dX3_rowOf_1 ?_
  refine lv_iconst (v := (1 : Int32)) hx hb dX3_rowOf_4 (by decide) ?_
  refine lv_icmp_ge (tgt := 12) hx hb dX3_rowOf_5 (by decide) (fun c2 => ?_) (fun c2 => ?_)
  · skip
    have r3 : rg z1 1 5 := rf_ler (c_le c2) rl_1 rz1 (by decide)
    refine lv_iload_n hx hb dX3_rowOf_12 rfl (lv_at hl 1 rfl) ?_
    refine lv_aload_n hx hb dX3_rowOf_13 rfl (lv_at hl 0 rfl) ?_
    refine t_getX C hH hI.1 mq tq td_3 iX3 rfl 1 (by decide) wd8 rfl kz1 dX3_rowOf_14 ?_
    refine lv_idiv hx hb dX3_rowOf_17 (rg_ne0 r3 (by decide)) ?_
    refine lv_topi (fun z4 ez4 => ?_)
    exact g_iret C hr hH (Nat.zero_le _) (Nat.zero_le _) dX3_rowOf_18 ⟨rfl, hI, (rg_all _)⟩
  · skip
    have r5 : rg z1 0 0 := rf_ltl (n_le c2) rz1 rl_1 (by decide)
    refine lv_iconst (v := (0 : Int32)) hx hb dX3_rowOf_8 (by decide) ?_
    refine lv_goto (tgt := 18) hx hb dX3_rowOf_9 (by decide) ?_
    exact g_iret C hr hH (Nat.zero_le _) (Nat.zero_le _) dX3_rowOf_18 ⟨rfl, hI, (rg_w rl_0 (by decide))⟩
set_option maxHeartbeats 4000000 in
set_option maxRecDepth 100000 in
theorem t_X3_distance (l : Launch) (E : gE) (J : Nat → Nat) (τ : Nat → Nat) (L : List Nat) (f : gF) (hI : tI E L τ f) {q : Nat} (mq : q ∈ L) (tq : τ q = 3) (p1 : Int32) (p2 : Int32) : tMi l E J yX3_distance cX3_distance 6 .int (gRm (2) 0 0) [.ref q, .int p1, .int p2] L f (tPi E L τ [] f (fun r f1 => rg r (-2147483648) 2147483647)) := by
  refine tMi.intro (by decide) (Nat.le_of_ble_eq_true rfl) ?_
  intro p e s m below meth c A ls C hr hA hO hH hl
  have C : gC E cX3_distance 6 RX3 p s m _ meth c := C
  have hl : lv_has ls 6 [(0, .ref q), (1, .int p1), (2, .int p2)] := hl
  have hx := C.1
  have hb := C.2.1
  have hI := hI.S []
  refine lv_aload_n hx hb dX3_distance_0 rfl (lv_at hl 0 rfl) ?_
  refine lv_iload_n hx hb dX3_distance_1 rfl (lv_at hl 1 rfl) ?_
  refine t_Vi C hO hl.1 hA hH hI.1 (As := [.int p1]) (rest := []) (t_X3_rowOf l E J τ L f hI.1 mq tq p1) my_X3_rowOf wd33 mq tq td_3 rfl rfl rfl (Nat.le_of_ble_eq_true rfl) ⟨Nat.le_of_ble_eq_true rfl, Nat.le_of_ble_eq_true rfl⟩ ⟨rfl, rfl⟩ dX3_distance_2 (fun r2 L1 f1 H locs hp hH => ?_)
  obtain ⟨rfl, s3, h4⟩ := hp
  have hI := hI.call s3 (by decide)
  refine lv_istore_n (lv' := [(3, .int r2), (0, .ref q), (1, .int p1), (2, .int p2)]) hx hb dX3_distance_5 rfl hl (by decide) rfl (fun ls hl => ?_)
  refine lv_aload_n hx hb dX3_distance_6 rfl (lv_at hl 1 rfl) ?_
  refine lv_iload_n hx hb dX3_distance_7 rfl (lv_at hl 3 rfl) ?_
  refine t_Vi C hO hl.1 hA hH hI.1 (As := [.int p2]) (rest := []) (t_X3_rowOf l E J τ L f1 hI.1 mq tq p2) my_X3_rowOf wd33 mq tq td_3 rfl rfl rfl (Nat.le_of_ble_eq_true rfl) ⟨Nat.le_of_ble_eq_true rfl, Nat.le_of_ble_eq_true rfl⟩ ⟨rfl, rfl⟩ dX3_distance_8 (fun r6 L1 f5 H locs hp hH => ?_)
  obtain ⟨rfl, s7, h8⟩ := hp
  have hI := hI.call s7 (by decide)
  refine lv_istore (lv' := [(4, .int r6), (3, .int r2), (0, .ref q), (1, .int p1), (2, .int p2)]) hx hb dX3_distance_11 hl (by decide) rfl (fun ls hl => ?_)
  refine lv_iload_n hx hb dX3_distance_13 rfl (lv_at hl 3 rfl) ?_
  refine lv_iload_n hx hb dX3_distance_14 rfl (lv_at hl 1 rfl) ?_
  refine lv_aload_n hx hb dX3_distance_15 rfl (lv_at hl 2 rfl) ?_
  refine t_geti C hH hI.1 mq tq td_3 iX3 rfl 1 (by decide) wd8 rfl rfl dX3_distance_16 (fun z9 rz9 => ?_)
  refine lv_imul hx hb dX3_distance_19 ?_
  refine lv_topi (fun z10 ez10 => ?_)
  refine lv_isub hx hb dX3_distance_20 ?_
  refine lv_topi (fun z11 ez11 => ?_)
  refine lv_iload_n hx hb dX3_distance_21 rfl (lv_at hl 4 rfl) ?_
  refine lv_iload hx hb dX3_distance_22 (lv_at hl 0 rfl) ?_
  refine lv_aload_n hx hb dX3_distance_24 rfl (lv_at hl 2 rfl) ?_
  refine t_geti C hH hI.1 mq tq td_3 iX3 rfl 1 (by decide) wd8 rfl rfl dX3_distance_25 (fun z12 rz12 => ?_)
  refine lv_imul hx hb dX3_distance_28 ?_
  refine lv_topi (fun z13 ez13 => ?_)
  refine lv_isub hx hb dX3_distance_29 ?_
  refine lv_topi (fun z14 ez14 => ?_)
  refine lv_isub hx hb dX3_distance_30 ?_
  refine lv_topi (fun z15 ez15 => ?_)
  refine lv_istore (lv' := [(5, .int z15), (4, .int r6), (3, .int r2), (0, .ref q), (1, .int p1), (2, .int p2)]) hx hb dX3_distance_31 hl (by decide) rfl (fun ls hl => ?_)
  refine lv_iload_n hx hb dX3_distance_33 rfl (lv_at hl 2 rfl) ?_
  refine lv_iload hx hb dX3_distance_34 (lv_at hl 1 rfl) ?_
  refine lv_isub hx hb dX3_distance_36 ?_
  refine lv_topi (fun z16 ez16 => ?_)
  refine va_mabs hx hb (C.2.2.1.trans hl.1.symm) C.2.2.2.1 (C.2.2.2.2.1 _ wd34) (C.2.2.2.2.1 _ wd35) (C.2.2.2.2.1 _ wd37) (C.2.2.2.2.1 _ wd36) (Nat.le_of_ble_eq_true rfl) (Nat.le_of_ble_eq_true rfl) (Nat.le_of_ble_eq_true rfl) (Nat.le_of_ble_eq_true rfl) dX3_distance_37 ?_
  refine lv_topi (fun z17 ez17 => ?_)
  refine lv_iload hx hb dX3_distance_40 (lv_at hl 0 rfl) ?_
  refine va_mabs hx hb (C.2.2.1.trans hl.1.symm) C.2.2.2.1 (C.2.2.2.2.1 _ wd34) (C.2.2.2.2.1 _ wd35) (C.2.2.2.2.1 _ wd37) (C.2.2.2.2.1 _ wd36) (Nat.le_of_ble_eq_true rfl) (Nat.le_of_ble_eq_true rfl) (Nat.le_of_ble_eq_true rfl) (Nat.le_of_ble_eq_true rfl) dX3_distance_42 ?_
  refine lv_topi (fun z18 ez18 => ?_)
  refine lv_iadd hx hb dX3_distance_45 ?_
  refine lv_topi (fun z19 ez19 => ?_)
  exact g_iret C hr hH (Nat.zero_le _) (Nat.zero_le _) dX3_distance_46 ⟨rfl, hI, (rg_all _)⟩
set_option maxHeartbeats 4000000 in
set_option maxRecDepth 100000 in
theorem t_rowOf_d (l : Launch) (E : gE) (J : Nat → Nat) (τ : Nat → Nat) (L : List Nat) (f : gF) (hI : tI E L τ f) {q : Nat} (mq : q ∈ L) (tq : τ q = 35) (p1 : Int32) : tMi l E J yX3_rowOf cX3_rowOf 2 .int (gRm (1) 0 0) [.ref q, .int p1] L f (tPi E L τ [] f (fun r f1 => rg r (-2147483648) 2147483647)) := by
  refine tMi.intro (by decide) (Nat.le_of_ble_eq_true rfl) ?_
  intro p e s m below meth c A ls C hr hA hO hH hl
  have C : gC E cX3_rowOf 2 RX3 p s m _ meth c := C
  have hl : lv_has ls 2 [(0, .ref q), (1, .int p1)] := hl
  have hx := C.1
  have hb := C.2.1
  have hI := hI.S []
  refine lv_aload_n hx hb dX3_rowOf_0 rfl (lv_at hl 0 rfl) ?_
  obtain ⟨z1, rz1, kz1⟩ := t_fldi hI.1 mq tq td_35 (k := 1) rfl
  refine t_getX C hH hI.1 mq tq td_35 iX3 rfl 1 (by decide) wd8 rfl kz1 dX3_rowOf_1 ?_
  refine lv_iconst (v := (1 : Int32)) hx hb dX3_rowOf_4 (by decide) ?_
  refine lv_icmp_ge (tgt := 12) hx hb dX3_rowOf_5 (by decide) (fun c2 => ?_) (fun c2 => ?_)
  · skip
    have r3 : rg z1 1 5 := rf_ler (c_le c2) rl_1 rz1 (by decide)
    refine lv_iload_n hx hb dX3_rowOf_12 rfl (lv_at hl 1 rfl) ?_
    refine lv_aload_n hx hb dX3_rowOf_13 rfl (lv_at hl 0 rfl) ?_
    refine t_getX C hH hI.1 mq tq td_35 iX3 rfl 1 (by decide) wd8 rfl kz1 dX3_rowOf_14 ?_
    refine lv_idiv hx hb dX3_rowOf_17 (rg_ne0 r3 (by decide)) ?_
    refine lv_topi (fun z4 ez4 => ?_)
    exact g_iret C hr hH (Nat.zero_le _) (Nat.zero_le _) dX3_rowOf_18 ⟨rfl, hI, (rg_all _)⟩
  · skip
    have r5 : rg z1 0 0 := rf_ltl (n_le c2) rz1 rl_1 (by decide)
    refine lv_iconst (v := (0 : Int32)) hx hb dX3_rowOf_8 (by decide) ?_
    refine lv_goto (tgt := 18) hx hb dX3_rowOf_9 (by decide) ?_
    exact g_iret C hr hH (Nat.zero_le _) (Nat.zero_le _) dX3_rowOf_18 ⟨rfl, hI, (rg_w rl_0 (by decide))⟩
set_option maxHeartbeats 4000000 in
set_option maxRecDepth 100000 in
theorem t_distance_d (l : Launch) (E : gE) (J : Nat → Nat) (τ : Nat → Nat) (L : List Nat) (f : gF) (hI : tI E L τ f) {q : Nat} (mq : q ∈ L) (tq : τ q = 35) (p1 : Int32) (p2 : Int32) : tMi l E J yX3_distance cX3_distance 6 .int (gRm (2) 0 0) [.ref q, .int p1, .int p2] L f (tPi E L τ [] f (fun r f1 => rg r (-2147483648) 2147483647)) := by
  refine tMi.intro (by decide) (Nat.le_of_ble_eq_true rfl) ?_
  intro p e s m below meth c A ls C hr hA hO hH hl
  have C : gC E cX3_distance 6 RX3 p s m _ meth c := C
  have hl : lv_has ls 6 [(0, .ref q), (1, .int p1), (2, .int p2)] := hl
  have hx := C.1
  have hb := C.2.1
  have hI := hI.S []
  refine lv_aload_n hx hb dX3_distance_0 rfl (lv_at hl 0 rfl) ?_
  refine lv_iload_n hx hb dX3_distance_1 rfl (lv_at hl 1 rfl) ?_
  refine t_Vi C hO hl.1 hA hH hI.1 (As := [.int p1]) (rest := []) (t_rowOf_d l E J τ L f hI.1 mq tq p1) my_X3_rowOf wd33 mq tq td_35 rfl rfl rfl (Nat.le_of_ble_eq_true rfl) ⟨Nat.le_of_ble_eq_true rfl, Nat.le_of_ble_eq_true rfl⟩ ⟨rfl, rfl⟩ dX3_distance_2 (fun r2 L1 f1 H locs hp hH => ?_)
  obtain ⟨rfl, s3, h4⟩ := hp
  have hI := hI.call s3 (by decide)
  refine lv_istore_n (lv' := [(3, .int r2), (0, .ref q), (1, .int p1), (2, .int p2)]) hx hb dX3_distance_5 rfl hl (by decide) rfl (fun ls hl => ?_)
  refine lv_aload_n hx hb dX3_distance_6 rfl (lv_at hl 1 rfl) ?_
  refine lv_iload_n hx hb dX3_distance_7 rfl (lv_at hl 3 rfl) ?_
  refine t_Vi C hO hl.1 hA hH hI.1 (As := [.int p2]) (rest := []) (t_rowOf_d l E J τ L f1 hI.1 mq tq p2) my_X3_rowOf wd33 mq tq td_35 rfl rfl rfl (Nat.le_of_ble_eq_true rfl) ⟨Nat.le_of_ble_eq_true rfl, Nat.le_of_ble_eq_true rfl⟩ ⟨rfl, rfl⟩ dX3_distance_8 (fun r6 L1 f5 H locs hp hH => ?_)
  obtain ⟨rfl, s7, h8⟩ := hp
  have hI := hI.call s7 (by decide)
  refine lv_istore (lv' := [(4, .int r6), (3, .int r2), (0, .ref q), (1, .int p1), (2, .int p2)]) hx hb dX3_distance_11 hl (by decide) rfl (fun ls hl => ?_)
  refine lv_iload_n hx hb dX3_distance_13 rfl (lv_at hl 3 rfl) ?_
  refine lv_iload_n hx hb dX3_distance_14 rfl (lv_at hl 1 rfl) ?_
  refine lv_aload_n hx hb dX3_distance_15 rfl (lv_at hl 2 rfl) ?_
  refine t_geti C hH hI.1 mq tq td_35 iX3 rfl 1 (by decide) wd8 rfl rfl dX3_distance_16 (fun z9 rz9 => ?_)
  refine lv_imul hx hb dX3_distance_19 ?_
  refine lv_topi (fun z10 ez10 => ?_)
  refine lv_isub hx hb dX3_distance_20 ?_
  refine lv_topi (fun z11 ez11 => ?_)
  refine lv_iload_n hx hb dX3_distance_21 rfl (lv_at hl 4 rfl) ?_
  refine lv_iload hx hb dX3_distance_22 (lv_at hl 0 rfl) ?_
  refine lv_aload_n hx hb dX3_distance_24 rfl (lv_at hl 2 rfl) ?_
  refine t_geti C hH hI.1 mq tq td_35 iX3 rfl 1 (by decide) wd8 rfl rfl dX3_distance_25 (fun z12 rz12 => ?_)
  refine lv_imul hx hb dX3_distance_28 ?_
  refine lv_topi (fun z13 ez13 => ?_)
  refine lv_isub hx hb dX3_distance_29 ?_
  refine lv_topi (fun z14 ez14 => ?_)
  refine lv_isub hx hb dX3_distance_30 ?_
  refine lv_topi (fun z15 ez15 => ?_)
  refine lv_istore (lv' := [(5, .int z15), (4, .int r6), (3, .int r2), (0, .ref q), (1, .int p1), (2, .int p2)]) hx hb dX3_distance_31 hl (by decide) rfl (fun ls hl => ?_)
  refine lv_iload_n hx hb dX3_distance_33 rfl (lv_at hl 2 rfl) ?_
  refine lv_iload hx hb dX3_distance_34 (lv_at hl 1 rfl) ?_
  refine lv_isub hx hb dX3_distance_36 ?_
  refine lv_topi (fun z16 ez16 => ?_)
  refine va_mabs hx hb (C.2.2.1.trans hl.1.symm) C.2.2.2.1 (C.2.2.2.2.1 _ wd34) (C.2.2.2.2.1 _ wd35) (C.2.2.2.2.1 _ wd37) (C.2.2.2.2.1 _ wd36) (Nat.le_of_ble_eq_true rfl) (Nat.le_of_ble_eq_true rfl) (Nat.le_of_ble_eq_true rfl) (Nat.le_of_ble_eq_true rfl) dX3_distance_37 ?_
  refine lv_topi (fun z17 ez17 => ?_)
  refine lv_iload hx hb dX3_distance_40 (lv_at hl 0 rfl) ?_
  refine va_mabs hx hb (C.2.2.1.trans hl.1.symm) C.2.2.2.1 (C.2.2.2.2.1 _ wd34) (C.2.2.2.2.1 _ wd35) (C.2.2.2.2.1 _ wd37) (C.2.2.2.2.1 _ wd36) (Nat.le_of_ble_eq_true rfl) (Nat.le_of_ble_eq_true rfl) (Nat.le_of_ble_eq_true rfl) (Nat.le_of_ble_eq_true rfl) dX3_distance_42 ?_
  refine lv_topi (fun z18 ez18 => ?_)
  refine lv_iadd hx hb dX3_distance_45 ?_
  refine lv_topi (fun z19 ez19 => ?_)
  exact g_iret C hr hH (Nat.zero_le _) (Nat.zero_le _) dX3_distance_46 ⟨rfl, hI, (rg_all _)⟩
set_option maxHeartbeats 4000000 in
set_option maxRecDepth 100000 in
theorem t_cells_d (l : Launch) (E : gE) (J : Nat → Nat) (τ : Nat → Nat) (L : List Nat) (f : gF) (hI : tI E L τ f) {q : Nat} (mq : q ∈ L) (tq : τ q = 35) : tMi l E J yX3_cells cX3_cells 1 .int (gRm (1) 0 0) [.ref q] L f (tPi E L τ [] f (fun r f1 => rg r 0 20)) := by
  refine tMi.intro (by decide) (Nat.le_of_ble_eq_true rfl) ?_
  intro p e s m below meth c A ls C hr hA hO hH hl
  have C : gC E cX3_cells 1 RX3 p s m _ meth c := C
  have hl : lv_has ls 1 [(0, .ref q)] := hl
  have hx := C.1
  have hb := C.2.1
  have hI := hI.S []
  refine lv_aload_n hx hb dX3_cells_0 rfl (lv_at hl 0 rfl) ?_
  refine t_geti C hH hI.1 mq tq td_35 iX3 rfl 1 (by decide) wd8 rfl rfl dX3_cells_1 (fun z1 rz1 => ?_)
  refine lv_aload_n hx hb dX3_cells_4 rfl (lv_at hl 0 rfl) ?_
  refine t_geti C hH hI.1 mq tq td_35 iX3 rfl 2 (by decide) wd9 rfl rfl dX3_cells_5 (fun z2 rz2 => ?_)
  refine lv_imul hx hb dX3_cells_8 ?_
  refine lv_topi (fun z3 ez3 => ?_)
  have r4 : rg z3 0 20 := rg_mul ez3 rz1 rz2 (by decide)
  exact g_iret C hr hH (Nat.zero_le _) (Nat.zero_le _) dX3_cells_9 ⟨rfl, hI, r4⟩
set_option maxHeartbeats 4000000 in
set_option maxRecDepth 100000 in
theorem t_X3_earshot (l : Launch) (E : gE) (J : Nat → Nat) (τ : Nat → Nat) (L : List Nat) (f : gF) (hI : tI E L τ f) {q : Nat} (mq : q ∈ L) (tq : τ q = 3) (p1 : Int32) (rp1 : rg p1 0 5) : tMi l E J yX3_earshot cX3_earshot 2 .int (gRm (1) 0 0) [.ref q, .int p1] L f (tPi E L τ [] f (fun r f1 => rg r (-2147483648) 2147483647)) := by
  refine tMi.intro (by decide) (Nat.le_of_ble_eq_true rfl) ?_
  intro p e s m below meth c A ls C hr hA hO hH hl
  have C : gC E cX3_earshot 2 RX3 p s m _ meth c := C
  have hl : lv_has ls 2 [(0, .ref q), (1, .int p1)] := hl
  have hx := C.1
  have hb := C.2.1
  have hI := hI.S []
  obtain ⟨q_18, mq_18, tq_18, kq_18⟩ := t_fldr hI.1 mq tq td_3 (k := 18) rfl
  obtain ⟨q_13, mq_13, tq_13, kq_13⟩ := t_fldr hI.1 mq tq td_3 (k := 13) rfl
  refine lv_aload_n hx hb dX3_earshot_0 rfl (lv_at hl 0 rfl) ?_
  refine t_getX C hH hI.1 mq tq td_3 iX3 rfl 18 (by decide) wd38 rfl (hI.rf kq_18) dX3_earshot_1 ?_
  refine lv_aload_n hx hb dX3_earshot_4 rfl (lv_at hl 0 rfl) ?_
  refine t_getX C hH hI.1 mq tq td_3 iX3 rfl 13 (by decide) wd39 rfl (hI.rf kq_13) dX3_earshot_5 ?_
  refine lv_iload_n hx hb dX3_earshot_8 rfl (lv_at hl 1 rfl) ?_
  refine t_aldR C hH hI.1 mq_13 tq_13 td_7 (rg_in rp1 (by decide)) dX3_earshot_9 (fun z1 rz1 => ?_)
  refine t_ald C hH hI.1 mq_18 tq_18 td_12 (rg_in rz1 (by decide)) dX3_earshot_10 (fun z2v az2 _ => ?_)
  refine lv_topi (fun z2 ez2 => ?_)
  exact g_iret C hr hH (Nat.zero_le _) (Nat.zero_le _) dX3_earshot_11 ⟨rfl, hI, (rg_all _)⟩
set_option maxHeartbeats 4000000 in
set_option maxRecDepth 100000 in
theorem t_X3_wanters (l : Launch) (E : gE) (J : Nat → Nat) (τ : Nat → Nat) (L : List Nat) (f : gF) (hI : tI E L τ f) {q : Nat} (mq : q ∈ L) (tq : τ q = 3) : tMi l E J yX3_wanters cX3_wanters 3 .int (gRm (1) 0 0) [.ref q] L f (tPi E L τ [] f (fun r f1 => rg r 0 63)) := by
  refine tMi.intro (by decide) (Nat.le_of_ble_eq_true rfl) ?_
  intro p e s m below meth c A ls C hr hA hO hH hl
  have C : gC E cX3_wanters 3 RX3 p s m _ meth c := C
  have hl : lv_has ls 3 [(0, .ref q)] := hl
  have hx := C.1
  have hb := C.2.1
  have hI := hI.S []
  obtain ⟨q_14, mq_14, tq_14, kq_14⟩ := t_fldr hI.1 mq tq td_3 (k := 14) rfl
  have cut4 : ∀ (n : Nat) (fh4 : gF) (H : Heap) (locs : List Loc) (ls : Array Slot) (v4_1 : Int32) (v4_2 : Int32), 6 - v4_2.toInt < (n : Int) → tS E L τ [] f fh4 → gH E A L fh4 s.heap H locs → rg v4_1 0 63 → rg v4_2 0 6 → lv_has ls 3 [(0, .ref q), (1, .int v4_1), (2, .int v4_2)] → W p l e (gRm (1) 0 0) s m [.ref q].toArray below meth c H locs 0 0 (MQ below (gQi E A (tPi E L τ [] f (fun r f1 => rg r 0 63))) [.ref q].toArray s (gRm (1) 0 0).cells (gRm (1) 0 0).slots A) (F0 m 4 ls []) := by
    intro n
    induction n with
    | zero =>
      intro fh4 H locs ls v4_1 v4_2 hfu4 hI hH r_v4_1 r_v4_2 hl
      exact (fu_0 hfu4 r_v4_2).elim
    | succ n ih4 =>
      intro fh4 H locs ls v4_1 v4_2 hfu4 hI hH r_v4_1 r_v4_2 hl
      refine lv_iload_n hx hb dX3_wanters_4 rfl (lv_at hl 2 rfl) ?_
      refine lv_aload_n hx hb dX3_wanters_5 rfl (lv_at hl 0 rfl) ?_
      refine t_geti C hH hI.1 mq tq td_3 iX3 rfl 7 (by decide) wd14 rfl rfl dX3_wanters_6 (fun z1 rz1 => ?_)
      refine lv_icmp_ge (tgt := 33) hx hb dX3_wanters_9 (by decide) (fun c2 => ?_) (fun c2 => ?_)
      · skip
        refine lv_iload_n hx hb dX3_wanters_33 rfl (lv_at hl 1 rfl) ?_
        exact g_iret C hr hH (Nat.zero_le _) (Nat.zero_le _) dX3_wanters_34 ⟨rfl, hI, r_v4_1⟩
      · skip
        have r3 : rg v4_2 0 5 := rf_ltl (n_le c2) r_v4_2 rz1 (by decide)
        have r4 : rg z1 1 6 := rf_ltr (n_le c2) r_v4_2 rz1 (by decide)
        refine lv_aload_n hx hb dX3_wanters_12 rfl (lv_at hl 0 rfl) ?_
        refine t_getX C hH hI.1 mq tq td_3 iX3 rfl 14 (by decide) wd40 rfl (hI.rf kq_14) dX3_wanters_13 ?_
        refine lv_iload_n hx hb dX3_wanters_16 rfl (lv_at hl 2 rfl) ?_
        refine t_ald C hH hI.1 mq_14 tq_14 td_8 (rg_in r3 (by decide)) dX3_wanters_17 (fun z5v az5 _ => ?_)
        refine lv_topi (fun z5 ez5 => ?_)
        refine lv_if_le (tgt := 27) hx hb dX3_wanters_18 (by decide) (fun c6 => ?_) (fun c6 => ?_)
        · skip
          have r7 : rg z5 (-2147483648) 0 := rf_lel (c_le c6) (rg_all _) rl_0 (by decide)
          obtain ⟨z8, ez8⟩ : ∃ y : Int32, y = v4_2 + (1 : Int32) := ⟨_, rfl⟩
          have r9 : rg z8 1 6 := rg_add ez8 r3 rl_1 (by decide)
          have a10 : z8.toInt = v4_2.toInt + 1 := ai_add ez8 r3 tl_1 (by decide)
          refine lv_iinc (v := z8) (lv' := [(2, .int z8), (0, .ref q), (1, .int v4_1)]) hx hb dX3_wanters_27 hl (k := 2) rfl (by rw [ez8]; rfl) (by decide) rfl (fun ls hl => ?_)
          refine lv_goto (tgt := 4) hx hb dX3_wanters_30 (by decide) ?_
          exact ih4 _ _ _ _ v4_1 z8 (fu_s hfu4 a10 (by decide)) hI hH r_v4_1 (rg_w r9 (by decide)) (lv_sub hl [1, 2, 0] rfl)
        · skip
          have r11 : rg z5 1 2147483647 := rf_ltr (n_le c6) rl_0 (rg_all _) (by decide)
          refine lv_iload_n hx hb dX3_wanters_21 rfl (lv_at hl 1 rfl) ?_
          refine lv_iconst (v := (1 : Int32)) hx hb dX3_wanters_22 (by decide) ?_
          refine lv_iload_n hx hb dX3_wanters_23 rfl (lv_at hl 2 rfl) ?_
          refine lv_ishl hx hb dX3_wanters_24 ?_
          refine lv_topi (fun z12 ez12 => ?_)
          have r13 : rg z12 1 32 := rg_shl 0 5 ez12 r3 (by decide)
          refine lv_ior hx hb dX3_wanters_25 ?_
          refine lv_topi (fun z14 ez14 => ?_)
          have r15 : rg z14 0 63 := rg_or 6 ez14 r_v4_1 r13 (by decide)
          refine lv_istore_n (lv' := [(1, .int z14), (0, .ref q), (2, .int v4_2)]) hx hb dX3_wanters_26 rfl hl (by decide) rfl (fun ls hl => ?_)
          obtain ⟨z16, ez16⟩ : ∃ y : Int32, y = v4_2 + (1 : Int32) := ⟨_, rfl⟩
          have r17 : rg z16 1 6 := rg_add ez16 r3 rl_1 (by decide)
          have a18 : z16.toInt = v4_2.toInt + 1 := ai_add ez16 r3 tl_1 (by decide)
          refine lv_iinc (v := z16) (lv' := [(2, .int z16), (1, .int z14), (0, .ref q)]) hx hb dX3_wanters_27 hl (k := 2) rfl (by rw [ez16]; rfl) (by decide) rfl (fun ls hl => ?_)
          refine lv_goto (tgt := 4) hx hb dX3_wanters_30 (by decide) ?_
          exact ih4 _ _ _ _ z14 z16 (fu_s hfu4 a18 (by decide)) hI hH r15 (rg_w r17 (by decide)) (lv_sub hl [2, 1, 0] rfl)
  refine lv_iconst (v := (0 : Int32)) hx hb dX3_wanters_0 (by decide) ?_
  refine lv_istore_n (lv' := [(1, .int (0 : Int32)), (0, .ref q)]) hx hb dX3_wanters_1 rfl hl (by decide) rfl (fun ls hl => ?_)
  refine lv_iconst (v := (0 : Int32)) hx hb dX3_wanters_2 (by decide) ?_
  refine lv_istore_n (lv' := [(2, .int (0 : Int32)), (1, .int (0 : Int32)), (0, .ref q)]) hx hb dX3_wanters_3 rfl hl (by decide) rfl (fun ls hl => ?_)
  exact cut4 7 _ _ _ _ (0 : Int32) (0 : Int32) (fu_i 7 rl_0 (by decide)) hI hH (rg_w rl_0 (by decide)) (rg_w rl_0 (by decide)) (lv_sub hl [2, 1, 0] rfl)
set_option maxHeartbeats 4000000 in
set_option maxRecDepth 100000 in
theorem t_X3_paidBy (l : Launch) (E : gE) (J : Nat → Nat) (τ : Nat → Nat) (L : List Nat) (f : gF) (hI : tI E L τ f) {q : Nat} (mq : q ∈ L) (tq : τ q = 3) (p1 : Int32) : tMi l E J yX3_paidBy cX3_paidBy 4 .int (gRm (2) 0 0) [.ref q, .int p1] L f (tPi E L τ [] f (fun r f1 => rg r (-2147483648) 2147483647)) := by
  refine tMi.intro (by decide) (Nat.le_of_ble_eq_true rfl) ?_
  intro p e s m below meth c A ls C hr hA hO hH hl
  have C : gC E cX3_paidBy 4 RX3 p s m _ meth c := C
  have hl : lv_has ls 4 [(0, .ref q), (1, .int p1)] := hl
  have hx := C.1
  have hb := C.2.1
  have hI := hI.S []
  obtain ⟨q_15, mq_15, tq_15, kq_15⟩ := t_fldr hI.1 mq tq td_3 (k := 15) rfl
  have cut4 : ∀ (n : Nat) (fh4 : gF) (H : Heap) (locs : List Loc) (ls : Array Slot) (v4_2 : Int32) (v4_3 : Int32), 6 - v4_3.toInt < (n : Int) → tS E L τ [] f fh4 → gH E A L fh4 s.heap H locs → rg v4_3 0 6 → lv_has ls 4 [(0, .ref q), (1, .int p1), (2, .int v4_2), (3, .int v4_3)] → W p l e (gRm (2) 0 0) s m [.ref q, .int p1].toArray below meth c H locs 0 0 (MQ below (gQi E A (tPi E L τ [] f (fun r f1 => rg r (-2147483648) 2147483647))) [.ref q, .int p1].toArray s (gRm (2) 0 0).cells (gRm (2) 0 0).slots A) (F0 m 4 ls []) := by
    intro n
    induction n with
    | zero =>
      intro fh4 H locs ls v4_2 v4_3 hfu4 hI hH r_v4_3 hl
      exact (fu_0 hfu4 r_v4_3).elim
    | succ n ih4 =>
      intro fh4 H locs ls v4_2 v4_3 hfu4 hI hH r_v4_3 hl
      refine lv_iload_n hx hb dX3_paidBy_4 rfl (lv_at hl 3 rfl) ?_
      refine lv_aload_n hx hb dX3_paidBy_5 rfl (lv_at hl 0 rfl) ?_
      refine t_geti C hH hI.1 mq tq td_3 iX3 rfl 7 (by decide) wd14 rfl rfl dX3_paidBy_6 (fun z1 rz1 => ?_)
      refine lv_icmp_ge (tgt := 35) hx hb dX3_paidBy_9 (by decide) (fun c2 => ?_) (fun c2 => ?_)
      · skip
        refine lv_iload_n hx hb dX3_paidBy_35 rfl (lv_at hl 2 rfl) ?_
        exact g_iret C hr hH (Nat.zero_le _) (Nat.zero_le _) dX3_paidBy_36 ⟨rfl, hI, (rg_all _)⟩
      · skip
        have r3 : rg v4_3 0 5 := rf_ltl (n_le c2) r_v4_3 rz1 (by decide)
        have r4 : rg z1 1 6 := rf_ltr (n_le c2) r_v4_3 rz1 (by decide)
        refine lv_iload_n hx hb dX3_paidBy_12 rfl (lv_at hl 1 rfl) ?_
        refine lv_iload_n hx hb dX3_paidBy_13 rfl (lv_at hl 3 rfl) ?_
        refine t_SNi C hO hl.1 hA hH (As := [.int p1, .int v4_3]) (rest := []) (t_X9_hasBit l E J τ L fh4 hI.1 p1 v4_3) my_X9_hasBit (host := "GooseShares") (List.mem_of_getElem? (i := 6) rfl) rfl rfl (Nat.le_of_ble_eq_true rfl) ⟨Nat.le_of_ble_eq_true rfl, Nat.le_of_ble_eq_true rfl⟩ ⟨rfl, rfl⟩ dX3_paidBy_14 (fun r6 L1 f5 H locs hp hH => ?_)
        obtain ⟨rfl, s7, h8⟩ := hp
        have hI := hI.call s7 (by decide)
        refine lv_if_eq (tgt := 29) hx hb dX3_paidBy_17 (by decide) (fun c9 => ?_) (fun c9 => ?_)
        · skip
          have r10 : rg r6 0 0 := rf_eql (c_eq c9) h8 rl_0 (by decide)
          obtain ⟨z11, ez11⟩ : ∃ y : Int32, y = v4_3 + (1 : Int32) := ⟨_, rfl⟩
          have r12 : rg z11 1 6 := rg_add ez11 r3 rl_1 (by decide)
          have a13 : z11.toInt = v4_3.toInt + 1 := ai_add ez11 r3 tl_1 (by decide)
          refine lv_iinc (v := z11) (lv' := [(3, .int z11), (0, .ref q), (1, .int p1), (2, .int v4_2)]) hx hb dX3_paidBy_29 hl (k := 3) rfl (by rw [ez11]; rfl) (by decide) rfl (fun ls hl => ?_)
          refine lv_goto (tgt := 4) hx hb dX3_paidBy_32 (by decide) ?_
          exact ih4 _ _ _ _ v4_2 z11 (fu_s hfu4 a13 (by decide)) hI hH (rg_w r12 (by decide)) (lv_sub hl [1, 2, 3, 0] rfl)
        · skip
          have r14 : rg r6 1 1 := rf_nel (n_eq c9) h8 rl_0 (by decide)
          refine lv_iload_n hx hb dX3_paidBy_20 rfl (lv_at hl 2 rfl) ?_
          refine lv_aload_n hx hb dX3_paidBy_21 rfl (lv_at hl 0 rfl) ?_
          refine t_getX C hH hI.1 mq tq td_3 iX3 rfl 15 (by decide) wd43 rfl (hI.rf kq_15) dX3_paidBy_22 ?_
          refine lv_iload_n hx hb dX3_paidBy_25 rfl (lv_at hl 3 rfl) ?_
          refine t_ald C hH hI.1 mq_15 tq_15 td_9 (rg_in r3 (by decide)) dX3_paidBy_26 (fun z15v az15 _ => ?_)
          refine lv_topi (fun z15 ez15 => ?_)
          refine lv_iadd hx hb dX3_paidBy_27 ?_
          refine lv_topi (fun z16 ez16 => ?_)
          refine lv_istore_n (lv' := [(2, .int z16), (0, .ref q), (1, .int p1), (3, .int v4_3)]) hx hb dX3_paidBy_28 rfl hl (by decide) rfl (fun ls hl => ?_)
          obtain ⟨z17, ez17⟩ : ∃ y : Int32, y = v4_3 + (1 : Int32) := ⟨_, rfl⟩
          have r18 : rg z17 1 6 := rg_add ez17 r3 rl_1 (by decide)
          have a19 : z17.toInt = v4_3.toInt + 1 := ai_add ez17 r3 tl_1 (by decide)
          refine lv_iinc (v := z17) (lv' := [(3, .int z17), (2, .int z16), (0, .ref q), (1, .int p1)]) hx hb dX3_paidBy_29 hl (k := 3) rfl (by rw [ez17]; rfl) (by decide) rfl (fun ls hl => ?_)
          refine lv_goto (tgt := 4) hx hb dX3_paidBy_32 (by decide) ?_
          exact ih4 _ _ _ _ z16 z17 (fu_s hfu4 a19 (by decide)) hI hH (rg_w r18 (by decide)) (lv_sub hl [2, 3, 1, 0] rfl)
  refine lv_iconst (v := (0 : Int32)) hx hb dX3_paidBy_0 (by decide) ?_
  refine lv_istore_n (lv' := [(2, .int (0 : Int32)), (0, .ref q), (1, .int p1)]) hx hb dX3_paidBy_1 rfl hl (by decide) rfl (fun ls hl => ?_)
  refine lv_iconst (v := (0 : Int32)) hx hb dX3_paidBy_2 (by decide) ?_
  refine lv_istore_n (lv' := [(3, .int (0 : Int32)), (2, .int (0 : Int32)), (0, .ref q), (1, .int p1)]) hx hb dX3_paidBy_3 rfl hl (by decide) rfl (fun ls hl => ?_)
  exact cut4 7 _ _ _ _ (0 : Int32) (0 : Int32) (fu_i 7 rl_0 (by decide)) hI hH (rg_w rl_0 (by decide)) (lv_sub hl [2, 3, 1, 0] rfl)
set_option maxHeartbeats 4000000 in
set_option maxRecDepth 100000 in
theorem t_X3_wantedAt (l : Launch) (E : gE) (J : Nat → Nat) (τ : Nat → Nat) (L : List Nat) (f : gF) (hI : tI E L τ f) {q : Nat} (mq : q ∈ L) (tq : τ q = 3) (p1 : Int32) : tMi l E J yX3_wantedAt cX3_wantedAt 4 .int (gRm (1) 0 0) [.ref q, .int p1] L f (tPi E L τ [] f (fun r f1 => rg r (-2147483648) 2147483647)) := by
  refine tMi.intro (by decide) (Nat.le_of_ble_eq_true rfl) ?_
  intro p e s m below meth c A ls C hr hA hO hH hl
  have C : gC E cX3_wantedAt 4 RX3 p s m _ meth c := C
  have hl : lv_has ls 4 [(0, .ref q), (1, .int p1)] := hl
  have hx := C.1
  have hb := C.2.1
  have hI := hI.S []
  obtain ⟨q_15, mq_15, tq_15, kq_15⟩ := t_fldr hI.1 mq tq td_3 (k := 15) rfl
  obtain ⟨q_14, mq_14, tq_14, kq_14⟩ := t_fldr hI.1 mq tq td_3 (k := 14) rfl
  have cut4 : ∀ (n : Nat) (fh4 : gF) (H : Heap) (locs : List Loc) (ls : Array Slot) (v4_2 : Int32) (v4_3 : Int32), 6 - v4_3.toInt < (n : Int) → tS E L τ [] f fh4 → gH E A L fh4 s.heap H locs → rg v4_3 0 6 → lv_has ls 4 [(0, .ref q), (1, .int p1), (2, .int v4_2), (3, .int v4_3)] → W p l e (gRm (1) 0 0) s m [.ref q, .int p1].toArray below meth c H locs 0 0 (MQ below (gQi E A (tPi E L τ [] f (fun r f1 => rg r (-2147483648) 2147483647))) [.ref q, .int p1].toArray s (gRm (1) 0 0).cells (gRm (1) 0 0).slots A) (F0 m 4 ls []) := by
    intro n
    induction n with
    | zero =>
      intro fh4 H locs ls v4_2 v4_3 hfu4 hI hH r_v4_3 hl
      exact (fu_0 hfu4 r_v4_3).elim
    | succ n ih4 =>
      intro fh4 H locs ls v4_2 v4_3 hfu4 hI hH r_v4_3 hl
      refine lv_iload_n hx hb dX3_wantedAt_4 rfl (lv_at hl 3 rfl) ?_
      refine lv_aload_n hx hb dX3_wantedAt_5 rfl (lv_at hl 0 rfl) ?_
      refine t_geti C hH hI.1 mq tq td_3 iX3 rfl 7 (by decide) wd14 rfl rfl dX3_wantedAt_6 (fun z1 rz1 => ?_)
      refine lv_icmp_ge (tgt := 44) hx hb dX3_wantedAt_9 (by decide) (fun c2 => ?_) (fun c2 => ?_)
      · skip
        refine lv_iload_n hx hb dX3_wantedAt_44 rfl (lv_at hl 2 rfl) ?_
        exact g_iret C hr hH (Nat.zero_le _) (Nat.zero_le _) dX3_wantedAt_45 ⟨rfl, hI, (rg_all _)⟩
      · skip
        have r3 : rg v4_3 0 5 := rf_ltl (n_le c2) r_v4_3 rz1 (by decide)
        have r4 : rg z1 1 6 := rf_ltr (n_le c2) r_v4_3 rz1 (by decide)
        refine lv_aload_n hx hb dX3_wantedAt_12 rfl (lv_at hl 0 rfl) ?_
        refine t_getX C hH hI.1 mq tq td_3 iX3 rfl 15 (by decide) wd43 rfl (hI.rf kq_15) dX3_wantedAt_13 ?_
        refine lv_iload_n hx hb dX3_wantedAt_16 rfl (lv_at hl 3 rfl) ?_
        refine t_ald C hH hI.1 mq_15 tq_15 td_9 (rg_in r3 (by decide)) dX3_wantedAt_17 (fun z5v az5 _ => ?_)
        refine lv_topi (fun z5 ez5 => ?_)
        refine lv_iload_n hx hb dX3_wantedAt_18 rfl (lv_at hl 1 rfl) ?_
        refine lv_aload_n hx hb dX3_wantedAt_19 rfl (lv_at hl 0 rfl) ?_
        refine t_getX C hH hI.1 mq tq td_3 iX3 rfl 14 (by decide) wd40 rfl (hI.rf kq_14) dX3_wantedAt_20 ?_
        refine lv_iload_n hx hb dX3_wantedAt_23 rfl (lv_at hl 3 rfl) ?_
        refine t_ald C hH hI.1 mq_14 tq_14 td_8 (rg_in r3 (by decide)) dX3_wantedAt_24 (fun z6v az6 _ => ?_)
        refine lv_topi (fun z6 ez6 => ?_)
        refine lv_imul hx hb dX3_wantedAt_25 ?_
        refine lv_topi (fun z7 ez7 => ?_)
        refine lv_icmp_lt (tgt := 38) hx hb dX3_wantedAt_26 (by decide) (fun c8 => ?_) (fun c8 => ?_)
        · skip
          have r9 : rg z5 (-2147483648) 2147483646 := rf_ltl (c_lt c8) (rg_all _) (rg_all _) (by decide)
          have r10 : rg z7 (-2147483647) 2147483647 := rf_ltr (c_lt c8) (rg_all _) (rg_all _) (by decide)
          obtain ⟨z11, ez11⟩ : ∃ y : Int32, y = v4_3 + (1 : Int32) := ⟨_, rfl⟩
          have r12 : rg z11 1 6 := rg_add ez11 r3 rl_1 (by decide)
          have a13 : z11.toInt = v4_3.toInt + 1 := ai_add ez11 r3 tl_1 (by decide)
          refine lv_iinc (v := z11) (lv' := [(3, .int z11), (0, .ref q), (1, .int p1), (2, .int v4_2)]) hx hb dX3_wantedAt_38 hl (k := 3) rfl (by rw [ez11]; rfl) (by decide) rfl (fun ls hl => ?_)
          refine lv_goto (tgt := 4) hx hb dX3_wantedAt_41 (by decide) ?_
          exact ih4 _ _ _ _ v4_2 z11 (fu_s hfu4 a13 (by decide)) hI hH (rg_w r12 (by decide)) (lv_sub hl [1, 2, 3, 0] rfl)
        · skip
          refine lv_iload_n hx hb dX3_wantedAt_29 rfl (lv_at hl 2 rfl) ?_
          refine lv_aload_n hx hb dX3_wantedAt_30 rfl (lv_at hl 0 rfl) ?_
          refine t_getX C hH hI.1 mq tq td_3 iX3 rfl 14 (by decide) wd40 rfl (hI.rf kq_14) dX3_wantedAt_31 ?_
          refine lv_iload_n hx hb dX3_wantedAt_34 rfl (lv_at hl 3 rfl) ?_
          refine t_ald C hH hI.1 mq_14 tq_14 td_8 (rg_in r3 (by decide)) dX3_wantedAt_35 (fun z14v az14 _ => ?_)
          refine lv_topi (fun z14 ez14 => ?_)
          refine lv_iadd hx hb dX3_wantedAt_36 ?_
          refine lv_topi (fun z15 ez15 => ?_)
          refine lv_istore_n (lv' := [(2, .int z15), (0, .ref q), (1, .int p1), (3, .int v4_3)]) hx hb dX3_wantedAt_37 rfl hl (by decide) rfl (fun ls hl => ?_)
          obtain ⟨z16, ez16⟩ : ∃ y : Int32, y = v4_3 + (1 : Int32) := ⟨_, rfl⟩
          have r17 : rg z16 1 6 := rg_add ez16 r3 rl_1 (by decide)
          have a18 : z16.toInt = v4_3.toInt + 1 := ai_add ez16 r3 tl_1 (by decide)
          refine lv_iinc (v := z16) (lv' := [(3, .int z16), (2, .int z15), (0, .ref q), (1, .int p1)]) hx hb dX3_wantedAt_38 hl (k := 3) rfl (by rw [ez16]; rfl) (by decide) rfl (fun ls hl => ?_)
          refine lv_goto (tgt := 4) hx hb dX3_wantedAt_41 (by decide) ?_
          exact ih4 _ _ _ _ z15 z16 (fu_s hfu4 a18 (by decide)) hI hH (rg_w r17 (by decide)) (lv_sub hl [2, 3, 1, 0] rfl)
  refine lv_iconst (v := (0 : Int32)) hx hb dX3_wantedAt_0 (by decide) ?_
  refine lv_istore_n (lv' := [(2, .int (0 : Int32)), (0, .ref q), (1, .int p1)]) hx hb dX3_wantedAt_1 rfl hl (by decide) rfl (fun ls hl => ?_)
  refine lv_iconst (v := (0 : Int32)) hx hb dX3_wantedAt_2 (by decide) ?_
  refine lv_istore_n (lv' := [(3, .int (0 : Int32)), (2, .int (0 : Int32)), (0, .ref q), (1, .int p1)]) hx hb dX3_wantedAt_3 rfl hl (by decide) rfl (fun ls hl => ?_)
  exact cut4 7 _ _ _ _ (0 : Int32) (0 : Int32) (fu_i 7 rl_0 (by decide)) hI hH (rg_w rl_0 (by decide)) (lv_sub hl [2, 3, 1, 0] rfl)
set_option maxHeartbeats 4000000 in
set_option maxRecDepth 100000 in
theorem t_X3_setLamp (l : Launch) (E : gE) (J : Nat → Nat) (τ : Nat → Nat) (L : List Nat) (f : gF) (hI : tI E L τ f) {q : Nat} (mq : q ∈ L) (tq : τ q = 3) (p1 : Int32) (p2 : Int32) : tMv l E J yX3_setLamp cX3_setLamp 3 (gRm (1) 0 0) [.ref q, .int p1, .int p2] L f (tPv E L τ [3] f (fun f1 => True)) := by
  refine tMv.intro (by decide) (Nat.le_of_ble_eq_true rfl) ?_
  intro p e s m below meth c A ls C hr hA hO hH hl
  have C : gC E cX3_setLamp 3 RX3 p s m _ meth c := C
  have hl : lv_has ls 3 [(0, .ref q), (1, .int p1), (2, .int p2)] := hl
  have hx := C.1
  have hb := C.2.1
  have hI := hI.S [3]
  refine lv_aload_n hx hb dX3_setLamp_0 rfl (lv_at hl 0 rfl) ?_
  refine lv_iload_n hx hb dX3_setLamp_1 rfl (lv_at hl 2 rfl) ?_
  refine lv_iconst (v := (1 : Int32)) hx hb dX3_setLamp_2 (by decide) ?_
  refine lv_icmp_ne (tgt := 17) hx hb dX3_setLamp_3 (by decide) (fun c1 => ?_) (fun c1 => ?_)
  · skip
    refine lv_aload_n hx hb dX3_setLamp_17 rfl (lv_at hl 0 rfl) ?_
    refine t_geti C hH hI.1 mq tq td_3 iX3 rfl 8 (by decide) wd15 rfl rfl dX3_setLamp_18 (fun z2 rz2 => ?_)
    refine lv_iconst (v := (1 : Int32)) hx hb dX3_setLamp_21 (by decide) ?_
    refine lv_iload_n hx hb dX3_setLamp_22 rfl (lv_at hl 1 rfl) ?_
    refine lv_ishl hx hb dX3_setLamp_23 ?_
    refine lv_topi (fun z3 ez3 => ?_)
    refine lv_iconst (v := (-1 : Int32)) hx hb dX3_setLamp_24 (by decide) ?_
    refine lv_ixor hx hb dX3_setLamp_25 ?_
    refine lv_topi (fun z4 ez4 => ?_)
    refine lv_iand hx hb dX3_setLamp_26 ?_
    refine lv_topi (fun z5 ez5 => ?_)
    refine t_put C hH hI mq tq (by decide) td_3 iX3 tyX3 tyX3_ok nmX3 rfl 8 (by decide) wd15 rfl rfl (v := .int z5) rfl rfl rfl ⟨_, rfl, (rg_all _)⟩ (fun _ h => nomatch h) dX3_setLamp_27 (fun f6 H locs hH hI nf6 of6 bf6 => ?_)
    exact g_vret C hr hH (Nat.zero_le _) (Nat.zero_le _) dX3_setLamp_30 ⟨rfl, hI, trivial⟩
  · skip
    have r7 : rg p2 1 1 := rf_eql (c_eq c1) (rg_all _) rl_1 (by decide)
    refine lv_aload_n hx hb dX3_setLamp_6 rfl (lv_at hl 0 rfl) ?_
    refine t_geti C hH hI.1 mq tq td_3 iX3 rfl 8 (by decide) wd15 rfl rfl dX3_setLamp_7 (fun z8 rz8 => ?_)
    refine lv_iconst (v := (1 : Int32)) hx hb dX3_setLamp_10 (by decide) ?_
    refine lv_iload_n hx hb dX3_setLamp_11 rfl (lv_at hl 1 rfl) ?_
    refine lv_ishl hx hb dX3_setLamp_12 ?_
    refine lv_topi (fun z9 ez9 => ?_)
    refine lv_ior hx hb dX3_setLamp_13 ?_
    refine lv_topi (fun z10 ez10 => ?_)
    refine lv_goto (tgt := 27) hx hb dX3_setLamp_14 (by decide) ?_
    refine t_put C hH hI mq tq (by decide) td_3 iX3 tyX3 tyX3_ok nmX3 rfl 8 (by decide) wd15 rfl rfl (v := .int z10) rfl rfl rfl ⟨_, rfl, (rg_all _)⟩ (fun _ h => nomatch h) dX3_setLamp_27 (fun f11 H locs hH hI nf11 of11 bf11 => ?_)
    exact g_vret C hr hH (Nat.zero_le _) (Nat.zero_le _) dX3_setLamp_30 ⟨rfl, hI, trivial⟩
set_option maxHeartbeats 4000000 in
set_option maxRecDepth 100000 in
theorem t_X3_takeBack (l : Launch) (E : gE) (J : Nat → Nat) (τ : Nat → Nat) (L : List Nat) (f : gF) (hI : tI E L τ f) {q : Nat} (mq : q ∈ L) (tq : τ q = 3) : tMv l E J yX3_takeBack cX3_takeBack 2 (gRm (2) 0 0) [.ref q] L f (tPv E L τ [3, 5] f (fun f1 => True)) := by
  refine tMv.intro (by decide) (Nat.le_of_ble_eq_true rfl) ?_
  intro p e s m below meth c A ls C hr hA hO hH hl
  have C : gC E cX3_takeBack 2 RX3 p s m _ meth c := C
  have hl : lv_has ls 2 [(0, .ref q)] := hl
  have hx := C.1
  have hb := C.2.1
  have hI := hI.S [3, 5]
  obtain ⟨q_16, mq_16, tq_16, kq_16⟩ := t_fldr hI.1 mq tq td_3 (k := 16) rfl
  obtain ⟨q_11, mq_11, tq_11, kq_11⟩ := t_fldr hI.1 mq tq td_3 (k := 11) rfl
  obtain ⟨q_17, mq_17, tq_17, kq_17⟩ := t_fldr hI.1 mq tq td_3 (k := 17) rfl
  refine lv_aload_n hx hb dX3_takeBack_0 rfl (lv_at hl 0 rfl) ?_
  obtain ⟨z1, rz1, kz1⟩ := t_fldi hI.1 mq tq td_3 (k := 9) rfl
  refine t_getX C hH hI.1 mq tq td_3 iX3 rfl 9 (by decide) wd16 rfl kz1 dX3_takeBack_1 ?_
  refine lv_iconst (v := (1 : Int32)) hx hb dX3_takeBack_4 (by decide) ?_
  refine lv_icmp_ge (tgt := 9) hx hb dX3_takeBack_5 (by decide) (fun c2 => ?_) (fun c2 => ?_)
  · skip
    have r3 : rg z1 1 40 := rf_ler (c_le c2) rl_1 rz1 (by decide)
    refine lv_aload_n hx hb dX3_takeBack_9 rfl (lv_at hl 0 rfl) ?_
    refine lv_dup hx hb dX3_takeBack_10 rfl ?_
    refine t_getX C hH hI.1 mq tq td_3 iX3 rfl 9 (by decide) wd16 rfl kz1 dX3_takeBack_11 ?_
    refine lv_iconst (v := (1 : Int32)) hx hb dX3_takeBack_14 (by decide) ?_
    refine lv_isub hx hb dX3_takeBack_15 ?_
    refine lv_topi (fun z4 ez4 => ?_)
    have r5 : rg z4 0 39 := rg_sub ez4 r3 rl_1 (by decide)
    refine t_put C hH hI mq tq (by decide) td_3 iX3 tyX3 tyX3_ok nmX3 rfl 9 (by decide) wd16 rfl rfl (v := .int z4) rfl rfl rfl ⟨_, rfl, (rg_w r5 (by decide))⟩ (fun _ h => nomatch h) dX3_takeBack_16 (fun f6 H locs hH hI nf6 of6 bf6 => ?_)
    refine lv_aload_n hx hb dX3_takeBack_19 rfl (lv_at hl 0 rfl) ?_
    refine t_getX C hH hI.1 mq tq td_3 iX3 rfl 16 (by decide) wd44 rfl (hI.rf kq_16) dX3_takeBack_20 ?_
    refine lv_aload_n hx hb dX3_takeBack_23 rfl (lv_at hl 0 rfl) ?_
    refine t_getX C hH hI.1 mq tq td_3 iX3 rfl 9 (by decide) wd16 rfl nf6 dX3_takeBack_24 ?_
    refine t_aldR C hH hI.1 mq_16 tq_16 td_10 (rg_in r5 (by decide)) dX3_takeBack_27 (fun z7 rz7 => ?_)
    refine lv_istore_n (lv' := [(1, .int z7), (0, .ref q)]) hx hb dX3_takeBack_28 rfl hl (by decide) rfl (fun ls hl => ?_)
    refine lv_iload_n hx hb dX3_takeBack_29 rfl (lv_at hl 0 rfl) ?_
    refine lv_bipush (v := (20 : Int32)) hx hb dX3_takeBack_30 (by decide) ?_
    refine lv_icmp_ge (tgt := 52) hx hb dX3_takeBack_32 (by decide) (fun c8 => ?_) (fun c8 => ?_)
    · skip
      have r9 : rg z7 20 23 := rf_ler (c_le c8) rl_20 rz7 (by decide)
      refine lv_aload_n hx hb dX3_takeBack_52 rfl (lv_at hl 1 rfl) ?_
      refine t_getX C hH hI.1 mq tq td_3 iX3 rfl 11 (by decide) wd45 rfl (hI.rf kq_11) dX3_takeBack_53 ?_
      refine lv_iload_n hx hb dX3_takeBack_56 rfl (lv_at hl 0 rfl) ?_
      refine lv_bipush (v := (20 : Int32)) hx hb dX3_takeBack_57 (by decide) ?_
      refine lv_isub hx hb dX3_takeBack_59 ?_
      refine lv_topi (fun z10 ez10 => ?_)
      have r11 : rg z10 0 3 := rg_sub ez10 r9 rl_20 (by decide)
      refine lv_aload_n hx hb dX3_takeBack_60 rfl (lv_at hl 1 rfl) ?_
      refine t_getX C hH hI.1 mq tq td_3 iX3 rfl 17 (by decide) wd46 rfl (hI.rf kq_17) dX3_takeBack_61 ?_
      refine lv_aload_n hx hb dX3_takeBack_64 rfl (lv_at hl 1 rfl) ?_
      refine t_getX C hH hI.1 mq tq td_3 iX3 rfl 9 (by decide) wd16 rfl nf6 dX3_takeBack_65 ?_
      refine t_aldR C hH hI.1 mq_17 tq_17 td_11 (rg_in r5 (by decide)) dX3_takeBack_68 (fun z12 rz12 => ?_)
      refine t_ast C hH hI mq_11 tq_11 (by decide) td_5 (rg_in r11 (by decide)) (fun _ _ h => tR_upd h rz12) dX3_takeBack_69 (fun f13 H locs hH hI bf13 uf13 => ?_)
      have k14 : fld f13 q 9 (.int z4) := fld.eq nf6 (bf13 q (ty_ne tq tq_11 rfl))
      exact g_vret C hr hH (Nat.zero_le _) (Nat.zero_le _) dX3_takeBack_70 ⟨rfl, hI, trivial⟩
    · skip
      have r15 : rg z7 0 19 := rf_ltl (n_le c8) rz7 rl_20 (by decide)
      refine lv_aload_n hx hb dX3_takeBack_35 rfl (lv_at hl 1 rfl) ?_
      refine lv_iload_n hx hb dX3_takeBack_36 rfl (lv_at hl 0 rfl) ?_
      refine lv_aload_n hx hb dX3_takeBack_37 rfl (lv_at hl 1 rfl) ?_
      refine t_getX C hH hI.1 mq tq td_3 iX3 rfl 17 (by decide) wd46 rfl (hI.rf kq_17) dX3_takeBack_38 ?_
      refine lv_aload_n hx hb dX3_takeBack_41 rfl (lv_at hl 1 rfl) ?_
      refine t_getX C hH hI.1 mq tq td_3 iX3 rfl 9 (by decide) wd16 rfl nf6 dX3_takeBack_42 ?_
      refine t_aldR C hH hI.1 mq_17 tq_17 td_11 (rg_in r5 (by decide)) dX3_takeBack_45 (fun z16 rz16 => ?_)
      refine t_Vv C hO hl.1 hA hH hI.1 (As := [.int z7, .int z16]) (rest := []) (t_X3_setLamp l E J τ L f6 hI.1 mq tq z7 z16) my_X3_setLamp wd50 mq tq td_3 rfl rfl rfl (Nat.le_of_ble_eq_true rfl) ⟨Nat.le_of_ble_eq_true rfl, Nat.le_of_ble_eq_true rfl⟩ ⟨rfl, rfl⟩ dX3_takeBack_46 (fun L1 f17 H locs hp hH => ?_)
      obtain ⟨rfl, s19, h20⟩ := hp
      have hI := hI.call s19 (by decide)
      refine lv_goto (tgt := 70) hx hb dX3_takeBack_49 (by decide) ?_
      exact g_vret C hr hH (Nat.zero_le _) (Nat.zero_le _) dX3_takeBack_70 ⟨rfl, hI, trivial⟩
  · skip
    have r21 : rg z1 0 0 := rf_ltl (n_le c2) rz1 rl_1 (by decide)
    exact g_vret C hr hH (Nat.zero_le _) (Nat.zero_le _) dX3_takeBack_8 ⟨rfl, hI, trivial⟩
set_option maxHeartbeats 4000000 in
set_option maxRecDepth 100000 in
theorem t_X3_become (l : Launch) (E : gE) (J : Nat → Nat) (τ : Nat → Nat) (L : List Nat) (f : gF) (hI : tI E L τ f) {q : Nat} (mq : q ∈ L) (tq : τ q = 3) {p1 : Nat} (mp1 : p1 ∈ L) (tp1 : τ p1 = 35) : tMv l E J yX3_become cX3_become 2 (gRm (2) 0 0) [.ref q, .ref p1] L f (tPv E L τ [3, 4, 5, 6, 7, 8, 9, 10, 11, 12, 13] f (fun f1 => True)) := by
  refine tMv.intro (by decide) (Nat.le_of_ble_eq_true rfl) ?_
  intro p e s m below meth c A ls C hr hA hO hH hl
  have C : gC E cX3_become 2 RX3 p s m _ meth c := C
  have hl : lv_has ls 2 [(0, .ref q), (1, .ref p1)] := hl
  have hx := C.1
  have hb := C.2.1
  have hI := hI.S [3, 4, 5, 6, 7, 8, 9, 10, 11, 12, 13]
  obtain ⟨p1_10, mp1_10, tp1_10, kp1_10⟩ := t_fldr hI.1 mp1 tp1 td_35 (k := 10) rfl
  obtain ⟨q_10, mq_10, tq_10, kq_10⟩ := t_fldr hI.1 mq tq td_3 (k := 10) rfl
  obtain ⟨p1_11, mp1_11, tp1_11, kp1_11⟩ := t_fldr hI.1 mp1 tp1 td_35 (k := 11) rfl
  obtain ⟨q_11, mq_11, tq_11, kq_11⟩ := t_fldr hI.1 mq tq td_3 (k := 11) rfl
  obtain ⟨p1_12, mp1_12, tp1_12, kp1_12⟩ := t_fldr hI.1 mp1 tp1 td_35 (k := 12) rfl
  obtain ⟨q_12, mq_12, tq_12, kq_12⟩ := t_fldr hI.1 mq tq td_3 (k := 12) rfl
  obtain ⟨p1_13, mp1_13, tp1_13, kp1_13⟩ := t_fldr hI.1 mp1 tp1 td_35 (k := 13) rfl
  obtain ⟨q_13, mq_13, tq_13, kq_13⟩ := t_fldr hI.1 mq tq td_3 (k := 13) rfl
  obtain ⟨p1_14, mp1_14, tp1_14, kp1_14⟩ := t_fldr hI.1 mp1 tp1 td_35 (k := 14) rfl
  obtain ⟨q_14, mq_14, tq_14, kq_14⟩ := t_fldr hI.1 mq tq td_3 (k := 14) rfl
  obtain ⟨p1_15, mp1_15, tp1_15, kp1_15⟩ := t_fldr hI.1 mp1 tp1 td_35 (k := 15) rfl
  obtain ⟨q_15, mq_15, tq_15, kq_15⟩ := t_fldr hI.1 mq tq td_3 (k := 15) rfl
  obtain ⟨p1_16, mp1_16, tp1_16, kp1_16⟩ := t_fldr hI.1 mp1 tp1 td_35 (k := 16) rfl
  obtain ⟨q_16, mq_16, tq_16, kq_16⟩ := t_fldr hI.1 mq tq td_3 (k := 16) rfl
  obtain ⟨p1_17, mp1_17, tp1_17, kp1_17⟩ := t_fldr hI.1 mp1 tp1 td_35 (k := 17) rfl
  obtain ⟨q_17, mq_17, tq_17, kq_17⟩ := t_fldr hI.1 mq tq td_3 (k := 17) rfl
  obtain ⟨p1_18, mp1_18, tp1_18, kp1_18⟩ := t_fldr hI.1 mp1 tp1 td_35 (k := 18) rfl
  obtain ⟨q_18, mq_18, tq_18, kq_18⟩ := t_fldr hI.1 mq tq td_3 (k := 18) rfl
  obtain ⟨p1_19, mp1_19, tp1_19, kp1_19⟩ := t_fldr hI.1 mp1 tp1 td_35 (k := 19) rfl
  obtain ⟨q_19, mq_19, tq_19, kq_19⟩ := t_fldr hI.1 mq tq td_3 (k := 19) rfl
  refine lv_aload_n hx hb dX3_become_0 rfl (lv_at hl 0 rfl) ?_
  refine lv_aload_n hx hb dX3_become_1 rfl (lv_at hl 1 rfl) ?_
  refine t_geti C hH hI.1 mp1 tp1 td_35 iX3 rfl 0 (by decide) wd7 rfl rfl dX3_become_2 (fun z1 rz1 => ?_)
  refine t_put C hH hI mq tq (by decide) td_3 iX3 tyX3 tyX3_ok nmX3 rfl 0 (by decide) wd7 rfl rfl (v := .int z1) rfl rfl rfl ⟨_, rfl, rz1⟩ (fun _ h => nomatch h) dX3_become_5 (fun f2 H locs hH hI nf2 of2 bf2 => ?_)
  refine lv_aload_n hx hb dX3_become_8 rfl (lv_at hl 0 rfl) ?_
  refine lv_aload_n hx hb dX3_become_9 rfl (lv_at hl 1 rfl) ?_
  refine t_geti C hH hI.1 mp1 tp1 td_35 iX3 rfl 1 (by decide) wd8 rfl rfl dX3_become_10 (fun z3 rz3 => ?_)
  refine t_put C hH hI mq tq (by decide) td_3 iX3 tyX3 tyX3_ok nmX3 rfl 1 (by decide) wd8 rfl rfl (v := .int z3) rfl rfl rfl ⟨_, rfl, rz3⟩ (fun _ h => nomatch h) dX3_become_13 (fun f4 H locs hH hI nf4 of4 bf4 => ?_)
  refine lv_aload_n hx hb dX3_become_16 rfl (lv_at hl 0 rfl) ?_
  refine lv_aload_n hx hb dX3_become_17 rfl (lv_at hl 1 rfl) ?_
  refine t_geti C hH hI.1 mp1 tp1 td_35 iX3 rfl 2 (by decide) wd9 rfl rfl dX3_become_18 (fun z5 rz5 => ?_)
  refine t_put C hH hI mq tq (by decide) td_3 iX3 tyX3 tyX3_ok nmX3 rfl 2 (by decide) wd9 rfl rfl (v := .int z5) rfl rfl rfl ⟨_, rfl, rz5⟩ (fun _ h => nomatch h) dX3_become_21 (fun f6 H locs hH hI nf6 of6 bf6 => ?_)
  refine lv_aload_n hx hb dX3_become_24 rfl (lv_at hl 0 rfl) ?_
  refine lv_aload_n hx hb dX3_become_25 rfl (lv_at hl 1 rfl) ?_
  refine t_geti C hH hI.1 mp1 tp1 td_35 iX3 rfl 3 (by decide) wd10 rfl rfl dX3_become_26 (fun z7 rz7 => ?_)
  refine t_put C hH hI mq tq (by decide) td_3 iX3 tyX3 tyX3_ok nmX3 rfl 3 (by decide) wd10 rfl rfl (v := .int z7) rfl rfl rfl ⟨_, rfl, rz7⟩ (fun _ h => nomatch h) dX3_become_29 (fun f8 H locs hH hI nf8 of8 bf8 => ?_)
  refine lv_aload_n hx hb dX3_become_32 rfl (lv_at hl 0 rfl) ?_
  refine lv_aload_n hx hb dX3_become_33 rfl (lv_at hl 1 rfl) ?_
  refine t_geti C hH hI.1 mp1 tp1 td_35 iX3 rfl 4 (by decide) wd11 rfl rfl dX3_become_34 (fun z9 rz9 => ?_)
  refine t_put C hH hI mq tq (by decide) td_3 iX3 tyX3 tyX3_ok nmX3 rfl 4 (by decide) wd11 rfl rfl (v := .int z9) rfl rfl rfl ⟨_, rfl, rz9⟩ (fun _ h => nomatch h) dX3_become_37 (fun f10 H locs hH hI nf10 of10 bf10 => ?_)
  refine lv_aload_n hx hb dX3_become_40 rfl (lv_at hl 0 rfl) ?_
  refine lv_aload_n hx hb dX3_become_41 rfl (lv_at hl 1 rfl) ?_
  refine t_geti C hH hI.1 mp1 tp1 td_35 iX3 rfl 5 (by decide) wd12 rfl rfl dX3_become_42 (fun z11 rz11 => ?_)
  refine t_put C hH hI mq tq (by decide) td_3 iX3 tyX3 tyX3_ok nmX3 rfl 5 (by decide) wd12 rfl rfl (v := .int z11) rfl rfl rfl ⟨_, rfl, rz11⟩ (fun _ h => nomatch h) dX3_become_45 (fun f12 H locs hH hI nf12 of12 bf12 => ?_)
  refine lv_aload_n hx hb dX3_become_48 rfl (lv_at hl 0 rfl) ?_
  refine lv_aload_n hx hb dX3_become_49 rfl (lv_at hl 1 rfl) ?_
  refine t_geti C hH hI.1 mp1 tp1 td_35 iX3 rfl 6 (by decide) wd13 rfl rfl dX3_become_50 (fun z13 rz13 => ?_)
  refine t_put C hH hI mq tq (by decide) td_3 iX3 tyX3 tyX3_ok nmX3 rfl 6 (by decide) wd13 rfl rfl (v := .int z13) rfl rfl rfl ⟨_, rfl, rz13⟩ (fun _ h => nomatch h) dX3_become_53 (fun f14 H locs hH hI nf14 of14 bf14 => ?_)
  refine lv_aload_n hx hb dX3_become_56 rfl (lv_at hl 0 rfl) ?_
  refine lv_aload_n hx hb dX3_become_57 rfl (lv_at hl 1 rfl) ?_
  refine t_geti C hH hI.1 mp1 tp1 td_35 iX3 rfl 7 (by decide) wd14 rfl rfl dX3_become_58 (fun z15 rz15 => ?_)
  refine t_put C hH hI mq tq (by decide) td_3 iX3 tyX3 tyX3_ok nmX3 rfl 7 (by decide) wd14 rfl rfl (v := .int z15) rfl rfl rfl ⟨_, rfl, rz15⟩ (fun _ h => nomatch h) dX3_become_61 (fun f16 H locs hH hI nf16 of16 bf16 => ?_)
  refine lv_aload_n hx hb dX3_become_64 rfl (lv_at hl 0 rfl) ?_
  refine lv_aload_n hx hb dX3_become_65 rfl (lv_at hl 1 rfl) ?_
  refine t_geti C hH hI.1 mp1 tp1 td_35 iX3 rfl 8 (by decide) wd15 rfl rfl dX3_become_66 (fun z17 rz17 => ?_)
  refine t_put C hH hI mq tq (by decide) td_3 iX3 tyX3 tyX3_ok nmX3 rfl 8 (by decide) wd15 rfl rfl (v := .int z17) rfl rfl rfl ⟨_, rfl, rz17⟩ (fun _ h => nomatch h) dX3_become_69 (fun f18 H locs hH hI nf18 of18 bf18 => ?_)
  refine lv_aload_n hx hb dX3_become_72 rfl (lv_at hl 0 rfl) ?_
  refine lv_aload_n hx hb dX3_become_73 rfl (lv_at hl 1 rfl) ?_
  refine t_geti C hH hI.1 mp1 tp1 td_35 iX3 rfl 9 (by decide) wd16 rfl rfl dX3_become_74 (fun z19 rz19 => ?_)
  refine t_put C hH hI mq tq (by decide) td_3 iX3 tyX3 tyX3_ok nmX3 rfl 9 (by decide) wd16 rfl rfl (v := .int z19) rfl rfl rfl ⟨_, rfl, rz19⟩ (fun _ h => nomatch h) dX3_become_77 (fun f20 H locs hH hI nf20 of20 bf20 => ?_)
  refine lv_aload_n hx hb dX3_become_80 rfl (lv_at hl 1 rfl) ?_
  refine t_getX C hH hI.1 mp1 tp1 td_35 iX3 rfl 10 (by decide) wd51 rfl (hI.rf kp1_10) dX3_become_81 ?_
  refine lv_iconst (v := (0 : Int32)) hx hb dX3_become_84 (by decide) ?_
  refine lv_aload_n hx hb dX3_become_85 rfl (lv_at hl 0 rfl) ?_
  refine t_getX C hH hI.1 mq tq td_3 iX3 rfl 10 (by decide) wd51 rfl (hI.rf kq_10) dX3_become_86 ?_
  refine lv_iconst (v := (0 : Int32)) hx hb dX3_become_89 (by decide) ?_
  refine lv_iconst (v := (4 : Int32)) hx hb dX3_become_90 (by decide) ?_
  refine t_copy C hl.1.symm hH hI wd52 wd53 wd54 wd55 mp1_10 tp1_10 td_4 mq_10 tq_10 (by decide) td_4 (by decide) (by decide) (by decide) (by decide) (by decide) (fun _ _ h1 h2 => tR_cpy h1 h2 (by decide)) (Nat.le_of_ble_eq_true rfl) (Nat.le_of_ble_eq_true rfl) dX3_become_91 (fun f21 H locs hH hI bf21 => ?_)
  refine lv_aload_n hx hb dX3_become_94 rfl (lv_at hl 1 rfl) ?_
  refine t_getX C hH hI.1 mp1 tp1 td_35 iX3 rfl 11 (by decide) wd45 rfl (hI.rf kp1_11) dX3_become_95 ?_
  refine lv_iconst (v := (0 : Int32)) hx hb dX3_become_98 (by decide) ?_
  refine lv_aload_n hx hb dX3_become_99 rfl (lv_at hl 0 rfl) ?_
  refine t_getX C hH hI.1 mq tq td_3 iX3 rfl 11 (by decide) wd45 rfl (hI.rf kq_11) dX3_become_100 ?_
  refine lv_iconst (v := (0 : Int32)) hx hb dX3_become_103 (by decide) ?_
  refine lv_iconst (v := (4 : Int32)) hx hb dX3_become_104 (by decide) ?_
  refine t_copy C hl.1.symm hH hI wd52 wd53 wd54 wd55 mp1_11 tp1_11 td_5 mq_11 tq_11 (by decide) td_5 (by decide) (by decide) (by decide) (by decide) (by decide) (fun _ _ h1 h2 => tR_cpy h1 h2 (by decide)) (Nat.le_of_ble_eq_true rfl) (Nat.le_of_ble_eq_true rfl) dX3_become_105 (fun f22 H locs hH hI bf22 => ?_)
  refine lv_aload_n hx hb dX3_become_108 rfl (lv_at hl 1 rfl) ?_
  refine t_getX C hH hI.1 mp1 tp1 td_35 iX3 rfl 12 (by decide) wd56 rfl (hI.rf kp1_12) dX3_become_109 ?_
  refine lv_iconst (v := (0 : Int32)) hx hb dX3_become_112 (by decide) ?_
  refine lv_aload_n hx hb dX3_become_113 rfl (lv_at hl 0 rfl) ?_
  refine t_getX C hH hI.1 mq tq td_3 iX3 rfl 12 (by decide) wd56 rfl (hI.rf kq_12) dX3_become_114 ?_
  refine lv_iconst (v := (0 : Int32)) hx hb dX3_become_117 (by decide) ?_
  refine lv_iconst (v := (4 : Int32)) hx hb dX3_become_118 (by decide) ?_
  refine t_copy C hl.1.symm hH hI wd52 wd53 wd54 wd55 mp1_12 tp1_12 td_6 mq_12 tq_12 (by decide) td_6 (by decide) (by decide) (by decide) (by decide) (by decide) (fun _ _ _ _ => trivial) (Nat.le_of_ble_eq_true rfl) (Nat.le_of_ble_eq_true rfl) dX3_become_119 (fun f23 H locs hH hI bf23 => ?_)
  refine lv_aload_n hx hb dX3_become_122 rfl (lv_at hl 1 rfl) ?_
  refine t_getX C hH hI.1 mp1 tp1 td_35 iX3 rfl 13 (by decide) wd39 rfl (hI.rf kp1_13) dX3_become_123 ?_
  refine lv_iconst (v := (0 : Int32)) hx hb dX3_become_126 (by decide) ?_
  refine lv_aload_n hx hb dX3_become_127 rfl (lv_at hl 0 rfl) ?_
  refine t_getX C hH hI.1 mq tq td_3 iX3 rfl 13 (by decide) wd39 rfl (hI.rf kq_13) dX3_become_128 ?_
  refine lv_iconst (v := (0 : Int32)) hx hb dX3_become_131 (by decide) ?_
  refine lv_bipush (v := (6 : Int32)) hx hb dX3_become_132 (by decide) ?_
  refine t_copy C hl.1.symm hH hI wd52 wd53 wd54 wd55 mp1_13 tp1_13 td_7 mq_13 tq_13 (by decide) td_7 (by decide) (by decide) (by decide) (by decide) (by decide) (fun _ _ h1 h2 => tR_cpy h1 h2 (by decide)) (Nat.le_of_ble_eq_true rfl) (Nat.le_of_ble_eq_true rfl) dX3_become_134 (fun f24 H locs hH hI bf24 => ?_)
  refine lv_aload_n hx hb dX3_become_137 rfl (lv_at hl 1 rfl) ?_
  refine t_getX C hH hI.1 mp1 tp1 td_35 iX3 rfl 14 (by decide) wd40 rfl (hI.rf kp1_14) dX3_become_138 ?_
  refine lv_iconst (v := (0 : Int32)) hx hb dX3_become_141 (by decide) ?_
  refine lv_aload_n hx hb dX3_become_142 rfl (lv_at hl 0 rfl) ?_
  refine t_getX C hH hI.1 mq tq td_3 iX3 rfl 14 (by decide) wd40 rfl (hI.rf kq_14) dX3_become_143 ?_
  refine lv_iconst (v := (0 : Int32)) hx hb dX3_become_146 (by decide) ?_
  refine lv_bipush (v := (6 : Int32)) hx hb dX3_become_147 (by decide) ?_
  refine t_copy C hl.1.symm hH hI wd52 wd53 wd54 wd55 mp1_14 tp1_14 td_8 mq_14 tq_14 (by decide) td_8 (by decide) (by decide) (by decide) (by decide) (by decide) (fun _ _ _ _ => trivial) (Nat.le_of_ble_eq_true rfl) (Nat.le_of_ble_eq_true rfl) dX3_become_149 (fun f25 H locs hH hI bf25 => ?_)
  refine lv_aload_n hx hb dX3_become_152 rfl (lv_at hl 1 rfl) ?_
  refine t_getX C hH hI.1 mp1 tp1 td_35 iX3 rfl 15 (by decide) wd43 rfl (hI.rf kp1_15) dX3_become_153 ?_
  refine lv_iconst (v := (0 : Int32)) hx hb dX3_become_156 (by decide) ?_
  refine lv_aload_n hx hb dX3_become_157 rfl (lv_at hl 0 rfl) ?_
  refine t_getX C hH hI.1 mq tq td_3 iX3 rfl 15 (by decide) wd43 rfl (hI.rf kq_15) dX3_become_158 ?_
  refine lv_iconst (v := (0 : Int32)) hx hb dX3_become_161 (by decide) ?_
  refine lv_bipush (v := (6 : Int32)) hx hb dX3_become_162 (by decide) ?_
  refine t_copy C hl.1.symm hH hI wd52 wd53 wd54 wd55 mp1_15 tp1_15 td_9 mq_15 tq_15 (by decide) td_9 (by decide) (by decide) (by decide) (by decide) (by decide) (fun _ _ _ _ => trivial) (Nat.le_of_ble_eq_true rfl) (Nat.le_of_ble_eq_true rfl) dX3_become_164 (fun f26 H locs hH hI bf26 => ?_)
  refine lv_aload_n hx hb dX3_become_167 rfl (lv_at hl 1 rfl) ?_
  refine t_getX C hH hI.1 mp1 tp1 td_35 iX3 rfl 16 (by decide) wd44 rfl (hI.rf kp1_16) dX3_become_168 ?_
  refine lv_iconst (v := (0 : Int32)) hx hb dX3_become_171 (by decide) ?_
  refine lv_aload_n hx hb dX3_become_172 rfl (lv_at hl 0 rfl) ?_
  refine t_getX C hH hI.1 mq tq td_3 iX3 rfl 16 (by decide) wd44 rfl (hI.rf kq_16) dX3_become_173 ?_
  refine lv_iconst (v := (0 : Int32)) hx hb dX3_become_176 (by decide) ?_
  refine lv_bipush (v := (40 : Int32)) hx hb dX3_become_177 (by decide) ?_
  refine t_copy C hl.1.symm hH hI wd52 wd53 wd54 wd55 mp1_16 tp1_16 td_10 mq_16 tq_16 (by decide) td_10 (by decide) (by decide) (by decide) (by decide) (by decide) (fun _ _ h1 h2 => tR_cpy h1 h2 (by decide)) (Nat.le_of_ble_eq_true rfl) (Nat.le_of_ble_eq_true rfl) dX3_become_179 (fun f27 H locs hH hI bf27 => ?_)
  refine lv_aload_n hx hb dX3_become_182 rfl (lv_at hl 1 rfl) ?_
  refine t_getX C hH hI.1 mp1 tp1 td_35 iX3 rfl 17 (by decide) wd46 rfl (hI.rf kp1_17) dX3_become_183 ?_
  refine lv_iconst (v := (0 : Int32)) hx hb dX3_become_186 (by decide) ?_
  refine lv_aload_n hx hb dX3_become_187 rfl (lv_at hl 0 rfl) ?_
  refine t_getX C hH hI.1 mq tq td_3 iX3 rfl 17 (by decide) wd46 rfl (hI.rf kq_17) dX3_become_188 ?_
  refine lv_iconst (v := (0 : Int32)) hx hb dX3_become_191 (by decide) ?_
  refine lv_bipush (v := (40 : Int32)) hx hb dX3_become_192 (by decide) ?_
  refine t_copy C hl.1.symm hH hI wd52 wd53 wd54 wd55 mp1_17 tp1_17 td_11 mq_17 tq_17 (by decide) td_11 (by decide) (by decide) (by decide) (by decide) (by decide) (fun _ _ h1 h2 => tR_cpy h1 h2 (by decide)) (Nat.le_of_ble_eq_true rfl) (Nat.le_of_ble_eq_true rfl) dX3_become_194 (fun f28 H locs hH hI bf28 => ?_)
  refine lv_aload_n hx hb dX3_become_197 rfl (lv_at hl 1 rfl) ?_
  refine t_getX C hH hI.1 mp1 tp1 td_35 iX3 rfl 18 (by decide) wd38 rfl (hI.rf kp1_18) dX3_become_198 ?_
  refine lv_iconst (v := (0 : Int32)) hx hb dX3_become_201 (by decide) ?_
  refine lv_aload_n hx hb dX3_become_202 rfl (lv_at hl 0 rfl) ?_
  refine t_getX C hH hI.1 mq tq td_3 iX3 rfl 18 (by decide) wd38 rfl (hI.rf kq_18) dX3_become_203 ?_
  refine lv_iconst (v := (0 : Int32)) hx hb dX3_become_206 (by decide) ?_
  refine lv_bipush (v := (20 : Int32)) hx hb dX3_become_207 (by decide) ?_
  refine t_copy C hl.1.symm hH hI wd52 wd53 wd54 wd55 mp1_18 tp1_18 td_12 mq_18 tq_18 (by decide) td_12 (by decide) (by decide) (by decide) (by decide) (by decide) (fun _ _ _ _ => trivial) (Nat.le_of_ble_eq_true rfl) (Nat.le_of_ble_eq_true rfl) dX3_become_209 (fun f29 H locs hH hI bf29 => ?_)
  refine lv_aload_n hx hb dX3_become_212 rfl (lv_at hl 1 rfl) ?_
  refine t_getX C hH hI.1 mp1 tp1 td_35 iX3 rfl 19 (by decide) wd57 rfl (hI.rf kp1_19) dX3_become_213 ?_
  refine lv_iconst (v := (0 : Int32)) hx hb dX3_become_216 (by decide) ?_
  refine lv_aload_n hx hb dX3_become_217 rfl (lv_at hl 0 rfl) ?_
  refine t_getX C hH hI.1 mq tq td_3 iX3 rfl 19 (by decide) wd57 rfl (hI.rf kq_19) dX3_become_218 ?_
  refine lv_iconst (v := (0 : Int32)) hx hb dX3_become_221 (by decide) ?_
  refine lv_bipush (v := (80 : Int32)) hx hb dX3_become_222 (by decide) ?_
  refine t_copy C hl.1.symm hH hI wd52 wd53 wd54 wd55 mp1_19 tp1_19 td_13 mq_19 tq_19 (by decide) td_13 (by decide) (by decide) (by decide) (by decide) (by decide) (fun _ _ h1 h2 => tR_cpy h1 h2 (by decide)) (Nat.le_of_ble_eq_true rfl) (Nat.le_of_ble_eq_true rfl) dX3_become_224 (fun f30 H locs hH hI bf30 => ?_)
  exact g_vret C hr hH (Nat.zero_le _) (Nat.zero_le _) dX3_become_227 ⟨rfl, hI, trivial⟩
set_option maxHeartbeats 4000000 in
set_option maxRecDepth 100000 in
theorem t_become_d (l : Launch) (E : gE) (J : Nat → Nat) (τ : Nat → Nat) (L : List Nat) (f : gF) (hI : tI E L τ f) {q : Nat} (mq : q ∈ L) (tq : τ q = 35) {p1 : Nat} (mp1 : p1 ∈ L) (tp1 : τ p1 = 3) : tMv l E J yX3_become cX3_become 2 (gRm (2) 0 0) [.ref q, .ref p1] L f (tPv E L τ [4, 5, 6, 7, 8, 9, 10, 11, 12, 13, 35] f (fun f1 => True)) := by
  refine tMv.intro (by decide) (Nat.le_of_ble_eq_true rfl) ?_
  intro p e s m below meth c A ls C hr hA hO hH hl
  have C : gC E cX3_become 2 RX3 p s m _ meth c := C
  have hl : lv_has ls 2 [(0, .ref q), (1, .ref p1)] := hl
  have hx := C.1
  have hb := C.2.1
  have hI := hI.S [4, 5, 6, 7, 8, 9, 10, 11, 12, 13, 35]
  obtain ⟨p1_10, mp1_10, tp1_10, kp1_10⟩ := t_fldr hI.1 mp1 tp1 td_3 (k := 10) rfl
  obtain ⟨q_10, mq_10, tq_10, kq_10⟩ := t_fldr hI.1 mq tq td_35 (k := 10) rfl
  obtain ⟨p1_11, mp1_11, tp1_11, kp1_11⟩ := t_fldr hI.1 mp1 tp1 td_3 (k := 11) rfl
  obtain ⟨q_11, mq_11, tq_11, kq_11⟩ := t_fldr hI.1 mq tq td_35 (k := 11) rfl
  obtain ⟨p1_12, mp1_12, tp1_12, kp1_12⟩ := t_fldr hI.1 mp1 tp1 td_3 (k := 12) rfl
  obtain ⟨q_12, mq_12, tq_12, kq_12⟩ := t_fldr hI.1 mq tq td_35 (k := 12) rfl
  obtain ⟨p1_13, mp1_13, tp1_13, kp1_13⟩ := t_fldr hI.1 mp1 tp1 td_3 (k := 13) rfl
  obtain ⟨q_13, mq_13, tq_13, kq_13⟩ := t_fldr hI.1 mq tq td_35 (k := 13) rfl
  obtain ⟨p1_14, mp1_14, tp1_14, kp1_14⟩ := t_fldr hI.1 mp1 tp1 td_3 (k := 14) rfl
  obtain ⟨q_14, mq_14, tq_14, kq_14⟩ := t_fldr hI.1 mq tq td_35 (k := 14) rfl
  obtain ⟨p1_15, mp1_15, tp1_15, kp1_15⟩ := t_fldr hI.1 mp1 tp1 td_3 (k := 15) rfl
  obtain ⟨q_15, mq_15, tq_15, kq_15⟩ := t_fldr hI.1 mq tq td_35 (k := 15) rfl
  obtain ⟨p1_16, mp1_16, tp1_16, kp1_16⟩ := t_fldr hI.1 mp1 tp1 td_3 (k := 16) rfl
  obtain ⟨q_16, mq_16, tq_16, kq_16⟩ := t_fldr hI.1 mq tq td_35 (k := 16) rfl
  obtain ⟨p1_17, mp1_17, tp1_17, kp1_17⟩ := t_fldr hI.1 mp1 tp1 td_3 (k := 17) rfl
  obtain ⟨q_17, mq_17, tq_17, kq_17⟩ := t_fldr hI.1 mq tq td_35 (k := 17) rfl
  obtain ⟨p1_18, mp1_18, tp1_18, kp1_18⟩ := t_fldr hI.1 mp1 tp1 td_3 (k := 18) rfl
  obtain ⟨q_18, mq_18, tq_18, kq_18⟩ := t_fldr hI.1 mq tq td_35 (k := 18) rfl
  obtain ⟨p1_19, mp1_19, tp1_19, kp1_19⟩ := t_fldr hI.1 mp1 tp1 td_3 (k := 19) rfl
  obtain ⟨q_19, mq_19, tq_19, kq_19⟩ := t_fldr hI.1 mq tq td_35 (k := 19) rfl
  refine lv_aload_n hx hb dX3_become_0 rfl (lv_at hl 0 rfl) ?_
  refine lv_aload_n hx hb dX3_become_1 rfl (lv_at hl 1 rfl) ?_
  refine t_geti C hH hI.1 mp1 tp1 td_3 iX3 rfl 0 (by decide) wd7 rfl rfl dX3_become_2 (fun z1 rz1 => ?_)
  refine t_put C hH hI mq tq (by decide) td_35 iX3 tyX3 tyX3_ok nmX3 rfl 0 (by decide) wd7 rfl rfl (v := .int z1) rfl rfl rfl ⟨_, rfl, rz1⟩ (fun _ h => nomatch h) dX3_become_5 (fun f2 H locs hH hI nf2 of2 bf2 => ?_)
  refine lv_aload_n hx hb dX3_become_8 rfl (lv_at hl 0 rfl) ?_
  refine lv_aload_n hx hb dX3_become_9 rfl (lv_at hl 1 rfl) ?_
  refine t_geti C hH hI.1 mp1 tp1 td_3 iX3 rfl 1 (by decide) wd8 rfl rfl dX3_become_10 (fun z3 rz3 => ?_)
  refine t_put C hH hI mq tq (by decide) td_35 iX3 tyX3 tyX3_ok nmX3 rfl 1 (by decide) wd8 rfl rfl (v := .int z3) rfl rfl rfl ⟨_, rfl, rz3⟩ (fun _ h => nomatch h) dX3_become_13 (fun f4 H locs hH hI nf4 of4 bf4 => ?_)
  refine lv_aload_n hx hb dX3_become_16 rfl (lv_at hl 0 rfl) ?_
  refine lv_aload_n hx hb dX3_become_17 rfl (lv_at hl 1 rfl) ?_
  refine t_geti C hH hI.1 mp1 tp1 td_3 iX3 rfl 2 (by decide) wd9 rfl rfl dX3_become_18 (fun z5 rz5 => ?_)
  refine t_put C hH hI mq tq (by decide) td_35 iX3 tyX3 tyX3_ok nmX3 rfl 2 (by decide) wd9 rfl rfl (v := .int z5) rfl rfl rfl ⟨_, rfl, rz5⟩ (fun _ h => nomatch h) dX3_become_21 (fun f6 H locs hH hI nf6 of6 bf6 => ?_)
  refine lv_aload_n hx hb dX3_become_24 rfl (lv_at hl 0 rfl) ?_
  refine lv_aload_n hx hb dX3_become_25 rfl (lv_at hl 1 rfl) ?_
  refine t_geti C hH hI.1 mp1 tp1 td_3 iX3 rfl 3 (by decide) wd10 rfl rfl dX3_become_26 (fun z7 rz7 => ?_)
  refine t_put C hH hI mq tq (by decide) td_35 iX3 tyX3 tyX3_ok nmX3 rfl 3 (by decide) wd10 rfl rfl (v := .int z7) rfl rfl rfl ⟨_, rfl, rz7⟩ (fun _ h => nomatch h) dX3_become_29 (fun f8 H locs hH hI nf8 of8 bf8 => ?_)
  refine lv_aload_n hx hb dX3_become_32 rfl (lv_at hl 0 rfl) ?_
  refine lv_aload_n hx hb dX3_become_33 rfl (lv_at hl 1 rfl) ?_
  refine t_geti C hH hI.1 mp1 tp1 td_3 iX3 rfl 4 (by decide) wd11 rfl rfl dX3_become_34 (fun z9 rz9 => ?_)
  refine t_put C hH hI mq tq (by decide) td_35 iX3 tyX3 tyX3_ok nmX3 rfl 4 (by decide) wd11 rfl rfl (v := .int z9) rfl rfl rfl ⟨_, rfl, rz9⟩ (fun _ h => nomatch h) dX3_become_37 (fun f10 H locs hH hI nf10 of10 bf10 => ?_)
  refine lv_aload_n hx hb dX3_become_40 rfl (lv_at hl 0 rfl) ?_
  refine lv_aload_n hx hb dX3_become_41 rfl (lv_at hl 1 rfl) ?_
  refine t_geti C hH hI.1 mp1 tp1 td_3 iX3 rfl 5 (by decide) wd12 rfl rfl dX3_become_42 (fun z11 rz11 => ?_)
  refine t_put C hH hI mq tq (by decide) td_35 iX3 tyX3 tyX3_ok nmX3 rfl 5 (by decide) wd12 rfl rfl (v := .int z11) rfl rfl rfl ⟨_, rfl, rz11⟩ (fun _ h => nomatch h) dX3_become_45 (fun f12 H locs hH hI nf12 of12 bf12 => ?_)
  refine lv_aload_n hx hb dX3_become_48 rfl (lv_at hl 0 rfl) ?_
  refine lv_aload_n hx hb dX3_become_49 rfl (lv_at hl 1 rfl) ?_
  refine t_geti C hH hI.1 mp1 tp1 td_3 iX3 rfl 6 (by decide) wd13 rfl rfl dX3_become_50 (fun z13 rz13 => ?_)
  refine t_put C hH hI mq tq (by decide) td_35 iX3 tyX3 tyX3_ok nmX3 rfl 6 (by decide) wd13 rfl rfl (v := .int z13) rfl rfl rfl ⟨_, rfl, rz13⟩ (fun _ h => nomatch h) dX3_become_53 (fun f14 H locs hH hI nf14 of14 bf14 => ?_)
  refine lv_aload_n hx hb dX3_become_56 rfl (lv_at hl 0 rfl) ?_
  refine lv_aload_n hx hb dX3_become_57 rfl (lv_at hl 1 rfl) ?_
  refine t_geti C hH hI.1 mp1 tp1 td_3 iX3 rfl 7 (by decide) wd14 rfl rfl dX3_become_58 (fun z15 rz15 => ?_)
  refine t_put C hH hI mq tq (by decide) td_35 iX3 tyX3 tyX3_ok nmX3 rfl 7 (by decide) wd14 rfl rfl (v := .int z15) rfl rfl rfl ⟨_, rfl, rz15⟩ (fun _ h => nomatch h) dX3_become_61 (fun f16 H locs hH hI nf16 of16 bf16 => ?_)
  refine lv_aload_n hx hb dX3_become_64 rfl (lv_at hl 0 rfl) ?_
  refine lv_aload_n hx hb dX3_become_65 rfl (lv_at hl 1 rfl) ?_
  refine t_geti C hH hI.1 mp1 tp1 td_3 iX3 rfl 8 (by decide) wd15 rfl rfl dX3_become_66 (fun z17 rz17 => ?_)
  refine t_put C hH hI mq tq (by decide) td_35 iX3 tyX3 tyX3_ok nmX3 rfl 8 (by decide) wd15 rfl rfl (v := .int z17) rfl rfl rfl ⟨_, rfl, rz17⟩ (fun _ h => nomatch h) dX3_become_69 (fun f18 H locs hH hI nf18 of18 bf18 => ?_)
  refine lv_aload_n hx hb dX3_become_72 rfl (lv_at hl 0 rfl) ?_
  refine lv_aload_n hx hb dX3_become_73 rfl (lv_at hl 1 rfl) ?_
  refine t_geti C hH hI.1 mp1 tp1 td_3 iX3 rfl 9 (by decide) wd16 rfl rfl dX3_become_74 (fun z19 rz19 => ?_)
  refine t_put C hH hI mq tq (by decide) td_35 iX3 tyX3 tyX3_ok nmX3 rfl 9 (by decide) wd16 rfl rfl (v := .int z19) rfl rfl rfl ⟨_, rfl, rz19⟩ (fun _ h => nomatch h) dX3_become_77 (fun f20 H locs hH hI nf20 of20 bf20 => ?_)
  refine lv_aload_n hx hb dX3_become_80 rfl (lv_at hl 1 rfl) ?_
  refine t_getX C hH hI.1 mp1 tp1 td_3 iX3 rfl 10 (by decide) wd51 rfl (hI.rf kp1_10) dX3_become_81 ?_
  refine lv_iconst (v := (0 : Int32)) hx hb dX3_become_84 (by decide) ?_
  refine lv_aload_n hx hb dX3_become_85 rfl (lv_at hl 0 rfl) ?_
  refine t_getX C hH hI.1 mq tq td_35 iX3 rfl 10 (by decide) wd51 rfl (hI.rf kq_10) dX3_become_86 ?_
  refine lv_iconst (v := (0 : Int32)) hx hb dX3_become_89 (by decide) ?_
  refine lv_iconst (v := (4 : Int32)) hx hb dX3_become_90 (by decide) ?_
  refine t_copy C hl.1.symm hH hI wd52 wd53 wd54 wd55 mp1_10 tp1_10 td_4 mq_10 tq_10 (by decide) td_4 (by decide) (by decide) (by decide) (by decide) (by decide) (fun _ _ h1 h2 => tR_cpy h1 h2 (by decide)) (Nat.le_of_ble_eq_true rfl) (Nat.le_of_ble_eq_true rfl) dX3_become_91 (fun f21 H locs hH hI bf21 => ?_)
  refine lv_aload_n hx hb dX3_become_94 rfl (lv_at hl 1 rfl) ?_
  refine t_getX C hH hI.1 mp1 tp1 td_3 iX3 rfl 11 (by decide) wd45 rfl (hI.rf kp1_11) dX3_become_95 ?_
  refine lv_iconst (v := (0 : Int32)) hx hb dX3_become_98 (by decide) ?_
  refine lv_aload_n hx hb dX3_become_99 rfl (lv_at hl 0 rfl) ?_
  refine t_getX C hH hI.1 mq tq td_35 iX3 rfl 11 (by decide) wd45 rfl (hI.rf kq_11) dX3_become_100 ?_
  refine lv_iconst (v := (0 : Int32)) hx hb dX3_become_103 (by decide) ?_
  refine lv_iconst (v := (4 : Int32)) hx hb dX3_become_104 (by decide) ?_
  refine t_copy C hl.1.symm hH hI wd52 wd53 wd54 wd55 mp1_11 tp1_11 td_5 mq_11 tq_11 (by decide) td_5 (by decide) (by decide) (by decide) (by decide) (by decide) (fun _ _ h1 h2 => tR_cpy h1 h2 (by decide)) (Nat.le_of_ble_eq_true rfl) (Nat.le_of_ble_eq_true rfl) dX3_become_105 (fun f22 H locs hH hI bf22 => ?_)
  refine lv_aload_n hx hb dX3_become_108 rfl (lv_at hl 1 rfl) ?_
  refine t_getX C hH hI.1 mp1 tp1 td_3 iX3 rfl 12 (by decide) wd56 rfl (hI.rf kp1_12) dX3_become_109 ?_
  refine lv_iconst (v := (0 : Int32)) hx hb dX3_become_112 (by decide) ?_
  refine lv_aload_n hx hb dX3_become_113 rfl (lv_at hl 0 rfl) ?_
  refine t_getX C hH hI.1 mq tq td_35 iX3 rfl 12 (by decide) wd56 rfl (hI.rf kq_12) dX3_become_114 ?_
  refine lv_iconst (v := (0 : Int32)) hx hb dX3_become_117 (by decide) ?_
  refine lv_iconst (v := (4 : Int32)) hx hb dX3_become_118 (by decide) ?_
  refine t_copy C hl.1.symm hH hI wd52 wd53 wd54 wd55 mp1_12 tp1_12 td_6 mq_12 tq_12 (by decide) td_6 (by decide) (by decide) (by decide) (by decide) (by decide) (fun _ _ _ _ => trivial) (Nat.le_of_ble_eq_true rfl) (Nat.le_of_ble_eq_true rfl) dX3_become_119 (fun f23 H locs hH hI bf23 => ?_)
  refine lv_aload_n hx hb dX3_become_122 rfl (lv_at hl 1 rfl) ?_
  refine t_getX C hH hI.1 mp1 tp1 td_3 iX3 rfl 13 (by decide) wd39 rfl (hI.rf kp1_13) dX3_become_123 ?_
  refine lv_iconst (v := (0 : Int32)) hx hb dX3_become_126 (by decide) ?_
  refine lv_aload_n hx hb dX3_become_127 rfl (lv_at hl 0 rfl) ?_
  refine t_getX C hH hI.1 mq tq td_35 iX3 rfl 13 (by decide) wd39 rfl (hI.rf kq_13) dX3_become_128 ?_
  refine lv_iconst (v := (0 : Int32)) hx hb dX3_become_131 (by decide) ?_
  refine lv_bipush (v := (6 : Int32)) hx hb dX3_become_132 (by decide) ?_
  refine t_copy C hl.1.symm hH hI wd52 wd53 wd54 wd55 mp1_13 tp1_13 td_7 mq_13 tq_13 (by decide) td_7 (by decide) (by decide) (by decide) (by decide) (by decide) (fun _ _ h1 h2 => tR_cpy h1 h2 (by decide)) (Nat.le_of_ble_eq_true rfl) (Nat.le_of_ble_eq_true rfl) dX3_become_134 (fun f24 H locs hH hI bf24 => ?_)
  refine lv_aload_n hx hb dX3_become_137 rfl (lv_at hl 1 rfl) ?_
  refine t_getX C hH hI.1 mp1 tp1 td_3 iX3 rfl 14 (by decide) wd40 rfl (hI.rf kp1_14) dX3_become_138 ?_
  refine lv_iconst (v := (0 : Int32)) hx hb dX3_become_141 (by decide) ?_
  refine lv_aload_n hx hb dX3_become_142 rfl (lv_at hl 0 rfl) ?_
  refine t_getX C hH hI.1 mq tq td_35 iX3 rfl 14 (by decide) wd40 rfl (hI.rf kq_14) dX3_become_143 ?_
  refine lv_iconst (v := (0 : Int32)) hx hb dX3_become_146 (by decide) ?_
  refine lv_bipush (v := (6 : Int32)) hx hb dX3_become_147 (by decide) ?_
  refine t_copy C hl.1.symm hH hI wd52 wd53 wd54 wd55 mp1_14 tp1_14 td_8 mq_14 tq_14 (by decide) td_8 (by decide) (by decide) (by decide) (by decide) (by decide) (fun _ _ _ _ => trivial) (Nat.le_of_ble_eq_true rfl) (Nat.le_of_ble_eq_true rfl) dX3_become_149 (fun f25 H locs hH hI bf25 => ?_)
  refine lv_aload_n hx hb dX3_become_152 rfl (lv_at hl 1 rfl) ?_
  refine t_getX C hH hI.1 mp1 tp1 td_3 iX3 rfl 15 (by decide) wd43 rfl (hI.rf kp1_15) dX3_become_153 ?_
  refine lv_iconst (v := (0 : Int32)) hx hb dX3_become_156 (by decide) ?_
  refine lv_aload_n hx hb dX3_become_157 rfl (lv_at hl 0 rfl) ?_
  refine t_getX C hH hI.1 mq tq td_35 iX3 rfl 15 (by decide) wd43 rfl (hI.rf kq_15) dX3_become_158 ?_
  refine lv_iconst (v := (0 : Int32)) hx hb dX3_become_161 (by decide) ?_
  refine lv_bipush (v := (6 : Int32)) hx hb dX3_become_162 (by decide) ?_
  refine t_copy C hl.1.symm hH hI wd52 wd53 wd54 wd55 mp1_15 tp1_15 td_9 mq_15 tq_15 (by decide) td_9 (by decide) (by decide) (by decide) (by decide) (by decide) (fun _ _ _ _ => trivial) (Nat.le_of_ble_eq_true rfl) (Nat.le_of_ble_eq_true rfl) dX3_become_164 (fun f26 H locs hH hI bf26 => ?_)
  refine lv_aload_n hx hb dX3_become_167 rfl (lv_at hl 1 rfl) ?_
  refine t_getX C hH hI.1 mp1 tp1 td_3 iX3 rfl 16 (by decide) wd44 rfl (hI.rf kp1_16) dX3_become_168 ?_
  refine lv_iconst (v := (0 : Int32)) hx hb dX3_become_171 (by decide) ?_
  refine lv_aload_n hx hb dX3_become_172 rfl (lv_at hl 0 rfl) ?_
  refine t_getX C hH hI.1 mq tq td_35 iX3 rfl 16 (by decide) wd44 rfl (hI.rf kq_16) dX3_become_173 ?_
  refine lv_iconst (v := (0 : Int32)) hx hb dX3_become_176 (by decide) ?_
  refine lv_bipush (v := (40 : Int32)) hx hb dX3_become_177 (by decide) ?_
  refine t_copy C hl.1.symm hH hI wd52 wd53 wd54 wd55 mp1_16 tp1_16 td_10 mq_16 tq_16 (by decide) td_10 (by decide) (by decide) (by decide) (by decide) (by decide) (fun _ _ h1 h2 => tR_cpy h1 h2 (by decide)) (Nat.le_of_ble_eq_true rfl) (Nat.le_of_ble_eq_true rfl) dX3_become_179 (fun f27 H locs hH hI bf27 => ?_)
  refine lv_aload_n hx hb dX3_become_182 rfl (lv_at hl 1 rfl) ?_
  refine t_getX C hH hI.1 mp1 tp1 td_3 iX3 rfl 17 (by decide) wd46 rfl (hI.rf kp1_17) dX3_become_183 ?_
  refine lv_iconst (v := (0 : Int32)) hx hb dX3_become_186 (by decide) ?_
  refine lv_aload_n hx hb dX3_become_187 rfl (lv_at hl 0 rfl) ?_
  refine t_getX C hH hI.1 mq tq td_35 iX3 rfl 17 (by decide) wd46 rfl (hI.rf kq_17) dX3_become_188 ?_
  refine lv_iconst (v := (0 : Int32)) hx hb dX3_become_191 (by decide) ?_
  refine lv_bipush (v := (40 : Int32)) hx hb dX3_become_192 (by decide) ?_
  refine t_copy C hl.1.symm hH hI wd52 wd53 wd54 wd55 mp1_17 tp1_17 td_11 mq_17 tq_17 (by decide) td_11 (by decide) (by decide) (by decide) (by decide) (by decide) (fun _ _ h1 h2 => tR_cpy h1 h2 (by decide)) (Nat.le_of_ble_eq_true rfl) (Nat.le_of_ble_eq_true rfl) dX3_become_194 (fun f28 H locs hH hI bf28 => ?_)
  refine lv_aload_n hx hb dX3_become_197 rfl (lv_at hl 1 rfl) ?_
  refine t_getX C hH hI.1 mp1 tp1 td_3 iX3 rfl 18 (by decide) wd38 rfl (hI.rf kp1_18) dX3_become_198 ?_
  refine lv_iconst (v := (0 : Int32)) hx hb dX3_become_201 (by decide) ?_
  refine lv_aload_n hx hb dX3_become_202 rfl (lv_at hl 0 rfl) ?_
  refine t_getX C hH hI.1 mq tq td_35 iX3 rfl 18 (by decide) wd38 rfl (hI.rf kq_18) dX3_become_203 ?_
  refine lv_iconst (v := (0 : Int32)) hx hb dX3_become_206 (by decide) ?_
  refine lv_bipush (v := (20 : Int32)) hx hb dX3_become_207 (by decide) ?_
  refine t_copy C hl.1.symm hH hI wd52 wd53 wd54 wd55 mp1_18 tp1_18 td_12 mq_18 tq_18 (by decide) td_12 (by decide) (by decide) (by decide) (by decide) (by decide) (fun _ _ _ _ => trivial) (Nat.le_of_ble_eq_true rfl) (Nat.le_of_ble_eq_true rfl) dX3_become_209 (fun f29 H locs hH hI bf29 => ?_)
  refine lv_aload_n hx hb dX3_become_212 rfl (lv_at hl 1 rfl) ?_
  refine t_getX C hH hI.1 mp1 tp1 td_3 iX3 rfl 19 (by decide) wd57 rfl (hI.rf kp1_19) dX3_become_213 ?_
  refine lv_iconst (v := (0 : Int32)) hx hb dX3_become_216 (by decide) ?_
  refine lv_aload_n hx hb dX3_become_217 rfl (lv_at hl 0 rfl) ?_
  refine t_getX C hH hI.1 mq tq td_35 iX3 rfl 19 (by decide) wd57 rfl (hI.rf kq_19) dX3_become_218 ?_
  refine lv_iconst (v := (0 : Int32)) hx hb dX3_become_221 (by decide) ?_
  refine lv_bipush (v := (80 : Int32)) hx hb dX3_become_222 (by decide) ?_
  refine t_copy C hl.1.symm hH hI wd52 wd53 wd54 wd55 mp1_19 tp1_19 td_13 mq_19 tq_19 (by decide) td_13 (by decide) (by decide) (by decide) (by decide) (by decide) (fun _ _ h1 h2 => tR_cpy h1 h2 (by decide)) (Nat.le_of_ble_eq_true rfl) (Nat.le_of_ble_eq_true rfl) dX3_become_224 (fun f30 H locs hH hI bf30 => ?_)
  exact g_vret C hr hH (Nat.zero_le _) (Nat.zero_le _) dX3_become_227 ⟨rfl, hI, trivial⟩
set_option maxHeartbeats 4000000 in
set_option maxRecDepth 100000 in
theorem t_X7_under (l : Launch) (E : gE) (J : Nat → Nat) (τ : Nat → Nat) (L : List Nat) (f : gF) (hI : tI E L τ f) {q : Nat} (mq : q ∈ L) (tq : τ q = 19) (p1 : Int32) (p2 : Int32) : tMv l E J yX7_under cX7_under 3 (gRm (1) 0 0) [.ref q, .int p1, .int p2] L f (tPv E L τ [19] f (fun f1 => True)) := by
  refine tMv.intro (by decide) (Nat.le_of_ble_eq_true rfl) ?_
  intro p e s m below meth c A ls C hr hA hO hH hl
  have C : gC E cX7_under 3 RX7 p s m _ meth c := C
  have hl : lv_has ls 3 [(0, .ref q), (1, .int p1), (2, .int p2)] := hl
  have hx := C.1
  have hb := C.2.1
  have hI := hI.S [19]
  refine lv_aload_n hx hb dX7_under_0 rfl (lv_at hl 0 rfl) ?_
  refine lv_iload_n hx hb dX7_under_1 rfl (lv_at hl 1 rfl) ?_
  refine t_put C hH hI mq tq (by decide) td_19 iX7 tyX7 tyX7_ok nmX7 rfl 5 (by decide) wd58 rfl rfl (v := .int p1) rfl rfl rfl ⟨_, rfl, (rg_all _)⟩ (fun _ h => nomatch h) dX7_under_2 (fun f1 H locs hH hI nf1 of1 bf1 => ?_)
  refine lv_aload_n hx hb dX7_under_5 rfl (lv_at hl 0 rfl) ?_
  refine lv_iload_n hx hb dX7_under_6 rfl (lv_at hl 2 rfl) ?_
  refine t_put C hH hI mq tq (by decide) td_19 iX7 tyX7 tyX7_ok nmX7 rfl 6 (by decide) wd59 rfl rfl (v := .int p2) rfl rfl rfl ⟨_, rfl, (rg_all _)⟩ (fun _ h => nomatch h) dX7_under_7 (fun f2 H locs hH hI nf2 of2 bf2 => ?_)
  exact g_vret C hr hH (Nat.zero_le _) (Nat.zero_le _) dX7_under_10 ⟨rfl, hI, trivial⟩
set_option maxHeartbeats 4000000 in
set_option maxRecDepth 100000 in
theorem t_X7_turned (l : Launch) (E : gE) (J : Nat → Nat) (τ : Nat → Nat) (L : List Nat) (f : gF) (hI : tI E L τ f) {q : Nat} (mq : q ∈ L) (tq : τ q = 19) (p1 : Int32) (p2 : Int32) : tMi l E J yX7_turned cX7_turned 3 .int (gRm (1) 0 0) [.ref q, .int p1, .int p2] L f (tPi E L τ [] f (fun r f1 => rg r 0 3)) := by
  refine tMi.intro (by decide) (Nat.le_of_ble_eq_true rfl) ?_
  intro p e s m below meth c A ls C hr hA hO hH hl
  have C : gC E cX7_turned 3 RX7 p s m _ meth c := C
  have hl : lv_has ls 3 [(0, .ref q), (1, .int p1), (2, .int p2)] := hl
  have hx := C.1
  have hb := C.2.1
  have hI := hI.S []
  refine lv_aload_n hx hb dX7_turned_0 rfl (lv_at hl 0 rfl) ?_
  refine t_geti C hH hI.1 mq tq td_19 iX7 rfl 6 (by decide) wd59 rfl rfl dX7_turned_1 (fun z1 rz1 => ?_)
  rcases g_sw z1 0 2 (by decide) with c2 | ⟨j, hj, ej⟩
  · refine lv_tableOut (tgt := 50) hx hb dX7_turned_4 c2 (by decide) ?_
    refine lv_iload_n hx hb dX7_turned_50 rfl (lv_at hl 2 rfl) ?_
    refine lv_iconst (v := (2 : Int32)) hx hb dX7_turned_51 (by decide) ?_
    refine lv_irem hx hb dX7_turned_52 (by decide) ?_
    refine lv_topi (fun z3 ez3 => ?_)
    refine lv_if_ne (tgt := 64) hx hb dX7_turned_53 (by decide) (fun c4 => ?_) (fun c4 => ?_)
    · skip
      refine lv_iload_n hx hb dX7_turned_64 rfl (lv_at hl 1 rfl) ?_
      refine lv_iconst (v := (3 : Int32)) hx hb dX7_turned_65 (by decide) ?_
      refine lv_iadd hx hb dX7_turned_66 ?_
      refine lv_topi (fun z5 ez5 => ?_)
      refine lv_iconst (v := (3 : Int32)) hx hb dX7_turned_67 (by decide) ?_
      refine lv_iand hx hb dX7_turned_68 ?_
      refine lv_topi (fun z6 ez6 => ?_)
      have r7 : rg z6 0 3 := rg_andr ez6 rl_3 (by decide)
      exact g_iret C hr hH (Nat.zero_le _) (Nat.zero_le _) dX7_turned_69 ⟨rfl, hI, r7⟩
    · skip
      have r8 : rg z3 0 0 := rf_eql (c_eq c4) (rg_all _) rl_0 (by decide)
      refine lv_iload_n hx hb dX7_turned_56 rfl (lv_at hl 1 rfl) ?_
      refine lv_iconst (v := (1 : Int32)) hx hb dX7_turned_57 (by decide) ?_
      refine lv_iadd hx hb dX7_turned_58 ?_
      refine lv_topi (fun z9 ez9 => ?_)
      refine lv_iconst (v := (3 : Int32)) hx hb dX7_turned_59 (by decide) ?_
      refine lv_iand hx hb dX7_turned_60 ?_
      refine lv_topi (fun z10 ez10 => ?_)
      have r11 : rg z10 0 3 := rg_andr ez10 rl_3 (by decide)
      refine lv_goto (tgt := 69) hx hb dX7_turned_61 (by decide) ?_
      exact g_iret C hr hH (Nat.zero_le _) (Nat.zero_le _) dX7_turned_69 ⟨rfl, hI, r11⟩
  · rcases (show j = 0 ∨ j = 1 ∨ j = 2 by omega) with rfl | rfl | rfl
    · have y12 : z1 = (0 : Int32) := g_swE ej (by decide)
      have r13 : rg z1 0 0 := by rw [y12]; exact rl_0
      refine lv_tableIn (tgt := 32) (off := 28) hx hb dX7_turned_4 (by rw [y12]; decide) (by rw [y12]; decide) (by rw [y12]; decide) (by decide) ?_
      refine lv_iload_n hx hb dX7_turned_32 rfl (lv_at hl 1 rfl) ?_
      refine lv_iconst (v := (1 : Int32)) hx hb dX7_turned_33 (by decide) ?_
      refine lv_iadd hx hb dX7_turned_34 ?_
      refine lv_topi (fun z14 ez14 => ?_)
      refine lv_iconst (v := (3 : Int32)) hx hb dX7_turned_35 (by decide) ?_
      refine lv_iand hx hb dX7_turned_36 ?_
      refine lv_topi (fun z15 ez15 => ?_)
      have r16 : rg z15 0 3 := rg_andr ez15 rl_3 (by decide)
      exact g_iret C hr hH (Nat.zero_le _) (Nat.zero_le _) dX7_turned_37 ⟨rfl, hI, r16⟩
    · have y17 : z1 = (1 : Int32) := g_swE ej (by decide)
      have r18 : rg z1 1 1 := by rw [y17]; exact rl_1
      refine lv_tableIn (tgt := 38) (off := 34) hx hb dX7_turned_4 (by rw [y17]; decide) (by rw [y17]; decide) (by rw [y17]; decide) (by decide) ?_
      refine lv_iload_n hx hb dX7_turned_38 rfl (lv_at hl 1 rfl) ?_
      refine lv_iconst (v := (3 : Int32)) hx hb dX7_turned_39 (by decide) ?_
      refine lv_iadd hx hb dX7_turned_40 ?_
      refine lv_topi (fun z19 ez19 => ?_)
      refine lv_iconst (v := (3 : Int32)) hx hb dX7_turned_41 (by decide) ?_
      refine lv_iand hx hb dX7_turned_42 ?_
      refine lv_topi (fun z20 ez20 => ?_)
      have r21 : rg z20 0 3 := rg_andr ez20 rl_3 (by decide)
      exact g_iret C hr hH (Nat.zero_le _) (Nat.zero_le _) dX7_turned_43 ⟨rfl, hI, r21⟩
    · have y22 : z1 = (2 : Int32) := g_swE ej (by decide)
      have r23 : rg z1 2 2 := by rw [y22]; exact rl_2
      refine lv_tableIn (tgt := 44) (off := 40) hx hb dX7_turned_4 (by rw [y22]; decide) (by rw [y22]; decide) (by rw [y22]; decide) (by decide) ?_
      refine lv_iload_n hx hb dX7_turned_44 rfl (lv_at hl 1 rfl) ?_
      refine lv_iconst (v := (2 : Int32)) hx hb dX7_turned_45 (by decide) ?_
      refine lv_iadd hx hb dX7_turned_46 ?_
      refine lv_topi (fun z24 ez24 => ?_)
      refine lv_iconst (v := (3 : Int32)) hx hb dX7_turned_47 (by decide) ?_
      refine lv_iand hx hb dX7_turned_48 ?_
      refine lv_topi (fun z25 ez25 => ?_)
      have r26 : rg z25 0 3 := rg_andr ez25 rl_3 (by decide)
      exact g_iret C hr hH (Nat.zero_le _) (Nat.zero_le _) dX7_turned_49 ⟨rfl, hI, r26⟩
set_option maxHeartbeats 4000000 in
set_option maxRecDepth 100000 in
theorem t_X7_cellAt (l : Launch) (E : gE) (J : Nat → Nat) (τ : Nat → Nat) (L : List Nat) (f : gF) (hI : tI E L τ f) {q : Nat} (mq : q ∈ L) (tq : τ q = 19) (p1 : Int32) (rp1 : rg p1 0 2147483647) : tMi l E J yX7_cellAt cX7_cellAt 2 .int (gRm (1) 0 0) [.ref q, .int p1] L f (tPi E L τ [] f (fun r f1 => rg r (-1) 19)) := by
  refine tMi.intro (by decide) (Nat.le_of_ble_eq_true rfl) ?_
  intro p e s m below meth c A ls C hr hA hO hH hl
  have C : gC E cX7_cellAt 2 RX7 p s m _ meth c := C
  have hl : lv_has ls 2 [(0, .ref q), (1, .int p1)] := hl
  have hx := C.1
  have hb := C.2.1
  have hI := hI.S []
  obtain ⟨q_1, mq_1, tq_1, kq_1⟩ := t_fldr hI.1 mq tq td_19 (k := 1) rfl
  refine lv_iload_n hx hb dX7_cellAt_0 rfl (lv_at hl 1 rfl) ?_
  refine lv_aload_n hx hb dX7_cellAt_1 rfl (lv_at hl 0 rfl) ?_
  refine t_geti C hH hI.1 mq tq td_19 iX7 rfl 7 (by decide) wd60 rfl rfl dX7_cellAt_2 (fun z1 rz1 => ?_)
  refine lv_icmp_ge (tgt := 17) hx hb dX7_cellAt_5 (by decide) (fun c2 => ?_) (fun c2 => ?_)
  · skip
    refine lv_iconst (v := (-1 : Int32)) hx hb dX7_cellAt_17 (by decide) ?_
    exact g_iret C hr hH (Nat.zero_le _) (Nat.zero_le _) dX7_cellAt_18 ⟨rfl, hI, (rg_w rl_m1 (by decide))⟩
  · skip
    have r3 : rg p1 0 40 := rf_ltl (n_le c2) rp1 rz1 (by decide)
    have r4 : rg z1 1 41 := rf_ltr (n_le c2) rp1 rz1 (by decide)
    refine lv_aload_n hx hb dX7_cellAt_8 rfl (lv_at hl 0 rfl) ?_
    refine t_getX C hH hI.1 mq tq td_19 iX7 rfl 1 (by decide) wd61 rfl (hI.rf kq_1) dX7_cellAt_9 ?_
    refine lv_iload_n hx hb dX7_cellAt_12 rfl (lv_at hl 1 rfl) ?_
    refine t_aldR C hH hI.1 mq_1 tq_1 td_20 (rg_in r3 (by decide)) dX7_cellAt_13 (fun z5 rz5 => ?_)
    refine lv_goto (tgt := 18) hx hb dX7_cellAt_14 (by decide) ?_
    exact g_iret C hr hH (Nat.zero_le _) (Nat.zero_le _) dX7_cellAt_18 ⟨rfl, hI, (rg_w rz5 (by decide))⟩
set_option maxHeartbeats 4000000 in
set_option maxRecDepth 100000 in
theorem t_X7_headingAt (l : Launch) (E : gE) (J : Nat → Nat) (τ : Nat → Nat) (L : List Nat) (f : gF) (hI : tI E L τ f) {q : Nat} (mq : q ∈ L) (tq : τ q = 19) (p1 : Int32) (rp1 : rg p1 0 2147483647) : tMi l E J yX7_headingAt cX7_headingAt 2 .int (gRm (1) 0 0) [.ref q, .int p1] L f (tPi E L τ [] f (fun r f1 => rg r (-2147483648) 2147483647)) := by
  refine tMi.intro (by decide) (Nat.le_of_ble_eq_true rfl) ?_
  intro p e s m below meth c A ls C hr hA hO hH hl
  have C : gC E cX7_headingAt 2 RX7 p s m _ meth c := C
  have hl : lv_has ls 2 [(0, .ref q), (1, .int p1)] := hl
  have hx := C.1
  have hb := C.2.1
  have hI := hI.S []
  obtain ⟨q_2, mq_2, tq_2, kq_2⟩ := t_fldr hI.1 mq tq td_19 (k := 2) rfl
  refine lv_iload_n hx hb dX7_headingAt_0 rfl (lv_at hl 1 rfl) ?_
  refine lv_aload_n hx hb dX7_headingAt_1 rfl (lv_at hl 0 rfl) ?_
  refine t_geti C hH hI.1 mq tq td_19 iX7 rfl 7 (by decide) wd60 rfl rfl dX7_headingAt_2 (fun z1 rz1 => ?_)
  refine lv_icmp_ge (tgt := 17) hx hb dX7_headingAt_5 (by decide) (fun c2 => ?_) (fun c2 => ?_)
  · skip
    refine lv_iconst (v := (-1 : Int32)) hx hb dX7_headingAt_17 (by decide) ?_
    exact g_iret C hr hH (Nat.zero_le _) (Nat.zero_le _) dX7_headingAt_18 ⟨rfl, hI, (rg_w rl_m1 (by decide))⟩
  · skip
    have r3 : rg p1 0 40 := rf_ltl (n_le c2) rp1 rz1 (by decide)
    have r4 : rg z1 1 41 := rf_ltr (n_le c2) rp1 rz1 (by decide)
    refine lv_aload_n hx hb dX7_headingAt_8 rfl (lv_at hl 0 rfl) ?_
    refine t_getX C hH hI.1 mq tq td_19 iX7 rfl 2 (by decide) wd62 rfl (hI.rf kq_2) dX7_headingAt_9 ?_
    refine lv_iload_n hx hb dX7_headingAt_12 rfl (lv_at hl 1 rfl) ?_
    refine t_ald C hH hI.1 mq_2 tq_2 td_21 (rg_in r3 (by decide)) dX7_headingAt_13 (fun z5v az5 _ => ?_)
    refine lv_topi (fun z5 ez5 => ?_)
    refine lv_goto (tgt := 18) hx hb dX7_headingAt_14 (by decide) ?_
    exact g_iret C hr hH (Nat.zero_le _) (Nat.zero_le _) dX7_headingAt_18 ⟨rfl, hI, (rg_all _)⟩
set_option maxHeartbeats 4000000 in
set_option maxRecDepth 100000 in
theorem t_X7_outStep (l : Launch) (E : gE) (J : Nat → Nat) (τ : Nat → Nat) (L : List Nat) (f : gF) (hI : tI E L τ f) {q : Nat} (mq : q ∈ L) (tq : τ q = 19) : tMi l E J yX7_outStep cX7_outStep 1 .int (gRm (1) 0 0) [.ref q] L f (tPi E L τ [] f (fun r f1 => rg r (-2147483648) 2147483647)) := by
  refine tMi.intro (by decide) (Nat.le_of_ble_eq_true rfl) ?_
  intro p e s m below meth c A ls C hr hA hO hH hl
  have C : gC E cX7_outStep 1 RX7 p s m _ meth c := C
  have hl : lv_has ls 1 [(0, .ref q)] := hl
  have hx := C.1
  have hb := C.2.1
  have hI := hI.S []
  refine lv_aload_n hx hb dX7_outStep_0 rfl (lv_at hl 0 rfl) ?_
  refine t_geti C hH hI.1 mq tq td_19 iX7 rfl 7 (by decide) wd60 rfl rfl dX7_outStep_1 (fun z1 rz1 => ?_)
  refine lv_bipush (v := (41 : Int32)) hx hb dX7_outStep_4 (by decide) ?_
  refine lv_icmp_ge (tgt := 16) hx hb dX7_outStep_6 (by decide) (fun c2 => ?_) (fun c2 => ?_)
  · skip
    have r3 : rg z1 41 41 := rf_ler (c_le c2) rl_41 rz1 (by decide)
    refine lv_iconst (v := (-1 : Int32)) hx hb dX7_outStep_16 (by decide) ?_
    exact g_iret C hr hH (Nat.zero_le _) (Nat.zero_le _) dX7_outStep_17 ⟨rfl, hI, (rg_w rl_m1 (by decide))⟩
  · skip
    have r4 : rg z1 0 40 := rf_ltl (n_le c2) rz1 rl_41 (by decide)
    refine lv_aload_n hx hb dX7_outStep_9 rfl (lv_at hl 0 rfl) ?_
    refine t_geti C hH hI.1 mq tq td_19 iX7 rfl 7 (by decide) wd60 rfl rfl dX7_outStep_10 (fun z5 rz5 => ?_)
    refine lv_goto (tgt := 17) hx hb dX7_outStep_13 (by decide) ?_
    exact g_iret C hr hH (Nat.zero_le _) (Nat.zero_le _) dX7_outStep_17 ⟨rfl, hI, (rg_w rz5 (by decide))⟩
set_option maxHeartbeats 4000000 in
set_option maxRecDepth 100000 in
theorem t_X7_wayBits (l : Launch) (E : gE) (J : Nat → Nat) (τ : Nat → Nat) (L : List Nat) (f : gF) (hI : tI E L τ f) {q : Nat} (mq : q ∈ L) (tq : τ q = 19) : tMi l E J yX7_wayBits cX7_wayBits 3 .int (gRm (1) 0 0) [.ref q] L f (tPi E L τ [] f (fun r f1 => rg r (-2147483648) 2147483647)) := by
  refine tMi.intro (by decide) (Nat.le_of_ble_eq_true rfl) ?_
  intro p e s m below meth c A ls C hr hA hO hH hl
  have C : gC E cX7_wayBits 3 RX7 p s m _ meth c := C
  have hl : lv_has ls 3 [(0, .ref q)] := hl
  have hx := C.1
  have hb := C.2.1
  have hI := hI.S []
  obtain ⟨q_1, mq_1, tq_1, kq_1⟩ := t_fldr hI.1 mq tq td_19 (k := 1) rfl
  have cut4 : ∀ (n : Nat) (fh4 : gF) (H : Heap) (locs : List Loc) (ls : Array Slot) (v4_1 : Int32) (v4_2 : Int32), 41 - v4_2.toInt < (n : Int) → tS E L τ [] f fh4 → gH E A L fh4 s.heap H locs → rg v4_1 0 1048575 → rg v4_2 0 41 → lv_has ls 3 [(0, .ref q), (1, .int v4_1), (2, .int v4_2)] → W p l e (gRm (1) 0 0) s m [.ref q].toArray below meth c H locs 0 0 (MQ below (gQi E A (tPi E L τ [] f (fun r f1 => rg r (-2147483648) 2147483647))) [.ref q].toArray s (gRm (1) 0 0).cells (gRm (1) 0 0).slots A) (F0 m 4 ls []) := by
    intro n
    induction n with
    | zero =>
      intro fh4 H locs ls v4_1 v4_2 hfu4 hI hH r_v4_1 r_v4_2 hl
      exact (fu_0 hfu4 r_v4_2).elim
    | succ n ih4 =>
      intro fh4 H locs ls v4_1 v4_2 hfu4 hI hH r_v4_1 r_v4_2 hl
      refine lv_iload_n hx hb dX7_wayBits_4 rfl (lv_at hl 2 rfl) ?_
      refine lv_aload_n hx hb dX7_wayBits_5 rfl (lv_at hl 0 rfl) ?_
      refine t_geti C hH hI.1 mq tq td_19 iX7 rfl 7 (by decide) wd60 rfl rfl dX7_wayBits_6 (fun z1 rz1 => ?_)
      refine lv_icmp_ge (tgt := 29) hx hb dX7_wayBits_9 (by decide) (fun c2 => ?_) (fun c2 => ?_)
      · skip
        refine lv_iload_n hx hb dX7_wayBits_29 rfl (lv_at hl 1 rfl) ?_
        exact g_iret C hr hH (Nat.zero_le _) (Nat.zero_le _) dX7_wayBits_30 ⟨rfl, hI, (rg_w r_v4_1 (by decide))⟩
      · skip
        have r3 : rg v4_2 0 40 := rf_ltl (n_le c2) r_v4_2 rz1 (by decide)
        have r4 : rg z1 1 41 := rf_ltr (n_le c2) r_v4_2 rz1 (by decide)
        refine lv_iload_n hx hb dX7_wayBits_12 rfl (lv_at hl 1 rfl) ?_
        refine lv_iconst (v := (1 : Int32)) hx hb dX7_wayBits_13 (by decide) ?_
        refine lv_aload_n hx hb dX7_wayBits_14 rfl (lv_at hl 0 rfl) ?_
        refine t_getX C hH hI.1 mq tq td_19 iX7 rfl 1 (by decide) wd61 rfl (hI.rf kq_1) dX7_wayBits_15 ?_
        refine lv_iload_n hx hb dX7_wayBits_18 rfl (lv_at hl 2 rfl) ?_
        refine t_aldR C hH hI.1 mq_1 tq_1 td_20 (rg_in r3 (by decide)) dX7_wayBits_19 (fun z5 rz5 => ?_)
        refine lv_ishl hx hb dX7_wayBits_20 ?_
        refine lv_topi (fun z6 ez6 => ?_)
        have r7 : rg z6 1 524288 := rg_shl 0 19 ez6 rz5 (by decide)
        refine lv_ior hx hb dX7_wayBits_21 ?_
        refine lv_topi (fun z8 ez8 => ?_)
        have r9 : rg z8 0 1048575 := rg_or 20 ez8 r_v4_1 r7 (by decide)
        refine lv_istore_n (lv' := [(1, .int z8), (0, .ref q), (2, .int v4_2)]) hx hb dX7_wayBits_22 rfl hl (by decide) rfl (fun ls hl => ?_)
        obtain ⟨z10, ez10⟩ : ∃ y : Int32, y = v4_2 + (1 : Int32) := ⟨_, rfl⟩
        have r11 : rg z10 1 41 := rg_add ez10 r3 rl_1 (by decide)
        have a12 : z10.toInt = v4_2.toInt + 1 := ai_add ez10 r3 tl_1 (by decide)
        refine lv_iinc (v := z10) (lv' := [(2, .int z10), (1, .int z8), (0, .ref q)]) hx hb dX7_wayBits_23 hl (k := 2) rfl (by rw [ez10]; rfl) (by decide) rfl (fun ls hl => ?_)
        refine lv_goto (tgt := 4) hx hb dX7_wayBits_26 (by decide) ?_
        exact ih4 _ _ _ _ z8 z10 (fu_s hfu4 a12 (by decide)) hI hH r9 (rg_w r11 (by decide)) (lv_sub hl [2, 1, 0] rfl)
  refine lv_iconst (v := (0 : Int32)) hx hb dX7_wayBits_0 (by decide) ?_
  refine lv_istore_n (lv' := [(1, .int (0 : Int32)), (0, .ref q)]) hx hb dX7_wayBits_1 rfl hl (by decide) rfl (fun ls hl => ?_)
  refine lv_iconst (v := (0 : Int32)) hx hb dX7_wayBits_2 (by decide) ?_
  refine lv_istore_n (lv' := [(2, .int (0 : Int32)), (1, .int (0 : Int32)), (0, .ref q)]) hx hb dX7_wayBits_3 rfl hl (by decide) rfl (fun ls hl => ?_)
  exact cut4 42 _ _ _ _ (0 : Int32) (0 : Int32) (fu_i 42 rl_0 (by decide)) hI hH (rg_w rl_0 (by decide)) (rg_w rl_0 (by decide)) (lv_sub hl [2, 1, 0] rfl)
set_option maxHeartbeats 4000000 in
set_option maxRecDepth 100000 in
theorem t_X7_stepsWithin (l : Launch) (E : gE) (J : Nat → Nat) (τ : Nat → Nat) (L : List Nat) (f : gF) (hI : tI E L τ f) {q : Nat} (mq : q ∈ L) (tq : τ q = 19) (p1 : Int32) : tMi l E J yX7_stepsWithin cX7_stepsWithin 4 .int (gRm (1) 0 0) [.ref q, .int p1] L f (tPi E L τ [] f (fun r f1 => rg r (-2147483648) 2147483647)) := by
  refine tMi.intro (by decide) (Nat.le_of_ble_eq_true rfl) ?_
  intro p e s m below meth c A ls C hr hA hO hH hl
  have C : gC E cX7_stepsWithin 4 RX7 p s m _ meth c := C
  have hl : lv_has ls 4 [(0, .ref q), (1, .int p1)] := hl
  have hx := C.1
  have hb := C.2.1
  have hI := hI.S []
  obtain ⟨q_1, mq_1, tq_1, kq_1⟩ := t_fldr hI.1 mq tq td_19 (k := 1) rfl
  have cut4 : ∀ (n : Nat) (fh4 : gF) (H : Heap) (locs : List Loc) (ls : Array Slot) (v4_2 : Int32) (v4_3 : Int32), 41 - v4_3.toInt < (n : Int) → tS E L τ [] f fh4 → gH E A L fh4 s.heap H locs → rg v4_3 0 41 → lv_has ls 4 [(0, .ref q), (1, .int p1), (2, .int v4_2), (3, .int v4_3)] → W p l e (gRm (1) 0 0) s m [.ref q, .int p1].toArray below meth c H locs 0 0 (MQ below (gQi E A (tPi E L τ [] f (fun r f1 => rg r (-2147483648) 2147483647))) [.ref q, .int p1].toArray s (gRm (1) 0 0).cells (gRm (1) 0 0).slots A) (F0 m 4 ls []) := by
    intro n
    induction n with
    | zero =>
      intro fh4 H locs ls v4_2 v4_3 hfu4 hI hH r_v4_3 hl
      exact (fu_0 hfu4 r_v4_3).elim
    | succ n ih4 =>
      intro fh4 H locs ls v4_2 v4_3 hfu4 hI hH r_v4_3 hl
      refine lv_iload_n hx hb dX7_stepsWithin_4 rfl (lv_at hl 3 rfl) ?_
      refine lv_aload_n hx hb dX7_stepsWithin_5 rfl (lv_at hl 0 rfl) ?_
      refine t_geti C hH hI.1 mq tq td_19 iX7 rfl 7 (by decide) wd60 rfl rfl dX7_stepsWithin_6 (fun z1 rz1 => ?_)
      refine lv_icmp_ge (tgt := 31) hx hb dX7_stepsWithin_9 (by decide) (fun c2 => ?_) (fun c2 => ?_)
      · skip
        refine lv_iload_n hx hb dX7_stepsWithin_31 rfl (lv_at hl 2 rfl) ?_
        exact g_iret C hr hH (Nat.zero_le _) (Nat.zero_le _) dX7_stepsWithin_32 ⟨rfl, hI, (rg_all _)⟩
      · skip
        have r3 : rg v4_3 0 40 := rf_ltl (n_le c2) r_v4_3 rz1 (by decide)
        have r4 : rg z1 1 41 := rf_ltr (n_le c2) r_v4_3 rz1 (by decide)
        refine lv_iload_n hx hb dX7_stepsWithin_12 rfl (lv_at hl 2 rfl) ?_
        refine lv_iload_n hx hb dX7_stepsWithin_13 rfl (lv_at hl 1 rfl) ?_
        refine lv_aload_n hx hb dX7_stepsWithin_14 rfl (lv_at hl 0 rfl) ?_
        refine t_getX C hH hI.1 mq tq td_19 iX7 rfl 1 (by decide) wd61 rfl (hI.rf kq_1) dX7_stepsWithin_15 ?_
        refine lv_iload_n hx hb dX7_stepsWithin_18 rfl (lv_at hl 3 rfl) ?_
        refine t_aldR C hH hI.1 mq_1 tq_1 td_20 (rg_in r3 (by decide)) dX7_stepsWithin_19 (fun z5 rz5 => ?_)
        refine lv_ishr hx hb dX7_stepsWithin_20 ?_
        refine lv_topi (fun z6 ez6 => ?_)
        refine lv_iconst (v := (1 : Int32)) hx hb dX7_stepsWithin_21 (by decide) ?_
        refine lv_iand hx hb dX7_stepsWithin_22 ?_
        refine lv_topi (fun z7 ez7 => ?_)
        have r8 : rg z7 0 1 := rg_andr ez7 rl_1 (by decide)
        refine lv_iadd hx hb dX7_stepsWithin_23 ?_
        refine lv_topi (fun z9 ez9 => ?_)
        refine lv_istore_n (lv' := [(2, .int z9), (0, .ref q), (1, .int p1), (3, .int v4_3)]) hx hb dX7_stepsWithin_24 rfl hl (by decide) rfl (fun ls hl => ?_)
        obtain ⟨z10, ez10⟩ : ∃ y : Int32, y = v4_3 + (1 : Int32) := ⟨_, rfl⟩
        have r11 : rg z10 1 41 := rg_add ez10 r3 rl_1 (by decide)
        have a12 : z10.toInt = v4_3.toInt + 1 := ai_add ez10 r3 tl_1 (by decide)
        refine lv_iinc (v := z10) (lv' := [(3, .int z10), (2, .int z9), (0, .ref q), (1, .int p1)]) hx hb dX7_stepsWithin_25 hl (k := 3) rfl (by rw [ez10]; rfl) (by decide) rfl (fun ls hl => ?_)
        refine lv_goto (tgt := 4) hx hb dX7_stepsWithin_28 (by decide) ?_
        exact ih4 _ _ _ _ z9 z10 (fu_s hfu4 a12 (by decide)) hI hH (rg_w r11 (by decide)) (lv_sub hl [2, 3, 1, 0] rfl)
  refine lv_iconst (v := (0 : Int32)) hx hb dX7_stepsWithin_0 (by decide) ?_
  refine lv_istore_n (lv' := [(2, .int (0 : Int32)), (0, .ref q), (1, .int p1)]) hx hb dX7_stepsWithin_1 rfl hl (by decide) rfl (fun ls hl => ?_)
  refine lv_iconst (v := (0 : Int32)) hx hb dX7_stepsWithin_2 (by decide) ?_
  refine lv_istore_n (lv' := [(3, .int (0 : Int32)), (2, .int (0 : Int32)), (0, .ref q), (1, .int p1)]) hx hb dX7_stepsWithin_3 rfl hl (by decide) rfl (fun ls hl => ?_)
  exact cut4 42 _ _ _ _ (0 : Int32) (0 : Int32) (fu_i 42 rl_0 (by decide)) hI hH (rg_w rl_0 (by decide)) (lv_sub hl [2, 3, 1, 0] rfl)
set_option maxHeartbeats 4000000 in
set_option maxRecDepth 100000 in
theorem t_X7_firstWithin (l : Launch) (E : gE) (J : Nat → Nat) (τ : Nat → Nat) (L : List Nat) (f : gF) (hI : tI E L τ f) {q : Nat} (mq : q ∈ L) (tq : τ q = 19) (p1 : Int32) : tMi l E J yX7_firstWithin cX7_firstWithin 3 .int (gRm (2) 0 0) [.ref q, .int p1] L f (tPi E L τ [] f (fun r f1 => rg r (-1) 40)) := by
  refine tMi.intro (by decide) (Nat.le_of_ble_eq_true rfl) ?_
  intro p e s m below meth c A ls C hr hA hO hH hl
  have C : gC E cX7_firstWithin 3 RX7 p s m _ meth c := C
  have hl : lv_has ls 3 [(0, .ref q), (1, .int p1)] := hl
  have hx := C.1
  have hb := C.2.1
  have hI := hI.S []
  obtain ⟨q_1, mq_1, tq_1, kq_1⟩ := t_fldr hI.1 mq tq td_19 (k := 1) rfl
  have cut2 : ∀ (n : Nat) (fh2 : gF) (H : Heap) (locs : List Loc) (ls : Array Slot) (v2_2 : Int32), 41 - v2_2.toInt < (n : Int) → tS E L τ [] f fh2 → gH E A L fh2 s.heap H locs → rg v2_2 0 41 → lv_has ls 3 [(0, .ref q), (1, .int p1), (2, .int v2_2)] → W p l e (gRm (2) 0 0) s m [.ref q, .int p1].toArray below meth c H locs 0 0 (MQ below (gQi E A (tPi E L τ [] f (fun r f1 => rg r (-1) 40))) [.ref q, .int p1].toArray s (gRm (2) 0 0).cells (gRm (2) 0 0).slots A) (F0 m 2 ls []) := by
    intro n
    induction n with
    | zero =>
      intro fh2 H locs ls v2_2 hfu2 hI hH r_v2_2 hl
      exact (fu_0 hfu2 r_v2_2).elim
    | succ n ih2 =>
      intro fh2 H locs ls v2_2 hfu2 hI hH r_v2_2 hl
      refine lv_iload_n hx hb dX7_firstWithin_2 rfl (lv_at hl 2 rfl) ?_
      refine lv_aload_n hx hb dX7_firstWithin_3 rfl (lv_at hl 0 rfl) ?_
      refine t_geti C hH hI.1 mq tq td_19 iX7 rfl 7 (by decide) wd60 rfl rfl dX7_firstWithin_4 (fun z1 rz1 => ?_)
      refine lv_icmp_ge (tgt := 31) hx hb dX7_firstWithin_7 (by decide) (fun c2 => ?_) (fun c2 => ?_)
      · skip
        refine lv_iconst (v := (-1 : Int32)) hx hb dX7_firstWithin_31 (by decide) ?_
        exact g_iret C hr hH (Nat.zero_le _) (Nat.zero_le _) dX7_firstWithin_32 ⟨rfl, hI, (rg_w rl_m1 (by decide))⟩
      · skip
        have r3 : rg v2_2 0 40 := rf_ltl (n_le c2) r_v2_2 rz1 (by decide)
        have r4 : rg z1 1 41 := rf_ltr (n_le c2) r_v2_2 rz1 (by decide)
        refine lv_iload_n hx hb dX7_firstWithin_10 rfl (lv_at hl 1 rfl) ?_
        refine lv_aload_n hx hb dX7_firstWithin_11 rfl (lv_at hl 0 rfl) ?_
        refine t_getX C hH hI.1 mq tq td_19 iX7 rfl 1 (by decide) wd61 rfl (hI.rf kq_1) dX7_firstWithin_12 ?_
        refine lv_iload_n hx hb dX7_firstWithin_15 rfl (lv_at hl 2 rfl) ?_
        refine t_aldR C hH hI.1 mq_1 tq_1 td_20 (rg_in r3 (by decide)) dX7_firstWithin_16 (fun z5 rz5 => ?_)
        refine t_SNi C hO hl.1 hA hH (As := [.int p1, .int z5]) (rest := []) (t_X9_hasBit l E J τ L fh2 hI.1 p1 z5) my_X9_hasBit (host := "GooseShares") (List.mem_of_getElem? (i := 8) rfl) rfl rfl (Nat.le_of_ble_eq_true rfl) ⟨Nat.le_of_ble_eq_true rfl, Nat.le_of_ble_eq_true rfl⟩ ⟨rfl, rfl⟩ dX7_firstWithin_17 (fun r7 L1 f6 H locs hp hH => ?_)
        obtain ⟨rfl, s8, h9⟩ := hp
        have hI := hI.call s8 (by decide)
        refine lv_if_eq (tgt := 25) hx hb dX7_firstWithin_20 (by decide) (fun c10 => ?_) (fun c10 => ?_)
        · skip
          have r11 : rg r7 0 0 := rf_eql (c_eq c10) h9 rl_0 (by decide)
          obtain ⟨z12, ez12⟩ : ∃ y : Int32, y = v2_2 + (1 : Int32) := ⟨_, rfl⟩
          have r13 : rg z12 1 41 := rg_add ez12 r3 rl_1 (by decide)
          have a14 : z12.toInt = v2_2.toInt + 1 := ai_add ez12 r3 tl_1 (by decide)
          refine lv_iinc (v := z12) (lv' := [(2, .int z12), (0, .ref q), (1, .int p1)]) hx hb dX7_firstWithin_25 hl (k := 2) rfl (by rw [ez12]; rfl) (by decide) rfl (fun ls hl => ?_)
          refine lv_goto (tgt := 2) hx hb dX7_firstWithin_28 (by decide) ?_
          exact ih2 _ _ _ _ z12 (fu_s hfu2 a14 (by decide)) hI hH (rg_w r13 (by decide)) (lv_sub hl [1, 2, 0] rfl)
        · skip
          have r15 : rg r7 1 1 := rf_nel (n_eq c10) h9 rl_0 (by decide)
          refine lv_iload_n hx hb dX7_firstWithin_23 rfl (lv_at hl 2 rfl) ?_
          exact g_iret C hr hH (Nat.zero_le _) (Nat.zero_le _) dX7_firstWithin_24 ⟨rfl, hI, (rg_w r3 (by decide))⟩
  refine lv_iconst (v := (0 : Int32)) hx hb dX7_firstWithin_0 (by decide) ?_
  refine lv_istore_n (lv' := [(2, .int (0 : Int32)), (0, .ref q), (1, .int p1)]) hx hb dX7_firstWithin_1 rfl hl (by decide) rfl (fun ls hl => ?_)
  exact cut2 42 _ _ _ _ (0 : Int32) (fu_i 42 rl_0 (by decide)) hI hH (rg_w rl_0 (by decide)) (lv_sub hl [1, 2, 0] rfl)
set_option maxHeartbeats 4000000 in
set_option maxRecDepth 100000 in
theorem t_X7_keepTrack (l : Launch) (E : gE) (J : Nat → Nat) (τ : Nat → Nat) (L : List Nat) (f : gF) (hI : tI E L τ f) {q : Nat} (mq : q ∈ L) (tq : τ q = 19) : tMv l E J yX7_keepTrack cX7_keepTrack 1 (gRm (2) 0 0) [.ref q] L f (tPv E L τ [19, 22] f (fun f1 => True)) := by
  refine tMv.intro (by decide) (Nat.le_of_ble_eq_true rfl) ?_
  intro p e s m below meth c A ls C hr hA hO hH hl
  have C : gC E cX7_keepTrack 1 RX7 p s m _ meth c := C
  have hl : lv_has ls 1 [(0, .ref q)] := hl
  have hx := C.1
  have hb := C.2.1
  have hI := hI.S [19, 22]
  obtain ⟨q_1, mq_1, tq_1, kq_1⟩ := t_fldr hI.1 mq tq td_19 (k := 1) rfl
  obtain ⟨q_3, mq_3, tq_3, kq_3⟩ := t_fldr hI.1 mq tq td_19 (k := 3) rfl
  refine lv_aload_n hx hb dX7_keepTrack_0 rfl (lv_at hl 0 rfl) ?_
  refine t_getX C hH hI.1 mq tq td_19 iX7 rfl 1 (by decide) wd61 rfl (hI.rf kq_1) dX7_keepTrack_1 ?_
  refine lv_iconst (v := (0 : Int32)) hx hb dX7_keepTrack_4 (by decide) ?_
  refine lv_aload_n hx hb dX7_keepTrack_5 rfl (lv_at hl 0 rfl) ?_
  refine t_getX C hH hI.1 mq tq td_19 iX7 rfl 3 (by decide) wd63 rfl (hI.rf kq_3) dX7_keepTrack_6 ?_
  refine lv_iconst (v := (0 : Int32)) hx hb dX7_keepTrack_9 (by decide) ?_
  refine lv_bipush (v := (41 : Int32)) hx hb dX7_keepTrack_10 (by decide) ?_
  refine t_copy C hl.1.symm hH hI wd64 wd53 wd54 wd55 mq_1 tq_1 td_20 mq_3 tq_3 (by decide) td_22 (by decide) (by decide) (by decide) (by decide) (by decide) (fun _ _ _ _ => trivial) (Nat.le_of_ble_eq_true rfl) (Nat.le_of_ble_eq_true rfl) dX7_keepTrack_12 (fun f1 H locs hH hI bf1 => ?_)
  refine lv_aload_n hx hb dX7_keepTrack_15 rfl (lv_at hl 0 rfl) ?_
  refine lv_aload_n hx hb dX7_keepTrack_16 rfl (lv_at hl 0 rfl) ?_
  refine t_geti C hH hI.1 mq tq td_19 iX7 rfl 7 (by decide) wd60 rfl rfl dX7_keepTrack_17 (fun z2 rz2 => ?_)
  refine t_put C hH hI mq tq (by decide) td_19 iX7 tyX7 tyX7_ok nmX7 rfl 8 (by decide) wd65 rfl rfl (v := .int z2) rfl rfl rfl ⟨_, rfl, (rg_w rz2 (by decide))⟩ (fun _ h => nomatch h) dX7_keepTrack_20 (fun f3 H locs hH hI nf3 of3 bf3 => ?_)
  exact g_vret C hr hH (Nat.zero_le _) (Nat.zero_le _) dX7_keepTrack_23 ⟨rfl, hI, trivial⟩
set_option maxHeartbeats 4000000 in
set_option maxRecDepth 100000 in
theorem t_X7_firstMeeting (l : Launch) (E : gE) (J : Nat → Nat) (τ : Nat → Nat) (L : List Nat) (f : gF) (hI : tI E L τ f) {q : Nat} (mq : q ∈ L) (tq : τ q = 19) : tMi l E J yX7_firstMeeting cX7_firstMeeting 2 .int (gRm (1) 0 0) [.ref q] L f (tPi E L τ [] f (fun r f1 => rg r (-1) 40)) := by
  refine tMi.intro (by decide) (Nat.le_of_ble_eq_true rfl) ?_
  intro p e s m below meth c A ls C hr hA hO hH hl
  have C : gC E cX7_firstMeeting 2 RX7 p s m _ meth c := C
  have hl : lv_has ls 2 [(0, .ref q)] := hl
  have hx := C.1
  have hb := C.2.1
  have hI := hI.S []
  obtain ⟨q_1, mq_1, tq_1, kq_1⟩ := t_fldr hI.1 mq tq td_19 (k := 1) rfl
  obtain ⟨q_3, mq_3, tq_3, kq_3⟩ := t_fldr hI.1 mq tq td_19 (k := 3) rfl
  have cut2 : ∀ (n : Nat) (fh2 : gF) (H : Heap) (locs : List Loc) (ls : Array Slot) (v2_1 : Int32), 41 - v2_1.toInt < (n : Int) → tS E L τ [] f fh2 → gH E A L fh2 s.heap H locs → rg v2_1 0 41 → lv_has ls 2 [(0, .ref q), (1, .int v2_1)] → W p l e (gRm (1) 0 0) s m [.ref q].toArray below meth c H locs 0 0 (MQ below (gQi E A (tPi E L τ [] f (fun r f1 => rg r (-1) 40))) [.ref q].toArray s (gRm (1) 0 0).cells (gRm (1) 0 0).slots A) (F0 m 2 ls []) := by
    intro n
    induction n with
    | zero =>
      intro fh2 H locs ls v2_1 hfu2 hI hH r_v2_1 hl
      exact (fu_0 hfu2 r_v2_1).elim
    | succ n ih2 =>
      intro fh2 H locs ls v2_1 hfu2 hI hH r_v2_1 hl
      refine lv_iload_n hx hb dX7_firstMeeting_2 rfl (lv_at hl 1 rfl) ?_
      refine lv_aload_n hx hb dX7_firstMeeting_3 rfl (lv_at hl 0 rfl) ?_
      refine t_geti C hH hI.1 mq tq td_19 iX7 rfl 7 (by decide) wd60 rfl rfl dX7_firstMeeting_4 (fun z1 rz1 => ?_)
      refine lv_icmp_ge (tgt := 41) hx hb dX7_firstMeeting_7 (by decide) (fun c2 => ?_) (fun c2 => ?_)
      · skip
        refine lv_iconst (v := (-1 : Int32)) hx hb dX7_firstMeeting_41 (by decide) ?_
        exact g_iret C hr hH (Nat.zero_le _) (Nat.zero_le _) dX7_firstMeeting_42 ⟨rfl, hI, (rg_w rl_m1 (by decide))⟩
      · skip
        have r3 : rg v2_1 0 40 := rf_ltl (n_le c2) r_v2_1 rz1 (by decide)
        have r4 : rg z1 1 41 := rf_ltr (n_le c2) r_v2_1 rz1 (by decide)
        refine lv_iload_n hx hb dX7_firstMeeting_10 rfl (lv_at hl 1 rfl) ?_
        refine lv_aload_n hx hb dX7_firstMeeting_11 rfl (lv_at hl 0 rfl) ?_
        refine t_geti C hH hI.1 mq tq td_19 iX7 rfl 8 (by decide) wd65 rfl rfl dX7_firstMeeting_12 (fun z5 rz5 => ?_)
        refine lv_icmp_ge (tgt := 41) hx hb dX7_firstMeeting_15 (by decide) (fun c6 => ?_) (fun c6 => ?_)
        · skip
          have r7 : rg z5 (-2147483648) 40 := rf_lel (c_le c6) rz5 r3 (by decide)
          refine lv_iconst (v := (-1 : Int32)) hx hb dX7_firstMeeting_41 (by decide) ?_
          exact g_iret C hr hH (Nat.zero_le _) (Nat.zero_le _) dX7_firstMeeting_42 ⟨rfl, hI, (rg_w rl_m1 (by decide))⟩
        · skip
          have r8 : rg z5 1 2147483647 := rf_ltr (n_le c6) r3 rz5 (by decide)
          refine lv_aload_n hx hb dX7_firstMeeting_18 rfl (lv_at hl 0 rfl) ?_
          refine t_getX C hH hI.1 mq tq td_19 iX7 rfl 1 (by decide) wd61 rfl (hI.rf kq_1) dX7_firstMeeting_19 ?_
          refine lv_iload_n hx hb dX7_firstMeeting_22 rfl (lv_at hl 1 rfl) ?_
          refine t_aldR C hH hI.1 mq_1 tq_1 td_20 (rg_in r3 (by decide)) dX7_firstMeeting_23 (fun z9 rz9 => ?_)
          refine lv_aload_n hx hb dX7_firstMeeting_24 rfl (lv_at hl 0 rfl) ?_
          refine t_getX C hH hI.1 mq tq td_19 iX7 rfl 3 (by decide) wd63 rfl (hI.rf kq_3) dX7_firstMeeting_25 ?_
          refine lv_iload_n hx hb dX7_firstMeeting_28 rfl (lv_at hl 1 rfl) ?_
          refine t_ald C hH hI.1 mq_3 tq_3 td_22 (rg_in r3 (by decide)) dX7_firstMeeting_29 (fun z10v az10 _ => ?_)
          refine lv_topi (fun z10 ez10 => ?_)
          refine lv_icmp_ne (tgt := 35) hx hb dX7_firstMeeting_30 (by decide) (fun c11 => ?_) (fun c11 => ?_)
          · skip
            obtain ⟨z12, ez12⟩ : ∃ y : Int32, y = v2_1 + (1 : Int32) := ⟨_, rfl⟩
            have r13 : rg z12 1 41 := rg_add ez12 r3 rl_1 (by decide)
            have a14 : z12.toInt = v2_1.toInt + 1 := ai_add ez12 r3 tl_1 (by decide)
            refine lv_iinc (v := z12) (lv' := [(1, .int z12), (0, .ref q)]) hx hb dX7_firstMeeting_35 hl (k := 1) rfl (by rw [ez12]; rfl) (by decide) rfl (fun ls hl => ?_)
            refine lv_goto (tgt := 2) hx hb dX7_firstMeeting_38 (by decide) ?_
            exact ih2 _ _ _ _ z12 (fu_s hfu2 a14 (by decide)) hI hH (rg_w r13 (by decide)) (lv_sub hl [1, 0] rfl)
          · skip
            have r15 : rg z10 0 19 := rf_eqr (c_eq c11) rz9 (rg_all _) (by decide)
            refine lv_iload_n hx hb dX7_firstMeeting_33 rfl (lv_at hl 1 rfl) ?_
            exact g_iret C hr hH (Nat.zero_le _) (Nat.zero_le _) dX7_firstMeeting_34 ⟨rfl, hI, (rg_w r3 (by decide))⟩
  refine lv_iconst (v := (0 : Int32)) hx hb dX7_firstMeeting_0 (by decide) ?_
  refine lv_istore_n (lv' := [(1, .int (0 : Int32)), (0, .ref q)]) hx hb dX7_firstMeeting_1 rfl hl (by decide) rfl (fun ls hl => ?_)
  exact cut2 42 _ _ _ _ (0 : Int32) (fu_i 42 rl_0 (by decide)) hI hH (rg_w rl_0 (by decide)) (lv_sub hl [1, 0] rfl)
set_option maxHeartbeats 4000000 in
set_option maxRecDepth 100000 in
theorem t_X7_heardIn (l : Launch) (E : gE) (J : Nat → Nat) (τ : Nat → Nat) (L : List Nat) (f : gF) (hI : tI E L τ f) {q : Nat} (mq : q ∈ L) (tq : τ q = 19) (p1 : Int32) (rp1 : rg p1 0 19) : tMi l E J yX7_heardIn cX7_heardIn 6 .int (gRm (2) 0 0) [.ref q, .int p1] L f (tPi E L τ [] f (fun r f1 => rg r (-2147483648) 2147483647)) := by
  refine tMi.intro (by decide) (Nat.le_of_ble_eq_true rfl) ?_
  intro p e s m below meth c A ls C hr hA hO hH hl
  have C : gC E cX7_heardIn 6 RX7 p s m _ meth c := C
  have hl : lv_has ls 6 [(0, .ref q), (1, .int p1)] := hl
  have hx := C.1
  have hb := C.2.1
  have hI := hI.S []
  obtain ⟨q_0, mq_0, tq_0, kq_0⟩ := t_fldr hI.1 mq tq td_19 (k := 0) rfl
  obtain ⟨q_0_18, mq_0_18, tq_0_18, kq_0_18⟩ := t_fldr hI.1 mq_0 tq_0 td_3 (k := 18) rfl
  obtain ⟨q_4, mq_4, tq_4, kq_4⟩ := t_fldr hI.1 mq tq td_19 (k := 4) rfl
  have cut24 : ∀ (n : Nat) (fh24 : gF) (H : Heap) (locs : List Loc) (ls : Array Slot) (v24_2 : Int32) (v24_3 : Int32) (v24_4 : Int32) (v24_5 : Int32), 20 - v24_5.toInt < (n : Int) → tS E L τ [] f fh24 → gH E A L fh24 s.heap H locs → rg v24_3 0 20 → rg v24_5 0 20 → lv_has ls 6 [(0, .ref q), (1, .int p1), (2, .int v24_2), (3, .int v24_3), (4, .int v24_4), (5, .int v24_5)] → W p l e (gRm (2) 0 0) s m [.ref q, .int p1].toArray below meth c H locs 0 0 (MQ below (gQi E A (tPi E L τ [] f (fun r f1 => rg r (-2147483648) 2147483647))) [.ref q, .int p1].toArray s (gRm (2) 0 0).cells (gRm (2) 0 0).slots A) (F0 m 24 ls []) := by
    intro n
    induction n with
    | zero =>
      intro fh24 H locs ls v24_2 v24_3 v24_4 v24_5 hfu24 hI hH r_v24_3 r_v24_5 hl
      exact (fu_0 hfu24 r_v24_5).elim
    | succ n ih24 =>
      intro fh24 H locs ls v24_2 v24_3 v24_4 v24_5 hfu24 hI hH r_v24_3 r_v24_5 hl
      refine lv_iload hx hb dX7_heardIn_24 (lv_at hl 5 rfl) ?_
      refine lv_iload_n hx hb dX7_heardIn_26 rfl (lv_at hl 3 rfl) ?_
      refine lv_icmp_ge (tgt := 55) hx hb dX7_heardIn_27 (by decide) (fun c1 => ?_) (fun c1 => ?_)
      · skip
        refine lv_iload hx hb dX7_heardIn_55 (lv_at hl 4 rfl) ?_
        exact g_iret C hr hH (Nat.zero_le _) (Nat.zero_le _) dX7_heardIn_57 ⟨rfl, hI, (rg_all _)⟩
      · skip
        have r2 : rg v24_5 0 19 := rf_ltl (n_le c1) r_v24_5 r_v24_3 (by decide)
        have r3 : rg v24_3 1 20 := rf_ltr (n_le c1) r_v24_5 r_v24_3 (by decide)
        refine lv_iload hx hb dX7_heardIn_30 (lv_at hl 4 rfl) ?_
        refine lv_iload_n hx hb dX7_heardIn_32 rfl (lv_at hl 2 rfl) ?_
        refine lv_iload hx hb dX7_heardIn_33 (lv_at hl 5 rfl) ?_
        refine lv_ishr hx hb dX7_heardIn_35 ?_
        refine lv_topi (fun z4 ez4 => ?_)
        refine lv_iconst (v := (1 : Int32)) hx hb dX7_heardIn_36 (by decide) ?_
        refine lv_iand hx hb dX7_heardIn_37 ?_
        refine lv_topi (fun z5 ez5 => ?_)
        have r6 : rg z5 0 1 := rg_andr ez5 rl_1 (by decide)
        refine lv_aload_n hx hb dX7_heardIn_38 rfl (lv_at hl 0 rfl) ?_
        refine t_getX C hH hI.1 mq tq td_19 iX7 rfl 4 (by decide) wd66 rfl (hI.rf kq_4) dX7_heardIn_39 ?_
        refine lv_iload hx hb dX7_heardIn_42 (lv_at hl 5 rfl) ?_
        refine t_ald C hH hI.1 mq_4 tq_4 td_23 (rg_in r2 (by decide)) dX7_heardIn_44 (fun z7v az7 _ => ?_)
        refine lv_topi (fun z7 ez7 => ?_)
        refine lv_imul hx hb dX7_heardIn_45 ?_
        refine lv_topi (fun z8 ez8 => ?_)
        refine lv_iadd hx hb dX7_heardIn_46 ?_
        refine lv_topi (fun z9 ez9 => ?_)
        refine lv_istore (lv' := [(4, .int z9), (0, .ref q), (1, .int p1), (2, .int v24_2), (3, .int v24_3), (5, .int v24_5)]) hx hb dX7_heardIn_47 hl (by decide) rfl (fun ls hl => ?_)
        obtain ⟨z10, ez10⟩ : ∃ y : Int32, y = v24_5 + (1 : Int32) := ⟨_, rfl⟩
        have r11 : rg z10 1 20 := rg_add ez10 r2 rl_1 (by decide)
        have a12 : z10.toInt = v24_5.toInt + 1 := ai_add ez10 r2 tl_1 (by decide)
        refine lv_iinc (v := z10) (lv' := [(5, .int z10), (4, .int z9), (0, .ref q), (1, .int p1), (2, .int v24_2), (3, .int v24_3)]) hx hb dX7_heardIn_49 hl (k := 5) rfl (by rw [ez10]; rfl) (by decide) rfl (fun ls hl => ?_)
        refine lv_goto (tgt := 24) hx hb dX7_heardIn_52 (by decide) ?_
        exact ih24 _ _ _ _ v24_2 v24_3 z9 z10 (fu_s hfu24 a12 (by decide)) hI hH (rg_w r3 (by decide)) (rg_w r11 (by decide)) (lv_sub hl [2, 3, 4, 5, 1, 0] rfl)
  refine lv_aload_n hx hb dX7_heardIn_0 rfl (lv_at hl 0 rfl) ?_
  refine t_getX C hH hI.1 mq tq td_19 iX7 rfl 0 (by decide) wd67 rfl (hI.rf kq_0) dX7_heardIn_1 ?_
  refine t_getX C hH hI.1 mq_0 tq_0 td_3 iX3 rfl 18 (by decide) wd68 rfl (hI.rf kq_0_18) dX7_heardIn_4 ?_
  refine lv_iload_n hx hb dX7_heardIn_7 rfl (lv_at hl 1 rfl) ?_
  refine t_ald C hH hI.1 mq_0_18 tq_0_18 td_12 (rg_in rp1 (by decide)) dX7_heardIn_8 (fun z13v az13 _ => ?_)
  refine lv_topi (fun z13 ez13 => ?_)
  refine lv_istore_n (lv' := [(2, .int z13), (0, .ref q), (1, .int p1)]) hx hb dX7_heardIn_9 rfl hl (by decide) rfl (fun ls hl => ?_)
  refine lv_aload_n hx hb dX7_heardIn_10 rfl (lv_at hl 1 rfl) ?_
  refine t_getX C hH hI.1 mq tq td_19 iX7 rfl 0 (by decide) wd67 rfl (hI.rf kq_0) dX7_heardIn_11 ?_
  refine t_Vi C hO hl.1 hA hH hI.1 (As := []) (rest := []) (t_X3_cells l E J τ L f hI.1 mq_0 tq_0) my_X3_cells wd69 mq_0 tq_0 td_3 rfl rfl rfl (Nat.le_of_ble_eq_true rfl) ⟨Nat.le_of_ble_eq_true rfl, Nat.le_of_ble_eq_true rfl⟩ ⟨rfl, rfl⟩ dX7_heardIn_14 (fun r15 L1 f14 H locs hp hH => ?_)
  obtain ⟨rfl, s16, h17⟩ := hp
  have hI := hI.call s16 (by decide)
  refine lv_istore_n (lv' := [(3, .int r15), (2, .int z13), (0, .ref q), (1, .int p1)]) hx hb dX7_heardIn_17 rfl hl (by decide) rfl (fun ls hl => ?_)
  refine lv_iconst (v := (0 : Int32)) hx hb dX7_heardIn_18 (by decide) ?_
  refine lv_istore (lv' := [(4, .int (0 : Int32)), (3, .int r15), (2, .int z13), (0, .ref q), (1, .int p1)]) hx hb dX7_heardIn_19 hl (by decide) rfl (fun ls hl => ?_)
  refine lv_iconst (v := (0 : Int32)) hx hb dX7_heardIn_21 (by decide) ?_
  refine lv_istore (lv' := [(5, .int (0 : Int32)), (4, .int (0 : Int32)), (3, .int r15), (2, .int z13), (0, .ref q), (1, .int p1)]) hx hb dX7_heardIn_22 hl (by decide) rfl (fun ls hl => ?_)
  exact cut24 21 _ _ _ _ z13 r15 (0 : Int32) (0 : Int32) (fu_i 21 rl_0 (by decide)) hI hH h17 (rg_w rl_0 (by decide)) (lv_sub hl [4, 5, 3, 2, 1, 0] rfl)
set_option maxHeartbeats 4000000 in
set_option maxRecDepth 100000 in
theorem t_X7_wouldServe (l : Launch) (E : gE) (J : Nat → Nat) (τ : Nat → Nat) (L : List Nat) (f : gF) (hI : tI E L τ f) {q : Nat} (mq : q ∈ L) (tq : τ q = 19) (p1 : Int32) (rp1 : rg p1 0 5) (p2 : Int32) : tMi l E J yX7_wouldServe cX7_wouldServe 3 .boolean (gRm (1) 0 0) [.ref q, .int p1, .int p2] L f (tPi E L τ [] f (fun r f1 => rg r 0 1)) := by
  refine tMi.intro (by decide) (Nat.le_of_ble_eq_true rfl) ?_
  intro p e s m below meth c A ls C hr hA hO hH hl
  have C : gC E cX7_wouldServe 3 RX7 p s m _ meth c := C
  have hl : lv_has ls 3 [(0, .ref q), (1, .int p1), (2, .int p2)] := hl
  have hx := C.1
  have hb := C.2.1
  have hI := hI.S []
  obtain ⟨q_0, mq_0, tq_0, kq_0⟩ := t_fldr hI.1 mq tq td_19 (k := 0) rfl
  obtain ⟨q_0_14, mq_0_14, tq_0_14, kq_0_14⟩ := t_fldr hI.1 mq_0 tq_0 td_3 (k := 14) rfl
  refine lv_aload_n hx hb dX7_wouldServe_0 rfl (lv_at hl 0 rfl) ?_
  refine t_getX C hH hI.1 mq tq td_19 iX7 rfl 0 (by decide) wd67 rfl (hI.rf kq_0) dX7_wouldServe_1 ?_
  refine t_getX C hH hI.1 mq_0 tq_0 td_3 iX3 rfl 14 (by decide) wd70 rfl (hI.rf kq_0_14) dX7_wouldServe_4 ?_
  refine lv_iload_n hx hb dX7_wouldServe_7 rfl (lv_at hl 1 rfl) ?_
  refine t_ald C hH hI.1 mq_0_14 tq_0_14 td_8 (rg_in rp1 (by decide)) dX7_wouldServe_8 (fun z1v az1 _ => ?_)
  refine lv_topi (fun z1 ez1 => ?_)
  refine lv_if_le (tgt := 29) hx hb dX7_wouldServe_9 (by decide) (fun c2 => ?_) (fun c2 => ?_)
  · skip
    have r3 : rg z1 (-2147483648) 0 := rf_lel (c_le c2) (rg_all _) rl_0 (by decide)
    refine lv_iconst (v := (0 : Int32)) hx hb dX7_wouldServe_29 (by decide) ?_
    exact g_zret C hr (rg_z (rg_w rl_0 (by decide))) hH (Nat.zero_le _) (Nat.zero_le _) dX7_wouldServe_30 ⟨rfl, hI, (rg_w rl_0 (by decide))⟩
  · skip
    have r4 : rg z1 1 2147483647 := rf_ltr (n_le c2) rl_0 (rg_all _) (by decide)
    refine lv_iload_n hx hb dX7_wouldServe_12 rfl (lv_at hl 2 rfl) ?_
    refine lv_aload_n hx hb dX7_wouldServe_13 rfl (lv_at hl 0 rfl) ?_
    refine t_getX C hH hI.1 mq tq td_19 iX7 rfl 0 (by decide) wd67 rfl (hI.rf kq_0) dX7_wouldServe_14 ?_
    refine t_getX C hH hI.1 mq_0 tq_0 td_3 iX3 rfl 14 (by decide) wd70 rfl (hI.rf kq_0_14) dX7_wouldServe_17 ?_
    refine lv_iload_n hx hb dX7_wouldServe_20 rfl (lv_at hl 1 rfl) ?_
    refine t_ald C hH hI.1 mq_0_14 tq_0_14 td_8 (rg_in rp1 (by decide)) dX7_wouldServe_21 (fun z5v az5 _ => ?_)
    refine lv_topi (fun z5 ez5 => ?_)
    refine lv_icmp_lt (tgt := 29) hx hb dX7_wouldServe_22 (by decide) (fun c6 => ?_) (fun c6 => ?_)
    · skip
      have r7 : rg p2 (-2147483648) 2147483646 := rf_ltl (c_lt c6) (rg_all _) (rg_all _) (by decide)
      have r8 : rg z5 (-2147483647) 2147483647 := rf_ltr (c_lt c6) (rg_all _) (rg_all _) (by decide)
      refine lv_iconst (v := (0 : Int32)) hx hb dX7_wouldServe_29 (by decide) ?_
      exact g_zret C hr (rg_z (rg_w rl_0 (by decide))) hH (Nat.zero_le _) (Nat.zero_le _) dX7_wouldServe_30 ⟨rfl, hI, (rg_w rl_0 (by decide))⟩
    · skip
      refine lv_iconst (v := (1 : Int32)) hx hb dX7_wouldServe_25 (by decide) ?_
      refine lv_goto (tgt := 30) hx hb dX7_wouldServe_26 (by decide) ?_
      exact g_zret C hr (rg_z (rg_w rl_1 (by decide))) hH (Nat.zero_le _) (Nat.zero_le _) dX7_wouldServe_30 ⟨rfl, hI, (rg_w rl_1 (by decide))⟩
set_option maxHeartbeats 4000000 in
set_option maxRecDepth 100000 in
theorem t_X7_servedBits (l : Launch) (E : gE) (J : Nat → Nat) (τ : Nat → Nat) (L : List Nat) (f : gF) (hI : tI E L τ f) {q : Nat} (mq : q ∈ L) (tq : τ q = 19) : tMi l E J yX7_servedBits cX7_servedBits 3 .int (gRm (3) 0 0) [.ref q] L f (tPi E L τ [] f (fun r f1 => rg r 0 63)) := by
  refine tMi.intro (by decide) (Nat.le_of_ble_eq_true rfl) ?_
  intro p e s m below meth c A ls C hr hA hO hH hl
  have C : gC E cX7_servedBits 3 RX7 p s m _ meth c := C
  have hl : lv_has ls 3 [(0, .ref q)] := hl
  have hx := C.1
  have hb := C.2.1
  have hI := hI.S []
  obtain ⟨q_0, mq_0, tq_0, kq_0⟩ := t_fldr hI.1 mq tq td_19 (k := 0) rfl
  obtain ⟨q_0_13, mq_0_13, tq_0_13, kq_0_13⟩ := t_fldr hI.1 mq_0 tq_0 td_3 (k := 13) rfl
  have cut4 : ∀ (n : Nat) (fh4 : gF) (H : Heap) (locs : List Loc) (ls : Array Slot) (v4_1 : Int32) (v4_2 : Int32), 6 - v4_2.toInt < (n : Int) → tS E L τ [] f fh4 → gH E A L fh4 s.heap H locs → rg v4_1 0 63 → rg v4_2 0 6 → lv_has ls 3 [(0, .ref q), (1, .int v4_1), (2, .int v4_2)] → W p l e (gRm (3) 0 0) s m [.ref q].toArray below meth c H locs 0 0 (MQ below (gQi E A (tPi E L τ [] f (fun r f1 => rg r 0 63))) [.ref q].toArray s (gRm (3) 0 0).cells (gRm (3) 0 0).slots A) (F0 m 4 ls []) := by
    intro n
    induction n with
    | zero =>
      intro fh4 H locs ls v4_1 v4_2 hfu4 hI hH r_v4_1 r_v4_2 hl
      exact (fu_0 hfu4 r_v4_2).elim
    | succ n ih4 =>
      intro fh4 H locs ls v4_1 v4_2 hfu4 hI hH r_v4_1 r_v4_2 hl
      refine lv_iload_n hx hb dX7_servedBits_4 rfl (lv_at hl 2 rfl) ?_
      refine lv_aload_n hx hb dX7_servedBits_5 rfl (lv_at hl 0 rfl) ?_
      refine t_getX C hH hI.1 mq tq td_19 iX7 rfl 0 (by decide) wd67 rfl (hI.rf kq_0) dX7_servedBits_6 ?_
      refine t_geti C hH hI.1 mq_0 tq_0 td_3 iX3 rfl 7 (by decide) wd71 rfl rfl dX7_servedBits_9 (fun z1 rz1 => ?_)
      refine lv_icmp_ge (tgt := 48) hx hb dX7_servedBits_12 (by decide) (fun c2 => ?_) (fun c2 => ?_)
      · skip
        refine lv_iload_n hx hb dX7_servedBits_48 rfl (lv_at hl 1 rfl) ?_
        exact g_iret C hr hH (Nat.zero_le _) (Nat.zero_le _) dX7_servedBits_49 ⟨rfl, hI, r_v4_1⟩
      · skip
        have r3 : rg v4_2 0 5 := rf_ltl (n_le c2) r_v4_2 rz1 (by decide)
        have r4 : rg z1 1 6 := rf_ltr (n_le c2) r_v4_2 rz1 (by decide)
        refine lv_aload_n hx hb dX7_servedBits_15 rfl (lv_at hl 0 rfl) ?_
        refine lv_iload_n hx hb dX7_servedBits_16 rfl (lv_at hl 2 rfl) ?_
        refine lv_aload_n hx hb dX7_servedBits_17 rfl (lv_at hl 0 rfl) ?_
        refine lv_aload_n hx hb dX7_servedBits_18 rfl (lv_at hl 0 rfl) ?_
        refine t_getX C hH hI.1 mq tq td_19 iX7 rfl 0 (by decide) wd67 rfl (hI.rf kq_0) dX7_servedBits_19 ?_
        refine t_getX C hH hI.1 mq_0 tq_0 td_3 iX3 rfl 13 (by decide) wd72 rfl (hI.rf kq_0_13) dX7_servedBits_22 ?_
        refine lv_iload_n hx hb dX7_servedBits_25 rfl (lv_at hl 2 rfl) ?_
        refine t_aldR C hH hI.1 mq_0_13 tq_0_13 td_7 (rg_in r3 (by decide)) dX7_servedBits_26 (fun z5 rz5 => ?_)
        refine t_Vi C hO hl.1 hA hH hI.1 (As := [.int z5]) (rest := [.int v4_2, .ref q]) (t_X7_heardIn l E J τ L fh4 hI.1 mq tq z5 rz5) my_X7_heardIn wd77 mq tq td_19 rfl rfl rfl (Nat.le_of_ble_eq_true rfl) ⟨Nat.le_of_ble_eq_true rfl, Nat.le_of_ble_eq_true rfl⟩ ⟨rfl, rfl⟩ dX7_servedBits_27 (fun r7 L1 f6 H locs hp hH => ?_)
        obtain ⟨rfl, s8, h9⟩ := hp
        have hI := hI.call s8 (by decide)
        refine t_Vi C hO hl.1 hA hH hI.1 (As := [.int v4_2, .int r7]) (rest := []) (t_X7_wouldServe l E J τ L f6 hI.1 mq tq v4_2 r3 r7) my_X7_wouldServe wd81 mq tq td_19 rfl rfl rfl (Nat.le_of_ble_eq_true rfl) ⟨Nat.le_of_ble_eq_true rfl, Nat.le_of_ble_eq_true rfl⟩ ⟨rfl, rfl⟩ dX7_servedBits_30 (fun r11 L1 f10 H locs hp hH => ?_)
        obtain ⟨rfl, s12, h13⟩ := hp
        have hI := hI.call s12 (by decide)
        refine lv_if_eq (tgt := 42) hx hb dX7_servedBits_33 (by decide) (fun c14 => ?_) (fun c14 => ?_)
        · skip
          have r15 : rg r11 0 0 := rf_eql (c_eq c14) h13 rl_0 (by decide)
          obtain ⟨z16, ez16⟩ : ∃ y : Int32, y = v4_2 + (1 : Int32) := ⟨_, rfl⟩
          have r17 : rg z16 1 6 := rg_add ez16 r3 rl_1 (by decide)
          have a18 : z16.toInt = v4_2.toInt + 1 := ai_add ez16 r3 tl_1 (by decide)
          refine lv_iinc (v := z16) (lv' := [(2, .int z16), (0, .ref q), (1, .int v4_1)]) hx hb dX7_servedBits_42 hl (k := 2) rfl (by rw [ez16]; rfl) (by decide) rfl (fun ls hl => ?_)
          refine lv_goto (tgt := 4) hx hb dX7_servedBits_45 (by decide) ?_
          exact ih4 _ _ _ _ v4_1 z16 (fu_s hfu4 a18 (by decide)) hI hH r_v4_1 (rg_w r17 (by decide)) (lv_sub hl [1, 2, 0] rfl)
        · skip
          have r19 : rg r11 1 1 := rf_nel (n_eq c14) h13 rl_0 (by decide)
          refine lv_iload_n hx hb dX7_servedBits_36 rfl (lv_at hl 1 rfl) ?_
          refine lv_iconst (v := (1 : Int32)) hx hb dX7_servedBits_37 (by decide) ?_
          refine lv_iload_n hx hb dX7_servedBits_38 rfl (lv_at hl 2 rfl) ?_
          refine lv_ishl hx hb dX7_servedBits_39 ?_
          refine lv_topi (fun z20 ez20 => ?_)
          have r21 : rg z20 1 32 := rg_shl 0 5 ez20 r3 (by decide)
          refine lv_ior hx hb dX7_servedBits_40 ?_
          refine lv_topi (fun z22 ez22 => ?_)
          have r23 : rg z22 0 63 := rg_or 6 ez22 r_v4_1 r21 (by decide)
          refine lv_istore_n (lv' := [(1, .int z22), (0, .ref q), (2, .int v4_2)]) hx hb dX7_servedBits_41 rfl hl (by decide) rfl (fun ls hl => ?_)
          obtain ⟨z24, ez24⟩ : ∃ y : Int32, y = v4_2 + (1 : Int32) := ⟨_, rfl⟩
          have r25 : rg z24 1 6 := rg_add ez24 r3 rl_1 (by decide)
          have a26 : z24.toInt = v4_2.toInt + 1 := ai_add ez24 r3 tl_1 (by decide)
          refine lv_iinc (v := z24) (lv' := [(2, .int z24), (1, .int z22), (0, .ref q)]) hx hb dX7_servedBits_42 hl (k := 2) rfl (by rw [ez24]; rfl) (by decide) rfl (fun ls hl => ?_)
          refine lv_goto (tgt := 4) hx hb dX7_servedBits_45 (by decide) ?_
          exact ih4 _ _ _ _ z22 z24 (fu_s hfu4 a26 (by decide)) hI hH r23 (rg_w r25 (by decide)) (lv_sub hl [2, 1, 0] rfl)
  refine lv_iconst (v := (0 : Int32)) hx hb dX7_servedBits_0 (by decide) ?_
  refine lv_istore_n (lv' := [(1, .int (0 : Int32)), (0, .ref q)]) hx hb dX7_servedBits_1 rfl hl (by decide) rfl (fun ls hl => ?_)
  refine lv_iconst (v := (0 : Int32)) hx hb dX7_servedBits_2 (by decide) ?_
  refine lv_istore_n (lv' := [(2, .int (0 : Int32)), (1, .int (0 : Int32)), (0, .ref q)]) hx hb dX7_servedBits_3 rfl hl (by decide) rfl (fun ls hl => ?_)
  exact cut4 7 _ _ _ _ (0 : Int32) (0 : Int32) (fu_i 7 rl_0 (by decide)) hI hH (rg_w rl_0 (by decide)) (rg_w rl_0 (by decide)) (lv_sub hl [2, 1, 0] rfl)
set_option maxHeartbeats 4000000 in
set_option maxRecDepth 100000 in
theorem t_X7_deafBits (l : Launch) (E : gE) (J : Nat → Nat) (τ : Nat → Nat) (L : List Nat) (f : gF) (hI : tI E L τ f) {q : Nat} (mq : q ∈ L) (tq : τ q = 19) : tMi l E J yX7_deafBits cX7_deafBits 3 .int (gRm (3) 0 0) [.ref q] L f (tPi E L τ [] f (fun r f1 => rg r 0 63)) := by
  refine tMi.intro (by decide) (Nat.le_of_ble_eq_true rfl) ?_
  intro p e s m below meth c A ls C hr hA hO hH hl
  have C : gC E cX7_deafBits 3 RX7 p s m _ meth c := C
  have hl : lv_has ls 3 [(0, .ref q)] := hl
  have hx := C.1
  have hb := C.2.1
  have hI := hI.S []
  obtain ⟨q_0, mq_0, tq_0, kq_0⟩ := t_fldr hI.1 mq tq td_19 (k := 0) rfl
  obtain ⟨q_0_13, mq_0_13, tq_0_13, kq_0_13⟩ := t_fldr hI.1 mq_0 tq_0 td_3 (k := 13) rfl
  have cut4 : ∀ (n : Nat) (fh4 : gF) (H : Heap) (locs : List Loc) (ls : Array Slot) (v4_1 : Int32) (v4_2 : Int32), 6 - v4_2.toInt < (n : Int) → tS E L τ [] f fh4 → gH E A L fh4 s.heap H locs → rg v4_1 0 63 → rg v4_2 0 6 → lv_has ls 3 [(0, .ref q), (1, .int v4_1), (2, .int v4_2)] → W p l e (gRm (3) 0 0) s m [.ref q].toArray below meth c H locs 0 0 (MQ below (gQi E A (tPi E L τ [] f (fun r f1 => rg r 0 63))) [.ref q].toArray s (gRm (3) 0 0).cells (gRm (3) 0 0).slots A) (F0 m 4 ls []) := by
    intro n
    induction n with
    | zero =>
      intro fh4 H locs ls v4_1 v4_2 hfu4 hI hH r_v4_1 r_v4_2 hl
      exact (fu_0 hfu4 r_v4_2).elim
    | succ n ih4 =>
      intro fh4 H locs ls v4_1 v4_2 hfu4 hI hH r_v4_1 r_v4_2 hl
      refine lv_iload_n hx hb dX7_deafBits_4 rfl (lv_at hl 2 rfl) ?_
      refine lv_aload_n hx hb dX7_deafBits_5 rfl (lv_at hl 0 rfl) ?_
      refine t_getX C hH hI.1 mq tq td_19 iX7 rfl 0 (by decide) wd67 rfl (hI.rf kq_0) dX7_deafBits_6 ?_
      refine t_geti C hH hI.1 mq_0 tq_0 td_3 iX3 rfl 7 (by decide) wd71 rfl rfl dX7_deafBits_9 (fun z1 rz1 => ?_)
      refine lv_icmp_ge (tgt := 43) hx hb dX7_deafBits_12 (by decide) (fun c2 => ?_) (fun c2 => ?_)
      · skip
        refine lv_iload_n hx hb dX7_deafBits_43 rfl (lv_at hl 1 rfl) ?_
        exact g_iret C hr hH (Nat.zero_le _) (Nat.zero_le _) dX7_deafBits_44 ⟨rfl, hI, r_v4_1⟩
      · skip
        have r3 : rg v4_2 0 5 := rf_ltl (n_le c2) r_v4_2 rz1 (by decide)
        have r4 : rg z1 1 6 := rf_ltr (n_le c2) r_v4_2 rz1 (by decide)
        refine lv_aload_n hx hb dX7_deafBits_15 rfl (lv_at hl 0 rfl) ?_
        refine lv_aload_n hx hb dX7_deafBits_16 rfl (lv_at hl 0 rfl) ?_
        refine t_getX C hH hI.1 mq tq td_19 iX7 rfl 0 (by decide) wd67 rfl (hI.rf kq_0) dX7_deafBits_17 ?_
        refine t_getX C hH hI.1 mq_0 tq_0 td_3 iX3 rfl 13 (by decide) wd72 rfl (hI.rf kq_0_13) dX7_deafBits_20 ?_
        refine lv_iload_n hx hb dX7_deafBits_23 rfl (lv_at hl 2 rfl) ?_
        refine t_aldR C hH hI.1 mq_0_13 tq_0_13 td_7 (rg_in r3 (by decide)) dX7_deafBits_24 (fun z5 rz5 => ?_)
        refine t_Vi C hO hl.1 hA hH hI.1 (As := [.int z5]) (rest := []) (t_X7_heardIn l E J τ L fh4 hI.1 mq tq z5 rz5) my_X7_heardIn wd77 mq tq td_19 rfl rfl rfl (Nat.le_of_ble_eq_true rfl) ⟨Nat.le_of_ble_eq_true rfl, Nat.le_of_ble_eq_true rfl⟩ ⟨rfl, rfl⟩ dX7_deafBits_25 (fun r7 L1 f6 H locs hp hH => ?_)
        obtain ⟨rfl, s8, h9⟩ := hp
        have hI := hI.call s8 (by decide)
        refine lv_if_ne (tgt := 37) hx hb dX7_deafBits_28 (by decide) (fun c10 => ?_) (fun c10 => ?_)
        · skip
          obtain ⟨z11, ez11⟩ : ∃ y : Int32, y = v4_2 + (1 : Int32) := ⟨_, rfl⟩
          have r12 : rg z11 1 6 := rg_add ez11 r3 rl_1 (by decide)
          have a13 : z11.toInt = v4_2.toInt + 1 := ai_add ez11 r3 tl_1 (by decide)
          refine lv_iinc (v := z11) (lv' := [(2, .int z11), (0, .ref q), (1, .int v4_1)]) hx hb dX7_deafBits_37 hl (k := 2) rfl (by rw [ez11]; rfl) (by decide) rfl (fun ls hl => ?_)
          refine lv_goto (tgt := 4) hx hb dX7_deafBits_40 (by decide) ?_
          exact ih4 _ _ _ _ v4_1 z11 (fu_s hfu4 a13 (by decide)) hI hH r_v4_1 (rg_w r12 (by decide)) (lv_sub hl [1, 2, 0] rfl)
        · skip
          have r14 : rg r7 0 0 := rf_eql (c_eq c10) h9 rl_0 (by decide)
          refine lv_iload_n hx hb dX7_deafBits_31 rfl (lv_at hl 1 rfl) ?_
          refine lv_iconst (v := (1 : Int32)) hx hb dX7_deafBits_32 (by decide) ?_
          refine lv_iload_n hx hb dX7_deafBits_33 rfl (lv_at hl 2 rfl) ?_
          refine lv_ishl hx hb dX7_deafBits_34 ?_
          refine lv_topi (fun z15 ez15 => ?_)
          have r16 : rg z15 1 32 := rg_shl 0 5 ez15 r3 (by decide)
          refine lv_ior hx hb dX7_deafBits_35 ?_
          refine lv_topi (fun z17 ez17 => ?_)
          have r18 : rg z17 0 63 := rg_or 6 ez17 r_v4_1 r16 (by decide)
          refine lv_istore_n (lv' := [(1, .int z17), (0, .ref q), (2, .int v4_2)]) hx hb dX7_deafBits_36 rfl hl (by decide) rfl (fun ls hl => ?_)
          obtain ⟨z19, ez19⟩ : ∃ y : Int32, y = v4_2 + (1 : Int32) := ⟨_, rfl⟩
          have r20 : rg z19 1 6 := rg_add ez19 r3 rl_1 (by decide)
          have a21 : z19.toInt = v4_2.toInt + 1 := ai_add ez19 r3 tl_1 (by decide)
          refine lv_iinc (v := z19) (lv' := [(2, .int z19), (1, .int z17), (0, .ref q)]) hx hb dX7_deafBits_37 hl (k := 2) rfl (by rw [ez19]; rfl) (by decide) rfl (fun ls hl => ?_)
          refine lv_goto (tgt := 4) hx hb dX7_deafBits_40 (by decide) ?_
          exact ih4 _ _ _ _ z17 z19 (fu_s hfu4 a21 (by decide)) hI hH r18 (rg_w r20 (by decide)) (lv_sub hl [2, 1, 0] rfl)
  refine lv_iconst (v := (0 : Int32)) hx hb dX7_deafBits_0 (by decide) ?_
  refine lv_istore_n (lv' := [(1, .int (0 : Int32)), (0, .ref q)]) hx hb dX7_deafBits_1 rfl hl (by decide) rfl (fun ls hl => ?_)
  refine lv_iconst (v := (0 : Int32)) hx hb dX7_deafBits_2 (by decide) ?_
  refine lv_istore_n (lv' := [(2, .int (0 : Int32)), (1, .int (0 : Int32)), (0, .ref q)]) hx hb dX7_deafBits_3 rfl hl (by decide) rfl (fun ls hl => ?_)
  exact cut4 7 _ _ _ _ (0 : Int32) (0 : Int32) (fu_i 7 rl_0 (by decide)) hI hH (rg_w rl_0 (by decide)) (rg_w rl_0 (by decide)) (lv_sub hl [2, 1, 0] rfl)
set_option maxHeartbeats 4000000 in
set_option maxRecDepth 100000 in
theorem t_X6_isNothing (l : Launch) (E : gE) (J : Nat → Nat) (τ : Nat → Nat) (L : List Nat) (f : gF) (hI : tI E L τ f) {q : Nat} (mq : q ∈ L) (tq : τ q = 17) : tMi l E J yX6_isNothing cX6_isNothing 1 .boolean (gRm (1) 0 0) [.ref q] L f (tPi E L τ [] f (fun r f1 => rg r 0 1)) := by
  refine tMi.intro (by decide) (Nat.le_of_ble_eq_true rfl) ?_
  intro p e s m below meth c A ls C hr hA hO hH hl
  have C : gC E cX6_isNothing 1 RX6 p s m _ meth c := C
  have hl : lv_has ls 1 [(0, .ref q)] := hl
  have hx := C.1
  have hb := C.2.1
  have hI := hI.S []
  refine lv_aload_n hx hb dX6_isNothing_0 rfl (lv_at hl 0 rfl) ?_
  refine t_geti C hH hI.1 mq tq td_17 iX6 rfl 1 (by decide) wd82 rfl rfl dX6_isNothing_1 (fun z1 rz1 => ?_)
  refine lv_iconst (v := (-1 : Int32)) hx hb dX6_isNothing_4 (by decide) ?_
  refine lv_icmp_ne (tgt := 12) hx hb dX6_isNothing_5 (by decide) (fun c2 => ?_) (fun c2 => ?_)
  · skip
    have r3 : rg z1 0 3 := rf_nel (n_eq c2) rz1 rl_m1 (by decide)
    refine lv_iconst (v := (0 : Int32)) hx hb dX6_isNothing_12 (by decide) ?_
    exact g_zret C hr (rg_z (rg_w rl_0 (by decide))) hH (Nat.zero_le _) (Nat.zero_le _) dX6_isNothing_13 ⟨rfl, hI, (rg_w rl_0 (by decide))⟩
  · skip
    have r4 : rg z1 (-1) (-1) := rf_eql (c_eq c2) rz1 rl_m1 (by decide)
    refine lv_iconst (v := (1 : Int32)) hx hb dX6_isNothing_8 (by decide) ?_
    refine lv_goto (tgt := 13) hx hb dX6_isNothing_9 (by decide) ?_
    exact g_zret C hr (rg_z (rg_w rl_1 (by decide))) hH (Nat.zero_le _) (Nat.zero_le _) dX6_isNothing_13 ⟨rfl, hI, (rg_w rl_1 (by decide))⟩
set_option maxHeartbeats 4000000 in
set_option maxRecDepth 100000 in
theorem t_X6_put (l : Launch) (E : gE) (J : Nat → Nat) (τ : Nat → Nat) (L : List Nat) (f : gF) (hI : tI E L τ f) {q : Nat} (mq : q ∈ L) (tq : τ q = 17) (p1 : Int32) (rp1 : rg p1 0 59) (p2 : Int64) : tMv l E J yX6_put cX6_put 4 (gRm (1) 0 0) [.ref q, .int p1, .long p2] L f (tPv E L τ [18] f (fun f1 => True)) := by
  refine tMv.intro (by decide) (Nat.le_of_ble_eq_true rfl) ?_
  intro p e s m below meth c A ls C hr hA hO hH hl
  have C : gC E cX6_put 4 RX6 p s m _ meth c := C
  have hl : lv_has ls 4 [(0, .ref q), (1, .int p1), (2, .long p2)] := hl
  have hx := C.1
  have hb := C.2.1
  have hI := hI.S [18]
  obtain ⟨q_0, mq_0, tq_0, kq_0⟩ := t_fldr hI.1 mq tq td_17 (k := 0) rfl
  refine lv_aload_n hx hb dX6_put_0 rfl (lv_at hl 0 rfl) ?_
  refine t_geti C hH hI.1 mq tq td_17 iX6 rfl 1 (by decide) wd82 rfl rfl dX6_put_1 (fun z1 rz1 => ?_)
  rcases g_sw z1 0 2 (by decide) with c2 | ⟨j, hj, ej⟩
  · refine lv_tableOut (tgt := 70) hx hb dX6_put_4 c2 (by decide) ?_
    refine lv_aload_n hx hb dX6_put_70 rfl (lv_at hl 0 rfl) ?_
    refine t_getX C hH hI.1 mq tq td_17 iX6 rfl 0 (by decide) wd83 rfl (hI.rf kq_0) dX6_put_71 ?_
    refine lv_iload_n hx hb dX6_put_74 rfl (lv_at hl 1 rfl) ?_
    refine lv_lload_n hx hb dX6_put_75 rfl (lv_at hl 2 rfl) ?_
    refine t_last C hH hI mq_0 tq_0 (by decide) td_18 (rg_in rp1 (by decide)) dX6_put_76 (fun f3 H locs hH hI bf3 => ?_)
    exact g_vret C hr hH (Nat.zero_le _) (Nat.zero_le _) dX6_put_77 ⟨rfl, hI, trivial⟩
  · rcases (show j = 0 ∨ j = 1 ∨ j = 2 by omega) with rfl | rfl | rfl
    · have y4 : z1 = (0 : Int32) := g_swE ej (by decide)
      have r5 : rg z1 0 0 := by rw [y4]; exact rl_0
      refine lv_tableIn (tgt := 32) (off := 28) hx hb dX6_put_4 (by rw [y4]; decide) (by rw [y4]; decide) (by rw [y4]; decide) (by decide) ?_
      refine lv_aload_n hx hb dX6_put_32 rfl (lv_at hl 0 rfl) ?_
      refine t_getX C hH hI.1 mq tq td_17 iX6 rfl 0 (by decide) wd83 rfl (hI.rf kq_0) dX6_put_33 ?_
      refine lv_iload_n hx hb dX6_put_36 rfl (lv_at hl 1 rfl) ?_
      refine lv_lload_n hx hb dX6_put_37 rfl (lv_at hl 2 rfl) ?_
      refine lv_l2i (v := _) hx hb dX6_put_38 rfl ?_
      refine lv_topi (fun z6 ez6 => ?_)
      refine lv_i2b (v := _) hx hb dX6_put_39 rfl ?_
      refine lv_topi (fun z7 ez7 => ?_)
      refine lv_i2l (v := (z7).toInt64) hx hb dX6_put_40 rfl ?_
      refine t_last C hH hI mq_0 tq_0 (by decide) td_18 (rg_in rp1 (by decide)) dX6_put_41 (fun f8 H locs hH hI bf8 => ?_)
      refine lv_goto (tgt := 77) hx hb dX6_put_42 (by decide) ?_
      exact g_vret C hr hH (Nat.zero_le _) (Nat.zero_le _) dX6_put_77 ⟨rfl, hI, trivial⟩
    · have y9 : z1 = (1 : Int32) := g_swE ej (by decide)
      have r10 : rg z1 1 1 := by rw [y9]; exact rl_1
      refine lv_tableIn (tgt := 45) (off := 41) hx hb dX6_put_4 (by rw [y9]; decide) (by rw [y9]; decide) (by rw [y9]; decide) (by decide) ?_
      refine lv_aload_n hx hb dX6_put_45 rfl (lv_at hl 0 rfl) ?_
      refine t_getX C hH hI.1 mq tq td_17 iX6 rfl 0 (by decide) wd83 rfl (hI.rf kq_0) dX6_put_46 ?_
      refine lv_iload_n hx hb dX6_put_49 rfl (lv_at hl 1 rfl) ?_
      refine lv_lload_n hx hb dX6_put_50 rfl (lv_at hl 2 rfl) ?_
      refine lv_l2i (v := _) hx hb dX6_put_51 rfl ?_
      refine lv_topi (fun z11 ez11 => ?_)
      refine lv_i2s (v := _) hx hb dX6_put_52 rfl ?_
      refine lv_topi (fun z12 ez12 => ?_)
      refine lv_i2l (v := (z12).toInt64) hx hb dX6_put_53 rfl ?_
      refine t_last C hH hI mq_0 tq_0 (by decide) td_18 (rg_in rp1 (by decide)) dX6_put_54 (fun f13 H locs hH hI bf13 => ?_)
      refine lv_goto (tgt := 77) hx hb dX6_put_55 (by decide) ?_
      exact g_vret C hr hH (Nat.zero_le _) (Nat.zero_le _) dX6_put_77 ⟨rfl, hI, trivial⟩
    · have y14 : z1 = (2 : Int32) := g_swE ej (by decide)
      have r15 : rg z1 2 2 := by rw [y14]; exact rl_2
      refine lv_tableIn (tgt := 58) (off := 54) hx hb dX6_put_4 (by rw [y14]; decide) (by rw [y14]; decide) (by rw [y14]; decide) (by decide) ?_
      refine lv_aload_n hx hb dX6_put_58 rfl (lv_at hl 0 rfl) ?_
      refine t_getX C hH hI.1 mq tq td_17 iX6 rfl 0 (by decide) wd83 rfl (hI.rf kq_0) dX6_put_59 ?_
      refine lv_iload_n hx hb dX6_put_62 rfl (lv_at hl 1 rfl) ?_
      refine lv_lload_n hx hb dX6_put_63 rfl (lv_at hl 2 rfl) ?_
      refine lv_l2i (v := _) hx hb dX6_put_64 rfl ?_
      refine lv_topi (fun z16 ez16 => ?_)
      refine lv_i2l (v := (z16).toInt64) hx hb dX6_put_65 rfl ?_
      refine t_last C hH hI mq_0 tq_0 (by decide) td_18 (rg_in rp1 (by decide)) dX6_put_66 (fun f17 H locs hH hI bf17 => ?_)
      refine lv_goto (tgt := 77) hx hb dX6_put_67 (by decide) ?_
      exact g_vret C hr hH (Nat.zero_le _) (Nat.zero_le _) dX6_put_77 ⟨rfl, hI, trivial⟩
set_option maxHeartbeats 4000000 in
set_option maxRecDepth 100000 in
theorem t_X6_reaches (l : Launch) (E : gE) (J : Nat → Nat) (τ : Nat → Nat) (L : List Nat) (f : gF) (hI : tI E L τ f) {q : Nat} (mq : q ∈ L) (tq : τ q = 17) (p1 : Int32) (p2 : Int32) : tMi l E J yX6_reaches cX6_reaches 3 .boolean (gRm (1) 0 0) [.ref q, .int p1, .int p2] L f (tPi E L τ [] f (fun r f1 => rg r 0 1)) := by
  refine tMi.intro (by decide) (Nat.le_of_ble_eq_true rfl) ?_
  intro p e s m below meth c A ls C hr hA hO hH hl
  have C : gC E cX6_reaches 3 RX6 p s m _ meth c := C
  have hl : lv_has ls 3 [(0, .ref q), (1, .int p1), (2, .int p2)] := hl
  have hx := C.1
  have hb := C.2.1
  have hI := hI.S []
  refine lv_iload_n hx hb dX6_reaches_0 rfl (lv_at hl 1 rfl) ?_
  refine lv_if_lt (tgt := 30) hx hb dX6_reaches_1 (by decide) (fun c1 => ?_) (fun c1 => ?_)
  · skip
    have r2 : rg p1 (-2147483648) (-1) := rf_ltl (c_lt c1) (rg_all _) rl_0 (by decide)
    refine lv_iconst (v := (0 : Int32)) hx hb dX6_reaches_30 (by decide) ?_
    exact g_zret C hr (rg_z (rg_w rl_0 (by decide))) hH (Nat.zero_le _) (Nat.zero_le _) dX6_reaches_31 ⟨rfl, hI, (rg_w rl_0 (by decide))⟩
  · skip
    have r3 : rg p1 0 2147483647 := rf_ler (n_lt c1) rl_0 (rg_all _) (by decide)
    refine lv_iload_n hx hb dX6_reaches_4 rfl (lv_at hl 2 rfl) ?_
    refine lv_if_lt (tgt := 30) hx hb dX6_reaches_5 (by decide) (fun c4 => ?_) (fun c4 => ?_)
    · skip
      have r5 : rg p2 (-2147483648) (-1) := rf_ltl (c_lt c4) (rg_all _) rl_0 (by decide)
      refine lv_iconst (v := (0 : Int32)) hx hb dX6_reaches_30 (by decide) ?_
      exact g_zret C hr (rg_z (rg_w rl_0 (by decide))) hH (Nat.zero_le _) (Nat.zero_le _) dX6_reaches_31 ⟨rfl, hI, (rg_w rl_0 (by decide))⟩
    · skip
      have r6 : rg p2 0 2147483647 := rf_ler (n_lt c4) rl_0 (rg_all _) (by decide)
      refine lv_iload_n hx hb dX6_reaches_8 rfl (lv_at hl 2 rfl) ?_
      refine lv_aload_n hx hb dX6_reaches_9 rfl (lv_at hl 0 rfl) ?_
      refine t_geti C hH hI.1 mq tq td_17 iX6 rfl 2 (by decide) wd84 rfl rfl dX6_reaches_10 (fun z7 rz7 => ?_)
      refine lv_icmp_gt (tgt := 30) hx hb dX6_reaches_13 (by decide) (fun c8 => ?_) (fun c8 => ?_)
      · skip
        have r9 : rg p2 1 2147483647 := rf_ltr (c_lt c8) rz7 r6 (by decide)
        refine lv_iconst (v := (0 : Int32)) hx hb dX6_reaches_30 (by decide) ?_
        exact g_zret C hr (rg_z (rg_w rl_0 (by decide))) hH (Nat.zero_le _) (Nat.zero_le _) dX6_reaches_31 ⟨rfl, hI, (rg_w rl_0 (by decide))⟩
      · skip
        have r10 : rg p2 0 60 := rf_lel (n_lt c8) r6 rz7 (by decide)
        refine lv_iload_n hx hb dX6_reaches_16 rfl (lv_at hl 1 rfl) ?_
        refine lv_aload_n hx hb dX6_reaches_17 rfl (lv_at hl 0 rfl) ?_
        refine t_geti C hH hI.1 mq tq td_17 iX6 rfl 2 (by decide) wd84 rfl rfl dX6_reaches_18 (fun z11 rz11 => ?_)
        refine lv_iload_n hx hb dX6_reaches_21 rfl (lv_at hl 2 rfl) ?_
        refine lv_isub hx hb dX6_reaches_22 ?_
        refine lv_topi (fun z12 ez12 => ?_)
        have r13 : rg z12 (-60) 60 := rg_sub ez12 rz11 r10 (by decide)
        refine lv_icmp_gt (tgt := 30) hx hb dX6_reaches_23 (by decide) (fun c14 => ?_) (fun c14 => ?_)
        · skip
          refine lv_iconst (v := (0 : Int32)) hx hb dX6_reaches_30 (by decide) ?_
          exact g_zret C hr (rg_z (rg_w rl_0 (by decide))) hH (Nat.zero_le _) (Nat.zero_le _) dX6_reaches_31 ⟨rfl, hI, (rg_w rl_0 (by decide))⟩
        · skip
          have r15 : rg p1 0 60 := rf_lel (n_lt c14) r3 r13 (by decide)
          have r16 : rg z12 0 60 := rf_ler (n_lt c14) r3 r13 (by decide)
          refine lv_iconst (v := (1 : Int32)) hx hb dX6_reaches_26 (by decide) ?_
          refine lv_goto (tgt := 31) hx hb dX6_reaches_27 (by decide) ?_
          exact g_zret C hr (rg_z (rg_w rl_1 (by decide))) hH (Nat.zero_le _) (Nat.zero_le _) dX6_reaches_31 ⟨rfl, hI, (rg_w rl_1 (by decide))⟩
