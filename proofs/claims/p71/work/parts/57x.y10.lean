/-! answers by arguments and by what rows and images are there -/
theorem gRow_2 {z w n : Int32} (h : ¬ (0 ≤ z.toInt ∧ z.toInt ≤ 3 ∧ 0 ≤ w.toInt ∧ w.toInt ≤ 3 ∧ n.toInt ≤ 60)) : -2 = gRow z w n := by
  unfold gRow gSlot
  simp only [fa_lt, fa_le, show (0 : Int32).toInt = 0 from by decide, show (4 : Int32).toInt = 4 from by decide, show (60 : Int32).toInt = 60 from by decide]
  by_cases h1 : z.toInt < 0
  · rw [if_pos h1, if_pos rfl]
  · rw [if_neg h1]
    by_cases h2 : 4 ≤ z.toInt
    · rw [if_pos h2, if_pos rfl]
    · rw [if_neg h2, if_neg (by decide)]
      by_cases h3 : w.toInt < 0
      · rw [if_pos h3]
      · rw [if_neg h3]
        by_cases h4 : 4 ≤ w.toInt
        · rw [if_pos h4]
        · rw [if_neg h4, if_neg (by omega)]
theorem gRow_s {z w n : Int32} (h : 0 ≤ z.toInt ∧ z.toInt ≤ 3 ∧ 0 ≤ w.toInt ∧ w.toInt ≤ 3 ∧ n.toInt ≤ 60) : gRow z w n = if 0 ≤ n.toInt then 0 else -3 := by
  unfold gRow gSlot
  simp only [fa_lt, fa_le, show (0 : Int32).toInt = 0 from by decide, show (4 : Int32).toInt = 4 from by decide, show (60 : Int32).toInt = 60 from by decide]
  rw [if_neg (show ¬ z.toInt < 0 by omega), if_neg (show ¬ 4 ≤ z.toInt by omega), if_neg (by decide), if_neg (by omega), if_neg (by omega), if_pos (by omega)]
theorem gRow_3 {z w n : Int32} (h : (0 ≤ z.toInt ∧ z.toInt ≤ 3 ∧ 0 ≤ w.toInt ∧ w.toInt ≤ 3 ∧ n.toInt ≤ 60) ∧ n.toInt < 0) : -3 = gRow z w n := by rw [gRow_s h.1, if_neg (by omega)]
theorem gRow_0 {z w n : Int32} (h : (0 ≤ z.toInt ∧ z.toInt ≤ 3 ∧ 0 ≤ w.toInt ∧ w.toInt ≤ 3 ∧ n.toInt ≤ 60) ∧ 0 ≤ n.toInt) : 0 = gRow z w n := by rw [gRow_s h.1, if_pos h.2]
theorem in_c {x r : Int32} {a b : Int64} {lo hi : Int} (h : ¬ r = 0 ↔ a.toInt ≤ x.toInt64.toInt ∧ x.toInt64.toInt ≤ b.toInt) (ha : a.toInt = lo) (hb : b.toInt = hi) : ¬ r = 0 ↔ lo ≤ x.toInt ∧ x.toInt ≤ hi := by
  rw [Int32.toInt_toInt64, ha, hb] at h
  exact h
set_option maxHeartbeats 4000000 in
set_option maxRecDepth 100000 in
theorem t_isSlotY (l : Launch) (E : gE) (J : Nat → Nat) (τ : Nat → Nat) (L : List Nat) (f : gF) (hI : tI E L τ f) (p0 : Int32) : tMi l E J yX10_isSlot cX10_isSlot 1 .boolean (gRm (2) 0 0) [.int p0] L f (tPi E L τ [] f (fun r f1 => rg r 0 1 ∧ (¬ r = 0 → rg p0 0 3) ∧ (¬ r = 0 ↔ 0 ≤ p0.toInt ∧ p0.toInt ≤ 3))) := by
  refine tMi.intro (by decide) (Nat.le_of_ble_eq_true rfl) ?_
  intro p e s m below meth c A ls C hr hA hO hH hl
  have C : gC E cX10_isSlot 1 RX10 p s m _ meth c := C
  have hl : lv_has ls 1 [(0, .int p0)] := hl
  have hx := C.1
  have hb := C.2.1
  have hI := hI.S []
  refine lv_iload_n hx hb dX10_isSlot_0 rfl (lv_at hl 0 rfl) ?_
  refine lv_i2l (v := (p0).toInt64) hx hb dX10_isSlot_1 rfl ?_
  refine lv_lconst (v := (0 : Int64)) hx hb dX10_isSlot_2 (by decide) ?_
  refine lv_ldc2 hx hb C.2.2.2.1 (C.2.2.2.2.1 _ wd740) dX10_isSlot_3 ?_
  refine t_Si C hO hl.1 hA hH (As := [.long (p0).toInt64, .long (0 : Int64), .long (3 : Int64)]) (rest := []) (t_inX l E J τ L f hI.1 ((p0).toInt64) ((0 : Int64)) ((3 : Int64))) my_X10_in wd744 rfl rfl (Nat.le_of_ble_eq_true rfl) ⟨Nat.le_of_ble_eq_true rfl, Nat.le_of_ble_eq_true rfl⟩ ⟨rfl, rfl⟩ dX10_isSlot_6 (fun r2 L1 f1 H locs hp hH => ?_)
  obtain ⟨rfl, s3, h4⟩ := hp
  have hJ := hI
  have hI := hI.call s3 (by decide)
  exact g_zret C hr (rg_z h4.1) hH (Nat.zero_le _) (Nat.zero_le _) dX10_isSlot_9 ⟨rfl, hI, ⟨h4.1, (fun h => rg_w ((fun hh => in_rg (la := 0) (lb := 3) (lo := 0) (hi := 3) (h4.2.1 hh) (rg_all _) (by decide) (by decide) (by decide)) h) (by decide)), (in_c (lo := 0) (hi := 3) h4.2 (by decide) (by decide))⟩⟩
set_option maxHeartbeats 4000000 in
set_option maxRecDepth 100000 in
theorem t_rowY (l : Launch) (E : gE) (J : Nat → Nat) (τ : Nat → Nat) (L : List Nat) (f : gF) (hI : tI E L τ f) {q : Nat} (mq : q ∈ L) (tq : τ q = 40) (p1 : Int32) (p2 : Int32) (p3 : Int32) : tMi l E J yX10_row cX10_row 5 .int (gRm (3) 0 0) [.ref q, .int p1, .int p2, .int p3] L f (tPi E L τ [40, 41, 42, 43] f (fun r f1 => rg r (-3) 0 ∧ (r = gRow p1 p2 p3))) := by
  refine tMi.intro (by decide) (Nat.le_of_ble_eq_true rfl) ?_
  intro p e s m below meth c A ls C hr hA hO hH hl
  have C : gC E cX10_row 5 RX10 p s m _ meth c := C
  have hl : lv_has ls 5 [(0, .ref q), (1, .int p1), (2, .int p2), (3, .int p3)] := hl
  have hx := C.1
  have hb := C.2.1
  have hI := hI.S [40, 41, 42, 43]
  obtain ⟨q_1, mq_1, tq_1, kq_1⟩ := t_fldr hI.1 mq tq td_40 (k := 1) rfl
  obtain ⟨q_2, mq_2, tq_2, kq_2⟩ := t_fldr hI.1 mq tq td_40 (k := 2) rfl
  obtain ⟨q_3, mq_3, tq_3, kq_3⟩ := t_fldr hI.1 mq tq td_40 (k := 3) rfl
  have cut57 : ∀ (n : Nat) (fh57 : gF) (H : Heap) (locs : List Loc) (ls : Array Slot) (v57_4 : Int32), 60 - v57_4.toInt < (n : Int) → tS E L τ [40, 41, 42, 43] f fh57 → gH E A L fh57 s.heap H locs → rg v57_4 0 60 → rg p1 0 3 → rg p2 0 3 → rg p3 0 60 → 0 = gRow p1 p2 p3 → lv_has ls 5 [(0, .ref q), (1, .int p1), (2, .int p2), (3, .int p3), (4, .int v57_4)] → W p l e (gRm (3) 0 0) s m [.ref q, .int p1, .int p2, .int p3].toArray below meth c H locs 0 0 (MQ below (gQi E A (tPi E L τ [40, 41, 42, 43] f (fun r f1 => rg r (-3) 0 ∧ (r = gRow p1 p2 p3)))) [.ref q, .int p1, .int p2, .int p3].toArray s (gRm (3) 0 0).cells (gRm (3) 0 0).slots A) (F0 m 57 ls []) := by
    intro n
    induction n with
    | zero =>
      intro fh57 H locs ls v57_4 hfu57 hI hH r_v57_4 r57_p1 r57_p2 r57_p3 F57_ok hl
      exact (fu_0 hfu57 r_v57_4).elim
    | succ n ih57 =>
      intro fh57 H locs ls v57_4 hfu57 hI hH r_v57_4 r57_p1 r57_p2 r57_p3 F57_ok hl
      refine lv_iload hx hb dX10_row_57 (lv_at hl 4 rfl) ?_
      refine lv_iload_n hx hb dX10_row_59 rfl (lv_at hl 3 rfl) ?_
      refine lv_icmp_ge (tgt := 82) hx hb dX10_row_60 (by decide) (fun c1 => ?_) (fun c1 => ?_)
      · skip
        refine lv_iconst (v := (0 : Int32)) hx hb dX10_row_82 (by decide) ?_
        exact g_iret C hr hH (Nat.zero_le _) (Nat.zero_le _) dX10_row_83 ⟨rfl, hI, ⟨(rg_w rl_0 (by decide)), F57_ok⟩⟩
      · skip
        have r2 : rg v57_4 0 59 := rf_ltl (n_le c1) r_v57_4 r57_p3 (by decide)
        have r3 : rg p3 1 60 := rf_ltr (n_le c1) r_v57_4 r57_p3 (by decide)
        refine lv_aload_n hx hb dX10_row_63 rfl (lv_at hl 0 rfl) ?_
        refine t_getX C hH hI.1 mq tq td_40 iX10 rfl 3 (by decide) wd989 rfl (hI.rf kq_3) dX10_row_64 ?_
        refine lv_bipush (v := (60 : Int32)) hx hb dX10_row_67 (by decide) ?_
        refine lv_iload_n hx hb dX10_row_69 rfl (lv_at hl 1 rfl) ?_
        refine lv_imul hx hb dX10_row_70 ?_
        refine lv_topi (fun z4 ez4 => ?_)
        have r5 : rg z4 0 180 := rg_mul ez4 rl_60 r57_p1 (by decide)
        refine lv_iload hx hb dX10_row_71 (lv_at hl 4 rfl) ?_
        refine lv_iadd hx hb dX10_row_73 ?_
        refine lv_topi (fun z6 ez6 => ?_)
        have r7 : rg z6 0 239 := rg_add ez6 r5 r2 (by decide)
        refine lv_lconst (v := (0 : Int64)) hx hb dX10_row_74 (by decide) ?_
        refine t_last C hH hI mq_3 tq_3 (by decide) td_43 (rg_in r7 (by decide)) dX10_row_75 (fun f8 H locs hH hI bf8 => ?_)
        obtain ⟨z9, ez9⟩ : ∃ y : Int32, y = v57_4 + (1 : Int32) := ⟨_, rfl⟩
        have r10 : rg z9 1 60 := rg_add ez9 r2 rl_1 (by decide)
        have a11 : z9.toInt = v57_4.toInt + 1 := ai_add ez9 r2 tl_1 (by decide)
        refine lv_iinc (v := z9) (lv' := [(4, .int z9), (0, .ref q), (1, .int p1), (2, .int p2), (3, .int p3)]) hx hb dX10_row_76 hl (k := 4) rfl (by rw [ez9]; rfl) (by decide) rfl (fun ls hl => ?_)
        refine lv_goto (tgt := 57) hx hb dX10_row_79 (by decide) ?_
        exact ih57 _ _ _ _ z9 (fu_s hfu57 a11 (by decide)) hI hH (rg_w r10 (by decide)) r57_p1 r57_p2 (rg_w r3 (by decide)) F57_ok (lv_sub hl [1, 2, 3, 4, 0] rfl)
  refine lv_aload_n hx hb dX10_row_0 rfl (lv_at hl 0 rfl) ?_
  refine lv_iconst (v := (0 : Int32)) hx hb dX10_row_1 (by decide) ?_
  refine t_put C hH hI mq tq (by decide) td_40 iX10 tyX10 tyX10_ok nmX10 rfl 0 (by decide) wd855 rfl rfl (v := .int (0 : Int32)) rfl rfl rfl ⟨_, rfl, (rg_w rl_0 (by decide))⟩ (fun _ h => nomatch h) dX10_row_2 (fun f12 H locs hH hI nf12 of12 bf12 => ?_)
  refine lv_iload_n hx hb dX10_row_5 rfl (lv_at hl 1 rfl) ?_
  refine t_Si C hO hl.1 hA hH (As := [.int p1]) (rest := []) (t_isSlotY l E J τ L f12 hI.1 p1) my_X10_isSlot wd993 rfl rfl (Nat.le_of_ble_eq_true rfl) ⟨Nat.le_of_ble_eq_true rfl, Nat.le_of_ble_eq_true rfl⟩ ⟨rfl, rfl⟩ dX10_row_6 (fun r14 L1 f13 H locs hp hH => ?_)
  obtain ⟨rfl, s15, h16⟩ := hp
  have hJ := hI
  have hI := hI.call s15 (by decide)
  refine lv_if_eq (tgt := 30) hx hb dX10_row_9 (by decide) (fun c17 => ?_) (fun c17 => ?_)
  · skip
    have r18 : rg r14 0 0 := rf_eql (c_eq c17) h16.1 rl_0 (by decide)
    refine lv_bipush (v := (-2 : Int32)) hx hb dX10_row_30 (by decide) ?_
    exact g_iret C hr hH (Nat.zero_le _) (Nat.zero_le _) dX10_row_32 ⟨rfl, hI, ⟨(rg_w rl_m2 (by decide)), (by have k0_ := (mt (h16.2.2).mpr (fun n_ => n_ c17)); exact gRow_2 (by omega))⟩⟩
  · skip
    have r19 : rg r14 1 1 := rf_nel (n_eq c17) h16.1 rl_0 (by decide)
    have r20 : rg p1 0 3 := h16.2.1 c17
    refine lv_iload_n hx hb dX10_row_12 rfl (lv_at hl 2 rfl) ?_
    refine lv_i2l (v := (p2).toInt64) hx hb dX10_row_13 rfl ?_
    refine lv_lconst (v := (0 : Int64)) hx hb dX10_row_14 (by decide) ?_
    refine lv_ldc2 hx hb C.2.2.2.1 (C.2.2.2.2.1 _ wd740) dX10_row_15 ?_
    refine t_Si C hO hl.1 hA hH (As := [.long (p2).toInt64, .long (0 : Int64), .long (3 : Int64)]) (rest := []) (t_inX l E J τ L f13 hI.1 ((p2).toInt64) ((0 : Int64)) ((3 : Int64))) my_X10_in wd744 rfl rfl (Nat.le_of_ble_eq_true rfl) ⟨Nat.le_of_ble_eq_true rfl, Nat.le_of_ble_eq_true rfl⟩ ⟨rfl, rfl⟩ dX10_row_18 (fun r22 L1 f21 H locs hp hH => ?_)
    obtain ⟨rfl, s23, h24⟩ := hp
    have hJ := hI
    have hI := hI.call s23 (by decide)
    refine lv_if_eq (tgt := 30) hx hb dX10_row_21 (by decide) (fun c25 => ?_) (fun c25 => ?_)
    · skip
      have r26 : rg r22 0 0 := rf_eql (c_eq c25) h24.1 rl_0 (by decide)
      refine lv_bipush (v := (-2 : Int32)) hx hb dX10_row_30 (by decide) ?_
      exact g_iret C hr hH (Nat.zero_le _) (Nat.zero_le _) dX10_row_32 ⟨rfl, hI, ⟨(rg_w rl_m2 (by decide)), (by have k0_ := ((h16.2.2).mp c17); have k1_ := (mt (in_c (lo := 0) (hi := 3) h24.2 (by decide) (by decide)).mpr (fun n_ => n_ c25)); exact gRow_2 (by omega))⟩⟩
    · skip
      have r27 : rg r22 1 1 := rf_nel (n_eq c25) h24.1 rl_0 (by decide)
      have r28 : rg p2 0 3 := in_rg (la := 0) (lb := 3) (h24.2.1 c25) (rg_all _) (by decide) (by decide) (by decide)
      refine lv_iload_n hx hb dX10_row_24 rfl (lv_at hl 3 rfl) ?_
      refine lv_bipush (v := (60 : Int32)) hx hb dX10_row_25 (by decide) ?_
      refine lv_icmp_le (tgt := 33) hx hb dX10_row_27 (by decide) (fun c29 => ?_) (fun c29 => ?_)
      · skip
        have r30 : rg p3 (-2147483648) 60 := rf_lel (c_le c29) (rg_all _) rl_60 (by decide)
        refine lv_iload_n hx hb dX10_row_33 rfl (lv_at hl 3 rfl) ?_
        refine lv_if_ge (tgt := 40) hx hb dX10_row_34 (by decide) (fun c31 => ?_) (fun c31 => ?_)
        · skip
          have r32 : rg p3 0 60 := rf_ler (c_le c31) rl_0 r30 (by decide)
          refine lv_aload_n hx hb dX10_row_40 rfl (lv_at hl 0 rfl) ?_
          refine t_getX C hH hI.1 mq tq td_40 iX10 rfl 1 (by decide) wd994 rfl (hI.rf kq_1) dX10_row_41 ?_
          refine lv_iload_n hx hb dX10_row_44 rfl (lv_at hl 1 rfl) ?_
          refine lv_iload_n hx hb dX10_row_45 rfl (lv_at hl 2 rfl) ?_
          refine t_ast C hH hI mq_1 tq_1 (by decide) td_41 (rg_in r20 (by decide)) (fun _ _ _ => trivial) dX10_row_46 (fun f33 H locs hH hI bf33 uf33 => ?_)
          refine lv_aload_n hx hb dX10_row_47 rfl (lv_at hl 0 rfl) ?_
          refine t_getX C hH hI.1 mq tq td_40 iX10 rfl 2 (by decide) wd988 rfl (hI.rf kq_2) dX10_row_48 ?_
          refine lv_iload_n hx hb dX10_row_51 rfl (lv_at hl 1 rfl) ?_
          refine lv_iload_n hx hb dX10_row_52 rfl (lv_at hl 3 rfl) ?_
          refine t_ast C hH hI mq_2 tq_2 (by decide) td_42 (rg_in r20 (by decide)) (fun _ _ h => tR_upd h r32) dX10_row_53 (fun f34 H locs hH hI bf34 uf34 => ?_)
          refine lv_iconst (v := (0 : Int32)) hx hb dX10_row_54 (by decide) ?_
          refine lv_istore (lv' := [(4, .int (0 : Int32)), (0, .ref q), (1, .int p1), (2, .int p2), (3, .int p3)]) hx hb dX10_row_55 hl (by decide) rfl (fun ls hl => ?_)
          exact cut57 61 _ _ _ _ (0 : Int32) (fu_i 61 rl_0 (by decide)) hI hH (rg_w rl_0 (by decide)) r20 r28 r32 (by have k0_ := ((h16.2.2).mp c17); have k1_ := ((in_c (lo := 0) (hi := 3) h24.2 (by decide) (by decide)).mp c25); have k2_ := (c_le c29); have k3_ := tl_60; have k4_ := (c_le c31); have k5_ := tl_0; exact gRow_0 (by omega)) (lv_sub hl [1, 2, 3, 4, 0] rfl)
        · skip
          have r35 : rg p3 (-2147483648) (-1) := rf_ltl (n_le c31) r30 rl_0 (by decide)
          refine lv_bipush (v := (-3 : Int32)) hx hb dX10_row_37 (by decide) ?_
          exact g_iret C hr hH (Nat.zero_le _) (Nat.zero_le _) dX10_row_39 ⟨rfl, hI, ⟨(rg_w rl_m3 (by decide)), (by have k0_ := ((h16.2.2).mp c17); have k1_ := ((in_c (lo := 0) (hi := 3) h24.2 (by decide) (by decide)).mp c25); have k2_ := (c_le c29); have k3_ := tl_60; have k4_ := (n_le c31); have k5_ := tl_0; exact gRow_3 (by omega))⟩⟩
      · skip
        have r36 : rg p3 61 2147483647 := rf_ltr (n_le c29) rl_60 (rg_all _) (by decide)
        refine lv_bipush (v := (-2 : Int32)) hx hb dX10_row_30 (by decide) ?_
        exact g_iret C hr hH (Nat.zero_le _) (Nat.zero_le _) dX10_row_32 ⟨rfl, hI, ⟨(rg_w rl_m2 (by decide)), (by have k0_ := ((h16.2.2).mp c17); have k1_ := ((in_c (lo := 0) (hi := 3) h24.2 (by decide) (by decide)).mp c25); have k2_ := (n_le c29); have k3_ := tl_60; exact gRow_2 (by omega))⟩⟩
