/-! rows pasted, the tape -/
theorem pst_ok {i n m : Int32} {a b : Int64} {z : Int32} (e : z = lg_cmp a b) (ea : a = i.toInt64 + n.toInt64) (eb : b = m.toInt64) (h : z.toInt ≤ (0 : Int32).toInt) (hi : rg i 0 2147483647) (hn : rg n 0 2147483647) (hm : rg m 0 60) : i.toInt + n.toInt ≤ 60 := by
  have h1 : ¬ (0 : Int32) < z := by
    rw [fa_lt]
    omega
  rw [e, gl_cmp_gt] at h1
  unfold rg at *
  have h2 : a.toInt = i.toInt + n.toInt := by
    rw [ea, Int64.toInt_add, Int32.toInt_toInt64, Int32.toInt_toInt64]
    exact Int.bmod_eq_of_le (by omega) (by omega)
  have h3 : b.toInt = m.toInt := by rw [eb, Int32.toInt_toInt64]
  omega
theorem pst_n {i n : Int32} (h : i.toInt + n.toInt ≤ 60) (hi : rg i 0 2147483647) (hn : rg n 0 2147483647) : rg n 0 60 := by
  unfold rg at *
  omega
theorem pst_in {s i n x z w t : Int32} (hs : rg s 0 3) (hi : rg i 0 2147483647) (hn : i.toInt + n.toInt ≤ 60) (hx : rg x 0 2147483647) (hxn : x.toInt < n.toInt) (e1 : z = (60 : Int32) * s) (e2 : w = z + i) (e3 : t = w + x) : vp_in t 240 := by
  have t6 : (60 : Int32).toInt = 60 := by decide
  unfold rg at *
  have h1 : z.toInt = 60 * s.toInt := by rw [e1, Int32.toInt_mul, t6, bmI (by omega) (by omega)]
  have h2 : w.toInt = 60 * s.toInt + i.toInt := by rw [e2, Int32.toInt_add, h1, bmI (by omega) (by omega)]
  have h3 : t.toInt = 60 * s.toInt + i.toInt + x.toInt := by rw [e3, Int32.toInt_add, h2, bmI (by omega) (by omega)]
  exact vp_in_iff.mpr ⟨by omega, by omega⟩
theorem ex_rg {x y : Int32} {d lo hi lo' hi' : Int} (e : y.toInt = x.toInt + d) (h : rg x lo hi) (s : (decide (lo' ≤ lo + d) && decide (hi + d ≤ hi')) = true) : rg y lo' hi' := by
  simp only [Bool.and_eq_true, decide_eq_true_eq] at s
  unfold rg at *
  omega
set_option maxHeartbeats 4000000 in
set_option maxRecDepth 100000 in
theorem t_X10_row (l : Launch) (E : gE) (J : Nat → Nat) (τ : Nat → Nat) (L : List Nat) (f : gF) (hI : tI E L τ f) {q : Nat} (mq : q ∈ L) (tq : τ q = 40) (p1 : Int32) (p2 : Int32) (p3 : Int32) : tMi l E J yX10_row cX10_row 5 .int (gRm (3) 0 0) [.ref q, .int p1, .int p2, .int p3] L f (tPi E L τ [40, 41, 42, 43] f (fun r f1 => rg r (-2147483648) 2147483647)) := by
  refine tMi.intro (by decide) (Nat.le_of_ble_eq_true rfl) ?_
  intro p e s m below meth c A ls C hr hA hO hH hl
  have C : gC E cX10_row 5 RX10 p s m _ meth c := C
  have hl : lv_has ls 5 [(0, .ref q), (1, .int p1), (2, .int p2), (3, .int p3)] := hl
  have hx := C.1
  have hb := C.2.1
  have hI := hI.S [40, 41, 42, 43]
  obtain ⟨q_1, mq_1, tq_1, kq_1⟩ := t_fldr hI.1 mq tq td_40 (k := 1) rfl
  obtain ⟨q_2, mq_2, tq_2, kq_2⟩ := t_fldr hI.1 mq tq td_40 (k := 2) rfl
  obtain ⟨q_3, mq_3, tq_3, kq_3⟩ := t_fldr hI.1 mq tq td_40 (k := 3) rfl
  have cut57 : ∀ (n : Nat) (fh57 : gF) (H : Heap) (locs : List Loc) (ls : Array Slot) (v57_4 : Int32), 60 - v57_4.toInt < (n : Int) → tS E L τ [40, 41, 42, 43] f fh57 → gH E A L fh57 s.heap H locs → rg v57_4 0 60 → rg p1 0 3 → rg p2 0 3 → rg p3 0 60 → lv_has ls 5 [(0, .ref q), (1, .int p1), (2, .int p2), (3, .int p3), (4, .int v57_4)] → W p l e (gRm (3) 0 0) s m [.ref q, .int p1, .int p2, .int p3].toArray below meth c H locs 0 0 (MQ below (gQi E A (tPi E L τ [40, 41, 42, 43] f (fun r f1 => rg r (-2147483648) 2147483647))) [.ref q, .int p1, .int p2, .int p3].toArray s (gRm (3) 0 0).cells (gRm (3) 0 0).slots A) (F0 m 57 ls []) := by
    intro n
    induction n with
    | zero =>
      intro fh57 H locs ls v57_4 hfu57 hI hH r_v57_4 r57_p1 r57_p2 r57_p3 hl
      exact (fu_0 hfu57 r_v57_4).elim
    | succ n ih57 =>
      intro fh57 H locs ls v57_4 hfu57 hI hH r_v57_4 r57_p1 r57_p2 r57_p3 hl
      refine lv_iload hx hb dX10_row_57 (lv_at hl 4 rfl) ?_
      refine lv_iload_n hx hb dX10_row_59 rfl (lv_at hl 3 rfl) ?_
      refine lv_icmp_ge (tgt := 82) hx hb dX10_row_60 (by decide) (fun c1 => ?_) (fun c1 => ?_)
      · skip
        refine lv_iconst (v := (0 : Int32)) hx hb dX10_row_82 (by decide) ?_
        exact g_iret C hr hH (Nat.zero_le _) (Nat.zero_le _) dX10_row_83 ⟨rfl, hI, (rg_w rl_0 (by decide))⟩
      · skip
        have r2 : rg v57_4 0 59 := rf_ltl (n_le c1) r_v57_4 r57_p3 (by decide)
        have r3 : rg p3 1 60 := rf_ltr (n_le c1) r_v57_4 r57_p3 (by decide)
        refine lv_aload_n hx hb dX10_row_63 rfl (lv_at hl 0 rfl) ?_
        refine t_getX C hH hI.1 mq tq td_40 iX10 rfl 3 (by decide) wd989 rfl (hI.rf kq_3) dX10_row_64 ?_
        refine lv_bipush (v := (60 : Int32)) hx hb dX10_row_67 (by decide) ?_
        refine lv_iload_n hx hb dX10_row_69 rfl (lv_at hl 1 rfl) ?_
        refine lv_imul hx hb dX10_row_70 ?_
        refine lv_topi (fun z4 ez4 => ?_)
        have r5 : rg z4 0 180 := rg_mul ez4 rl_60 r57_p1 (by decide)
        refine lv_iload hx hb dX10_row_71 (lv_at hl 4 rfl) ?_
        refine lv_iadd hx hb dX10_row_73 ?_
        refine lv_topi (fun z6 ez6 => ?_)
        have r7 : rg z6 0 239 := rg_add ez6 r5 r2 (by decide)
        refine lv_lconst (v := (0 : Int64)) hx hb dX10_row_74 (by decide) ?_
        refine t_last C hH hI mq_3 tq_3 (by decide) td_43 (rg_in r7 (by decide)) dX10_row_75 (fun f8 H locs hH hI bf8 => ?_)
        obtain ⟨z9, ez9⟩ : ∃ y : Int32, y = v57_4 + (1 : Int32) := ⟨_, rfl⟩
        have r10 : rg z9 1 60 := rg_add ez9 r2 rl_1 (by decide)
        have a11 : z9.toInt = v57_4.toInt + 1 := ai_add ez9 r2 tl_1 (by decide)
        refine lv_iinc (v := z9) (lv' := [(4, .int z9), (0, .ref q), (1, .int p1), (2, .int p2), (3, .int p3)]) hx hb dX10_row_76 hl (k := 4) rfl (by rw [ez9]; rfl) (by decide) rfl (fun ls hl => ?_)
        refine lv_goto (tgt := 57) hx hb dX10_row_79 (by decide) ?_
        exact ih57 _ _ _ _ z9 (fu_s hfu57 a11 (by decide)) hI hH (rg_w r10 (by decide)) r57_p1 r57_p2 (rg_w r3 (by decide)) (lv_sub hl [1, 2, 3, 4, 0] rfl)
  refine lv_aload_n hx hb dX10_row_0 rfl (lv_at hl 0 rfl) ?_
  refine lv_iconst (v := (0 : Int32)) hx hb dX10_row_1 (by decide) ?_
  refine t_put C hH hI mq tq (by decide) td_40 iX10 tyX10 tyX10_ok nmX10 rfl 0 (by decide) wd855 rfl rfl (v := .int (0 : Int32)) rfl rfl rfl ⟨_, rfl, (rg_w rl_0 (by decide))⟩ (fun _ h => nomatch h) dX10_row_2 (fun f12 H locs hH hI nf12 of12 bf12 => ?_)
  refine lv_iload_n hx hb dX10_row_5 rfl (lv_at hl 1 rfl) ?_
  refine t_Si C hO hl.1 hA hH (As := [.int p1]) (rest := []) (t_X10_isSlot l E J τ L f12 hI.1 p1) my_X10_isSlot wd993 rfl rfl (Nat.le_of_ble_eq_true rfl) ⟨Nat.le_of_ble_eq_true rfl, Nat.le_of_ble_eq_true rfl⟩ ⟨rfl, rfl⟩ dX10_row_6 (fun r14 L1 f13 H locs hp hH => ?_)
  obtain ⟨rfl, s15, h16⟩ := hp
  have hI := hI.call s15 (by decide)
  refine lv_if_eq (tgt := 30) hx hb dX10_row_9 (by decide) (fun c17 => ?_) (fun c17 => ?_)
  · skip
    have r18 : rg r14 0 0 := rf_eql (c_eq c17) h16.1 rl_0 (by decide)
    refine lv_bipush (v := (-2 : Int32)) hx hb dX10_row_30 (by decide) ?_
    exact g_iret C hr hH (Nat.zero_le _) (Nat.zero_le _) dX10_row_32 ⟨rfl, hI, (rg_w rl_m2 (by decide))⟩
  · skip
    have r19 : rg r14 1 1 := rf_nel (n_eq c17) h16.1 rl_0 (by decide)
    have r20 : rg p1 0 3 := h16.2 c17
    refine lv_iload_n hx hb dX10_row_12 rfl (lv_at hl 2 rfl) ?_
    refine lv_i2l (v := (p2).toInt64) hx hb dX10_row_13 rfl ?_
    refine lv_lconst (v := (0 : Int64)) hx hb dX10_row_14 (by decide) ?_
    refine lv_ldc2 hx hb C.2.2.2.1 (C.2.2.2.2.1 _ wd740) dX10_row_15 ?_
    refine t_Si C hO hl.1 hA hH (As := [.long (p2).toInt64, .long (0 : Int64), .long (3 : Int64)]) (rest := []) (t_X10_in l E J τ L f13 hI.1 ((p2).toInt64) ((0 : Int64)) ((3 : Int64))) my_X10_in wd744 rfl rfl (Nat.le_of_ble_eq_true rfl) ⟨Nat.le_of_ble_eq_true rfl, Nat.le_of_ble_eq_true rfl⟩ ⟨rfl, rfl⟩ dX10_row_18 (fun r22 L1 f21 H locs hp hH => ?_)
    obtain ⟨rfl, s23, h24⟩ := hp
    have hJ := hI
    have hI := hI.call s23 (by decide)
    refine lv_if_eq (tgt := 30) hx hb dX10_row_21 (by decide) (fun c25 => ?_) (fun c25 => ?_)
    · skip
      have r26 : rg r22 0 0 := rf_eql (c_eq c25) h24.1 rl_0 (by decide)
      refine lv_bipush (v := (-2 : Int32)) hx hb dX10_row_30 (by decide) ?_
      exact g_iret C hr hH (Nat.zero_le _) (Nat.zero_le _) dX10_row_32 ⟨rfl, hI, (rg_w rl_m2 (by decide))⟩
    · skip
      have r27 : rg r22 1 1 := rf_nel (n_eq c25) h24.1 rl_0 (by decide)
      have r28 : rg p2 0 3 := in_rg (la := 0) (lb := 3) (h24.2 c25) (rg_all _) (by decide) (by decide) (by decide)
      refine lv_iload_n hx hb dX10_row_24 rfl (lv_at hl 3 rfl) ?_
      refine lv_bipush (v := (60 : Int32)) hx hb dX10_row_25 (by decide) ?_
      refine lv_icmp_le (tgt := 33) hx hb dX10_row_27 (by decide) (fun c29 => ?_) (fun c29 => ?_)
      · skip
        have r30 : rg p3 (-2147483648) 60 := rf_lel (c_le c29) (rg_all _) rl_60 (by decide)
        refine lv_iload_n hx hb dX10_row_33 rfl (lv_at hl 3 rfl) ?_
        refine lv_if_ge (tgt := 40) hx hb dX10_row_34 (by decide) (fun c31 => ?_) (fun c31 => ?_)
        · skip
          have r32 : rg p3 0 60 := rf_ler (c_le c31) rl_0 r30 (by decide)
          refine lv_aload_n hx hb dX10_row_40 rfl (lv_at hl 0 rfl) ?_
          refine t_getX C hH hI.1 mq tq td_40 iX10 rfl 1 (by decide) wd994 rfl (hI.rf kq_1) dX10_row_41 ?_
          refine lv_iload_n hx hb dX10_row_44 rfl (lv_at hl 1 rfl) ?_
          refine lv_iload_n hx hb dX10_row_45 rfl (lv_at hl 2 rfl) ?_
          refine t_ast C hH hI mq_1 tq_1 (by decide) td_41 (rg_in r20 (by decide)) (fun _ _ _ => trivial) dX10_row_46 (fun f33 H locs hH hI bf33 uf33 => ?_)
          refine lv_aload_n hx hb dX10_row_47 rfl (lv_at hl 0 rfl) ?_
          refine t_getX C hH hI.1 mq tq td_40 iX10 rfl 2 (by decide) wd988 rfl (hI.rf kq_2) dX10_row_48 ?_
          refine lv_iload_n hx hb dX10_row_51 rfl (lv_at hl 1 rfl) ?_
          refine lv_iload_n hx hb dX10_row_52 rfl (lv_at hl 3 rfl) ?_
          refine t_ast C hH hI mq_2 tq_2 (by decide) td_42 (rg_in r20 (by decide)) (fun _ _ h => tR_upd h r32) dX10_row_53 (fun f34 H locs hH hI bf34 uf34 => ?_)
          refine lv_iconst (v := (0 : Int32)) hx hb dX10_row_54 (by decide) ?_
          refine lv_istore (lv' := [(4, .int (0 : Int32)), (0, .ref q), (1, .int p1), (2, .int p2), (3, .int p3)]) hx hb dX10_row_55 hl (by decide) rfl (fun ls hl => ?_)
          exact cut57 61 _ _ _ _ (0 : Int32) (fu_i 61 rl_0 (by decide)) hI hH (rg_w rl_0 (by decide)) r20 r28 r32 (lv_sub hl [1, 2, 3, 4, 0] rfl)
        · skip
          have r35 : rg p3 (-2147483648) (-1) := rf_ltl (n_le c31) r30 rl_0 (by decide)
          refine lv_bipush (v := (-3 : Int32)) hx hb dX10_row_37 (by decide) ?_
          exact g_iret C hr hH (Nat.zero_le _) (Nat.zero_le _) dX10_row_39 ⟨rfl, hI, (rg_w rl_m3 (by decide))⟩
      · skip
        have r36 : rg p3 61 2147483647 := rf_ltr (n_le c29) rl_60 (rg_all _) (by decide)
        refine lv_bipush (v := (-2 : Int32)) hx hb dX10_row_30 (by decide) ?_
        exact g_iret C hr hH (Nat.zero_le _) (Nat.zero_le _) dX10_row_32 ⟨rfl, hI, (rg_w rl_m2 (by decide))⟩
set_option maxHeartbeats 4000000 in
set_option maxRecDepth 100000 in
theorem t_X10_write (l : Launch) (E : gE) (J : Nat → Nat) (τ : Nat → Nat) (L : List Nat) (f : gF) (hI : tI E L τ f) {q : Nat} (mq : q ∈ L) (tq : τ q = 40) (p1 : Int32) (p2 : Int32) (p3 : Int64) : tMi l E J yX10_write cX10_write 5 .int (gRm (3) 0 0) [.ref q, .int p1, .int p2, .long p3] L f (tPi E L τ [40, 43] f (fun r f1 => rg r (-2147483648) 2147483647)) := by
  refine tMi.intro (by decide) (Nat.le_of_ble_eq_true rfl) ?_
  intro p e s m below meth c A ls C hr hA hO hH hl
  have C : gC E cX10_write 5 RX10 p s m _ meth c := C
  have hl : lv_has ls 5 [(0, .ref q), (1, .int p1), (2, .int p2), (3, .long p3)] := hl
  have hx := C.1
  have hb := C.2.1
  have hI := hI.S [40, 43]
  obtain ⟨q_1, mq_1, tq_1, kq_1⟩ := t_fldr hI.1 mq tq td_40 (k := 1) rfl
  obtain ⟨q_2, mq_2, tq_2, kq_2⟩ := t_fldr hI.1 mq tq td_40 (k := 2) rfl
  obtain ⟨q_3, mq_3, tq_3, kq_3⟩ := t_fldr hI.1 mq tq td_40 (k := 3) rfl
  refine lv_aload_n hx hb dX10_write_0 rfl (lv_at hl 0 rfl) ?_
  refine lv_iconst (v := (0 : Int32)) hx hb dX10_write_1 (by decide) ?_
  refine t_put C hH hI mq tq (by decide) td_40 iX10 tyX10 tyX10_ok nmX10 rfl 0 (by decide) wd855 rfl rfl (v := .int (0 : Int32)) rfl rfl rfl ⟨_, rfl, (rg_w rl_0 (by decide))⟩ (fun _ h => nomatch h) dX10_write_2 (fun f1 H locs hH hI nf1 of1 bf1 => ?_)
  refine lv_iload_n hx hb dX10_write_5 rfl (lv_at hl 1 rfl) ?_
  refine t_Si C hO hl.1 hA hH (As := [.int p1]) (rest := []) (t_X10_isSlot l E J τ L f1 hI.1 p1) my_X10_isSlot wd993 rfl rfl (Nat.le_of_ble_eq_true rfl) ⟨Nat.le_of_ble_eq_true rfl, Nat.le_of_ble_eq_true rfl⟩ ⟨rfl, rfl⟩ dX10_write_6 (fun r3 L1 f2 H locs hp hH => ?_)
  obtain ⟨rfl, s4, h5⟩ := hp
  have hI := hI.call s4 (by decide)
  refine lv_if_ne (tgt := 15) hx hb dX10_write_9 (by decide) (fun c6 => ?_) (fun c6 => ?_)
  · skip
    have r7 : rg r3 1 1 := rf_nel (n_eq c6) h5.1 rl_0 (by decide)
    have r8 : rg p1 0 3 := h5.2 c6
    refine lv_aload_n hx hb dX10_write_15 rfl (lv_at hl 0 rfl) ?_
    refine t_getX C hH hI.1 mq tq td_40 iX10 rfl 1 (by decide) wd994 rfl (hI.rf kq_1) dX10_write_16 ?_
    refine lv_iload_n hx hb dX10_write_19 rfl (lv_at hl 1 rfl) ?_
    refine t_ald C hH hI.1 mq_1 tq_1 td_41 (rg_in r8 (by decide)) dX10_write_20 (fun z9v az9 _ => ?_)
    refine lv_topi (fun z9 ez9 => ?_)
    refine lv_iconst (v := (-1 : Int32)) hx hb dX10_write_21 (by decide) ?_
    refine lv_icmp_ne (tgt := 28) hx hb dX10_write_22 (by decide) (fun c10 => ?_) (fun c10 => ?_)
    · skip
      refine lv_iload_n hx hb dX10_write_28 rfl (lv_at hl 2 rfl) ?_
      refine lv_i2l (v := (p2).toInt64) hx hb dX10_write_29 rfl ?_
      refine lv_lconst (v := (0 : Int64)) hx hb dX10_write_30 (by decide) ?_
      refine lv_aload_n hx hb dX10_write_31 rfl (lv_at hl 0 rfl) ?_
      refine t_getX C hH hI.1 mq tq td_40 iX10 rfl 2 (by decide) wd988 rfl (hI.rf kq_2) dX10_write_32 ?_
      refine lv_iload_n hx hb dX10_write_35 rfl (lv_at hl 1 rfl) ?_
      refine t_aldR C hH hI.1 mq_2 tq_2 td_42 (rg_in r8 (by decide)) dX10_write_36 (fun z11 rz11 => ?_)
      refine lv_iconst (v := (1 : Int32)) hx hb dX10_write_37 (by decide) ?_
      refine lv_isub hx hb dX10_write_38 ?_
      refine lv_topi (fun z12 ez12 => ?_)
      have r13 : rg z12 (-1) 59 := rg_sub ez12 rz11 rl_1 (by decide)
      refine lv_i2l (v := (z12).toInt64) hx hb dX10_write_39 rfl ?_
      refine t_Si C hO hl.1 hA hH (As := [.long (p2).toInt64, .long (0 : Int64), .long (z12).toInt64]) (rest := []) (t_X10_in l E J τ L f2 hI.1 ((p2).toInt64) ((0 : Int64)) ((z12).toInt64)) my_X10_in wd744 rfl rfl (Nat.le_of_ble_eq_true rfl) ⟨Nat.le_of_ble_eq_true rfl, Nat.le_of_ble_eq_true rfl⟩ ⟨rfl, rfl⟩ dX10_write_40 (fun r15 L1 f14 H locs hp hH => ?_)
      obtain ⟨rfl, s16, h17⟩ := hp
      have hJ := hI
      have hI := hI.call s16 (by decide)
      refine lv_if_ne (tgt := 49) hx hb dX10_write_43 (by decide) (fun c18 => ?_) (fun c18 => ?_)
      · skip
        have r19 : rg r15 1 1 := rf_nel (n_eq c18) h17.1 rl_0 (by decide)
        have r20 : rg p2 0 59 := in_rgy (la := 0) (h17.2 c18) (rg_all _) r13 (by decide) (by decide)
        refine lv_aload_n hx hb dX10_write_49 rfl (lv_at hl 0 rfl) ?_
        refine t_getX C hH hI.1 mq tq td_40 iX10 rfl 3 (by decide) wd989 rfl (hI.rf kq_3) dX10_write_50 ?_
        refine lv_bipush (v := (60 : Int32)) hx hb dX10_write_53 (by decide) ?_
        refine lv_iload_n hx hb dX10_write_55 rfl (lv_at hl 1 rfl) ?_
        refine lv_imul hx hb dX10_write_56 ?_
        refine lv_topi (fun z21 ez21 => ?_)
        have r22 : rg z21 0 180 := rg_mul ez21 rl_60 r8 (by decide)
        refine lv_iload_n hx hb dX10_write_57 rfl (lv_at hl 2 rfl) ?_
        refine lv_iadd hx hb dX10_write_58 ?_
        refine lv_topi (fun z23 ez23 => ?_)
        have r24 : rg z23 0 239 := rg_add ez23 r22 r20 (by decide)
        refine lv_lload_n hx hb dX10_write_59 rfl (lv_at hl 3 rfl) ?_
        refine lv_aload_n hx hb dX10_write_60 rfl (lv_at hl 0 rfl) ?_
        refine t_getX C hH hI.1 mq tq td_40 iX10 rfl 1 (by decide) wd994 rfl (hI.rf kq_1) dX10_write_61 ?_
        refine lv_iload_n hx hb dX10_write_64 rfl (lv_at hl 1 rfl) ?_
        refine t_ald C hH hI.1 mq_1 tq_1 td_41 (rg_in r8 (by decide)) dX10_write_65 (fun z25v az25 _ => ?_)
        refine lv_topi (fun z25 ez25 => ?_)
        refine t_Sl C hO hl.1 hA hH (As := [.long p3, .int z25]) (rest := [.int z23, .ref q_3]) (t_X10_cut l E J τ L f14 hI.1 p3 z25) my_X10_cut wd1044 rfl rfl (Nat.le_of_ble_eq_true rfl) ⟨Nat.le_of_ble_eq_true rfl, Nat.le_of_ble_eq_true rfl⟩ ⟨rfl, rfl⟩ dX10_write_66 (fun r27 L1 f26 H locs hp hH => ?_)
        obtain ⟨rfl, s28, h29⟩ := hp
        have hI := hI.call s28 (by decide)
        refine t_last C hH hI mq_3 tq_3 (by decide) td_43 (rg_in r24 (by decide)) dX10_write_69 (fun f30 H locs hH hI bf30 => ?_)
        refine lv_iconst (v := (0 : Int32)) hx hb dX10_write_70 (by decide) ?_
        exact g_iret C hr hH (Nat.zero_le _) (Nat.zero_le _) dX10_write_71 ⟨rfl, hI, (rg_w rl_0 (by decide))⟩
      · skip
        have r31 : rg r15 0 0 := rf_eql (c_eq c18) h17.1 rl_0 (by decide)
        refine lv_bipush (v := (-7 : Int32)) hx hb dX10_write_46 (by decide) ?_
        exact g_iret C hr hH (Nat.zero_le _) (Nat.zero_le _) dX10_write_48 ⟨rfl, hI, (rg_w rl_m7 (by decide))⟩
    · skip
      have r32 : rg z9 (-1) (-1) := rf_eql (c_eq c10) (rg_all _) rl_m1 (by decide)
      refine lv_bipush (v := (-6 : Int32)) hx hb dX10_write_25 (by decide) ?_
      exact g_iret C hr hH (Nat.zero_le _) (Nat.zero_le _) dX10_write_27 ⟨rfl, hI, (rg_w rl_m6 (by decide))⟩
  · skip
    have r33 : rg r3 0 0 := rf_eql (c_eq c6) h5.1 rl_0 (by decide)
    refine lv_bipush (v := (-2 : Int32)) hx hb dX10_write_12 (by decide) ?_
    exact g_iret C hr hH (Nat.zero_le _) (Nat.zero_le _) dX10_write_14 ⟨rfl, hI, (rg_w rl_m2 (by decide))⟩
set_option maxHeartbeats 4000000 in
set_option maxRecDepth 100000 in
theorem t_X10_paste (l : Launch) (E : gE) (J : Nat → Nat) (τ : Nat → Nat) (L : List Nat) (f : gF) (hI : tI E L τ f) {q : Nat} (mq : q ∈ L) (tq : τ q = 40) (p1 : Int32) (p2 : Int32) (p3 : Int32) (p4 : Int32) (p5 : Int32) : tMi l E J yX10_paste cX10_paste 7 .int (gRm (3) 0 0) [.ref q, .int p1, .int p2, .int p3, .int p4, .int p5] L f (tPi E L τ [40, 43, 44] f (fun r f1 => rg r (-2147483648) 2147483647)) := by
  refine tMi.intro (by decide) (Nat.le_of_ble_eq_true rfl) ?_
  intro p e s m below meth c A ls C hr hA hO hH hl
  have C : gC E cX10_paste 7 RX10 p s m _ meth c := C
  have hl : lv_has ls 7 [(0, .ref q), (1, .int p1), (2, .int p2), (3, .int p3), (4, .int p4), (5, .int p5)] := hl
  have hx := C.1
  have hb := C.2.1
  have hI := hI.S [40, 43, 44]
  obtain ⟨q_1, mq_1, tq_1, kq_1⟩ := t_fldr hI.1 mq tq td_40 (k := 1) rfl
  obtain ⟨q_2, mq_2, tq_2, kq_2⟩ := t_fldr hI.1 mq tq td_40 (k := 2) rfl
  obtain ⟨q_4, mq_4, tq_4, kq_4⟩ := t_fldr hI.1 mq tq td_40 (k := 4) rfl
  obtain ⟨q_3, mq_3, tq_3, kq_3⟩ := t_fldr hI.1 mq tq td_40 (k := 3) rfl
  have cut118 : ∀ (n : Nat) (fh118 : gF) (H : Heap) (locs : List Loc) (ls : Array Slot) (v118_6 : Int32), 60 - v118_6.toInt < (n : Int) → tS E L τ [40, 43, 44] f fh118 → gH E A L fh118 s.heap H locs → rg v118_6 0 60 → rg p1 0 3 → rg p2 0 2147483647 → rg p3 0 3 → rg p4 0 2147483647 → rg p5 0 60 → p2.toInt + p5.toInt ≤ 60 → p4.toInt + p5.toInt ≤ 60 → lv_has ls 7 [(0, .ref q), (1, .int p1), (2, .int p2), (3, .int p3), (4, .int p4), (5, .int p5), (6, .int v118_6)] → W p l e (gRm (3) 0 0) s m [.ref q, .int p1, .int p2, .int p3, .int p4, .int p5].toArray below meth c H locs 0 0 (MQ below (gQi E A (tPi E L τ [40, 43, 44] f (fun r f1 => rg r (-2147483648) 2147483647))) [.ref q, .int p1, .int p2, .int p3, .int p4, .int p5].toArray s (gRm (3) 0 0).cells (gRm (3) 0 0).slots A) (F0 m 118 ls []) := by
    intro n
    induction n with
    | zero =>
      intro fh118 H locs ls v118_6 hfu118 hI hH r_v118_6 r118_p1 r118_p2 r118_p3 r118_p4 r118_p5 F118_p2 F118_p4 hl
      exact (fu_0 hfu118 r_v118_6).elim
    | succ n ih118 =>
      intro fh118 H locs ls v118_6 hfu118 hI hH r_v118_6 r118_p1 r118_p2 r118_p3 r118_p4 r118_p5 F118_p2 F118_p4 hl
      have cut155 : ∀ (n : Nat) (fh155 : gF) (H : Heap) (locs : List Loc) (ls : Array Slot) (v155_6 : Int32), 60 - v155_6.toInt < (n : Int) → tS E L τ [40, 43, 44] f fh155 → gH E A L fh155 s.heap H locs → rg v155_6 0 60 → lv_has ls 7 [(0, .ref q), (1, .int p1), (2, .int p2), (3, .int p3), (4, .int p4), (5, .int p5), (6, .int v155_6)] → W p l e (gRm (3) 0 0) s m [.ref q, .int p1, .int p2, .int p3, .int p4, .int p5].toArray below meth c H locs 0 0 (MQ below (gQi E A (tPi E L τ [40, 43, 44] f (fun r f1 => rg r (-2147483648) 2147483647))) [.ref q, .int p1, .int p2, .int p3, .int p4, .int p5].toArray s (gRm (3) 0 0).cells (gRm (3) 0 0).slots A) (F0 m 155 ls []) := by
        intro n
        induction n with
        | zero =>
          intro fh155 H locs ls v155_6 hfu155 hI hH r_v155_6 hl
          exact (fu_0 hfu155 r_v155_6).elim
        | succ n ih155 =>
          intro fh155 H locs ls v155_6 hfu155 hI hH r_v155_6 hl
          refine lv_iload hx hb dX10_paste_155 (lv_at hl 6 rfl) ?_
          refine lv_iload hx hb dX10_paste_157 (lv_at hl 5 rfl) ?_
          refine lv_icmp_ge (tgt := 190) hx hb dX10_paste_159 (by decide) (fun c1 => ?_) (fun c1 => ?_)
          · skip
            refine lv_iconst (v := (0 : Int32)) hx hb dX10_paste_190 (by decide) ?_
            exact g_iret C hr hH (Nat.zero_le _) (Nat.zero_le _) dX10_paste_191 ⟨rfl, hI, (rg_w rl_0 (by decide))⟩
          · skip
            have r2 : rg v155_6 0 59 := rf_ltl (n_le c1) r_v155_6 r118_p5 (by decide)
            have r3 : rg p5 1 60 := rf_ltr (n_le c1) r_v155_6 r118_p5 (by decide)
            refine lv_aload_n hx hb dX10_paste_162 rfl (lv_at hl 0 rfl) ?_
            refine t_getX C hH hI.1 mq tq td_40 iX10 rfl 3 (by decide) wd989 rfl (hI.rf kq_3) dX10_paste_163 ?_
            refine lv_bipush (v := (60 : Int32)) hx hb dX10_paste_166 (by decide) ?_
            refine lv_iload_n hx hb dX10_paste_168 rfl (lv_at hl 3 rfl) ?_
            refine lv_imul hx hb dX10_paste_169 ?_
            refine lv_topi (fun z4 ez4 => ?_)
            have r5 : rg z4 0 180 := rg_mul ez4 rl_60 r118_p3 (by decide)
            refine lv_iload hx hb dX10_paste_170 (lv_at hl 4 rfl) ?_
            refine lv_iadd hx hb dX10_paste_172 ?_
            refine lv_topi (fun z6 ez6 => ?_)
            refine lv_iload hx hb dX10_paste_173 (lv_at hl 6 rfl) ?_
            refine lv_iadd hx hb dX10_paste_175 ?_
            refine lv_topi (fun z7 ez7 => ?_)
            refine lv_aload_n hx hb dX10_paste_176 rfl (lv_at hl 0 rfl) ?_
            refine t_getX C hH hI.1 mq tq td_40 iX10 rfl 4 (by decide) wd1045 rfl (hI.rf kq_4) dX10_paste_177 ?_
            refine lv_iload hx hb dX10_paste_180 (lv_at hl 6 rfl) ?_
            refine t_lald C hH hI.1 mq_4 tq_4 td_44 (rg_in r2 (by decide)) dX10_paste_182 (fun z8v az8 => ?_)
            refine lv_topl (fun z8 ez8 => ?_)
            refine t_last C hH hI mq_3 tq_3 (by decide) td_43 (pst_in r118_p3 r118_p4 F118_p4 (rg_w r2 (by decide)) (n_le c1) ez4 ez6 ez7) dX10_paste_183 (fun f9 H locs hH hI bf9 => ?_)
            obtain ⟨z10, ez10⟩ : ∃ y : Int32, y = v155_6 + (1 : Int32) := ⟨_, rfl⟩
            have r11 : rg z10 1 60 := rg_add ez10 r2 rl_1 (by decide)
            have a12 : z10.toInt = v155_6.toInt + 1 := ai_add ez10 r2 tl_1 (by decide)
            refine lv_iinc (v := z10) (lv' := [(6, .int z10), (0, .ref q), (1, .int p1), (2, .int p2), (3, .int p3), (4, .int p4), (5, .int p5)]) hx hb dX10_paste_184 hl (k := 6) rfl (by rw [ez10]; rfl) (by decide) rfl (fun ls hl => ?_)
            refine lv_goto (tgt := 155) hx hb dX10_paste_187 (by decide) ?_
            exact ih155 _ _ _ _ z10 (fu_s hfu155 a12 (by decide)) hI hH (rg_w r11 (by decide)) (lv_sub hl [1, 2, 3, 4, 5, 6, 0] rfl)
      refine lv_iload hx hb dX10_paste_118 (lv_at hl 6 rfl) ?_
      refine lv_iload hx hb dX10_paste_120 (lv_at hl 5 rfl) ?_
      refine lv_icmp_ge (tgt := 152) hx hb dX10_paste_122 (by decide) (fun c13 => ?_) (fun c13 => ?_)
      · skip
        refine lv_iconst (v := (0 : Int32)) hx hb dX10_paste_152 (by decide) ?_
        refine lv_istore (lv' := [(6, .int (0 : Int32)), (0, .ref q), (1, .int p1), (2, .int p2), (3, .int p3), (4, .int p4), (5, .int p5)]) hx hb dX10_paste_153 hl (by decide) rfl (fun ls hl => ?_)
        exact cut155 61 _ _ _ _ (0 : Int32) (fu_i 61 rl_0 (by decide)) hI hH (rg_w rl_0 (by decide)) (lv_sub hl [1, 2, 3, 4, 5, 6, 0] rfl)
      · skip
        have r14 : rg v118_6 0 59 := rf_ltl (n_le c13) r_v118_6 r118_p5 (by decide)
        have r15 : rg p5 1 60 := rf_ltr (n_le c13) r_v118_6 r118_p5 (by decide)
        refine lv_aload_n hx hb dX10_paste_125 rfl (lv_at hl 0 rfl) ?_
        refine t_getX C hH hI.1 mq tq td_40 iX10 rfl 4 (by decide) wd1045 rfl (hI.rf kq_4) dX10_paste_126 ?_
        refine lv_iload hx hb dX10_paste_129 (lv_at hl 6 rfl) ?_
        refine lv_aload_n hx hb dX10_paste_131 rfl (lv_at hl 0 rfl) ?_
        refine t_getX C hH hI.1 mq tq td_40 iX10 rfl 3 (by decide) wd989 rfl (hI.rf kq_3) dX10_paste_132 ?_
        refine lv_bipush (v := (60 : Int32)) hx hb dX10_paste_135 (by decide) ?_
        refine lv_iload_n hx hb dX10_paste_137 rfl (lv_at hl 1 rfl) ?_
        refine lv_imul hx hb dX10_paste_138 ?_
        refine lv_topi (fun z16 ez16 => ?_)
        have r17 : rg z16 0 180 := rg_mul ez16 rl_60 r118_p1 (by decide)
        refine lv_iload_n hx hb dX10_paste_139 rfl (lv_at hl 2 rfl) ?_
        refine lv_iadd hx hb dX10_paste_140 ?_
        refine lv_topi (fun z18 ez18 => ?_)
        refine lv_iload hx hb dX10_paste_141 (lv_at hl 6 rfl) ?_
        refine lv_iadd hx hb dX10_paste_143 ?_
        refine lv_topi (fun z19 ez19 => ?_)
        refine t_lald C hH hI.1 mq_3 tq_3 td_43 (pst_in r118_p1 r118_p2 F118_p2 (rg_w r14 (by decide)) (n_le c13) ez16 ez18 ez19) dX10_paste_144 (fun z20v az20 => ?_)
        refine lv_topl (fun z20 ez20 => ?_)
        refine t_last C hH hI mq_4 tq_4 (by decide) td_44 (rg_in r14 (by decide)) dX10_paste_145 (fun f21 H locs hH hI bf21 => ?_)
        obtain ⟨z22, ez22⟩ : ∃ y : Int32, y = v118_6 + (1 : Int32) := ⟨_, rfl⟩
        have r23 : rg z22 1 60 := rg_add ez22 r14 rl_1 (by decide)
        have a24 : z22.toInt = v118_6.toInt + 1 := ai_add ez22 r14 tl_1 (by decide)
        refine lv_iinc (v := z22) (lv' := [(6, .int z22), (0, .ref q), (1, .int p1), (2, .int p2), (3, .int p3), (4, .int p4), (5, .int p5)]) hx hb dX10_paste_146 hl (k := 6) rfl (by rw [ez22]; rfl) (by decide) rfl (fun ls hl => ?_)
        refine lv_goto (tgt := 118) hx hb dX10_paste_149 (by decide) ?_
        exact ih118 _ _ _ _ z22 (fu_s hfu118 a24 (by decide)) hI hH (rg_w r23 (by decide)) r118_p1 r118_p2 r118_p3 r118_p4 (rg_w r15 (by decide)) F118_p2 F118_p4 (lv_sub hl [1, 2, 3, 4, 5, 6, 0] rfl)
  refine lv_aload_n hx hb dX10_paste_0 rfl (lv_at hl 0 rfl) ?_
  refine lv_iconst (v := (0 : Int32)) hx hb dX10_paste_1 (by decide) ?_
  refine t_put C hH hI mq tq (by decide) td_40 iX10 tyX10 tyX10_ok nmX10 rfl 0 (by decide) wd855 rfl rfl (v := .int (0 : Int32)) rfl rfl rfl ⟨_, rfl, (rg_w rl_0 (by decide))⟩ (fun _ h => nomatch h) dX10_paste_2 (fun f25 H locs hH hI nf25 of25 bf25 => ?_)
  refine lv_iload_n hx hb dX10_paste_5 rfl (lv_at hl 1 rfl) ?_
  refine t_Si C hO hl.1 hA hH (As := [.int p1]) (rest := []) (t_X10_isSlot l E J τ L f25 hI.1 p1) my_X10_isSlot wd993 rfl rfl (Nat.le_of_ble_eq_true rfl) ⟨Nat.le_of_ble_eq_true rfl, Nat.le_of_ble_eq_true rfl⟩ ⟨rfl, rfl⟩ dX10_paste_6 (fun r27 L1 f26 H locs hp hH => ?_)
  obtain ⟨rfl, s28, h29⟩ := hp
  have hI := hI.call s28 (by decide)
  refine lv_if_eq (tgt := 19) hx hb dX10_paste_9 (by decide) (fun c30 => ?_) (fun c30 => ?_)
  · skip
    have r31 : rg r27 0 0 := rf_eql (c_eq c30) h29.1 rl_0 (by decide)
    refine lv_bipush (v := (-2 : Int32)) hx hb dX10_paste_19 (by decide) ?_
    exact g_iret C hr hH (Nat.zero_le _) (Nat.zero_le _) dX10_paste_21 ⟨rfl, hI, (rg_w rl_m2 (by decide))⟩
  · skip
    have r32 : rg r27 1 1 := rf_nel (n_eq c30) h29.1 rl_0 (by decide)
    have r33 : rg p1 0 3 := h29.2 c30
    refine lv_iload_n hx hb dX10_paste_12 rfl (lv_at hl 3 rfl) ?_
    refine t_Si C hO hl.1 hA hH (As := [.int p3]) (rest := []) (t_X10_isSlot l E J τ L f26 hI.1 p3) my_X10_isSlot wd993 rfl rfl (Nat.le_of_ble_eq_true rfl) ⟨Nat.le_of_ble_eq_true rfl, Nat.le_of_ble_eq_true rfl⟩ ⟨rfl, rfl⟩ dX10_paste_13 (fun r35 L1 f34 H locs hp hH => ?_)
    obtain ⟨rfl, s36, h37⟩ := hp
    have hI := hI.call s36 (by decide)
    refine lv_if_ne (tgt := 22) hx hb dX10_paste_16 (by decide) (fun c38 => ?_) (fun c38 => ?_)
    · skip
      have r39 : rg r35 1 1 := rf_nel (n_eq c38) h37.1 rl_0 (by decide)
      have r40 : rg p3 0 3 := h37.2 c38
      refine lv_aload_n hx hb dX10_paste_22 rfl (lv_at hl 0 rfl) ?_
      refine t_getX C hH hI.1 mq tq td_40 iX10 rfl 1 (by decide) wd994 rfl (hI.rf kq_1) dX10_paste_23 ?_
      refine lv_iload_n hx hb dX10_paste_26 rfl (lv_at hl 1 rfl) ?_
      refine t_ald C hH hI.1 mq_1 tq_1 td_41 (rg_in r33 (by decide)) dX10_paste_27 (fun z41v az41 _ => ?_)
      refine lv_topi (fun z41 ez41 => ?_)
      refine lv_iconst (v := (-1 : Int32)) hx hb dX10_paste_28 (by decide) ?_
      refine lv_icmp_eq (tgt := 42) hx hb dX10_paste_29 (by decide) (fun c42 => ?_) (fun c42 => ?_)
      · skip
        have r43 : rg z41 (-1) (-1) := rf_eql (c_eq c42) (rg_all _) rl_m1 (by decide)
        refine lv_bipush (v := (-6 : Int32)) hx hb dX10_paste_42 (by decide) ?_
        exact g_iret C hr hH (Nat.zero_le _) (Nat.zero_le _) dX10_paste_44 ⟨rfl, hI, (rg_w rl_m6 (by decide))⟩
      · skip
        refine lv_aload_n hx hb dX10_paste_32 rfl (lv_at hl 0 rfl) ?_
        refine t_getX C hH hI.1 mq tq td_40 iX10 rfl 1 (by decide) wd994 rfl (hI.rf kq_1) dX10_paste_33 ?_
        refine lv_iload_n hx hb dX10_paste_36 rfl (lv_at hl 3 rfl) ?_
        refine t_ald C hH hI.1 mq_1 tq_1 td_41 (rg_in r40 (by decide)) dX10_paste_37 (fun z44v az44 _ => ?_)
        refine lv_topi (fun z44 ez44 => ?_)
        refine lv_iconst (v := (-1 : Int32)) hx hb dX10_paste_38 (by decide) ?_
        refine lv_icmp_ne (tgt := 45) hx hb dX10_paste_39 (by decide) (fun c45 => ?_) (fun c45 => ?_)
        · skip
          refine lv_aload_n hx hb dX10_paste_45 rfl (lv_at hl 0 rfl) ?_
          refine t_getX C hH hI.1 mq tq td_40 iX10 rfl 1 (by decide) wd994 rfl (hI.rf kq_1) dX10_paste_46 ?_
          refine lv_iload_n hx hb dX10_paste_49 rfl (lv_at hl 1 rfl) ?_
          refine t_ald C hH hI.1 mq_1 tq_1 td_41 (rg_in r33 (by decide)) dX10_paste_50 (fun z46v az46 _ => ?_)
          refine lv_topi (fun z46 ez46 => ?_)
          refine lv_aload_n hx hb dX10_paste_51 rfl (lv_at hl 0 rfl) ?_
          refine t_getX C hH hI.1 mq tq td_40 iX10 rfl 1 (by decide) wd994 rfl (hI.rf kq_1) dX10_paste_52 ?_
          refine lv_iload_n hx hb dX10_paste_55 rfl (lv_at hl 3 rfl) ?_
          refine t_ald C hH hI.1 mq_1 tq_1 td_41 (rg_in r40 (by decide)) dX10_paste_56 (fun z47v az47 _ => ?_)
          refine lv_topi (fun z47 ez47 => ?_)
          refine lv_icmp_eq (tgt := 63) hx hb dX10_paste_57 (by decide) (fun c48 => ?_) (fun c48 => ?_)
          · skip
            refine lv_iload_n hx hb dX10_paste_63 rfl (lv_at hl 2 rfl) ?_
            refine lv_if_lt (tgt := 112) hx hb dX10_paste_64 (by decide) (fun c49 => ?_) (fun c49 => ?_)
            · skip
              have r50 : rg p2 (-2147483648) (-1) := rf_ltl (c_lt c49) (rg_all _) rl_0 (by decide)
              refine lv_bipush (v := (-7 : Int32)) hx hb dX10_paste_112 (by decide) ?_
              exact g_iret C hr hH (Nat.zero_le _) (Nat.zero_le _) dX10_paste_114 ⟨rfl, hI, (rg_w rl_m7 (by decide))⟩
            · skip
              have r51 : rg p2 0 2147483647 := rf_ler (n_lt c49) rl_0 (rg_all _) (by decide)
              refine lv_iload hx hb dX10_paste_67 (lv_at hl 4 rfl) ?_
              refine lv_if_lt (tgt := 112) hx hb dX10_paste_69 (by decide) (fun c52 => ?_) (fun c52 => ?_)
              · skip
                have r53 : rg p4 (-2147483648) (-1) := rf_ltl (c_lt c52) (rg_all _) rl_0 (by decide)
                refine lv_bipush (v := (-7 : Int32)) hx hb dX10_paste_112 (by decide) ?_
                exact g_iret C hr hH (Nat.zero_le _) (Nat.zero_le _) dX10_paste_114 ⟨rfl, hI, (rg_w rl_m7 (by decide))⟩
              · skip
                have r54 : rg p4 0 2147483647 := rf_ler (n_lt c52) rl_0 (rg_all _) (by decide)
                refine lv_iload hx hb dX10_paste_72 (lv_at hl 5 rfl) ?_
                refine lv_if_lt (tgt := 112) hx hb dX10_paste_74 (by decide) (fun c55 => ?_) (fun c55 => ?_)
                · skip
                  have r56 : rg p5 (-2147483648) (-1) := rf_ltl (c_lt c55) (rg_all _) rl_0 (by decide)
                  refine lv_bipush (v := (-7 : Int32)) hx hb dX10_paste_112 (by decide) ?_
                  exact g_iret C hr hH (Nat.zero_le _) (Nat.zero_le _) dX10_paste_114 ⟨rfl, hI, (rg_w rl_m7 (by decide))⟩
                · skip
                  have r57 : rg p5 0 2147483647 := rf_ler (n_lt c55) rl_0 (rg_all _) (by decide)
                  refine lv_iload_n hx hb dX10_paste_77 rfl (lv_at hl 2 rfl) ?_
                  refine lv_i2l (v := (p2).toInt64) hx hb dX10_paste_78 rfl ?_
                  refine lv_iload hx hb dX10_paste_79 (lv_at hl 5 rfl) ?_
                  refine lv_i2l (v := (p5).toInt64) hx hb dX10_paste_81 rfl ?_
                  refine lv_ladd hx hb dX10_paste_82 ?_
                  refine lv_topl (fun z58 ez58 => ?_)
                  refine lv_aload_n hx hb dX10_paste_83 rfl (lv_at hl 0 rfl) ?_
                  refine t_getX C hH hI.1 mq tq td_40 iX10 rfl 2 (by decide) wd988 rfl (hI.rf kq_2) dX10_paste_84 ?_
                  refine lv_iload_n hx hb dX10_paste_87 rfl (lv_at hl 1 rfl) ?_
                  refine t_aldR C hH hI.1 mq_2 tq_2 td_42 (rg_in r33 (by decide)) dX10_paste_88 (fun z59 rz59 => ?_)
                  refine lv_i2l (v := (z59).toInt64) hx hb dX10_paste_89 rfl ?_
                  refine W.lcmp hx hb dX10_paste_90 ?_
                  refine lv_topi (fun z60 ez60 => ?_)
                  refine lv_if_gt (tgt := 112) hx hb dX10_paste_91 (by decide) (fun c61 => ?_) (fun c61 => ?_)
                  · skip
                    have r62 : rg z60 1 2147483647 := rf_ltr (c_lt c61) rl_0 (rg_all _) (by decide)
                    refine lv_bipush (v := (-7 : Int32)) hx hb dX10_paste_112 (by decide) ?_
                    exact g_iret C hr hH (Nat.zero_le _) (Nat.zero_le _) dX10_paste_114 ⟨rfl, hI, (rg_w rl_m7 (by decide))⟩
                  · skip
                    have r63 : rg z60 (-2147483648) 0 := rf_lel (n_lt c61) (rg_all _) rl_0 (by decide)
                    have F64 : p2.toInt + p5.toInt ≤ 60 := pst_ok ez60 ez58 rfl (n_lt c61) r51 r57 rz59
                    have r65 : rg p5 0 60 := pst_n F64 r51 r57
                    refine lv_iload hx hb dX10_paste_94 (lv_at hl 4 rfl) ?_
                    refine lv_i2l (v := (p4).toInt64) hx hb dX10_paste_96 rfl ?_
                    refine lv_iload hx hb dX10_paste_97 (lv_at hl 5 rfl) ?_
                    refine lv_i2l (v := (p5).toInt64) hx hb dX10_paste_99 rfl ?_
                    refine lv_ladd hx hb dX10_paste_100 ?_
                    refine lv_topl (fun z66 ez66 => ?_)
                    refine lv_aload_n hx hb dX10_paste_101 rfl (lv_at hl 0 rfl) ?_
                    refine t_getX C hH hI.1 mq tq td_40 iX10 rfl 2 (by decide) wd988 rfl (hI.rf kq_2) dX10_paste_102 ?_
                    refine lv_iload_n hx hb dX10_paste_105 rfl (lv_at hl 3 rfl) ?_
                    refine t_aldR C hH hI.1 mq_2 tq_2 td_42 (rg_in r40 (by decide)) dX10_paste_106 (fun z67 rz67 => ?_)
                    refine lv_i2l (v := (z67).toInt64) hx hb dX10_paste_107 rfl ?_
                    refine W.lcmp hx hb dX10_paste_108 ?_
                    refine lv_topi (fun z68 ez68 => ?_)
                    refine lv_if_le (tgt := 115) hx hb dX10_paste_109 (by decide) (fun c69 => ?_) (fun c69 => ?_)
                    · skip
                      have r70 : rg z68 (-2147483648) 0 := rf_lel (c_le c69) (rg_all _) rl_0 (by decide)
                      have F71 : p4.toInt + p5.toInt ≤ 60 := pst_ok ez68 ez66 rfl (c_le c69) r54 (rg_w r65 (by decide)) rz67
                      have r72 : rg p5 0 60 := pst_n F71 r54 (rg_w r65 (by decide))
                      refine lv_iconst (v := (0 : Int32)) hx hb dX10_paste_115 (by decide) ?_
                      refine lv_istore (lv' := [(6, .int (0 : Int32)), (0, .ref q), (1, .int p1), (2, .int p2), (3, .int p3), (4, .int p4), (5, .int p5)]) hx hb dX10_paste_116 hl (by decide) rfl (fun ls hl => ?_)
                      exact cut118 61 _ _ _ _ (0 : Int32) (fu_i 61 rl_0 (by decide)) hI hH (rg_w rl_0 (by decide)) r33 r51 r40 r54 r72 F64 F71 (lv_sub hl [1, 2, 3, 4, 5, 6, 0] rfl)
                    · skip
                      have r73 : rg z68 1 2147483647 := rf_ltr (n_le c69) rl_0 (rg_all _) (by decide)
                      refine lv_bipush (v := (-7 : Int32)) hx hb dX10_paste_112 (by decide) ?_
                      exact g_iret C hr hH (Nat.zero_le _) (Nat.zero_le _) dX10_paste_114 ⟨rfl, hI, (rg_w rl_m7 (by decide))⟩
          · skip
            refine lv_bipush (v := (-8 : Int32)) hx hb dX10_paste_60 (by decide) ?_
            exact g_iret C hr hH (Nat.zero_le _) (Nat.zero_le _) dX10_paste_62 ⟨rfl, hI, (rg_w rl_m8 (by decide))⟩
        · skip
          have r74 : rg z44 (-1) (-1) := rf_eql (c_eq c45) (rg_all _) rl_m1 (by decide)
          refine lv_bipush (v := (-6 : Int32)) hx hb dX10_paste_42 (by decide) ?_
          exact g_iret C hr hH (Nat.zero_le _) (Nat.zero_le _) dX10_paste_44 ⟨rfl, hI, (rg_w rl_m6 (by decide))⟩
    · skip
      have r75 : rg r35 0 0 := rf_eql (c_eq c38) h37.1 rl_0 (by decide)
      refine lv_bipush (v := (-2 : Int32)) hx hb dX10_paste_19 (by decide) ?_
      exact g_iret C hr hH (Nat.zero_le _) (Nat.zero_le _) dX10_paste_21 ⟨rfl, hI, (rg_w rl_m2 (by decide))⟩
set_option maxHeartbeats 4000000 in
set_option maxRecDepth 100000 in
theorem t_X10_four (l : Launch) (E : gE) (J : Nat → Nat) (τ : Nat → Nat) (L : List Nat) (f : gF) (hI : tI E L τ f) {q : Nat} (mq : q ∈ L) (tq : τ q = 40) (p1 : Int32) {tp : Int32} (htp : fld f q 6 (.int tp)) (rtp : rg tp 0 796) : tMv l E J yX10_four cX10_four 3 (gRm (1) 0 0) [.ref q, .int p1] L f (tPv E L τ [40, 45] f (fun f1 => (∃ tp1 : Int32, fld f1 q 6 (.int tp1) ∧ tp1.toInt = tp.toInt + 4))) := by
  refine tMv.intro (by decide) (Nat.le_of_ble_eq_true rfl) ?_
  intro p e s m below meth c A ls C hr hA hO hH hl
  have C : gC E cX10_four 3 RX10 p s m _ meth c := C
  have hl : lv_has ls 3 [(0, .ref q), (1, .int p1)] := hl
  have hx := C.1
  have hb := C.2.1
  have hI := hI.S [40, 45]
  obtain ⟨q_5, mq_5, tq_5, kq_5⟩ := t_fldr hI.1 mq tq td_40 (k := 5) rfl
  refine lv_bipush (v := (24 : Int32)) hx hb dX10_four_0 (by decide) ?_
  refine lv_istore_n (lv' := [(2, .int (24 : Int32)), (0, .ref q), (1, .int p1)]) hx hb dX10_four_2 rfl hl (by decide) rfl (fun ls hl => ?_)
  refine lv_iload_n hx hb dX10_four_3 rfl (lv_at hl 0 rfl) ?_
  refine lv_if_lt (tgt := 36) hx hb dX10_four_4 (by decide) (fun h => absurd h (by decide)) (fun _ => ?_)
  refine lv_aload_n hx hb dX10_four_7 rfl (lv_at hl 1 rfl) ?_
  refine t_getX C hH hI.1 mq tq td_40 iX10 rfl 5 (by decide) wd1046 rfl (hI.rf kq_5) dX10_four_8 ?_
  refine lv_aload_n hx hb dX10_four_11 rfl (lv_at hl 1 rfl) ?_
  refine t_getX C hH hI.1 mq tq td_40 iX10 rfl 6 (by decide) wd919 rfl htp dX10_four_12 ?_
  refine lv_iload_n hx hb dX10_four_15 rfl (lv_at hl 2 rfl) ?_
  refine lv_iload_n hx hb dX10_four_16 rfl (lv_at hl 0 rfl) ?_
  refine lv_ishr hx hb dX10_four_17 ?_
  refine lv_topi (fun z1 ez1 => ?_)
  refine lv_i2b (v := _) hx hb dX10_four_18 rfl ?_
  refine lv_topi (fun z2 ez2 => ?_)
  refine t_bast C hH hI mq_5 tq_5 (by decide) td_45 (rg_in rtp (by decide)) dX10_four_19 (fun f3 H locs hH hI bf3 => ?_)
  have k4 : fld f3 q 6 (.int tp) := fld.eq htp (bf3 q (ty_ne tq tq_5 rfl))
  refine lv_aload_n hx hb dX10_four_20 rfl (lv_at hl 1 rfl) ?_
  refine lv_dup hx hb dX10_four_21 rfl ?_
  refine t_getX C hH hI.1 mq tq td_40 iX10 rfl 6 (by decide) wd919 rfl k4 dX10_four_22 ?_
  refine lv_iconst (v := (1 : Int32)) hx hb dX10_four_25 (by decide) ?_
  refine lv_iadd hx hb dX10_four_26 ?_
  refine lv_topi (fun z5 ez5 => ?_)
  have r6 : rg z5 1 797 := rg_add ez5 rtp rl_1 (by decide)
  have a7 : z5.toInt = tp.toInt + 1 := ai_add ez5 rtp tl_1 (by decide)
  refine t_put C hH hI mq tq (by decide) td_40 iX10 tyX10 tyX10_ok nmX10 rfl 6 (by decide) wd919 rfl rfl (v := .int z5) rfl rfl rfl ⟨_, rfl, (rg_w r6 (by decide))⟩ (fun _ h => nomatch h) dX10_four_27 (fun f8 H locs hH hI nf8 of8 bf8 => ?_)
  refine lv_iinc (v := (16 : Int32)) (lv' := [(2, .int (16 : Int32)), (0, .ref q), (1, .int p1)]) hx hb dX10_four_30 hl (k := 0) rfl (by decide) (by decide) rfl (fun ls hl => ?_)
  refine lv_goto (tgt := 3) hx hb dX10_four_33 (by decide) ?_
  refine lv_iload_n hx hb dX10_four_3 rfl (lv_at hl 0 rfl) ?_
  refine lv_if_lt (tgt := 36) hx hb dX10_four_4 (by decide) (fun h => absurd h (by decide)) (fun _ => ?_)
  refine lv_aload_n hx hb dX10_four_7 rfl (lv_at hl 1 rfl) ?_
  refine t_getX C hH hI.1 mq tq td_40 iX10 rfl 5 (by decide) wd1046 rfl (hI.rf kq_5) dX10_four_8 ?_
  refine lv_aload_n hx hb dX10_four_11 rfl (lv_at hl 1 rfl) ?_
  refine t_getX C hH hI.1 mq tq td_40 iX10 rfl 6 (by decide) wd919 rfl nf8 dX10_four_12 ?_
  refine lv_iload_n hx hb dX10_four_15 rfl (lv_at hl 2 rfl) ?_
  refine lv_iload_n hx hb dX10_four_16 rfl (lv_at hl 0 rfl) ?_
  refine lv_ishr hx hb dX10_four_17 ?_
  refine lv_topi (fun z9 ez9 => ?_)
  refine lv_i2b (v := _) hx hb dX10_four_18 rfl ?_
  refine lv_topi (fun z10 ez10 => ?_)
  refine t_bast C hH hI mq_5 tq_5 (by decide) td_45 (rg_in r6 (by decide)) dX10_four_19 (fun f11 H locs hH hI bf11 => ?_)
  have k12 : fld f11 q 6 (.int z5) := fld.eq nf8 (bf11 q (ty_ne tq tq_5 rfl))
  refine lv_aload_n hx hb dX10_four_20 rfl (lv_at hl 1 rfl) ?_
  refine lv_dup hx hb dX10_four_21 rfl ?_
  refine t_getX C hH hI.1 mq tq td_40 iX10 rfl 6 (by decide) wd919 rfl k12 dX10_four_22 ?_
  refine lv_iconst (v := (1 : Int32)) hx hb dX10_four_25 (by decide) ?_
  refine lv_iadd hx hb dX10_four_26 ?_
  refine lv_topi (fun z13 ez13 => ?_)
  have r14 : rg z13 2 798 := rg_add ez13 r6 rl_1 (by decide)
  have a15 : z13.toInt = z5.toInt + 1 := ai_add ez13 r6 tl_1 (by decide)
  refine t_put C hH hI mq tq (by decide) td_40 iX10 tyX10 tyX10_ok nmX10 rfl 6 (by decide) wd919 rfl rfl (v := .int z13) rfl rfl rfl ⟨_, rfl, (rg_w r14 (by decide))⟩ (fun _ h => nomatch h) dX10_four_27 (fun f16 H locs hH hI nf16 of16 bf16 => ?_)
  refine lv_iinc (v := (8 : Int32)) (lv' := [(2, .int (8 : Int32)), (0, .ref q), (1, .int p1)]) hx hb dX10_four_30 hl (k := 0) rfl (by decide) (by decide) rfl (fun ls hl => ?_)
  refine lv_goto (tgt := 3) hx hb dX10_four_33 (by decide) ?_
  refine lv_iload_n hx hb dX10_four_3 rfl (lv_at hl 0 rfl) ?_
  refine lv_if_lt (tgt := 36) hx hb dX10_four_4 (by decide) (fun h => absurd h (by decide)) (fun _ => ?_)
  refine lv_aload_n hx hb dX10_four_7 rfl (lv_at hl 1 rfl) ?_
  refine t_getX C hH hI.1 mq tq td_40 iX10 rfl 5 (by decide) wd1046 rfl (hI.rf kq_5) dX10_four_8 ?_
  refine lv_aload_n hx hb dX10_four_11 rfl (lv_at hl 1 rfl) ?_
  refine t_getX C hH hI.1 mq tq td_40 iX10 rfl 6 (by decide) wd919 rfl nf16 dX10_four_12 ?_
  refine lv_iload_n hx hb dX10_four_15 rfl (lv_at hl 2 rfl) ?_
  refine lv_iload_n hx hb dX10_four_16 rfl (lv_at hl 0 rfl) ?_
  refine lv_ishr hx hb dX10_four_17 ?_
  refine lv_topi (fun z17 ez17 => ?_)
  refine lv_i2b (v := _) hx hb dX10_four_18 rfl ?_
  refine lv_topi (fun z18 ez18 => ?_)
  refine t_bast C hH hI mq_5 tq_5 (by decide) td_45 (rg_in r14 (by decide)) dX10_four_19 (fun f19 H locs hH hI bf19 => ?_)
  have k20 : fld f19 q 6 (.int z13) := fld.eq nf16 (bf19 q (ty_ne tq tq_5 rfl))
  refine lv_aload_n hx hb dX10_four_20 rfl (lv_at hl 1 rfl) ?_
  refine lv_dup hx hb dX10_four_21 rfl ?_
  refine t_getX C hH hI.1 mq tq td_40 iX10 rfl 6 (by decide) wd919 rfl k20 dX10_four_22 ?_
  refine lv_iconst (v := (1 : Int32)) hx hb dX10_four_25 (by decide) ?_
  refine lv_iadd hx hb dX10_four_26 ?_
  refine lv_topi (fun z21 ez21 => ?_)
  have r22 : rg z21 3 799 := rg_add ez21 r14 rl_1 (by decide)
  have a23 : z21.toInt = z13.toInt + 1 := ai_add ez21 r14 tl_1 (by decide)
  refine t_put C hH hI mq tq (by decide) td_40 iX10 tyX10 tyX10_ok nmX10 rfl 6 (by decide) wd919 rfl rfl (v := .int z21) rfl rfl rfl ⟨_, rfl, (rg_w r22 (by decide))⟩ (fun _ h => nomatch h) dX10_four_27 (fun f24 H locs hH hI nf24 of24 bf24 => ?_)
  refine lv_iinc (v := (0 : Int32)) (lv' := [(2, .int (0 : Int32)), (0, .ref q), (1, .int p1)]) hx hb dX10_four_30 hl (k := 0) rfl (by decide) (by decide) rfl (fun ls hl => ?_)
  refine lv_goto (tgt := 3) hx hb dX10_four_33 (by decide) ?_
  refine lv_iload_n hx hb dX10_four_3 rfl (lv_at hl 0 rfl) ?_
  refine lv_if_lt (tgt := 36) hx hb dX10_four_4 (by decide) (fun h => absurd h (by decide)) (fun _ => ?_)
  refine lv_aload_n hx hb dX10_four_7 rfl (lv_at hl 1 rfl) ?_
  refine t_getX C hH hI.1 mq tq td_40 iX10 rfl 5 (by decide) wd1046 rfl (hI.rf kq_5) dX10_four_8 ?_
  refine lv_aload_n hx hb dX10_four_11 rfl (lv_at hl 1 rfl) ?_
  refine t_getX C hH hI.1 mq tq td_40 iX10 rfl 6 (by decide) wd919 rfl nf24 dX10_four_12 ?_
  refine lv_iload_n hx hb dX10_four_15 rfl (lv_at hl 2 rfl) ?_
  refine lv_iload_n hx hb dX10_four_16 rfl (lv_at hl 0 rfl) ?_
  refine lv_ishr hx hb dX10_four_17 ?_
  refine lv_topi (fun z25 ez25 => ?_)
  refine lv_i2b (v := _) hx hb dX10_four_18 rfl ?_
  refine lv_topi (fun z26 ez26 => ?_)
  refine t_bast C hH hI mq_5 tq_5 (by decide) td_45 (rg_in r22 (by decide)) dX10_four_19 (fun f27 H locs hH hI bf27 => ?_)
  have k28 : fld f27 q 6 (.int z21) := fld.eq nf24 (bf27 q (ty_ne tq tq_5 rfl))
  refine lv_aload_n hx hb dX10_four_20 rfl (lv_at hl 1 rfl) ?_
  refine lv_dup hx hb dX10_four_21 rfl ?_
  refine t_getX C hH hI.1 mq tq td_40 iX10 rfl 6 (by decide) wd919 rfl k28 dX10_four_22 ?_
  refine lv_iconst (v := (1 : Int32)) hx hb dX10_four_25 (by decide) ?_
  refine lv_iadd hx hb dX10_four_26 ?_
  refine lv_topi (fun z29 ez29 => ?_)
  have r30 : rg z29 4 800 := rg_add ez29 r22 rl_1 (by decide)
  have a31 : z29.toInt = z21.toInt + 1 := ai_add ez29 r22 tl_1 (by decide)
  refine t_put C hH hI mq tq (by decide) td_40 iX10 tyX10 tyX10_ok nmX10 rfl 6 (by decide) wd919 rfl rfl (v := .int z29) rfl rfl rfl ⟨_, rfl, (rg_w r30 (by decide))⟩ (fun _ h => nomatch h) dX10_four_27 (fun f32 H locs hH hI nf32 of32 bf32 => ?_)
  refine lv_iinc (v := (-8 : Int32)) (lv' := [(2, .int (-8 : Int32)), (0, .ref q), (1, .int p1)]) hx hb dX10_four_30 hl (k := 0) rfl (by decide) (by decide) rfl (fun ls hl => ?_)
  refine lv_goto (tgt := 3) hx hb dX10_four_33 (by decide) ?_
  refine lv_iload_n hx hb dX10_four_3 rfl (lv_at hl 0 rfl) ?_
  refine lv_if_lt (tgt := 36) hx hb dX10_four_4 (by decide) (fun _ => ?_) (fun h => absurd (by decide) h)
  exact g_vret C hr hH (Nat.zero_le _) (Nat.zero_le _) dX10_four_36 ⟨rfl, hI, ⟨_, nf32, (by have h0 := a7; have h1 := a15; have h2 := a23; have h3 := a31; omega)⟩⟩
set_option maxHeartbeats 4000000 in
set_option maxRecDepth 100000 in
theorem t_X10_feed (l : Launch) (E : gE) (J : Nat → Nat) (τ : Nat → Nat) (L : List Nat) (f : gF) (hI : tI E L τ f) {q : Nat} (mq : q ∈ L) (tq : τ q = 40) (p1 : Int32) (p2 : Int32) (p3 : Int32) (p4 : Int32) (p5 : Int32) : tMi l E J yX10_feed cX10_feed 6 .int (gRm (2) 0 0) [.ref q, .int p1, .int p2, .int p3, .int p4, .int p5] L f (tPi E L τ [40, 45] f (fun r f1 => rg r (-2147483648) 2147483647)) := by
  refine tMi.intro (by decide) (Nat.le_of_ble_eq_true rfl) ?_
  intro p e s m below meth c A ls C hr hA hO hH hl
  have C : gC E cX10_feed 6 RX10 p s m _ meth c := C
  have hl : lv_has ls 6 [(0, .ref q), (1, .int p1), (2, .int p2), (3, .int p3), (4, .int p4), (5, .int p5)] := hl
  have hx := C.1
  have hb := C.2.1
  have hI := hI.S [40, 45]
  refine lv_aload_n hx hb dX10_feed_0 rfl (lv_at hl 0 rfl) ?_
  refine lv_iconst (v := (0 : Int32)) hx hb dX10_feed_1 (by decide) ?_
  refine t_put C hH hI mq tq (by decide) td_40 iX10 tyX10 tyX10_ok nmX10 rfl 0 (by decide) wd855 rfl rfl (v := .int (0 : Int32)) rfl rfl rfl ⟨_, rfl, (rg_w rl_0 (by decide))⟩ (fun _ h => nomatch h) dX10_feed_2 (fun f1 H locs hH hI nf1 of1 bf1 => ?_)
  refine lv_aload_n hx hb dX10_feed_5 rfl (lv_at hl 0 rfl) ?_
  obtain ⟨z2, rz2, kz2⟩ := t_fldi hI.1 mq tq td_40 (k := 6) rfl
  refine t_getX C hH hI.1 mq tq td_40 iX10 rfl 6 (by decide) wd919 rfl kz2 dX10_feed_6 ?_
  refine lv_bipush (v := (20 : Int32)) hx hb dX10_feed_9 (by decide) ?_
  refine lv_iadd hx hb dX10_feed_11 ?_
  refine lv_topi (fun z3 ez3 => ?_)
  have r4 : rg z3 20 820 := rg_add ez3 rz2 rl_20 (by decide)
  have a5 : z3.toInt = z2.toInt + 20 := ai_add ez3 rz2 tl_20 (by decide)
  refine lv_sipush (v := (800 : Int32)) hx hb dX10_feed_12 (by decide) ?_
  refine lv_icmp_le (tgt := 20) hx hb dX10_feed_15 (by decide) (fun c6 => ?_) (fun c6 => ?_)
  · skip
    have r7 : rg z3 20 800 := rf_lel (c_le c6) r4 rl_800 (by decide)
    have r8 : rg z2 0 780 := ai_bk a5 r7 rz2 (by decide)
    refine lv_aload_n hx hb dX10_feed_20 rfl (lv_at hl 0 rfl) ?_
    refine lv_iload_n hx hb dX10_feed_21 rfl (lv_at hl 1 rfl) ?_
    refine t_Vv C hO hl.1 hA hH hI.1 (As := [.int p1]) (rest := []) (t_X10_four l E J τ L f1 hI.1 mq tq p1 (tp := z2) kz2 (rg_w r8 (by decide))) my_X10_four wd1050 mq tq td_40 rfl rfl rfl (Nat.le_of_ble_eq_true rfl) ⟨Nat.le_of_ble_eq_true rfl, Nat.le_of_ble_eq_true rfl⟩ ⟨rfl, rfl⟩ dX10_feed_22 (fun L1 f9 H locs hp hH => ?_)
    obtain ⟨rfl, s11, h12⟩ := hp
    have hJ := hI
    have hI := hI.call s11 (by decide)
    obtain ⟨z13, kz13, xz13⟩ := h12
    have r14 : rg z13 4 784 := ex_rg xz13 r8 (by decide)
    refine lv_aload_n hx hb dX10_feed_25 rfl (lv_at hl 0 rfl) ?_
    refine lv_iload_n hx hb dX10_feed_26 rfl (lv_at hl 2 rfl) ?_
    refine t_Vv C hO hl.1 hA hH hI.1 (As := [.int p2]) (rest := []) (t_X10_four l E J τ L f9 hI.1 mq tq p2 (tp := z13) kz13 (rg_w r14 (by decide))) my_X10_four wd1050 mq tq td_40 rfl rfl rfl (Nat.le_of_ble_eq_true rfl) ⟨Nat.le_of_ble_eq_true rfl, Nat.le_of_ble_eq_true rfl⟩ ⟨rfl, rfl⟩ dX10_feed_27 (fun L1 f15 H locs hp hH => ?_)
    obtain ⟨rfl, s17, h18⟩ := hp
    have hJ := hI
    have hI := hI.call s17 (by decide)
    obtain ⟨z19, kz19, xz19⟩ := h18
    have r20 : rg z19 8 788 := ex_rg xz19 r14 (by decide)
    refine lv_aload_n hx hb dX10_feed_30 rfl (lv_at hl 0 rfl) ?_
    refine lv_iload_n hx hb dX10_feed_31 rfl (lv_at hl 3 rfl) ?_
    refine t_Vv C hO hl.1 hA hH hI.1 (As := [.int p3]) (rest := []) (t_X10_four l E J τ L f15 hI.1 mq tq p3 (tp := z19) kz19 (rg_w r20 (by decide))) my_X10_four wd1050 mq tq td_40 rfl rfl rfl (Nat.le_of_ble_eq_true rfl) ⟨Nat.le_of_ble_eq_true rfl, Nat.le_of_ble_eq_true rfl⟩ ⟨rfl, rfl⟩ dX10_feed_32 (fun L1 f21 H locs hp hH => ?_)
    obtain ⟨rfl, s23, h24⟩ := hp
    have hJ := hI
    have hI := hI.call s23 (by decide)
    obtain ⟨z25, kz25, xz25⟩ := h24
    have r26 : rg z25 12 792 := ex_rg xz25 r20 (by decide)
    refine lv_aload_n hx hb dX10_feed_35 rfl (lv_at hl 0 rfl) ?_
    refine lv_iload hx hb dX10_feed_36 (lv_at hl 4 rfl) ?_
    refine t_Vv C hO hl.1 hA hH hI.1 (As := [.int p4]) (rest := []) (t_X10_four l E J τ L f21 hI.1 mq tq p4 (tp := z25) kz25 (rg_w r26 (by decide))) my_X10_four wd1050 mq tq td_40 rfl rfl rfl (Nat.le_of_ble_eq_true rfl) ⟨Nat.le_of_ble_eq_true rfl, Nat.le_of_ble_eq_true rfl⟩ ⟨rfl, rfl⟩ dX10_feed_38 (fun L1 f27 H locs hp hH => ?_)
    obtain ⟨rfl, s29, h30⟩ := hp
    have hJ := hI
    have hI := hI.call s29 (by decide)
    obtain ⟨z31, kz31, xz31⟩ := h30
    have r32 : rg z31 16 796 := ex_rg xz31 r26 (by decide)
    refine lv_aload_n hx hb dX10_feed_41 rfl (lv_at hl 0 rfl) ?_
    refine lv_iload hx hb dX10_feed_42 (lv_at hl 5 rfl) ?_
    refine t_Vv C hO hl.1 hA hH hI.1 (As := [.int p5]) (rest := []) (t_X10_four l E J τ L f27 hI.1 mq tq p5 (tp := z31) kz31 (rg_w r32 (by decide))) my_X10_four wd1050 mq tq td_40 rfl rfl rfl (Nat.le_of_ble_eq_true rfl) ⟨Nat.le_of_ble_eq_true rfl, Nat.le_of_ble_eq_true rfl⟩ ⟨rfl, rfl⟩ dX10_feed_44 (fun L1 f33 H locs hp hH => ?_)
    obtain ⟨rfl, s35, h36⟩ := hp
    have hJ := hI
    have hI := hI.call s35 (by decide)
    obtain ⟨z37, kz37, xz37⟩ := h36
    have r38 : rg z37 20 800 := ex_rg xz37 r32 (by decide)
    refine lv_aload_n hx hb dX10_feed_47 rfl (lv_at hl 0 rfl) ?_
    refine t_getX C hH hI.1 mq tq td_40 iX10 rfl 6 (by decide) wd919 rfl kz37 dX10_feed_48 ?_
    exact g_iret C hr hH (Nat.zero_le _) (Nat.zero_le _) dX10_feed_51 ⟨rfl, hI, (rg_w r38 (by decide))⟩
  · skip
    have r39 : rg z3 801 820 := rf_ltr (n_le c6) rl_800 r4 (by decide)
    have r40 : rg z2 781 800 := ai_bk a5 r39 rz2 (by decide)
    refine lv_iconst (v := (-1 : Int32)) hx hb dX10_feed_18 (by decide) ?_
    exact g_iret C hr hH (Nat.zero_le _) (Nat.zero_le _) dX10_feed_19 ⟨rfl, hI, (rg_w rl_m1 (by decide))⟩
set_option maxHeartbeats 4000000 in
set_option maxRecDepth 100000 in
theorem t_X10_count (l : Launch) (E : gE) (J : Nat → Nat) (τ : Nat → Nat) (L : List Nat) (f : gF) (hI : tI E L τ f) {q : Nat} (mq : q ∈ L) (tq : τ q = 40) (p1 : Int32) : tMi l E J yX10_count cX10_count 4 .int (gRm (2) 0 0) [.ref q, .int p1] L f (tPi E L τ [40] f (fun r f1 => rg r (-2147483648) 2147483647)) := by
  refine tMi.intro (by decide) (Nat.le_of_ble_eq_true rfl) ?_
  intro p e s m below meth c A ls C hr hA hO hH hl
  have C : gC E cX10_count 4 RX10 p s m _ meth c := C
  have hl : lv_has ls 4 [(0, .ref q), (1, .int p1)] := hl
  have hx := C.1
  have hb := C.2.1
  have hI := hI.S [40]
  obtain ⟨q_17, mq_17, tq_17, kq_17⟩ := t_fldr hI.1 mq tq td_40 (k := 17) rfl
  obtain ⟨q_16, mq_16, tq_16, kq_16⟩ := t_fldr hI.1 mq tq td_40 (k := 16) rfl
  obtain ⟨q_1, mq_1, tq_1, kq_1⟩ := t_fldr hI.1 mq tq td_40 (k := 1) rfl
  have cut107 : ∀ (n : Nat) (fh107 : gF) (H : Heap) (locs : List Loc) (ls : Array Slot) (v107_2 : Int32) (v107_3 : Int32), 4 - v107_3.toInt < (n : Int) → tS E L τ [40] f fh107 → gH E A L fh107 s.heap H locs → rg v107_3 0 4 → rg p1 11 11 → lv_has ls 4 [(0, .ref q), (1, .int p1), (2, .int v107_2), (3, .int v107_3)] → W p l e (gRm (2) 0 0) s m [.ref q, .int p1].toArray below meth c H locs 0 0 (MQ below (gQi E A (tPi E L τ [40] f (fun r f1 => rg r (-2147483648) 2147483647))) [.ref q, .int p1].toArray s (gRm (2) 0 0).cells (gRm (2) 0 0).slots A) (F0 m 107 ls []) := by
    intro n
    induction n with
    | zero =>
      intro fh107 H locs ls v107_2 v107_3 hfu107 hI hH r_v107_3 r107_p1 hl
      exact (fu_0 hfu107 r_v107_3).elim
    | succ n ih107 =>
      intro fh107 H locs ls v107_2 v107_3 hfu107 hI hH r_v107_3 r107_p1 hl
      refine lv_iload_n hx hb dX10_count_107 rfl (lv_at hl 3 rfl) ?_
      refine lv_iconst (v := (4 : Int32)) hx hb dX10_count_108 (by decide) ?_
      refine lv_icmp_ge (tgt := 136) hx hb dX10_count_109 (by decide) (fun c1 => ?_) (fun c1 => ?_)
      · skip
        have r2 : rg v107_3 4 4 := rf_ler (c_le c1) rl_4 r_v107_3 (by decide)
        refine lv_iload_n hx hb dX10_count_136 rfl (lv_at hl 2 rfl) ?_
        exact g_iret C hr hH (Nat.zero_le _) (Nat.zero_le _) dX10_count_137 ⟨rfl, hI, (rg_all _)⟩
      · skip
        have r3 : rg v107_3 0 3 := rf_ltl (n_le c1) r_v107_3 rl_4 (by decide)
        refine lv_iload_n hx hb dX10_count_112 rfl (lv_at hl 2 rfl) ?_
        refine lv_aload_n hx hb dX10_count_113 rfl (lv_at hl 0 rfl) ?_
        refine t_getX C hH hI.1 mq tq td_40 iX10 rfl 1 (by decide) wd994 rfl (hI.rf kq_1) dX10_count_114 ?_
        refine lv_iload_n hx hb dX10_count_117 rfl (lv_at hl 3 rfl) ?_
        refine t_ald C hH hI.1 mq_1 tq_1 td_41 (rg_in r3 (by decide)) dX10_count_118 (fun z4v az4 _ => ?_)
        refine lv_topi (fun z4 ez4 => ?_)
        refine lv_iconst (v := (-1 : Int32)) hx hb dX10_count_119 (by decide) ?_
        refine lv_icmp_ne (tgt := 127) hx hb dX10_count_120 (by decide) (fun c5 => ?_) (fun c5 => ?_)
        · skip
          refine lv_iconst (v := (1 : Int32)) hx hb dX10_count_127 (by decide) ?_
          refine lv_iadd hx hb dX10_count_128 ?_
          refine lv_topi (fun z6 ez6 => ?_)
          refine lv_istore_n (lv' := [(2, .int z6), (0, .ref q), (1, .int p1), (3, .int v107_3)]) hx hb dX10_count_129 rfl hl (by decide) rfl (fun ls hl => ?_)
          obtain ⟨z7, ez7⟩ : ∃ y : Int32, y = v107_3 + (1 : Int32) := ⟨_, rfl⟩
          have r8 : rg z7 1 4 := rg_add ez7 r3 rl_1 (by decide)
          have a9 : z7.toInt = v107_3.toInt + 1 := ai_add ez7 r3 tl_1 (by decide)
          refine lv_iinc (v := z7) (lv' := [(3, .int z7), (2, .int z6), (0, .ref q), (1, .int p1)]) hx hb dX10_count_130 hl (k := 3) rfl (by rw [ez7]; rfl) (by decide) rfl (fun ls hl => ?_)
          refine lv_goto (tgt := 107) hx hb dX10_count_133 (by decide) ?_
          exact ih107 _ _ _ _ z6 z7 (fu_s hfu107 a9 (by decide)) hI hH (rg_w r8 (by decide)) r107_p1 (lv_sub hl [2, 3, 1, 0] rfl)
        · skip
          have r10 : rg z4 (-1) (-1) := rf_eql (c_eq c5) (rg_all _) rl_m1 (by decide)
          refine lv_iconst (v := (0 : Int32)) hx hb dX10_count_123 (by decide) ?_
          refine lv_goto (tgt := 128) hx hb dX10_count_124 (by decide) ?_
          refine lv_iadd hx hb dX10_count_128 ?_
          refine lv_topi (fun z11 ez11 => ?_)
          have r12 : rg z11 (-2147483648) 2147483647 := rg_add ez11 (rg_all _) rl_0 (by decide)
          have a13 : z11.toInt = v107_2.toInt + 0 := ai_add ez11 (rg_all _) tl_0 (by decide)
          refine lv_istore_n (lv' := [(2, .int z11), (0, .ref q), (1, .int p1), (3, .int v107_3)]) hx hb dX10_count_129 rfl hl (by decide) rfl (fun ls hl => ?_)
          obtain ⟨z14, ez14⟩ : ∃ y : Int32, y = v107_3 + (1 : Int32) := ⟨_, rfl⟩
          have r15 : rg z14 1 4 := rg_add ez14 r3 rl_1 (by decide)
          have a16 : z14.toInt = v107_3.toInt + 1 := ai_add ez14 r3 tl_1 (by decide)
          refine lv_iinc (v := z14) (lv' := [(3, .int z14), (2, .int z11), (0, .ref q), (1, .int p1)]) hx hb dX10_count_130 hl (k := 3) rfl (by rw [ez14]; rfl) (by decide) rfl (fun ls hl => ?_)
          refine lv_goto (tgt := 107) hx hb dX10_count_133 (by decide) ?_
          exact ih107 _ _ _ _ z11 z14 (fu_s hfu107 a16 (by decide)) hI hH (rg_w r15 (by decide)) r107_p1 (lv_sub hl [2, 3, 1, 0] rfl)
  refine lv_aload_n hx hb dX10_count_0 rfl (lv_at hl 0 rfl) ?_
  refine lv_iconst (v := (0 : Int32)) hx hb dX10_count_1 (by decide) ?_
  refine t_put C hH hI mq tq (by decide) td_40 iX10 tyX10 tyX10_ok nmX10 rfl 0 (by decide) wd855 rfl rfl (v := .int (0 : Int32)) rfl rfl rfl ⟨_, rfl, (rg_w rl_0 (by decide))⟩ (fun _ h => nomatch h) dX10_count_2 (fun f17 H locs hH hI nf17 of17 bf17 => ?_)
  refine lv_iconst (v := (0 : Int32)) hx hb dX10_count_5 (by decide) ?_
  refine lv_istore_n (lv' := [(2, .int (0 : Int32)), (0, .ref q), (1, .int p1)]) hx hb dX10_count_6 rfl hl (by decide) rfl (fun ls hl => ?_)
  refine lv_iload_n hx hb dX10_count_7 rfl (lv_at hl 2 rfl) ?_
  rcases g_sw p1 0 11 (by decide) with c18 | ⟨j, hj, ej⟩
  · refine lv_tableOut (tgt := 138) hx hb dX10_count_8 c18 (by decide) ?_
    refine lv_iconst (v := (-1 : Int32)) hx hb dX10_count_138 (by decide) ?_
    exact g_iret C hr hH (Nat.zero_le _) (Nat.zero_le _) dX10_count_139 ⟨rfl, hI, (rg_w rl_m1 (by decide))⟩
  · rcases (show j = 0 ∨ j = 1 ∨ j = 2 ∨ j = 3 ∨ j = 4 ∨ j = 5 ∨ j = 6 ∨ j = 7 ∨ j = 8 ∨ j = 9 ∨ j = 10 ∨ j = 11 by omega) with rfl | rfl | rfl | rfl | rfl | rfl | rfl | rfl | rfl | rfl | rfl | rfl
    · have y19 : p1 = (0 : Int32) := g_swE ej (by decide)
      have r20 : rg p1 0 0 := by rw [y19]; exact rl_0
      refine lv_tableIn (tgt := 72) (off := 64) hx hb dX10_count_8 (by rw [y19]; decide) (by rw [y19]; decide) (by rw [y19]; decide) (by decide) ?_
      refine lv_aload_n hx hb dX10_count_72 rfl (lv_at hl 1 rfl) ?_
      refine t_getX C hH hI.1 mq tq td_40 iX10 rfl 17 (by decide) wd747 rfl (hI.rf kq_17) dX10_count_73 ?_
      refine lv_iload_n hx hb dX10_count_76 rfl (lv_at hl 2 rfl) ?_
      refine t_ald C hH hI.1 mq_17 tq_17 td_47 (rg_in r20 (by decide)) dX10_count_77 (fun z21v az21 pz21 => ?_)
      refine lv_topi (fun z21 ez21 => ?_)
      exact g_iret C hr hH (Nat.zero_le _) (Nat.zero_le _) dX10_count_78 ⟨rfl, hI, (rg_all _)⟩
    · have y22 : p1 = (1 : Int32) := g_swE ej (by decide)
      have r23 : rg p1 1 1 := by rw [y22]; exact rl_1
      refine lv_tableIn (tgt := 72) (off := 64) hx hb dX10_count_8 (by rw [y22]; decide) (by rw [y22]; decide) (by rw [y22]; decide) (by decide) ?_
      refine lv_aload_n hx hb dX10_count_72 rfl (lv_at hl 1 rfl) ?_
      refine t_getX C hH hI.1 mq tq td_40 iX10 rfl 17 (by decide) wd747 rfl (hI.rf kq_17) dX10_count_73 ?_
      refine lv_iload_n hx hb dX10_count_76 rfl (lv_at hl 2 rfl) ?_
      refine t_ald C hH hI.1 mq_17 tq_17 td_47 (rg_in r23 (by decide)) dX10_count_77 (fun z24v az24 pz24 => ?_)
      refine lv_topi (fun z24 ez24 => ?_)
      exact g_iret C hr hH (Nat.zero_le _) (Nat.zero_le _) dX10_count_78 ⟨rfl, hI, (rg_all _)⟩
    · have y25 : p1 = (2 : Int32) := g_swE ej (by decide)
      have r26 : rg p1 2 2 := by rw [y25]; exact rl_2
      refine lv_tableIn (tgt := 72) (off := 64) hx hb dX10_count_8 (by rw [y25]; decide) (by rw [y25]; decide) (by rw [y25]; decide) (by decide) ?_
      refine lv_aload_n hx hb dX10_count_72 rfl (lv_at hl 1 rfl) ?_
      refine t_getX C hH hI.1 mq tq td_40 iX10 rfl 17 (by decide) wd747 rfl (hI.rf kq_17) dX10_count_73 ?_
      refine lv_iload_n hx hb dX10_count_76 rfl (lv_at hl 2 rfl) ?_
      refine t_ald C hH hI.1 mq_17 tq_17 td_47 (rg_in r26 (by decide)) dX10_count_77 (fun z27v az27 pz27 => ?_)
      refine lv_topi (fun z27 ez27 => ?_)
      exact g_iret C hr hH (Nat.zero_le _) (Nat.zero_le _) dX10_count_78 ⟨rfl, hI, (rg_all _)⟩
    · have y28 : p1 = (3 : Int32) := g_swE ej (by decide)
      have r29 : rg p1 3 3 := by rw [y28]; exact rl_3
      refine lv_tableIn (tgt := 72) (off := 64) hx hb dX10_count_8 (by rw [y28]; decide) (by rw [y28]; decide) (by rw [y28]; decide) (by decide) ?_
      refine lv_aload_n hx hb dX10_count_72 rfl (lv_at hl 1 rfl) ?_
      refine t_getX C hH hI.1 mq tq td_40 iX10 rfl 17 (by decide) wd747 rfl (hI.rf kq_17) dX10_count_73 ?_
      refine lv_iload_n hx hb dX10_count_76 rfl (lv_at hl 2 rfl) ?_
      refine t_ald C hH hI.1 mq_17 tq_17 td_47 (rg_in r29 (by decide)) dX10_count_77 (fun z30v az30 pz30 => ?_)
      refine lv_topi (fun z30 ez30 => ?_)
      exact g_iret C hr hH (Nat.zero_le _) (Nat.zero_le _) dX10_count_78 ⟨rfl, hI, (rg_all _)⟩
    · have y31 : p1 = (4 : Int32) := g_swE ej (by decide)
      have r32 : rg p1 4 4 := by rw [y31]; exact rl_4
      refine lv_tableIn (tgt := 72) (off := 64) hx hb dX10_count_8 (by rw [y31]; decide) (by rw [y31]; decide) (by rw [y31]; decide) (by decide) ?_
      refine lv_aload_n hx hb dX10_count_72 rfl (lv_at hl 1 rfl) ?_
      refine t_getX C hH hI.1 mq tq td_40 iX10 rfl 17 (by decide) wd747 rfl (hI.rf kq_17) dX10_count_73 ?_
      refine lv_iload_n hx hb dX10_count_76 rfl (lv_at hl 2 rfl) ?_
      refine t_ald C hH hI.1 mq_17 tq_17 td_47 (rg_in r32 (by decide)) dX10_count_77 (fun z33v az33 pz33 => ?_)
      refine lv_topi (fun z33 ez33 => ?_)
      exact g_iret C hr hH (Nat.zero_le _) (Nat.zero_le _) dX10_count_78 ⟨rfl, hI, (rg_all _)⟩
    · have y34 : p1 = (5 : Int32) := g_swE ej (by decide)
      have r35 : rg p1 5 5 := by rw [y34]; exact rl_5
      refine lv_tableIn (tgt := 79) (off := 71) hx hb dX10_count_8 (by rw [y34]; decide) (by rw [y34]; decide) (by rw [y34]; decide) (by decide) ?_
      refine lv_aload_n hx hb dX10_count_79 rfl (lv_at hl 1 rfl) ?_
      refine t_Vi C hO hl.1 hA hH hI.1 (As := []) (rest := []) (t_X10_cellsAll l E J τ L f17 hI.1 mq tq) my_X10_cellsAll wd760 mq tq td_40 rfl rfl rfl (Nat.le_of_ble_eq_true rfl) ⟨Nat.le_of_ble_eq_true rfl, Nat.le_of_ble_eq_true rfl⟩ ⟨rfl, rfl⟩ dX10_count_80 (fun r37 L1 f36 H locs hp hH => ?_)
      obtain ⟨rfl, s38, h39⟩ := hp
      have hJ := hI
      have hI := hI.call s38 (by decide)
      exact g_iret C hr hH (Nat.zero_le _) (Nat.zero_le _) dX10_count_83 ⟨rfl, hI, (rg_w h39.1 (by decide))⟩
    · have y40 : p1 = (6 : Int32) := g_swE ej (by decide)
      have r41 : rg p1 6 6 := by rw [y40]; exact rl_6
      refine lv_tableIn (tgt := 84) (off := 76) hx hb dX10_count_8 (by rw [y40]; decide) (by rw [y40]; decide) (by rw [y40]; decide) (by decide) ?_
      refine lv_aload_n hx hb dX10_count_84 rfl (lv_at hl 1 rfl) ?_
      refine t_getX C hH hI.1 mq tq td_40 iX10 rfl 17 (by decide) wd747 rfl (hI.rf kq_17) dX10_count_85 ?_
      refine lv_iload_n hx hb dX10_count_88 rfl (lv_at hl 2 rfl) ?_
      refine lv_iconst (v := (1 : Int32)) hx hb dX10_count_89 (by decide) ?_
      refine lv_isub hx hb dX10_count_90 ?_
      refine lv_topi (fun z42 ez42 => ?_)
      have r43 : rg z42 5 5 := rg_sub ez42 r41 rl_1 (by decide)
      refine t_ald C hH hI.1 mq_17 tq_17 td_47 (rg_in r43 (by decide)) dX10_count_91 (fun z44v az44 pz44 => ?_)
      refine lv_topi (fun z44 ez44 => ?_)
      exact g_iret C hr hH (Nat.zero_le _) (Nat.zero_le _) dX10_count_92 ⟨rfl, hI, (rg_all _)⟩
    · have y45 : p1 = (7 : Int32) := g_swE ej (by decide)
      have r46 : rg p1 7 7 := by rw [y45]; exact rl_7
      refine lv_tableIn (tgt := 84) (off := 76) hx hb dX10_count_8 (by rw [y45]; decide) (by rw [y45]; decide) (by rw [y45]; decide) (by decide) ?_
      refine lv_aload_n hx hb dX10_count_84 rfl (lv_at hl 1 rfl) ?_
      refine t_getX C hH hI.1 mq tq td_40 iX10 rfl 17 (by decide) wd747 rfl (hI.rf kq_17) dX10_count_85 ?_
      refine lv_iload_n hx hb dX10_count_88 rfl (lv_at hl 2 rfl) ?_
      refine lv_iconst (v := (1 : Int32)) hx hb dX10_count_89 (by decide) ?_
      refine lv_isub hx hb dX10_count_90 ?_
      refine lv_topi (fun z47 ez47 => ?_)
      have r48 : rg z47 6 6 := rg_sub ez47 r46 rl_1 (by decide)
      refine t_ald C hH hI.1 mq_17 tq_17 td_47 (rg_in r48 (by decide)) dX10_count_91 (fun z49v az49 pz49 => ?_)
      refine lv_topi (fun z49 ez49 => ?_)
      exact g_iret C hr hH (Nat.zero_le _) (Nat.zero_le _) dX10_count_92 ⟨rfl, hI, (rg_all _)⟩
    · have y50 : p1 = (8 : Int32) := g_swE ej (by decide)
      have r51 : rg p1 8 8 := by rw [y50]; exact rl_8
      refine lv_tableIn (tgt := 84) (off := 76) hx hb dX10_count_8 (by rw [y50]; decide) (by rw [y50]; decide) (by rw [y50]; decide) (by decide) ?_
      refine lv_aload_n hx hb dX10_count_84 rfl (lv_at hl 1 rfl) ?_
      refine t_getX C hH hI.1 mq tq td_40 iX10 rfl 17 (by decide) wd747 rfl (hI.rf kq_17) dX10_count_85 ?_
      refine lv_iload_n hx hb dX10_count_88 rfl (lv_at hl 2 rfl) ?_
      refine lv_iconst (v := (1 : Int32)) hx hb dX10_count_89 (by decide) ?_
      refine lv_isub hx hb dX10_count_90 ?_
      refine lv_topi (fun z52 ez52 => ?_)
      have r53 : rg z52 7 7 := rg_sub ez52 r51 rl_1 (by decide)
      refine t_ald C hH hI.1 mq_17 tq_17 td_47 (rg_in r53 (by decide)) dX10_count_91 (fun z54v az54 pz54 => ?_)
      refine lv_topi (fun z54 ez54 => ?_)
      exact g_iret C hr hH (Nat.zero_le _) (Nat.zero_le _) dX10_count_92 ⟨rfl, hI, (rg_all _)⟩
    · have y55 : p1 = (9 : Int32) := g_swE ej (by decide)
      have r56 : rg p1 9 9 := by rw [y55]; exact rl_9
      refine lv_tableIn (tgt := 93) (off := 85) hx hb dX10_count_8 (by rw [y55]; decide) (by rw [y55]; decide) (by rw [y55]; decide) (by decide) ?_
      refine lv_aload_n hx hb dX10_count_93 rfl (lv_at hl 1 rfl) ?_
      refine t_getX C hH hI.1 mq tq td_40 iX10 rfl 16 (by decide) wd748 rfl (hI.rf kq_16) dX10_count_94 ?_
      refine lv_iconst (v := (0 : Int32)) hx hb dX10_count_97 (by decide) ?_
      refine t_ald C hH hI.1 mq_16 tq_16 td_46 (rg_in rl_0 (by decide)) dX10_count_98 (fun z57v az57 _ => ?_)
      refine lv_topi (fun z57 ez57 => ?_)
      exact g_iret C hr hH (Nat.zero_le _) (Nat.zero_le _) dX10_count_99 ⟨rfl, hI, (rg_all _)⟩
    · have y58 : p1 = (10 : Int32) := g_swE ej (by decide)
      have r59 : rg p1 10 10 := by rw [y58]; exact rl_10
      refine lv_tableIn (tgt := 100) (off := 92) hx hb dX10_count_8 (by rw [y58]; decide) (by rw [y58]; decide) (by rw [y58]; decide) (by decide) ?_
      refine lv_aload_n hx hb dX10_count_100 rfl (lv_at hl 1 rfl) ?_
      refine t_geti C hH hI.1 mq tq td_40 iX10 rfl 6 (by decide) wd919 rfl rfl dX10_count_101 (fun z60 rz60 => ?_)
      exact g_iret C hr hH (Nat.zero_le _) (Nat.zero_le _) dX10_count_104 ⟨rfl, hI, (rg_w rz60 (by decide))⟩
    · have y61 : p1 = (11 : Int32) := g_swE ej (by decide)
      have r62 : rg p1 11 11 := by rw [y61]; exact rl_11
      refine lv_tableIn (tgt := 105) (off := 97) hx hb dX10_count_8 (by rw [y61]; decide) (by rw [y61]; decide) (by rw [y61]; decide) (by decide) ?_
      refine lv_iconst (v := (0 : Int32)) hx hb dX10_count_105 (by decide) ?_
      refine lv_istore_n (lv' := [(3, .int (0 : Int32)), (2, .int (0 : Int32)), (0, .ref q), (1, .int p1)]) hx hb dX10_count_106 rfl hl (by decide) rfl (fun ls hl => ?_)
      exact cut107 5 _ _ _ _ (0 : Int32) (0 : Int32) (fu_i 5 rl_0 (by decide)) hI hH (rg_w rl_0 (by decide)) r62 (lv_sub hl [2, 3, 1, 0] rfl)
