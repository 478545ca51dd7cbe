/-! how many bits -/
def pcY (x : Int32) : Nat := (List.range 6).countP (fun k => x.toInt.toNat.testBit k)
theorem pcy_le (x : Int32) : pcY x ≤ 6 := List.countP_le_length
theorem pcy_all : ∀ k : Fin 64, k.val ≠ 0 → pcY (Int32.ofNat k.val &&& (Int32.ofNat k.val - 1)) + 1 = pcY (Int32.ofNat k.val) := by decide +kernel
theorem pcy_bit : ∀ k : Fin 64, ∀ j : Fin 6, ((Int32.ofNat k.val >>> Int32.ofNat j.val) &&& 1) = 1 → pcY (Int32.ofNat k.val &&& ~~~((1 : Int32) <<< Int32.ofNat j.val)) + 1 = pcY (Int32.ofNat k.val) := by decide +kernel
theorem pcy_s {v w z : Int32} (h : rg v 1 63) (e1 : w = v - 1) (e2 : z = v &&& w) : pcY z + 1 = pcY v := by
  obtain ⟨n, hn, hn2, -⟩ := rg_nat (b := 63) (x := v) (by unfold rg at *; omega)
  unfold rg at h
  have h1 := pcy_all ⟨n, by omega⟩ (by show n ≠ 0; omega)
  rw [e2, e1, hn]
  exact h1
theorem pz_0 {p : Int32} : (0 : Int32).toInt + (pcY p : Int) = (pcY p : Int) := by rw [show (0 : Int32).toInt = 0 from by decide, Int.zero_add]
theorem pz_n {n v z p : Int32} (F : n.toInt + (pcY v : Int) = (pcY p : Int)) (hn : rg n 0 6) (hv : rg v 1 63) (e : z = n + 1) : rg z 1 6 := by
  have h1 := pcy_s hv rfl rfl
  have h2 := pcy_le p
  have t1 : (1 : Int32).toInt = 1 := by decide
  unfold rg at *
  rw [e, Int32.toInt_add, t1, bmI (by omega) (by omega)]
  omega
theorem pz_s {n v z w x p : Int32} (F : n.toInt + (pcY v : Int) = (pcY p : Int)) (hn : rg n 0 6) (hv : rg v 1 63) (e : z = n + 1) (e1 : w = v - 1) (e2 : x = v &&& w) : z.toInt + (pcY x : Int) = (pcY p : Int) := by
  have h1 := pcy_s hv e1 e2
  have t1 : (1 : Int32).toInt = 1 := by decide
  unfold rg at hn
  have h3 : z.toInt = n.toInt + 1 := by rw [e, Int32.toInt_add, t1, bmI (by omega) (by omega)]
  omega
set_option maxHeartbeats 4000000 in
set_option maxRecDepth 100000 in
theorem t_waysOf_1 (l : Launch) (E : gE) (J : Nat → Nat) (τ : Nat → Nat) (L : List Nat) (f : gF) (hI : tI E L τ f) (p0 : Int32) (rp0 : rg p0 (-2147483648) 1) : tMi l E J yX10_waysOf cX10_waysOf 1 .int (gRm (1) 0 0) [.int p0] L f (tPi E L τ [] f (fun r f1 => rg r 1 1)) := by
  refine tMi.intro (by decide) (Nat.le_of_ble_eq_true rfl) ?_
  intro p e s m below meth c A ls C hr hA hO hH hl
  have C : gC E cX10_waysOf 1 RX10 p s m _ meth c := C
  have hl : lv_has ls 1 [(0, .int p0)] := hl
  have hx := C.1
  have hb := C.2.1
  have hI := hI.S []
  refine lv_iload_n hx hb dX10_waysOf_0 rfl (lv_at hl 0 rfl) ?_
  refine lv_iconst (v := (2 : Int32)) hx hb dX10_waysOf_1 (by decide) ?_
  refine lv_icmp_ge (tgt := 9) hx hb dX10_waysOf_2 (by decide) (fun c1 => ?_) (fun c1 => ?_)
  · skip
    exact (rg_no (show rg (2 : Int32) 2 1 from rf_lel (c_le c1) rl_2 rp0 (by decide)) (by decide)).elim
  · skip
    refine lv_iconst (v := (1 : Int32)) hx hb dX10_waysOf_5 (by decide) ?_
    refine lv_goto (tgt := 17) hx hb dX10_waysOf_6 (by decide) ?_
    exact g_iret C hr hH (Nat.zero_le _) (Nat.zero_le _) dX10_waysOf_17 ⟨rfl, hI, rl_1⟩
set_option maxHeartbeats 4000000 in
set_option maxRecDepth 100000 in
theorem t_waysOf_2 (l : Launch) (E : gE) (J : Nat → Nat) (τ : Nat → Nat) (L : List Nat) (f : gF) (hI : tI E L τ f) (p0 : Int32) (rp0 : rg p0 (-2147483648) 2) : tMi l E J yX10_waysOf cX10_waysOf 1 .int (gRm (2) 0 0) [.int p0] L f (tPi E L τ [] f (fun r f1 => rg r 1 2)) := by
  refine tMi.intro (by decide) (Nat.le_of_ble_eq_true rfl) ?_
  intro p e s m below meth c A ls C hr hA hO hH hl
  have C : gC E cX10_waysOf 1 RX10 p s m _ meth c := C
  have hl : lv_has ls 1 [(0, .int p0)] := hl
  have hx := C.1
  have hb := C.2.1
  have hI := hI.S []
  refine lv_iload_n hx hb dX10_waysOf_0 rfl (lv_at hl 0 rfl) ?_
  refine lv_iconst (v := (2 : Int32)) hx hb dX10_waysOf_1 (by decide) ?_
  refine lv_icmp_ge (tgt := 9) hx hb dX10_waysOf_2 (by decide) (fun c1 => ?_) (fun c1 => ?_)
  · skip
    have r2 : rg p0 2 2 := rf_ler (c_le c1) rl_2 rp0 (by decide)
    refine lv_iload_n hx hb dX10_waysOf_9 rfl (lv_at hl 0 rfl) ?_
    refine lv_iload_n hx hb dX10_waysOf_10 rfl (lv_at hl 0 rfl) ?_
    refine lv_iconst (v := (1 : Int32)) hx hb dX10_waysOf_11 (by decide) ?_
    refine lv_isub hx hb dX10_waysOf_12 ?_
    refine lv_topi (fun z3 ez3 => ?_)
    have r4 : rg z3 1 1 := rg_sub ez3 r2 rl_1 (by decide)
    refine t_Si C hO hl.1 hA hH (As := [.int z3]) (rest := [.int p0]) (t_waysOf_1 l E J τ L f hI.1 z3 (rg_w r4 (by decide))) my_X10_waysOf wd1161 rfl rfl (Nat.le_of_ble_eq_true rfl) ⟨Nat.le_of_ble_eq_true rfl, Nat.le_of_ble_eq_true rfl⟩ ⟨rfl, rfl⟩ dX10_waysOf_13 (fun r6 L1 f5 H locs hp hH => ?_)
    obtain ⟨rfl, s7, h8⟩ := hp
    have hI := hI.call s7 (by decide)
    refine lv_imul hx hb dX10_waysOf_16 ?_
    refine lv_topi (fun z9 ez9 => ?_)
    have r10 : rg z9 2 2 := rg_mul ez9 r2 h8 (by decide)
    exact g_iret C hr hH (Nat.zero_le _) (Nat.zero_le _) dX10_waysOf_17 ⟨rfl, hI, (rg_w r10 (by decide))⟩
  · skip
    have r11 : rg p0 (-2147483648) 1 := rf_ltl (n_le c1) rp0 rl_2 (by decide)
    refine lv_iconst (v := (1 : Int32)) hx hb dX10_waysOf_5 (by decide) ?_
    refine lv_goto (tgt := 17) hx hb dX10_waysOf_6 (by decide) ?_
    exact g_iret C hr hH (Nat.zero_le _) (Nat.zero_le _) dX10_waysOf_17 ⟨rfl, hI, (rg_w rl_1 (by decide))⟩
set_option maxHeartbeats 4000000 in
set_option maxRecDepth 100000 in
theorem t_waysOf_3 (l : Launch) (E : gE) (J : Nat → Nat) (τ : Nat → Nat) (L : List Nat) (f : gF) (hI : tI E L τ f) (p0 : Int32) (rp0 : rg p0 (-2147483648) 3) : tMi l E J yX10_waysOf cX10_waysOf 1 .int (gRm (3) 0 0) [.int p0] L f (tPi E L τ [] f (fun r f1 => rg r 1 6)) := by
  refine tMi.intro (by decide) (Nat.le_of_ble_eq_true rfl) ?_
  intro p e s m below meth c A ls C hr hA hO hH hl
  have C : gC E cX10_waysOf 1 RX10 p s m _ meth c := C
  have hl : lv_has ls 1 [(0, .int p0)] := hl
  have hx := C.1
  have hb := C.2.1
  have hI := hI.S []
  refine lv_iload_n hx hb dX10_waysOf_0 rfl (lv_at hl 0 rfl) ?_
  refine lv_iconst (v := (2 : Int32)) hx hb dX10_waysOf_1 (by decide) ?_
  refine lv_icmp_ge (tgt := 9) hx hb dX10_waysOf_2 (by decide) (fun c1 => ?_) (fun c1 => ?_)
  · skip
    have r2 : rg p0 2 3 := rf_ler (c_le c1) rl_2 rp0 (by decide)
    refine lv_iload_n hx hb dX10_waysOf_9 rfl (lv_at hl 0 rfl) ?_
    refine lv_iload_n hx hb dX10_waysOf_10 rfl (lv_at hl 0 rfl) ?_
    refine lv_iconst (v := (1 : Int32)) hx hb dX10_waysOf_11 (by decide) ?_
    refine lv_isub hx hb dX10_waysOf_12 ?_
    refine lv_topi (fun z3 ez3 => ?_)
    have r4 : rg z3 1 2 := rg_sub ez3 r2 rl_1 (by decide)
    refine t_Si C hO hl.1 hA hH (As := [.int z3]) (rest := [.int p0]) (t_waysOf_2 l E J τ L f hI.1 z3 (rg_w r4 (by decide))) my_X10_waysOf wd1161 rfl rfl (Nat.le_of_ble_eq_true rfl) ⟨Nat.le_of_ble_eq_true rfl, Nat.le_of_ble_eq_true rfl⟩ ⟨rfl, rfl⟩ dX10_waysOf_13 (fun r6 L1 f5 H locs hp hH => ?_)
    obtain ⟨rfl, s7, h8⟩ := hp
    have hI := hI.call s7 (by decide)
    refine lv_imul hx hb dX10_waysOf_16 ?_
    refine lv_topi (fun z9 ez9 => ?_)
    have r10 : rg z9 2 6 := rg_mul ez9 r2 h8 (by decide)
    exact g_iret C hr hH (Nat.zero_le _) (Nat.zero_le _) dX10_waysOf_17 ⟨rfl, hI, (rg_w r10 (by decide))⟩
  · skip
    have r11 : rg p0 (-2147483648) 1 := rf_ltl (n_le c1) rp0 rl_2 (by decide)
    refine lv_iconst (v := (1 : Int32)) hx hb dX10_waysOf_5 (by decide) ?_
    refine lv_goto (tgt := 17) hx hb dX10_waysOf_6 (by decide) ?_
    exact g_iret C hr hH (Nat.zero_le _) (Nat.zero_le _) dX10_waysOf_17 ⟨rfl, hI, (rg_w rl_1 (by decide))⟩
set_option maxHeartbeats 4000000 in
set_option maxRecDepth 100000 in
theorem t_waysOf_4 (l : Launch) (E : gE) (J : Nat → Nat) (τ : Nat → Nat) (L : List Nat) (f : gF) (hI : tI E L τ f) (p0 : Int32) (rp0 : rg p0 (-2147483648) 4) : tMi l E J yX10_waysOf cX10_waysOf 1 .int (gRm (4) 0 0) [.int p0] L f (tPi E L τ [] f (fun r f1 => rg r 1 24)) := by
  refine tMi.intro (by decide) (Nat.le_of_ble_eq_true rfl) ?_
  intro p e s m below meth c A ls C hr hA hO hH hl
  have C : gC E cX10_waysOf 1 RX10 p s m _ meth c := C
  have hl : lv_has ls 1 [(0, .int p0)] := hl
  have hx := C.1
  have hb := C.2.1
  have hI := hI.S []
  refine lv_iload_n hx hb dX10_waysOf_0 rfl (lv_at hl 0 rfl) ?_
  refine lv_iconst (v := (2 : Int32)) hx hb dX10_waysOf_1 (by decide) ?_
  refine lv_icmp_ge (tgt := 9) hx hb dX10_waysOf_2 (by decide) (fun c1 => ?_) (fun c1 => ?_)
  · skip
    have r2 : rg p0 2 4 := rf_ler (c_le c1) rl_2 rp0 (by decide)
    refine lv_iload_n hx hb dX10_waysOf_9 rfl (lv_at hl 0 rfl) ?_
    refine lv_iload_n hx hb dX10_waysOf_10 rfl (lv_at hl 0 rfl) ?_
    refine lv_iconst (v := (1 : Int32)) hx hb dX10_waysOf_11 (by decide) ?_
    refine lv_isub hx hb dX10_waysOf_12 ?_
    refine lv_topi (fun z3 ez3 => ?_)
    have r4 : rg z3 1 3 := rg_sub ez3 r2 rl_1 (by decide)
    refine t_Si C hO hl.1 hA hH (As := [.int z3]) (rest := [.int p0]) (t_waysOf_3 l E J τ L f hI.1 z3 (rg_w r4 (by decide))) my_X10_waysOf wd1161 rfl rfl (Nat.le_of_ble_eq_true rfl) ⟨Nat.le_of_ble_eq_true rfl, Nat.le_of_ble_eq_true rfl⟩ ⟨rfl, rfl⟩ dX10_waysOf_13 (fun r6 L1 f5 H locs hp hH => ?_)
    obtain ⟨rfl, s7, h8⟩ := hp
    have hI := hI.call s7 (by decide)
    refine lv_imul hx hb dX10_waysOf_16 ?_
    refine lv_topi (fun z9 ez9 => ?_)
    have r10 : rg z9 2 24 := rg_mul ez9 r2 h8 (by decide)
    exact g_iret C hr hH (Nat.zero_le _) (Nat.zero_le _) dX10_waysOf_17 ⟨rfl, hI, (rg_w r10 (by decide))⟩
  · skip
    have r11 : rg p0 (-2147483648) 1 := rf_ltl (n_le c1) rp0 rl_2 (by decide)
    refine lv_iconst (v := (1 : Int32)) hx hb dX10_waysOf_5 (by decide) ?_
    refine lv_goto (tgt := 17) hx hb dX10_waysOf_6 (by decide) ?_
    exact g_iret C hr hH (Nat.zero_le _) (Nat.zero_le _) dX10_waysOf_17 ⟨rfl, hI, (rg_w rl_1 (by decide))⟩
set_option maxHeartbeats 4000000 in
set_option maxRecDepth 100000 in
theorem t_waysOf_5 (l : Launch) (E : gE) (J : Nat → Nat) (τ : Nat → Nat) (L : List Nat) (f : gF) (hI : tI E L τ f) (p0 : Int32) (rp0 : rg p0 (-2147483648) 5) : tMi l E J yX10_waysOf cX10_waysOf 1 .int (gRm (5) 0 0) [.int p0] L f (tPi E L τ [] f (fun r f1 => rg r 1 120)) := by
  refine tMi.intro (by decide) (Nat.le_of_ble_eq_true rfl) ?_
  intro p e s m below meth c A ls C hr hA hO hH hl
  have C : gC E cX10_waysOf 1 RX10 p s m _ meth c := C
  have hl : lv_has ls 1 [(0, .int p0)] := hl
  have hx := C.1
  have hb := C.2.1
  have hI := hI.S []
  refine lv_iload_n hx hb dX10_waysOf_0 rfl (lv_at hl 0 rfl) ?_
  refine lv_iconst (v := (2 : Int32)) hx hb dX10_waysOf_1 (by decide) ?_
  refine lv_icmp_ge (tgt := 9) hx hb dX10_waysOf_2 (by decide) (fun c1 => ?_) (fun c1 => ?_)
  · skip
    have r2 : rg p0 2 5 := rf_ler (c_le c1) rl_2 rp0 (by decide)
    refine lv_iload_n hx hb dX10_waysOf_9 rfl (lv_at hl 0 rfl) ?_
    refine lv_iload_n hx hb dX10_waysOf_10 rfl (lv_at hl 0 rfl) ?_
    refine lv_iconst (v := (1 : Int32)) hx hb dX10_waysOf_11 (by decide) ?_
    refine lv_isub hx hb dX10_waysOf_12 ?_
    refine lv_topi (fun z3 ez3 => ?_)
    have r4 : rg z3 1 4 := rg_sub ez3 r2 rl_1 (by decide)
    refine t_Si C hO hl.1 hA hH (As := [.int z3]) (rest := [.int p0]) (t_waysOf_4 l E J τ L f hI.1 z3 (rg_w r4 (by decide))) my_X10_waysOf wd1161 rfl rfl (Nat.le_of_ble_eq_true rfl) ⟨Nat.le_of_ble_eq_true rfl, Nat.le_of_ble_eq_true rfl⟩ ⟨rfl, rfl⟩ dX10_waysOf_13 (fun r6 L1 f5 H locs hp hH => ?_)
    obtain ⟨rfl, s7, h8⟩ := hp
    have hI := hI.call s7 (by decide)
    refine lv_imul hx hb dX10_waysOf_16 ?_
    refine lv_topi (fun z9 ez9 => ?_)
    have r10 : rg z9 2 120 := rg_mul ez9 r2 h8 (by decide)
    exact g_iret C hr hH (Nat.zero_le _) (Nat.zero_le _) dX10_waysOf_17 ⟨rfl, hI, (rg_w r10 (by decide))⟩
  · skip
    have r11 : rg p0 (-2147483648) 1 := rf_ltl (n_le c1) rp0 rl_2 (by decide)
    refine lv_iconst (v := (1 : Int32)) hx hb dX10_waysOf_5 (by decide) ?_
    refine lv_goto (tgt := 17) hx hb dX10_waysOf_6 (by decide) ?_
    exact g_iret C hr hH (Nat.zero_le _) (Nat.zero_le _) dX10_waysOf_17 ⟨rfl, hI, (rg_w rl_1 (by decide))⟩
set_option maxHeartbeats 4000000 in
set_option maxRecDepth 100000 in
theorem t_sizeOf63 (l : Launch) (E : gE) (J : Nat → Nat) (τ : Nat → Nat) (L : List Nat) (f : gF) (hI : tI E L τ f) (p0 : Int32) (rp0 : rg p0 0 63) : tMi l E J yX10_sizeOf cX10_sizeOf 3 .int (gRm (1) 0 0) [.int p0] L f (tPi E L τ [] f (fun r f1 => rg r 0 6)) := by
  refine tMi.intro (by decide) (Nat.le_of_ble_eq_true rfl) ?_
  intro p e s m below meth c A ls C hr hA hO hH hl
  have C : gC E cX10_sizeOf 3 RX10 p s m _ meth c := C
  have hl : lv_has ls 3 [(0, .int p0)] := hl
  have hx := C.1
  have hb := C.2.1
  have hI := hI.S []
  have cut4 : ∀ (n : Nat) (fh4 : gF) (H : Heap) (locs : List Loc) (ls : Array Slot) (v4_1 : Int32) (v4_2 : Int32), v4_2.toInt < (n : Int) → tS E L τ [] f fh4 → gH E A L fh4 s.heap H locs → rg v4_1 0 6 → rg v4_2 0 63 → v4_1.toInt + (pcY v4_2 : Int) = (pcY p0 : Int) → lv_has ls 3 [(0, .int p0), (1, .int v4_1), (2, .int v4_2)] → W p l e (gRm (1) 0 0) s m [.int p0].toArray below meth c H locs 0 0 (MQ below (gQi E A (tPi E L τ [] f (fun r f1 => rg r 0 6))) [.int p0].toArray s (gRm (1) 0 0).cells (gRm (1) 0 0).slots A) (F0 m 4 ls []) := by
    intro n
    induction n with
    | zero =>
      intro fh4 H locs ls v4_1 v4_2 hfu4 hI hH r_v4_1 r_v4_2 F4_sz hl
      exact absurd hfu4 (by have := (r_v4_2).1; omega)
    | succ n ih4 =>
      intro fh4 H locs ls v4_1 v4_2 hfu4 hI hH r_v4_1 r_v4_2 F4_sz hl
      refine lv_iload_n hx hb dX10_sizeOf_4 rfl (lv_at hl 2 rfl) ?_
      refine lv_if_eq (tgt := 20) hx hb dX10_sizeOf_5 (by decide) (fun c1 => ?_) (fun c1 => ?_)
      · skip
        have r2 : rg v4_2 0 0 := rf_eql (c_eq c1) r_v4_2 rl_0 (by decide)
        refine lv_iload_n hx hb dX10_sizeOf_20 rfl (lv_at hl 1 rfl) ?_
        exact g_iret C hr hH (Nat.zero_le _) (Nat.zero_le _) dX10_sizeOf_21 ⟨rfl, hI, r_v4_1⟩
      · skip
        have r3 : rg v4_2 1 63 := rf_nel (n_eq c1) r_v4_2 rl_0 (by decide)
        obtain ⟨z4, ez4⟩ : ∃ y : Int32, y = v4_1 + (1 : Int32) := ⟨_, rfl⟩
        have r5 : rg z4 1 7 := rg_add ez4 r_v4_1 rl_1 (by decide)
        have a6 : z4.toInt = v4_1.toInt + 1 := ai_add ez4 r_v4_1 tl_1 (by decide)
        refine lv_iinc (v := z4) (lv' := [(1, .int z4), (0, .int p0), (2, .int v4_2)]) hx hb dX10_sizeOf_8 hl (k := 1) rfl (by rw [ez4]; rfl) (by decide) rfl (fun ls hl => ?_)
        have r7 : rg z4 1 6 := pz_n F4_sz r_v4_1 r3 ez4
        refine lv_iload_n hx hb dX10_sizeOf_11 rfl (lv_at hl 2 rfl) ?_
        refine lv_iload_n hx hb dX10_sizeOf_12 rfl (lv_at hl 2 rfl) ?_
        refine lv_iconst (v := (1 : Int32)) hx hb dX10_sizeOf_13 (by decide) ?_
        refine lv_isub hx hb dX10_sizeOf_14 ?_
        refine lv_topi (fun z8 ez8 => ?_)
        have r9 : rg z8 0 62 := rg_sub ez8 r3 rl_1 (by decide)
        refine lv_iand hx hb dX10_sizeOf_15 ?_
        refine lv_topi (fun z10 ez10 => ?_)
        have r11 : rg z10 0 62 := rg_andr ez10 r9 (by decide)
        refine lv_istore_n (lv' := [(2, .int z10), (1, .int z4), (0, .int p0)]) hx hb dX10_sizeOf_16 rfl hl (by decide) rfl (fun ls hl => ?_)
        refine lv_goto (tgt := 4) hx hb dX10_sizeOf_17 (by decide) ?_
        exact ih4 _ _ _ _ z4 z10 (sz_f hfu4 (rg_w r3 (by decide)) ez8 ez10) hI hH (rg_w r7 (by decide)) (rg_w r11 (by decide)) (pz_s F4_sz r_v4_1 r3 ez4 ez8 ez10) (lv_sub hl [2, 1, 0] rfl)
  refine lv_iconst (v := (0 : Int32)) hx hb dX10_sizeOf_0 (by decide) ?_
  refine lv_istore_n (lv' := [(1, .int (0 : Int32)), (0, .int p0)]) hx hb dX10_sizeOf_1 rfl hl (by decide) rfl (fun ls hl => ?_)
  refine lv_iload_n hx hb dX10_sizeOf_2 rfl (lv_at hl 1 rfl) ?_
  refine lv_istore_n (lv' := [(2, .int p0), (1, .int (0 : Int32)), (0, .int p0)]) hx hb dX10_sizeOf_3 rfl hl (by decide) rfl (fun ls hl => ?_)
  exact cut4 (p0.toInt.toNat + 1) _ _ _ _ (0 : Int32) p0 (sz_i (rg_w rp0 (by decide))) hI hH (rg_w rl_0 (by decide)) rp0 pz_0 (lv_sub hl [2, 1, 0] rfl)
