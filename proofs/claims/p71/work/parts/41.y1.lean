/-! the reference: small facts -/
theorem in_rg {x : Int32} {a b : Int64} {la lb c d lo hi : Int} (h : a.toInt ≤ x.toInt64.toInt ∧ x.toInt64.toInt ≤ b.toInt) (hx : rg x c d) (ha : a.toInt = la) (hb : b.toInt = lb) (s : ((decide (lo ≤ la) || decide (lo ≤ c)) && (decide (lb ≤ hi) || decide (d ≤ hi))) = true) : rg x lo hi := by
  rw [Int32.toInt_toInt64, ha, hb] at h
  simp only [Bool.and_eq_true, Bool.or_eq_true, decide_eq_true_eq] at s
  unfold rg at *
  omega
theorem has_rg {v : Nat → Int32} (h : hasP v) {i z : Int32} (j : Nat) (hi : i.toNatClampNeg = j) {lo hi' : Int} (s : (decide (j < 45) && decide (hasR (j % 9) = (lo, hi'))) = true) (e : z = v i.toNatClampNeg) : rg z lo hi' := by
  simp only [Bool.and_eq_true, decide_eq_true_eq] at s
  have h1 := h j s.1
  rw [s.2] at h1
  rw [e, hi]
  exact h1
theorem mem_any {v : Nat → Int32} (h : memP v) {i z : Int32} (hi : vp_in i 90) (e : z = v i.toNatClampNeg) : rg z 0 99 := by
  have h1 := h _ (vp_lt hi)
  rw [e]
  unfold rg at *
  split at h1 <;> omega
theorem mem_c {v : Nat → Int32} (h : memP v) {i z : Int32} (hi : vp_in i 90) (h3 : i.toInt % 3 = 0) (e : z = v i.toNatClampNeg) : rg z 0 19 := by
  have h1 := h _ (vp_lt hi)
  have h0 := (vp_in_iff.mp hi).1
  have h4 : i.toNatClampNeg % 3 = 0 := by
    have : (i.toNatClampNeg : Int) = i.toInt := by show ((i.toInt.toNat : Nat) : Int) = _; omega
    omega
  rw [if_pos h4] at h1
  rw [e]
  exact h1
theorem mul3 {y z : Int32} {a b : Int} (e : z = (3 : Int32) * y) (hy : rg y a b) (s : (decide (0 ≤ a) && decide (3 * b ≤ 2147483647)) = true) : z.toInt % 3 = 0 := by
  simp only [Bool.and_eq_true, decide_eq_true_eq] at s
  have t3 : (3 : Int32).toInt = 3 := by decide
  unfold rg at hy
  rw [e, Int32.toInt_mul, t3, bmI (by omega) (by omega)]
  omega
def rowOK (vl vh : Nat → Int32) (r : Nat) : Prop := 1 ≤ (vh (9 * r)).toInt ∨ ((vl r).toInt ≤ 0 ∧ (vh (9 * r + 5)).toInt ≤ 0 ∧ (vh (9 * r + 6)).toInt ≤ 0)
theorem land_w {vl vh : Nat → Int32} {z w : Int32} (h : rowOK vl vh 0) (e : z = vl 0) (hz : w.toInt < z.toInt) (hw : w.toInt = 0 := by decide) : 1 ≤ (vh 0).toInt := by
  rcases h with h | h
  · exact h
  · have := h.1
    rw [e] at hz
    omega
theorem has_w {v : Nat → Int32} (h : hasP v) (hW : 1 ≤ (v 0).toInt) {i z : Int32} (hi : i.toNatClampNeg = 0) (e : z = v i.toNatClampNeg) : rg z 1 5 := by
  have h1 := h 0 (by decide)
  rw [e, hi]
  exact ⟨hW, h1.2⟩
theorem i64_sub1 {y : Int32} {z : Int64} {b : Int} (e : z = y.toInt64 - 1) (hy : rg y 0 b) (s : decide (b ≤ 100) = true) : z.toInt = y.toInt - 1 := by
  simp only [decide_eq_true_eq] at s
  have t1 : (1 : Int64).toInt = 1 := by decide
  unfold rg at hy
  rw [e, Int64.toInt_sub, Int32.toInt_toInt64, t1]
  exact Int.bmod_eq_of_le (by omega) (by omega)
theorem is_ok {x z : Int64} {y : Int32} {b c : Int} (h : (0 : Int64).toInt ≤ x.toInt ∧ x.toInt ≤ z.toInt) (e : z = y.toInt64 - 1) (hy : rg y 0 b) (s : (decide (b ≤ 100) && decide (b ≤ c + 1)) = true := by decide) : 0 ≤ x.toInt ∧ x.toInt ≤ c := by
  simp only [Bool.and_eq_true, decide_eq_true_eq] at s
  have t0 : (0 : Int64).toInt = 0 := by decide
  have h1 := i64_sub1 e hy (by simp only [decide_eq_true_eq]; exact s.1)
  unfold rg at hy
  omega
theorem is_pos {x z : Int64} {y : Int32} {b : Int} (h : (0 : Int64).toInt ≤ x.toInt ∧ x.toInt ≤ z.toInt) (e : z = y.toInt64 - 1) (hy : rg y 0 b) (s : decide (b ≤ 100) = true := by decide) : 1 ≤ y.toInt := by
  have t0 : (0 : Int64).toInt = 0 := by decide
  have h1 := i64_sub1 e hy s
  omega
theorem is_wF {vl vh : Nat → Int32} {y : Int32} (h : rowOK vl vh 0) (e : y = vh 5) (hp : 1 ≤ y.toInt) : 1 ≤ (vh 0).toInt := by
  rcases h with h | h
  · exact h
  · have := h.2.1
    rw [e] at hp
    simp only [Nat.mul_zero, Nat.zero_add] at this
    omega
theorem is_wM {vl vh : Nat → Int32} {y : Int32} (h : rowOK vl vh 0) (e : y = vh 6) (hp : 1 ≤ y.toInt) : 1 ≤ (vh 0).toInt := by
  rcases h with h | h
  · exact h
  · have := h.2.2
    rw [e] at hp
    simp only [Nat.mul_zero, Nat.zero_add] at this
    omega
theorem is_wC {vl vh : Nat → Int32} {y : Int32} (h : rowOK vl vh 0) (e : y = vh 0 * vh 1) (hp : 1 ≤ y.toInt) (hh : hasP vh) : 1 ≤ (vh 0).toInt := by
  have h0 := hh 0 (by decide)
  rcases Int.lt_or_le (vh 0).toInt 1 with q | q
  · have h1 : 0 ≤ (vh 0).toInt := h0.1
    have h2 : vh 0 = 0 := Int32.toInt_inj.mp (by rw [show (0 : Int32).toInt = 0 from by decide]; omega)
    rw [e, h2, Int32.zero_mul] at hp
    exact absurd hp (by decide)
  · exact q
theorem is_rg {x : Int32} {b c d lo hi : Int} (h : 0 ≤ x.toInt64.toInt ∧ x.toInt64.toInt ≤ b) (hx : rg x c d) (s : ((decide (lo ≤ 0) || decide (lo ≤ c)) && (decide (b ≤ hi) || decide (d ≤ hi))) = true) : rg x lo hi := by
  rw [Int32.toInt_toInt64] at h
  simp only [Bool.and_eq_true, Bool.or_eq_true, decide_eq_true_eq] at s
  unfold rg at *
  omega
theorem hasP_of {E : gE} {L : List Nat} {τ : Nat → Nat} {f : gF} {q : Nat} {vh : Nat → Int32} (hI : tI E L τ f) (mq : q ∈ L) (tq : τ q = 40) (h : isA E L τ f 47 45 vh) : hasP vh := by
  obtain ⟨ha, mh, th, -⟩ := t_fldr hI mq tq td_40 (k := 17) rfl
  obtain ⟨w, hw, hp⟩ := t_arr hI mh th td_47
  rw [arr_inj hw (h ha mh th)] at hp
  exact hp
set_option maxHeartbeats 4000000 in
set_option maxRecDepth 100000 in
theorem t_X10_in (l : Launch) (E : gE) (J : Nat → Nat) (τ : Nat → Nat) (L : List Nat) (f : gF) (hI : tI E L τ f) (p0 : Int64) (p1 : Int64) (p2 : Int64) : tMi l E J yX10_in cX10_in 6 .boolean (gRm (1) 0 0) [.long p0, .long p1, .long p2] L f (tPi E L τ [] f (fun r f1 => rg r 0 1 ∧ (¬ r = 0 → p1.toInt ≤ p0.toInt ∧ p0.toInt ≤ p2.toInt))) := by
  refine tMi.intro (by decide) (Nat.le_of_ble_eq_true rfl) ?_
  intro p e s m below meth c A ls C hr hA hO hH hl
  have C : gC E cX10_in 6 RX10 p s m _ meth c := C
  have hl : lv_has ls 6 [(0, .long p0), (2, .long p1), (4, .long p2)] := hl
  have hx := C.1
  have hb := C.2.1
  have hI := hI.S []
  refine lv_lload_n hx hb dX10_in_0 rfl (lv_at hl 0 rfl) ?_
  refine lv_lload_n hx hb dX10_in_1 rfl (lv_at hl 1 rfl) ?_
  refine W.lcmp hx hb dX10_in_2 ?_
  refine lv_topi (fun z1 ez1 => ?_)
  refine lv_if_lt (tgt := 17) hx hb dX10_in_3 (by decide) (fun c2 => ?_) (fun c2 => ?_)
  · skip
    have r3 : rg z1 (-2147483648) (-1) := rf_ltl (c_lt c2) (rg_all _) rl_0 (by decide)
    refine lv_iconst (v := (0 : Int32)) hx hb dX10_in_17 (by decide) ?_
    exact g_zret C hr (rg_z (rg_w rl_0 (by decide))) hH (Nat.zero_le _) (Nat.zero_le _) dX10_in_18 ⟨rfl, hI, ⟨(rg_w rl_0 (by decide)), (fun h => absurd rfl h)⟩⟩
  · skip
    have r4 : rg z1 0 2147483647 := rf_ler (n_lt c2) rl_0 (rg_all _) (by decide)
    refine lv_lload_n hx hb dX10_in_6 rfl (lv_at hl 0 rfl) ?_
    refine lv_lload hx hb dX10_in_7 (lv_at hl 2 rfl) ?_
    refine W.lcmp hx hb dX10_in_9 ?_
    refine lv_topi (fun z5 ez5 => ?_)
    refine lv_if_gt (tgt := 17) hx hb dX10_in_10 (by decide) (fun c6 => ?_) (fun c6 => ?_)
    · skip
      have r7 : rg z5 1 2147483647 := rf_ltr (c_lt c6) rl_0 (rg_all _) (by decide)
      refine lv_iconst (v := (0 : Int32)) hx hb dX10_in_17 (by decide) ?_
      exact g_zret C hr (rg_z (rg_w rl_0 (by decide))) hH (Nat.zero_le _) (Nat.zero_le _) dX10_in_18 ⟨rfl, hI, ⟨(rg_w rl_0 (by decide)), (fun h => absurd rfl h)⟩⟩
    · skip
      have r8 : rg z5 (-2147483648) 0 := rf_lel (n_lt c6) (rg_all _) rl_0 (by decide)
      refine lv_iconst (v := (1 : Int32)) hx hb dX10_in_13 (by decide) ?_
      refine lv_goto (tgt := 18) hx hb dX10_in_14 (by decide) ?_
      exact g_zret C hr (rg_z (rg_w rl_1 (by decide))) hH (Nat.zero_le _) (Nat.zero_le _) dX10_in_18 ⟨rfl, hI, ⟨(rg_w rl_1 (by decide)), (fun _ => within_ok ez1 c2 ez5 c6)⟩⟩
set_option maxHeartbeats 4000000 in
set_option maxRecDepth 100000 in
theorem t_X10_isSlot (l : Launch) (E : gE) (J : Nat → Nat) (τ : Nat → Nat) (L : List Nat) (f : gF) (hI : tI E L τ f) (p0 : Int32) : tMi l E J yX10_isSlot cX10_isSlot 1 .boolean (gRm (2) 0 0) [.int p0] L f (tPi E L τ [] f (fun r f1 => rg r 0 1 ∧ (¬ r = 0 → rg p0 0 3))) := by
  refine tMi.intro (by decide) (Nat.le_of_ble_eq_true rfl) ?_
  intro p e s m below meth c A ls C hr hA hO hH hl
  have C : gC E cX10_isSlot 1 RX10 p s m _ meth c := C
  have hl : lv_has ls 1 [(0, .int p0)] := hl
  have hx := C.1
  have hb := C.2.1
  have hI := hI.S []
  refine lv_iload_n hx hb dX10_isSlot_0 rfl (lv_at hl 0 rfl) ?_
  refine lv_i2l (v := (p0).toInt64) hx hb dX10_isSlot_1 rfl ?_
  refine lv_lconst (v := (0 : Int64)) hx hb dX10_isSlot_2 (by decide) ?_
  refine lv_ldc2 hx hb C.2.2.2.1 (C.2.2.2.2.1 _ wd740) dX10_isSlot_3 ?_
  refine t_Si C hO hl.1 hA hH (As := [.long (p0).toInt64, .long (0 : Int64), .long (3 : Int64)]) (rest := []) (t_X10_in l E J τ L f hI.1 ((p0).toInt64) ((0 : Int64)) ((3 : Int64))) my_X10_in wd744 rfl rfl (Nat.le_of_ble_eq_true rfl) ⟨Nat.le_of_ble_eq_true rfl, Nat.le_of_ble_eq_true rfl⟩ ⟨rfl, rfl⟩ dX10_isSlot_6 (fun r2 L1 f1 H locs hp hH => ?_)
  obtain ⟨rfl, s3, h4⟩ := hp
  have hJ := hI
  have hI := hI.call s3 (by decide)
  exact g_zret C hr (rg_z h4.1) hH (Nat.zero_le _) (Nat.zero_le _) dX10_isSlot_9 ⟨rfl, hI, ⟨h4.1, (fun h => rg_w ((fun hh => in_rg (la := 0) (lb := 3) (lo := 0) (hi := 3) (h4.2 hh) (rg_all _) (by decide) (by decide) (by decide)) h) (by decide))⟩⟩
set_option maxHeartbeats 4000000 in
set_option maxRecDepth 100000 in
theorem t_X10_isStep (l : Launch) (E : gE) (J : Nat → Nat) (τ : Nat → Nat) (L : List Nat) (f : gF) (hI : tI E L τ f) (p0 : Int32) : tMi l E J yX10_isStep cX10_isStep 1 .boolean (gRm (2) 0 0) [.int p0] L f (tPi E L τ [] f (fun r f1 => rg r 0 1 ∧ (¬ r = 0 → rg p0 0 40))) := by
  refine tMi.intro (by decide) (Nat.le_of_ble_eq_true rfl) ?_
  intro p e s m below meth c A ls C hr hA hO hH hl
  have C : gC E cX10_isStep 1 RX10 p s m _ meth c := C
  have hl : lv_has ls 1 [(0, .int p0)] := hl
  have hx := C.1
  have hb := C.2.1
  have hI := hI.S []
  refine lv_iload_n hx hb dX10_isStep_0 rfl (lv_at hl 0 rfl) ?_
  refine lv_i2l (v := (p0).toInt64) hx hb dX10_isStep_1 rfl ?_
  refine lv_lconst (v := (0 : Int64)) hx hb dX10_isStep_2 (by decide) ?_
  refine lv_ldc2 hx hb C.2.2.2.1 (C.2.2.2.2.1 _ wd745) dX10_isStep_3 ?_
  refine t_Si C hO hl.1 hA hH (As := [.long (p0).toInt64, .long (0 : Int64), .long (40 : Int64)]) (rest := []) (t_X10_in l E J τ L f hI.1 ((p0).toInt64) ((0 : Int64)) ((40 : Int64))) my_X10_in wd744 rfl rfl (Nat.le_of_ble_eq_true rfl) ⟨Nat.le_of_ble_eq_true rfl, Nat.le_of_ble_eq_true rfl⟩ ⟨rfl, rfl⟩ dX10_isStep_6 (fun r2 L1 f1 H locs hp hH => ?_)
  obtain ⟨rfl, s3, h4⟩ := hp
  have hJ := hI
  have hI := hI.call s3 (by decide)
  exact g_zret C hr (rg_z h4.1) hH (Nat.zero_le _) (Nat.zero_le _) dX10_isStep_9 ⟨rfl, hI, ⟨h4.1, (fun h => rg_w ((fun hh => in_rg (la := 0) (lb := 40) (lo := 0) (hi := 40) (h4.2 hh) (rg_all _) (by decide) (by decide) (by decide)) h) (by decide))⟩⟩
set_option maxHeartbeats 4000000 in
set_option maxRecDepth 100000 in
theorem t_X10_isHalf (l : Launch) (E : gE) (J : Nat → Nat) (τ : Nat → Nat) (L : List Nat) (f : gF) (hI : tI E L τ f) (p0 : Int32) : tMi l E J yX10_isHalf cX10_isHalf 1 .boolean (gRm (2) 0 0) [.int p0] L f (tPi E L τ [] f (fun r f1 => rg r 0 1 ∧ (¬ r = 0 → rg p0 0 1))) := by
  refine tMi.intro (by decide) (Nat.le_of_ble_eq_true rfl) ?_
  intro p e s m below meth c A ls C hr hA hO hH hl
  have C : gC E cX10_isHalf 1 RX10 p s m _ meth c := C
  have hl : lv_has ls 1 [(0, .int p0)] := hl
  have hx := C.1
  have hb := C.2.1
  have hI := hI.S []
  refine lv_iload_n hx hb dX10_isHalf_0 rfl (lv_at hl 0 rfl) ?_
  refine lv_i2l (v := (p0).toInt64) hx hb dX10_isHalf_1 rfl ?_
  refine lv_lconst (v := (0 : Int64)) hx hb dX10_isHalf_2 (by decide) ?_
  refine lv_lconst (v := (1 : Int64)) hx hb dX10_isHalf_3 (by decide) ?_
  refine t_Si C hO hl.1 hA hH (As := [.long (p0).toInt64, .long (0 : Int64), .long (1 : Int64)]) (rest := []) (t_X10_in l E J τ L f hI.1 ((p0).toInt64) ((0 : Int64)) ((1 : Int64))) my_X10_in wd744 rfl rfl (Nat.le_of_ble_eq_true rfl) ⟨Nat.le_of_ble_eq_true rfl, Nat.le_of_ble_eq_true rfl⟩ ⟨rfl, rfl⟩ dX10_isHalf_4 (fun r2 L1 f1 H locs hp hH => ?_)
  obtain ⟨rfl, s3, h4⟩ := hp
  have hJ := hI
  have hI := hI.call s3 (by decide)
  exact g_zret C hr (rg_z h4.1) hH (Nat.zero_le _) (Nat.zero_le _) dX10_isHalf_7 ⟨rfl, hI, ⟨h4.1, (fun h => rg_w ((fun hh => in_rg (la := 0) (lb := 1) (lo := 0) (hi := 1) (h4.2 hh) (rg_all _) (by decide) (by decide) (by decide)) h) (by decide))⟩⟩
set_option maxHeartbeats 4000000 in
set_option maxRecDepth 100000 in
theorem t_X10_isSeed (l : Launch) (E : gE) (J : Nat → Nat) (τ : Nat → Nat) (L : List Nat) (f : gF) (hI : tI E L τ f) (p0 : Int32) : tMi l E J yX10_isSeed cX10_isSeed 1 .boolean (gRm (2) 0 0) [.int p0] L f (tPi E L τ [] f (fun r f1 => rg r 0 1)) := by
  refine tMi.intro (by decide) (Nat.le_of_ble_eq_true rfl) ?_
  intro p e s m below meth c A ls C hr hA hO hH hl
  have C : gC E cX10_isSeed 1 RX10 p s m _ meth c := C
  have hl : lv_has ls 1 [(0, .int p0)] := hl
  have hx := C.1
  have hb := C.2.1
  have hI := hI.S []
  refine lv_iload_n hx hb dX10_isSeed_0 rfl (lv_at hl 0 rfl) ?_
  refine lv_i2l (v := (p0).toInt64) hx hb dX10_isSeed_1 rfl ?_
  refine lv_lconst (v := (0 : Int64)) hx hb dX10_isSeed_2 (by decide) ?_
  refine lv_ldc2 hx hb C.2.2.2.1 (C.2.2.2.2.1 _ wd746) dX10_isSeed_3 ?_
  refine t_Si C hO hl.1 hA hH (As := [.long (p0).toInt64, .long (0 : Int64), .long (2000000000 : Int64)]) (rest := []) (t_X10_in l E J τ L f hI.1 ((p0).toInt64) ((0 : Int64)) ((2000000000 : Int64))) my_X10_in wd744 rfl rfl (Nat.le_of_ble_eq_true rfl) ⟨Nat.le_of_ble_eq_true rfl, Nat.le_of_ble_eq_true rfl⟩ ⟨rfl, rfl⟩ dX10_isSeed_6 (fun r2 L1 f1 H locs hp hH => ?_)
  obtain ⟨rfl, s3, h4⟩ := hp
  have hJ := hI
  have hI := hI.call s3 (by decide)
  exact g_zret C hr (rg_z h4.1) hH (Nat.zero_le _) (Nat.zero_le _) dX10_isSeed_9 ⟨rfl, hI, h4.1⟩
set_option maxHeartbeats 4000000 in
set_option maxRecDepth 100000 in
theorem t_X10_isBit (l : Launch) (E : gE) (J : Nat → Nat) (τ : Nat → Nat) (L : List Nat) (f : gF) (hI : tI E L τ f) (p0 : Int32) (p1 : Int32) : tMi l E J yX10_isBit cX10_isBit 2 .boolean (gRm (1) 0 0) [.int p0, .int p1] L f (tPi E L τ [] f (fun r f1 => rg r 0 1)) := by
  refine tMi.intro (by decide) (Nat.le_of_ble_eq_true rfl) ?_
  intro p e s m below meth c A ls C hr hA hO hH hl
  have C : gC E cX10_isBit 2 RX10 p s m _ meth c := C
  have hl : lv_has ls 2 [(0, .int p0), (1, .int p1)] := hl
  have hx := C.1
  have hb := C.2.1
  have hI := hI.S []
  refine lv_iload_n hx hb dX10_isBit_0 rfl (lv_at hl 0 rfl) ?_
  refine lv_iload_n hx hb dX10_isBit_1 rfl (lv_at hl 1 rfl) ?_
  refine lv_ishr hx hb dX10_isBit_2 ?_
  refine lv_topi (fun z1 ez1 => ?_)
  refine lv_iconst (v := (1 : Int32)) hx hb dX10_isBit_3 (by decide) ?_
  refine lv_iand hx hb dX10_isBit_4 ?_
  refine lv_topi (fun z2 ez2 => ?_)
  have r3 : rg z2 0 1 := rg_andr ez2 rl_1 (by decide)
  refine lv_iconst (v := (1 : Int32)) hx hb dX10_isBit_5 (by decide) ?_
  refine lv_icmp_ne (tgt := 13) hx hb dX10_isBit_6 (by decide) (fun c4 => ?_) (fun c4 => ?_)
  · skip
    have r5 : rg z2 0 0 := rf_nel (n_eq c4) r3 rl_1 (by decide)
    refine lv_iconst (v := (0 : Int32)) hx hb dX10_isBit_13 (by decide) ?_
    exact g_zret C hr (rg_z (rg_w rl_0 (by decide))) hH (Nat.zero_le _) (Nat.zero_le _) dX10_isBit_14 ⟨rfl, hI, (rg_w rl_0 (by decide))⟩
  · skip
    have r6 : rg z2 1 1 := rf_eql (c_eq c4) r3 rl_1 (by decide)
    refine lv_iconst (v := (1 : Int32)) hx hb dX10_isBit_9 (by decide) ?_
    refine lv_goto (tgt := 14) hx hb dX10_isBit_10 (by decide) ?_
    exact g_zret C hr (rg_z (rg_w rl_1 (by decide))) hH (Nat.zero_le _) (Nat.zero_le _) dX10_isBit_14 ⟨rfl, hI, (rg_w rl_1 (by decide))⟩
set_option maxHeartbeats 4000000 in
set_option maxRecDepth 100000 in
theorem t_X10_cut (l : Launch) (E : gE) (J : Nat → Nat) (τ : Nat → Nat) (L : List Nat) (f : gF) (hI : tI E L τ f) (p0 : Int64) (p1 : Int32) : tMl l E J yX10_cut cX10_cut 3 (gRm (1) 0 0) [.long p0, .int p1] L f (tPl E L τ [] f (fun r f1 => True)) := by
  refine tMl.intro (by decide) (Nat.le_of_ble_eq_true rfl) ?_
  intro p e s m below meth c A ls C hr hA hO hH hl
  have C : gC E cX10_cut 3 RX10 p s m _ meth c := C
  have hl : lv_has ls 3 [(0, .long p0), (2, .int p1)] := hl
  have hx := C.1
  have hb := C.2.1
  have hI := hI.S []
  refine lv_iload_n hx hb dX10_cut_0 rfl (lv_at hl 1 rfl) ?_
  refine lv_if_ne (tgt := 11) hx hb dX10_cut_1 (by decide) (fun c1 => ?_) (fun c1 => ?_)
  · skip
    refine lv_iload_n hx hb dX10_cut_11 rfl (lv_at hl 1 rfl) ?_
    refine lv_iconst (v := (1 : Int32)) hx hb dX10_cut_12 (by decide) ?_
    refine lv_icmp_ne (tgt := 23) hx hb dX10_cut_13 (by decide) (fun c2 => ?_) (fun c2 => ?_)
    · skip
      refine lv_iload_n hx hb dX10_cut_23 rfl (lv_at hl 1 rfl) ?_
      refine lv_iconst (v := (2 : Int32)) hx hb dX10_cut_24 (by decide) ?_
      refine lv_icmp_ne (tgt := 34) hx hb dX10_cut_25 (by decide) (fun c3 => ?_) (fun c3 => ?_)
      · skip
        refine lv_lload_n hx hb dX10_cut_34 rfl (lv_at hl 0 rfl) ?_
        exact g_lret C hr hH dX10_cut_35 ⟨rfl, hI, trivial⟩
      · skip
        have r4 : rg p1 2 2 := rf_eql (c_eq c3) (rg_all _) rl_2 (by decide)
        refine lv_lload_n hx hb dX10_cut_28 rfl (lv_at hl 0 rfl) ?_
        refine lv_l2i (v := _) hx hb dX10_cut_29 rfl ?_
        refine lv_topi (fun z5 ez5 => ?_)
        refine lv_i2l (v := (z5).toInt64) hx hb dX10_cut_30 rfl ?_
        refine lv_goto (tgt := 35) hx hb dX10_cut_31 (by decide) ?_
        exact g_lret C hr hH dX10_cut_35 ⟨rfl, hI, trivial⟩
    · skip
      have r6 : rg p1 1 1 := rf_eql (c_eq c2) (rg_all _) rl_1 (by decide)
      refine lv_lload_n hx hb dX10_cut_16 rfl (lv_at hl 0 rfl) ?_
      refine lv_l2i (v := _) hx hb dX10_cut_17 rfl ?_
      refine lv_topi (fun z7 ez7 => ?_)
      refine lv_i2s (v := _) hx hb dX10_cut_18 rfl ?_
      refine lv_topi (fun z8 ez8 => ?_)
      refine lv_i2l (v := (z8).toInt64) hx hb dX10_cut_19 rfl ?_
      refine lv_goto (tgt := 35) hx hb dX10_cut_20 (by decide) ?_
      exact g_lret C hr hH dX10_cut_35 ⟨rfl, hI, trivial⟩
  · skip
    have r9 : rg p1 0 0 := rf_eql (c_eq c1) (rg_all _) rl_0 (by decide)
    refine lv_lload_n hx hb dX10_cut_4 rfl (lv_at hl 0 rfl) ?_
    refine lv_l2i (v := _) hx hb dX10_cut_5 rfl ?_
    refine lv_topi (fun z10 ez10 => ?_)
    refine lv_i2b (v := _) hx hb dX10_cut_6 rfl ?_
    refine lv_topi (fun z11 ez11 => ?_)
    refine lv_i2l (v := (z11).toInt64) hx hb dX10_cut_7 rfl ?_
    refine lv_goto (tgt := 35) hx hb dX10_cut_8 (by decide) ?_
    exact g_lret C hr hH dX10_cut_35 ⟨rfl, hI, trivial⟩
set_option maxHeartbeats 4000000 in
set_option maxRecDepth 100000 in
theorem t_X10_flights (l : Launch) (E : gE) (J : Nat → Nat) (τ : Nat → Nat) (L : List Nat) (f : gF) (hI : tI E L τ f) {q : Nat} (mq : q ∈ L) (tq : τ q = 40) : tMi l E J yX10_flights cX10_flights 1 .int (gRm (1) 0 0) [.ref q] L f (tPi E L τ [] f (fun r f1 => rg r 0 4 ∧ (∀ vh : Nat → Int32, isA E L τ f 47 45 vh → r = vh 5))) := by
  refine tMi.intro (by decide) (Nat.le_of_ble_eq_true rfl) ?_
  intro p e s m below meth c A ls C hr hA hO hH hl
  have C : gC E cX10_flights 1 RX10 p s m _ meth c := C
  have hl : lv_has ls 1 [(0, .ref q)] := hl
  have hx := C.1
  have hb := C.2.1
  have hI := hI.S []
  obtain ⟨q_17, mq_17, tq_17, kq_17⟩ := t_fldr hI.1 mq tq td_40 (k := 17) rfl
  refine lv_aload_n hx hb dX10_flights_0 rfl (lv_at hl 0 rfl) ?_
  refine t_getX C hH hI.1 mq tq td_40 iX10 rfl 17 (by decide) wd747 rfl (hI.rf kq_17) dX10_flights_1 ?_
  refine lv_iconst (v := (5 : Int32)) hx hb dX10_flights_4 (by decide) ?_
  refine t_ald C hH hI.1 mq_17 tq_17 td_47 (rg_in rl_5 (by decide)) dX10_flights_5 (fun z1v az1 pz1 => ?_)
  refine lv_topi (fun z1 ez1 => ?_)
  have r2 : rg z1 0 4 := has_rg pz1 (i := (5 : Int32)) 5 rfl (by decide) ez1
  exact g_iret C hr hH (Nat.zero_le _) (Nat.zero_le _) dX10_flights_6 ⟨rfl, hI, ⟨r2, (fun vh h => by rw [ez1, arr_inj az1 (h _ mq_17 tq_17)]; rfl)⟩⟩
set_option maxHeartbeats 4000000 in
set_option maxRecDepth 100000 in
theorem t_X10_members (l : Launch) (E : gE) (J : Nat → Nat) (τ : Nat → Nat) (L : List Nat) (f : gF) (hI : tI E L τ f) {q : Nat} (mq : q ∈ L) (tq : τ q = 40) : tMi l E J yX10_members cX10_members 1 .int (gRm (1) 0 0) [.ref q] L f (tPi E L τ [] f (fun r f1 => rg r 0 6 ∧ (∀ vh : Nat → Int32, isA E L τ f 47 45 vh → r = vh 6))) := by
  refine tMi.intro (by decide) (Nat.le_of_ble_eq_true rfl) ?_
  intro p e s m below meth c A ls C hr hA hO hH hl
  have C : gC E cX10_members 1 RX10 p s m _ meth c := C
  have hl : lv_has ls 1 [(0, .ref q)] := hl
  have hx := C.1
  have hb := C.2.1
  have hI := hI.S []
  obtain ⟨q_17, mq_17, tq_17, kq_17⟩ := t_fldr hI.1 mq tq td_40 (k := 17) rfl
  refine lv_aload_n hx hb dX10_members_0 rfl (lv_at hl 0 rfl) ?_
  refine t_getX C hH hI.1 mq tq td_40 iX10 rfl 17 (by decide) wd747 rfl (hI.rf kq_17) dX10_members_1 ?_
  refine lv_bipush (v := (6 : Int32)) hx hb dX10_members_4 (by decide) ?_
  refine t_ald C hH hI.1 mq_17 tq_17 td_47 (rg_in rl_6 (by decide)) dX10_members_6 (fun z1v az1 pz1 => ?_)
  refine lv_topi (fun z1 ez1 => ?_)
  have r2 : rg z1 0 6 := has_rg pz1 (i := (6 : Int32)) 6 rfl (by decide) ez1
  exact g_iret C hr hH (Nat.zero_le _) (Nat.zero_le _) dX10_members_7 ⟨rfl, hI, ⟨r2, (fun vh h => by rw [ez1, arr_inj az1 (h _ mq_17 tq_17)]; rfl)⟩⟩
set_option maxHeartbeats 4000000 in
set_option maxRecDepth 100000 in
theorem t_X10_cellsAll (l : Launch) (E : gE) (J : Nat → Nat) (τ : Nat → Nat) (L : List Nat) (f : gF) (hI : tI E L τ f) {q : Nat} (mq : q ∈ L) (tq : τ q = 40) : tMi l E J yX10_cellsAll cX10_cellsAll 1 .int (gRm (1) 0 0) [.ref q] L f (tPi E L τ [] f (fun r f1 => rg r 0 20 ∧ (∀ vh : Nat → Int32, isA E L τ f 47 45 vh → r = vh 0 * vh 1))) := by
  refine tMi.intro (by decide) (Nat.le_of_ble_eq_true rfl) ?_
  intro p e s m below meth c A ls C hr hA hO hH hl
  have C : gC E cX10_cellsAll 1 RX10 p s m _ meth c := C
  have hl : lv_has ls 1 [(0, .ref q)] := hl
  have hx := C.1
  have hb := C.2.1
  have hI := hI.S []
  obtain ⟨q_17, mq_17, tq_17, kq_17⟩ := t_fldr hI.1 mq tq td_40 (k := 17) rfl
  refine lv_aload_n hx hb dX10_cellsAll_0 rfl (lv_at hl 0 rfl) ?_
  refine t_getX C hH hI.1 mq tq td_40 iX10 rfl 17 (by decide) wd747 rfl (hI.rf kq_17) dX10_cellsAll_1 ?_
  refine lv_iconst (v := (0 : Int32)) hx hb dX10_cellsAll_4 (by decide) ?_
  refine t_ald C hH hI.1 mq_17 tq_17 td_47 (rg_in rl_0 (by decide)) dX10_cellsAll_5 (fun z1v az1 pz1 => ?_)
  refine lv_topi (fun z1 ez1 => ?_)
  have r2 : rg z1 0 5 := has_rg pz1 (i := (0 : Int32)) 0 rfl (by decide) ez1
  refine lv_aload_n hx hb dX10_cellsAll_6 rfl (lv_at hl 0 rfl) ?_
  refine t_getX C hH hI.1 mq tq td_40 iX10 rfl 17 (by decide) wd747 rfl (hI.rf kq_17) dX10_cellsAll_7 ?_
  refine lv_iconst (v := (1 : Int32)) hx hb dX10_cellsAll_10 (by decide) ?_
  refine t_ald C hH hI.1 mq_17 tq_17 td_47 (rg_in rl_1 (by decide)) dX10_cellsAll_11 (fun z3v az3 pz3 => ?_)
  refine lv_topi (fun z3 ez3 => ?_)
  have r4 : rg z3 0 4 := has_rg pz3 (i := (1 : Int32)) 1 rfl (by decide) ez3
  refine lv_imul hx hb dX10_cellsAll_12 ?_
  refine lv_topi (fun z5 ez5 => ?_)
  have r6 : rg z5 0 20 := rg_mul ez5 r2 r4 (by decide)
  exact g_iret C hr hH (Nat.zero_le _) (Nat.zero_le _) dX10_cellsAll_13 ⟨rfl, hI, ⟨r6, (fun vh h => by rw [ez5, ez1, ez3, arr_inj az1 (h _ mq_17 tq_17), arr_inj az3 (h _ mq_17 tq_17)]; rfl)⟩⟩
set_option maxHeartbeats 4000000 in
set_option maxRecDepth 100000 in
theorem t_X10_isLand (l : Launch) (E : gE) (J : Nat → Nat) (τ : Nat → Nat) (L : List Nat) (f : gF) (hI : tI E L τ f) {q : Nat} (mq : q ∈ L) (tq : τ q = 40) : tMi l E J yX10_isLand cX10_isLand 1 .boolean (gRm (1) 0 0) [.ref q] L f (tPi E L τ [] f (fun r f1 => rg r 0 1 ∧ ((∀ vl vh : Nat → Int32, isA E L τ f 46 5 vl → isA E L τ f 47 45 vh → rowOK vl vh 0 → ¬ r = 0 → 1 ≤ (vh 0).toInt)))) := by
  refine tMi.intro (by decide) (Nat.le_of_ble_eq_true rfl) ?_
  intro p e s m below meth c A ls C hr hA hO hH hl
  have C : gC E cX10_isLand 1 RX10 p s m _ meth c := C
  have hl : lv_has ls 1 [(0, .ref q)] := hl
  have hx := C.1
  have hb := C.2.1
  have hI := hI.S []
  obtain ⟨q_16, mq_16, tq_16, kq_16⟩ := t_fldr hI.1 mq tq td_40 (k := 16) rfl
  refine lv_aload_n hx hb dX10_isLand_0 rfl (lv_at hl 0 rfl) ?_
  refine t_getX C hH hI.1 mq tq td_40 iX10 rfl 16 (by decide) wd748 rfl (hI.rf kq_16) dX10_isLand_1 ?_
  refine lv_iconst (v := (0 : Int32)) hx hb dX10_isLand_4 (by decide) ?_
  refine t_ald C hH hI.1 mq_16 tq_16 td_46 (rg_in rl_0 (by decide)) dX10_isLand_5 (fun z1v az1 _ => ?_)
  refine lv_topi (fun z1 ez1 => ?_)
  refine lv_if_le (tgt := 13) hx hb dX10_isLand_6 (by decide) (fun c2 => ?_) (fun c2 => ?_)
  · skip
    have r3 : rg z1 (-2147483648) 0 := rf_lel (c_le c2) (rg_all _) rl_0 (by decide)
    refine lv_iconst (v := (0 : Int32)) hx hb dX10_isLand_13 (by decide) ?_
    exact g_zret C hr (rg_z (rg_w rl_0 (by decide))) hH (Nat.zero_le _) (Nat.zero_le _) dX10_isLand_14 ⟨rfl, hI, ⟨(rg_w rl_0 (by decide)), (fun _ _ _ _ _ h => absurd rfl h)⟩⟩
  · skip
    have r4 : rg z1 1 2147483647 := rf_ltr (n_le c2) rl_0 (rg_all _) (by decide)
    refine lv_iconst (v := (1 : Int32)) hx hb dX10_isLand_9 (by decide) ?_
    refine lv_goto (tgt := 14) hx hb dX10_isLand_10 (by decide) ?_
    exact g_zret C hr (rg_z (rg_w rl_1 (by decide))) hH (Nat.zero_le _) (Nat.zero_le _) dX10_isLand_14 ⟨rfl, hI, ⟨(rg_w rl_1 (by decide)), (fun vl vh h1 h2 h3 _ => land_w h3 (by rw [ez1, arr_inj az1 (h1 _ mq_16 tq_16)]; rfl) (n_le c2))⟩⟩
set_option maxHeartbeats 4000000 in
set_option maxRecDepth 100000 in
theorem t_X10_isFlight (l : Launch) (E : gE) (J : Nat → Nat) (τ : Nat → Nat) (L : List Nat) (f : gF) (hI : tI E L τ f) {q : Nat} (mq : q ∈ L) (tq : τ q = 40) (p1 : Int64) : tMi l E J yX10_isFlight cX10_isFlight 3 .boolean (gRm (2) 0 0) [.ref q, .long p1] L f (tPi E L τ [] f (fun r f1 => rg r 0 1 ∧ ((¬ r = 0 → 0 ≤ p1.toInt ∧ p1.toInt ≤ 3) ∧ (∀ vl vh : Nat → Int32, isA E L τ f 46 5 vl → isA E L τ f 47 45 vh → rowOK vl vh 0 → ¬ r = 0 → 1 ≤ (vh 0).toInt)))) := by
  refine tMi.intro (by decide) (Nat.le_of_ble_eq_true rfl) ?_
  intro p e s m below meth c A ls C hr hA hO hH hl
  have C : gC E cX10_isFlight 3 RX10 p s m _ meth c := C
  have hl : lv_has ls 3 [(0, .ref q), (1, .long p1)] := hl
  have hx := C.1
  have hb := C.2.1
  have hI := hI.S []
  refine lv_lload_n hx hb dX10_isFlight_0 rfl (lv_at hl 1 rfl) ?_
  refine lv_lconst (v := (0 : Int64)) hx hb dX10_isFlight_1 (by decide) ?_
  refine lv_aload_n hx hb dX10_isFlight_2 rfl (lv_at hl 0 rfl) ?_
  refine t_Vi C hO hl.1 hA hH hI.1 (As := []) (rest := [.long (0 : Int64), .long p1]) (t_X10_flights l E J τ L f hI.1 mq tq) my_X10_flights wd752 mq tq td_40 rfl rfl rfl (Nat.le_of_ble_eq_true rfl) ⟨Nat.le_of_ble_eq_true rfl, Nat.le_of_ble_eq_true rfl⟩ ⟨rfl, rfl⟩ dX10_isFlight_3 (fun r2 L1 f1 H locs hp hH => ?_)
  obtain ⟨rfl, s3, h4⟩ := hp
  have hJ := hI
  have hI := hI.call s3 (by decide)
  refine lv_i2l (v := (r2).toInt64) hx hb dX10_isFlight_6 rfl ?_
  refine lv_lconst (v := (1 : Int64)) hx hb dX10_isFlight_7 (by decide) ?_
  refine lv_lsub hx hb dX10_isFlight_8 ?_
  refine lv_topl (fun z5 ez5 => ?_)
  refine t_Si C hO hl.1 hA hH (As := [.long p1, .long (0 : Int64), .long z5]) (rest := []) (t_X10_in l E J τ L f1 hI.1 p1 ((0 : Int64)) z5) my_X10_in wd744 rfl rfl (Nat.le_of_ble_eq_true rfl) ⟨Nat.le_of_ble_eq_true rfl, Nat.le_of_ble_eq_true rfl⟩ ⟨rfl, rfl⟩ dX10_isFlight_9 (fun r7 L1 f6 H locs hp hH => ?_)
  obtain ⟨rfl, s8, h9⟩ := hp
  have hJ := hI
  have hI := hI.call s8 (by decide)
  exact g_zret C hr (rg_z h9.1) hH (Nat.zero_le _) (Nat.zero_le _) dX10_isFlight_12 ⟨rfl, hI, ⟨h9.1, ⟨fun hn => is_ok (h9.2 hn) ez5 h4.1, fun vl vh h1 h2 h3 hn => is_wF h3 (h4.2 vh h2) (is_pos (h9.2 hn) ez5 h4.1)⟩⟩⟩
set_option maxHeartbeats 4000000 in
set_option maxRecDepth 100000 in
theorem t_X10_isMember (l : Launch) (E : gE) (J : Nat → Nat) (τ : Nat → Nat) (L : List Nat) (f : gF) (hI : tI E L τ f) {q : Nat} (mq : q ∈ L) (tq : τ q = 40) (p1 : Int64) : tMi l E J yX10_isMember cX10_isMember 3 .boolean (gRm (2) 0 0) [.ref q, .long p1] L f (tPi E L τ [] f (fun r f1 => rg r 0 1 ∧ ((¬ r = 0 → 0 ≤ p1.toInt ∧ p1.toInt ≤ 5) ∧ (∀ vl vh : Nat → Int32, isA E L τ f 46 5 vl → isA E L τ f 47 45 vh → rowOK vl vh 0 → ¬ r = 0 → 1 ≤ (vh 0).toInt)))) := by
  refine tMi.intro (by decide) (Nat.le_of_ble_eq_true rfl) ?_
  intro p e s m below meth c A ls C hr hA hO hH hl
  have C : gC E cX10_isMember 3 RX10 p s m _ meth c := C
  have hl : lv_has ls 3 [(0, .ref q), (1, .long p1)] := hl
  have hx := C.1
  have hb := C.2.1
  have hI := hI.S []
  refine lv_lload_n hx hb dX10_isMember_0 rfl (lv_at hl 1 rfl) ?_
  refine lv_lconst (v := (0 : Int64)) hx hb dX10_isMember_1 (by decide) ?_
  refine lv_aload_n hx hb dX10_isMember_2 rfl (lv_at hl 0 rfl) ?_
  refine t_Vi C hO hl.1 hA hH hI.1 (As := []) (rest := [.long (0 : Int64), .long p1]) (t_X10_members l E J τ L f hI.1 mq tq) my_X10_members wd756 mq tq td_40 rfl rfl rfl (Nat.le_of_ble_eq_true rfl) ⟨Nat.le_of_ble_eq_true rfl, Nat.le_of_ble_eq_true rfl⟩ ⟨rfl, rfl⟩ dX10_isMember_3 (fun r2 L1 f1 H locs hp hH => ?_)
  obtain ⟨rfl, s3, h4⟩ := hp
  have hJ := hI
  have hI := hI.call s3 (by decide)
  refine lv_i2l (v := (r2).toInt64) hx hb dX10_isMember_6 rfl ?_
  refine lv_lconst (v := (1 : Int64)) hx hb dX10_isMember_7 (by decide) ?_
  refine lv_lsub hx hb dX10_isMember_8 ?_
  refine lv_topl (fun z5 ez5 => ?_)
  refine t_Si C hO hl.1 hA hH (As := [.long p1, .long (0 : Int64), .long z5]) (rest := []) (t_X10_in l E J τ L f1 hI.1 p1 ((0 : Int64)) z5) my_X10_in wd744 rfl rfl (Nat.le_of_ble_eq_true rfl) ⟨Nat.le_of_ble_eq_true rfl, Nat.le_of_ble_eq_true rfl⟩ ⟨rfl, rfl⟩ dX10_isMember_9 (fun r7 L1 f6 H locs hp hH => ?_)
  obtain ⟨rfl, s8, h9⟩ := hp
  have hJ := hI
  have hI := hI.call s8 (by decide)
  exact g_zret C hr (rg_z h9.1) hH (Nat.zero_le _) (Nat.zero_le _) dX10_isMember_12 ⟨rfl, hI, ⟨h9.1, ⟨fun hn => is_ok (h9.2 hn) ez5 h4.1, fun vl vh h1 h2 h3 hn => is_wM h3 (h4.2 vh h2) (is_pos (h9.2 hn) ez5 h4.1)⟩⟩⟩
set_option maxHeartbeats 4000000 in
set_option maxRecDepth 100000 in
theorem t_X10_isCell (l : Launch) (E : gE) (J : Nat → Nat) (τ : Nat → Nat) (L : List Nat) (f : gF) (hI : tI E L τ f) {q : Nat} (mq : q ∈ L) (tq : τ q = 40) (p1 : Int64) : tMi l E J yX10_isCell cX10_isCell 3 .boolean (gRm (2) 0 0) [.ref q, .long p1] L f (tPi E L τ [] f (fun r f1 => rg r 0 1 ∧ ((¬ r = 0 → 0 ≤ p1.toInt ∧ p1.toInt ≤ 19) ∧ (∀ vl vh : Nat → Int32, isA E L τ f 46 5 vl → isA E L τ f 47 45 vh → rowOK vl vh 0 → ¬ r = 0 → 1 ≤ (vh 0).toInt)))) := by
  refine tMi.intro (by decide) (Nat.le_of_ble_eq_true rfl) ?_
  intro p e s m below meth c A ls C hr hA hO hH hl
  have C : gC E cX10_isCell 3 RX10 p s m _ meth c := C
  have hl : lv_has ls 3 [(0, .ref q), (1, .long p1)] := hl
  have hx := C.1
  have hb := C.2.1
  have hI := hI.S []
  have hP0 : ∀ vh : Nat → Int32, isA E L τ f 47 45 vh → hasP vh := fun vh h => hasP_of hI.1 mq tq h
  refine lv_lload_n hx hb dX10_isCell_0 rfl (lv_at hl 1 rfl) ?_
  refine lv_lconst (v := (0 : Int64)) hx hb dX10_isCell_1 (by decide) ?_
  refine lv_aload_n hx hb dX10_isCell_2 rfl (lv_at hl 0 rfl) ?_
  refine t_Vi C hO hl.1 hA hH hI.1 (As := []) (rest := [.long (0 : Int64), .long p1]) (t_X10_cellsAll l E J τ L f hI.1 mq tq) my_X10_cellsAll wd760 mq tq td_40 rfl rfl rfl (Nat.le_of_ble_eq_true rfl) ⟨Nat.le_of_ble_eq_true rfl, Nat.le_of_ble_eq_true rfl⟩ ⟨rfl, rfl⟩ dX10_isCell_3 (fun r2 L1 f1 H locs hp hH => ?_)
  obtain ⟨rfl, s3, h4⟩ := hp
  have hJ := hI
  have hI := hI.call s3 (by decide)
  refine lv_i2l (v := (r2).toInt64) hx hb dX10_isCell_6 rfl ?_
  refine lv_lconst (v := (1 : Int64)) hx hb dX10_isCell_7 (by decide) ?_
  refine lv_lsub hx hb dX10_isCell_8 ?_
  refine lv_topl (fun z5 ez5 => ?_)
  refine t_Si C hO hl.1 hA hH (As := [.long p1, .long (0 : Int64), .long z5]) (rest := []) (t_X10_in l E J τ L f1 hI.1 p1 ((0 : Int64)) z5) my_X10_in wd744 rfl rfl (Nat.le_of_ble_eq_true rfl) ⟨Nat.le_of_ble_eq_true rfl, Nat.le_of_ble_eq_true rfl⟩ ⟨rfl, rfl⟩ dX10_isCell_9 (fun r7 L1 f6 H locs hp hH => ?_)
  obtain ⟨rfl, s8, h9⟩ := hp
  have hJ := hI
  have hI := hI.call s8 (by decide)
  exact g_zret C hr (rg_z h9.1) hH (Nat.zero_le _) (Nat.zero_le _) dX10_isCell_12 ⟨rfl, hI, ⟨h9.1, ⟨fun hn => is_ok (h9.2 hn) ez5 h4.1, fun vl vh h1 h2 h3 hn => is_wC h3 (h4.2 vh h2) (is_pos (h9.2 hn) ez5 h4.1) (hP0 vh h2)⟩⟩⟩
set_option maxHeartbeats 4000000 in
set_option maxRecDepth 100000 in
theorem t_X10_areTwo (l : Launch) (E : gE) (J : Nat → Nat) (τ : Nat → Nat) (L : List Nat) (f : gF) (hI : tI E L τ f) {q : Nat} (mq : q ∈ L) (tq : τ q = 40) (p1 : Int32) (p2 : Int32) : tMi l E J yX10_areTwo cX10_areTwo 3 .boolean (gRm (3) 0 0) [.ref q, .int p1, .int p2] L f (tPi E L τ [] f (fun r f1 => rg r 0 1 ∧ (¬ r = 0 → rg p1 0 5) ∧ (¬ r = 0 → rg p2 0 5) ∧ ((∀ vl vh : Nat → Int32, isA E L τ f 46 5 vl → isA E L τ f 47 45 vh → rowOK vl vh 0 → ¬ r = 0 → 1 ≤ (vh 0).toInt)))) := by
  refine tMi.intro (by decide) (Nat.le_of_ble_eq_true rfl) ?_
  intro p e s m below meth c A ls C hr hA hO hH hl
  have C : gC E cX10_areTwo 3 RX10 p s m _ meth c := C
  have hl : lv_has ls 3 [(0, .ref q), (1, .int p1), (2, .int p2)] := hl
  have hx := C.1
  have hb := C.2.1
  have hI := hI.S []
  refine lv_aload_n hx hb dX10_areTwo_0 rfl (lv_at hl 0 rfl) ?_
  refine lv_iload_n hx hb dX10_areTwo_1 rfl (lv_at hl 1 rfl) ?_
  refine lv_i2l (v := (p1).toInt64) hx hb dX10_areTwo_2 rfl ?_
  refine t_Vi C hO hl.1 hA hH hI.1 (As := [.long (p1).toInt64]) (rest := []) (t_X10_isMember l E J τ L f hI.1 mq tq ((p1).toInt64)) my_X10_isMember wd764 mq tq td_40 rfl rfl rfl (Nat.le_of_ble_eq_true rfl) ⟨Nat.le_of_ble_eq_true rfl, Nat.le_of_ble_eq_true rfl⟩ ⟨rfl, rfl⟩ dX10_areTwo_3 (fun r2 L1 f1 H locs hp hH => ?_)
  obtain ⟨rfl, s3, h4⟩ := hp
  have hJ := hI
  have hI := hI.call s3 (by decide)
  have w5 := fun vl vh (h1 : isA E L τ f 46 5 vl) (h2 : isA E L τ f 47 45 vh) (h3 : rowOK vl vh 0) => h4.2.2 vl vh (h1.S hJ rfl) (h2.S hJ rfl) h3
  refine lv_if_eq (tgt := 27) hx hb dX10_areTwo_6 (by decide) (fun c6 => ?_) (fun c6 => ?_)
  · skip
    have r7 : rg r2 0 0 := rf_eql (c_eq c6) h4.1 rl_0 (by decide)
    refine lv_iconst (v := (0 : Int32)) hx hb dX10_areTwo_27 (by decide) ?_
    exact g_zret C hr (rg_z (rg_w rl_0 (by decide))) hH (Nat.zero_le _) (Nat.zero_le _) dX10_areTwo_28 ⟨rfl, hI, ⟨(rg_w rl_0 (by decide)), (fun h => absurd rfl h), (fun h => absurd rfl h), (fun _ _ _ _ _ h => absurd rfl h)⟩⟩
  · skip
    have r8 : rg r2 1 1 := rf_nel (n_eq c6) h4.1 rl_0 (by decide)
    have r9 : rg p1 0 5 := is_rg (h4.2.1 c6) (rg_all _) (by decide)
    refine lv_aload_n hx hb dX10_areTwo_9 rfl (lv_at hl 0 rfl) ?_
    refine lv_iload_n hx hb dX10_areTwo_10 rfl (lv_at hl 2 rfl) ?_
    refine lv_i2l (v := (p2).toInt64) hx hb dX10_areTwo_11 rfl ?_
    refine t_Vi C hO hl.1 hA hH hI.1 (As := [.long (p2).toInt64]) (rest := []) (t_X10_isMember l E J τ L f1 hI.1 mq tq ((p2).toInt64)) my_X10_isMember wd764 mq tq td_40 rfl rfl rfl (Nat.le_of_ble_eq_true rfl) ⟨Nat.le_of_ble_eq_true rfl, Nat.le_of_ble_eq_true rfl⟩ ⟨rfl, rfl⟩ dX10_areTwo_12 (fun r11 L1 f10 H locs hp hH => ?_)
    obtain ⟨rfl, s12, h13⟩ := hp
    have hJ := hI
    have hI := hI.call s12 (by decide)
    have w14 := fun vl vh (h1 : isA E L τ f 46 5 vl) (h2 : isA E L τ f 47 45 vh) (h3 : rowOK vl vh 0) => h13.2.2 vl vh (h1.S hJ rfl) (h2.S hJ rfl) h3
    refine lv_if_eq (tgt := 27) hx hb dX10_areTwo_15 (by decide) (fun c15 => ?_) (fun c15 => ?_)
    · skip
      have r16 : rg r11 0 0 := rf_eql (c_eq c15) h13.1 rl_0 (by decide)
      refine lv_iconst (v := (0 : Int32)) hx hb dX10_areTwo_27 (by decide) ?_
      exact g_zret C hr (rg_z (rg_w rl_0 (by decide))) hH (Nat.zero_le _) (Nat.zero_le _) dX10_areTwo_28 ⟨rfl, hI, ⟨(rg_w rl_0 (by decide)), (fun h => absurd rfl h), (fun h => absurd rfl h), (fun _ _ _ _ _ h => absurd rfl h)⟩⟩
    · skip
      have r17 : rg r11 1 1 := rf_nel (n_eq c15) h13.1 rl_0 (by decide)
      have r18 : rg p2 0 5 := is_rg (h13.2.1 c15) (rg_all _) (by decide)
      refine lv_iload_n hx hb dX10_areTwo_18 rfl (lv_at hl 1 rfl) ?_
      refine lv_iload_n hx hb dX10_areTwo_19 rfl (lv_at hl 2 rfl) ?_
      refine lv_icmp_eq (tgt := 27) hx hb dX10_areTwo_20 (by decide) (fun c19 => ?_) (fun c19 => ?_)
      · skip
        refine lv_iconst (v := (0 : Int32)) hx hb dX10_areTwo_27 (by decide) ?_
        exact g_zret C hr (rg_z (rg_w rl_0 (by decide))) hH (Nat.zero_le _) (Nat.zero_le _) dX10_areTwo_28 ⟨rfl, hI, ⟨(rg_w rl_0 (by decide)), (fun h => absurd rfl h), (fun h => absurd rfl h), (fun _ _ _ _ _ h => absurd rfl h)⟩⟩
      · skip
        refine lv_iconst (v := (1 : Int32)) hx hb dX10_areTwo_23 (by decide) ?_
        refine lv_goto (tgt := 28) hx hb dX10_areTwo_24 (by decide) ?_
        exact g_zret C hr (rg_z (rg_w rl_1 (by decide))) hH (Nat.zero_le _) (Nat.zero_le _) dX10_areTwo_28 ⟨rfl, hI, ⟨(rg_w rl_1 (by decide)), (fun _ => r9), (fun _ => r18), (fun vl vh h1 h2 h3 _ => w5 vl vh h1 h2 h3 c6)⟩⟩
set_option maxHeartbeats 4000000 in
set_option maxRecDepth 100000 in
theorem t_X10_isMany (l : Launch) (E : gE) (J : Nat → Nat) (τ : Nat → Nat) (L : List Nat) (f : gF) (hI : tI E L τ f) {q : Nat} (mq : q ∈ L) (tq : τ q = 40) (p1 : Int32) : tMi l E J yX10_isMany cX10_isMany 2 .boolean (gRm (2) 0 0) [.ref q, .int p1] L f (tPi E L τ [] f (fun r f1 => rg r 0 1 ∧ (¬ r = 0 → rg p1 0 3) ∧ ((∀ vl vh : Nat → Int32, isA E L τ f 46 5 vl → isA E L τ f 47 45 vh → rowOK vl vh 0 → ¬ r = 0 → 1 ≤ (vh 0).toInt)))) := by
  refine tMi.intro (by decide) (Nat.le_of_ble_eq_true rfl) ?_
  intro p e s m below meth c A ls C hr hA hO hH hl
  have C : gC E cX10_isMany 2 RX10 p s m _ meth c := C
  have hl : lv_has ls 2 [(0, .ref q), (1, .int p1)] := hl
  have hx := C.1
  have hb := C.2.1
  have hI := hI.S []
  refine lv_aload_n hx hb dX10_isMany_0 rfl (lv_at hl 0 rfl) ?_
  refine t_Vi C hO hl.1 hA hH hI.1 (As := []) (rest := []) (t_X10_isLand l E J τ L f hI.1 mq tq) my_X10_isLand wd768 mq tq td_40 rfl rfl rfl (Nat.le_of_ble_eq_true rfl) ⟨Nat.le_of_ble_eq_true rfl, Nat.le_of_ble_eq_true rfl⟩ ⟨rfl, rfl⟩ dX10_isMany_1 (fun r2 L1 f1 H locs hp hH => ?_)
  obtain ⟨rfl, s3, h4⟩ := hp
  have hJ := hI
  have hI := hI.call s3 (by decide)
  have w5 := fun vl vh (h1 : isA E L τ f 46 5 vl) (h2 : isA E L τ f 47 45 vh) (h3 : rowOK vl vh 0) => h4.2 vl vh (h1.S hJ rfl) (h2.S hJ rfl) h3
  refine lv_if_eq (tgt := 23) hx hb dX10_isMany_4 (by decide) (fun c6 => ?_) (fun c6 => ?_)
  · skip
    have r7 : rg r2 0 0 := rf_eql (c_eq c6) h4.1 rl_0 (by decide)
    refine lv_iconst (v := (0 : Int32)) hx hb dX10_isMany_23 (by decide) ?_
    exact g_zret C hr (rg_z (rg_w rl_0 (by decide))) hH (Nat.zero_le _) (Nat.zero_le _) dX10_isMany_24 ⟨rfl, hI, ⟨(rg_w rl_0 (by decide)), (fun h => absurd rfl h), (fun _ _ _ _ _ h => absurd rfl h)⟩⟩
  · skip
    have r8 : rg r2 1 1 := rf_nel (n_eq c6) h4.1 rl_0 (by decide)
    refine lv_iload_n hx hb dX10_isMany_7 rfl (lv_at hl 1 rfl) ?_
    refine lv_i2l (v := (p1).toInt64) hx hb dX10_isMany_8 rfl ?_
    refine lv_lconst (v := (0 : Int64)) hx hb dX10_isMany_9 (by decide) ?_
    refine lv_ldc2 hx hb C.2.2.2.1 (C.2.2.2.2.1 _ wd740) dX10_isMany_10 ?_
    refine t_Si C hO hl.1 hA hH (As := [.long (p1).toInt64, .long (0 : Int64), .long (3 : Int64)]) (rest := []) (t_X10_in l E J τ L f1 hI.1 ((p1).toInt64) ((0 : Int64)) ((3 : Int64))) my_X10_in wd744 rfl rfl (Nat.le_of_ble_eq_true rfl) ⟨Nat.le_of_ble_eq_true rfl, Nat.le_of_ble_eq_true rfl⟩ ⟨rfl, rfl⟩ dX10_isMany_13 (fun r10 L1 f9 H locs hp hH => ?_)
    obtain ⟨rfl, s11, h12⟩ := hp
    have hJ := hI
    have hI := hI.call s11 (by decide)
    refine lv_if_eq (tgt := 23) hx hb dX10_isMany_16 (by decide) (fun c13 => ?_) (fun c13 => ?_)
    · skip
      have r14 : rg r10 0 0 := rf_eql (c_eq c13) h12.1 rl_0 (by decide)
      refine lv_iconst (v := (0 : Int32)) hx hb dX10_isMany_23 (by decide) ?_
      exact g_zret C hr (rg_z (rg_w rl_0 (by decide))) hH (Nat.zero_le _) (Nat.zero_le _) dX10_isMany_24 ⟨rfl, hI, ⟨(rg_w rl_0 (by decide)), (fun h => absurd rfl h), (fun _ _ _ _ _ h => absurd rfl h)⟩⟩
    · skip
      have r15 : rg r10 1 1 := rf_nel (n_eq c13) h12.1 rl_0 (by decide)
      have r16 : rg p1 0 3 := in_rg (la := 0) (lb := 3) (h12.2 c13) (rg_all _) (by decide) (by decide) (by decide)
      refine lv_iconst (v := (1 : Int32)) hx hb dX10_isMany_19 (by decide) ?_
      refine lv_goto (tgt := 24) hx hb dX10_isMany_20 (by decide) ?_
      exact g_zret C hr (rg_z (rg_w rl_1 (by decide))) hH (Nat.zero_le _) (Nat.zero_le _) dX10_isMany_24 ⟨rfl, hI, ⟨(rg_w rl_1 (by decide)), (fun _ => r16), (fun vl vh h1 h2 h3 _ => w5 vl vh h1 h2 h3 c6)⟩⟩
set_option maxHeartbeats 4000000 in
set_option maxRecDepth 100000 in
theorem t_X10_isLaw (l : Launch) (E : gE) (J : Nat → Nat) (τ : Nat → Nat) (L : List Nat) (f : gF) (hI : tI E L τ f) {q : Nat} (mq : q ∈ L) (tq : τ q = 40) (p1 : Int32) : tMi l E J yX10_isLaw cX10_isLaw 2 .boolean (gRm (2) 0 0) [.ref q, .int p1] L f (tPi E L τ [] f (fun r f1 => rg r 0 1 ∧ (¬ r = 0 → rg p1 0 3) ∧ ((∀ vl vh : Nat → Int32, isA E L τ f 46 5 vl → isA E L τ f 47 45 vh → rowOK vl vh 0 → ¬ r = 0 → 1 ≤ (vh 0).toInt)))) := by
  refine tMi.intro (by decide) (Nat.le_of_ble_eq_true rfl) ?_
  intro p e s m below meth c A ls C hr hA hO hH hl
  have C : gC E cX10_isLaw 2 RX10 p s m _ meth c := C
  have hl : lv_has ls 2 [(0, .ref q), (1, .int p1)] := hl
  have hx := C.1
  have hb := C.2.1
  have hI := hI.S []
  refine lv_aload_n hx hb dX10_isLaw_0 rfl (lv_at hl 0 rfl) ?_
  refine t_Vi C hO hl.1 hA hH hI.1 (As := []) (rest := []) (t_X10_isLand l E J τ L f hI.1 mq tq) my_X10_isLand wd768 mq tq td_40 rfl rfl rfl (Nat.le_of_ble_eq_true rfl) ⟨Nat.le_of_ble_eq_true rfl, Nat.le_of_ble_eq_true rfl⟩ ⟨rfl, rfl⟩ dX10_isLaw_1 (fun r2 L1 f1 H locs hp hH => ?_)
  obtain ⟨rfl, s3, h4⟩ := hp
  have hJ := hI
  have hI := hI.call s3 (by decide)
  have w5 := fun vl vh (h1 : isA E L τ f 46 5 vl) (h2 : isA E L τ f 47 45 vh) (h3 : rowOK vl vh 0) => h4.2 vl vh (h1.S hJ rfl) (h2.S hJ rfl) h3
  refine lv_if_eq (tgt := 23) hx hb dX10_isLaw_4 (by decide) (fun c6 => ?_) (fun c6 => ?_)
  · skip
    have r7 : rg r2 0 0 := rf_eql (c_eq c6) h4.1 rl_0 (by decide)
    refine lv_iconst (v := (0 : Int32)) hx hb dX10_isLaw_23 (by decide) ?_
    exact g_zret C hr (rg_z (rg_w rl_0 (by decide))) hH (Nat.zero_le _) (Nat.zero_le _) dX10_isLaw_24 ⟨rfl, hI, ⟨(rg_w rl_0 (by decide)), (fun h => absurd rfl h), (fun _ _ _ _ _ h => absurd rfl h)⟩⟩
  · skip
    have r8 : rg r2 1 1 := rf_nel (n_eq c6) h4.1 rl_0 (by decide)
    refine lv_iload_n hx hb dX10_isLaw_7 rfl (lv_at hl 1 rfl) ?_
    refine lv_i2l (v := (p1).toInt64) hx hb dX10_isLaw_8 rfl ?_
    refine lv_lconst (v := (0 : Int64)) hx hb dX10_isLaw_9 (by decide) ?_
    refine lv_ldc2 hx hb C.2.2.2.1 (C.2.2.2.2.1 _ wd740) dX10_isLaw_10 ?_
    refine t_Si C hO hl.1 hA hH (As := [.long (p1).toInt64, .long (0 : Int64), .long (3 : Int64)]) (rest := []) (t_X10_in l E J τ L f1 hI.1 ((p1).toInt64) ((0 : Int64)) ((3 : Int64))) my_X10_in wd744 rfl rfl (Nat.le_of_ble_eq_true rfl) ⟨Nat.le_of_ble_eq_true rfl, Nat.le_of_ble_eq_true rfl⟩ ⟨rfl, rfl⟩ dX10_isLaw_13 (fun r10 L1 f9 H locs hp hH => ?_)
    obtain ⟨rfl, s11, h12⟩ := hp
    have hJ := hI
    have hI := hI.call s11 (by decide)
    refine lv_if_eq (tgt := 23) hx hb dX10_isLaw_16 (by decide) (fun c13 => ?_) (fun c13 => ?_)
    · skip
      have r14 : rg r10 0 0 := rf_eql (c_eq c13) h12.1 rl_0 (by decide)
      refine lv_iconst (v := (0 : Int32)) hx hb dX10_isLaw_23 (by decide) ?_
      exact g_zret C hr (rg_z (rg_w rl_0 (by decide))) hH (Nat.zero_le _) (Nat.zero_le _) dX10_isLaw_24 ⟨rfl, hI, ⟨(rg_w rl_0 (by decide)), (fun h => absurd rfl h), (fun _ _ _ _ _ h => absurd rfl h)⟩⟩
    · skip
      have r15 : rg r10 1 1 := rf_nel (n_eq c13) h12.1 rl_0 (by decide)
      have r16 : rg p1 0 3 := in_rg (la := 0) (lb := 3) (h12.2 c13) (rg_all _) (by decide) (by decide) (by decide)
      refine lv_iconst (v := (1 : Int32)) hx hb dX10_isLaw_19 (by decide) ?_
      refine lv_goto (tgt := 24) hx hb dX10_isLaw_20 (by decide) ?_
      exact g_zret C hr (rg_z (rg_w rl_1 (by decide))) hH (Nat.zero_le _) (Nat.zero_le _) dX10_isLaw_24 ⟨rfl, hI, ⟨(rg_w rl_1 (by decide)), (fun _ => r16), (fun vl vh h1 h2 h3 _ => w5 vl vh h1 h2 h3 c6)⟩⟩
