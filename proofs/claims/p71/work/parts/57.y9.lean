/-! how many bits -/
def pcY (x : Int32) : Nat := (List.range 6).countP (fun k => x.toInt.toNat.testBit k)
theorem pcy_le (x : Int32) : pcY x ≤ 6 := List.countP_le_length
theorem pcy_all : ∀ k : Fin 64, k.val ≠ 0 → pcY (Int32.ofNat k.val &&& (Int32.ofNat k.val - 1)) + 1 = pcY (Int32.ofNat k.val) := by decide +kernel
def btY (b k : Int32) : Prop := (b >>> (k &&& 31)) &&& 1 = 1
theorem pcy_bit : ∀ k : Fin 64, ∀ j : Fin 6, (Int32.ofNat k.val >>> (Int32.ofNat j.val &&& 31)) &&& 1 = 1 → pcY (Int32.ofNat k.val &&& (((1 : Int32) <<< (Int32.ofNat j.val &&& 31)) ^^^ (-1))) + 1 = pcY (Int32.ofNat k.val) := by decide +kernel
theorem pcy_b {v m a b z : Int32} (hv : rg v 0 63) (hm : rg m 0 5) (hb : btY v m) (e1 : a = (1 : Int32) <<< (m &&& 31)) (e2 : b = a ^^^ (-1)) (e3 : z = v &&& b) : pcY z + 1 = pcY v := by
  obtain ⟨n, hn, hn2, -⟩ := rg_nat hv
  obtain ⟨k, hk, hk2, -⟩ := rg_nat hm
  unfold rg at hv hm
  have h1 := pcy_bit ⟨n, by omega⟩ ⟨k, by omega⟩
  unfold btY at hb
  rw [hn, hk] at hb
  rw [e3, e2, e1, hn, hk]
  exact h1 hb
theorem bt_0 : ∀ j : Fin 6, ¬ (((0 : Int32) >>> (Int32.ofNat j.val &&& 31)) &&& 1 = 1) := by decide +kernel
theorem bt_all : ∀ k : Fin 7, ∀ j : Fin 6, j.val < k.val → ((((1 : Int32) <<< (Int32.ofNat k.val &&& 31)) - 1) >>> (Int32.ofNat j.val &&& 31)) &&& 1 = 1 := by decide +kernel
theorem bt_full {m w z1 z2 : Int32} (hm : rg m 0 6) (hw : rg w 0 5) (hlt : w.toInt < m.toInt) (e1 : z1 = (1 : Int32) <<< (m &&& 31)) (e2 : z2 = z1 - 1) : btY z2 w := by
  obtain ⟨n, hn, hn2, -⟩ := rg_nat hm
  obtain ⟨k, hk, hk2, -⟩ := rg_nat hw
  unfold rg at hm hw
  have h1 := bt_all ⟨n, by omega⟩ ⟨k, by omega⟩ (by show k < n; omega)
  unfold btY
  rw [e2, e1, hn, hk]
  exact h1
theorem is_lt {x z : Int64} {y v : Int32} {b : Int} (h : (0 : Int64).toInt ≤ x.toInt ∧ x.toInt ≤ z.toInt) (e : z = y.toInt64 - 1) (hy : rg y 0 b) (ev : y = v) (s : decide (b ≤ 100) = true := by decide) : x.toInt < v.toInt := by
  have h1 := i64_sub1 e hy s
  rw [← ev]
  omega
def cX (N : Nat) : Nat := 120 * 6 ^ N
theorem cx_s (N : Nat) : cX (N + 1) = 6 * cX N := by unfold cX; rw [Nat.pow_succ]; omega
theorem cx_p (N : Nat) : 120 ≤ cX N := by unfold cX; have := Nat.pow_pos (n := N) (show 0 < 6 by decide); omega
def cmI (N : Nat) (c0 g m who left : Int32) : Prop := c0.toInt ≤ g.toInt ∧ g.toInt ≤ c0.toInt + m.toInt * (cX N : Int) ∧ (who.toInt < m.toInt → btY left who → c0.toInt + 1 ≤ g.toInt)
def cmP (N : Nat) (c0 c1 M who left : Int32) : Prop := c0.toInt ≤ c1.toInt ∧ c1.toInt ≤ c0.toInt + (cX N : Int) ∧ (who.toInt < M.toInt → btY left who → c0.toInt + 1 ≤ c1.toInt)
theorem cm_70 : 0 ≤ (0 : Int32).toInt := by decide
theorem cm_71 : (0 : Int32).toInt + (cX 7 : Int) ≤ 2000000000 := by decide +kernel
theorem cm_r {N : Nat} {c : Int32} (b0 : 0 ≤ c.toInt) (b1 : c.toInt + (cX N : Int) ≤ 2000000000) : rg c 0 2000000000 := ⟨b0, by omega⟩
theorem cm_0 {N : Nat} {c w l : Int32} (hw : rg w 0 5) : cmI N c c 0 w l := by
  have t0 : (0 : Int32).toInt = 0 := by decide
  unfold rg at hw
  refine ⟨Int.le_refl _, ?_, fun h => ?_⟩
  · rw [t0, Int.zero_mul]; omega
  · rw [t0] at h; omega
theorem cm_x {N : Nat} {z m : Int32} (ha : z.toInt = m.toInt + 1) : z.toInt * (cX N : Int) = m.toInt * (cX N : Int) + (cX N : Int) := by rw [ha, Int.add_mul, Int.one_mul]
theorem cm_n {N : Nat} {c g m w l z : Int32} (F : cmI N c g m w l) (ha : z.toInt = m.toInt + 1) (hb : ¬ btY l m) : cmI N c g z w l := by
  refine ⟨F.1, ?_, fun h1 h2 => ?_⟩
  · have h1 := F.2.1
    rw [cm_x ha]
    omega
  · by_cases e : w.toInt = m.toInt
    · rw [Int32.toInt_inj.mp e] at h2
      exact absurd h2 hb
    · exact F.2.2 (by omega) h2
theorem cm_w {N : Nat} {c g m w l z y : Int32} (F : cmI N c g m w l) (hm : rg m 0 5) (b0 : 0 ≤ c.toInt) (b1 : c.toInt + (cX (N + 1) : Int) ≤ 2000000000) (hy : rg y 1 120) (e : z = g + y) : rg z 1 2000000000 ∧ z.toInt = g.toInt + y.toInt := by
  have h1 := F.2.1
  have h2 := F.1
  have h3 : m.toInt * (cX N : Int) ≤ 5 * (cX N : Int) := Int.mul_le_mul_of_nonneg_right hm.2 (by omega)
  have h4 := cx_s N
  have h5 := cx_p N
  unfold rg at *
  have h6 : z.toInt = g.toInt + y.toInt := by rw [e, Int32.toInt_add, bmI (by omega) (by omega)]
  exact ⟨⟨by omega, by omega⟩, h6⟩
theorem cm_e {N : Nat} {c g m w l z g2 y : Int32} (F : cmI N c g m w l) (ha : z.toInt = m.toInt + 1) (hg : g2.toInt = g.toInt + y.toInt) (hy : rg y 1 120) : cmI N c g2 z w l := by
  have h1 := F.1
  have h2 := F.2.1
  have h5 := cx_p N
  unfold rg at hy
  refine ⟨by omega, ?_, fun _ _ => by omega⟩
  rw [cm_x ha]
  omega
theorem cm_b {N : Nat} {c g m w l : Int32} (F : cmI N c g m w l) (hm : rg m 0 5) (b1 : c.toInt + (cX (N + 1) : Int) ≤ 2000000000) : g.toInt + (cX N : Int) ≤ 2000000000 := by
  have h1 := F.2.1
  have h3 : m.toInt * (cX N : Int) ≤ 5 * (cX N : Int) := Int.mul_le_mul_of_nonneg_right hm.2 (by omega)
  have h4 := cx_s N
  omega
theorem cm_rg {N : Nat} {c g m w l c1 M w2 l2 : Int32} (F : cmI N c g m w l) (hm : rg m 0 5) (b1 : c.toInt + (cX (N + 1) : Int) ≤ 2000000000) (P : cmP N g c1 M w2 l2) (hg : rg g 0 2000000000) : rg c1 0 2000000000 := by
  have h1 := cm_b F hm b1
  have h2 := P.1
  have h3 := P.2.1
  unfold rg at *
  omega
theorem cm_c {N : Nat} {c g m w l z c1 M w2 l2 : Int32} (F : cmI N c g m w l) (ha : z.toInt = m.toInt + 1) (hne : m.toInt ≠ w.toInt) (P : cmP N g c1 M w2 l2) : cmI N c c1 z w l := by
  have h1 := F.1
  have h2 := F.2.1
  have h3 := P.1
  have h4 := P.2.1
  refine ⟨by omega, ?_, fun h5 h6 => ?_⟩
  · rw [cm_x ha]
    omega
  · have h7 := F.2.2 (by omega) h6
    omega
theorem cm_z {N : Nat} {c M w l : Int32} (h : l = 0) (hw : rg w 0 5) : cmP N c c M w l := by
  refine ⟨Int.le_refl _, by omega, fun _ hb => ?_⟩
  obtain ⟨k, hk, hk2, -⟩ := rg_nat hw
  unfold rg at hw
  unfold btY at hb
  rw [h, hk] at hb
  exact absurd hb (bt_0 ⟨k, by omega⟩)
theorem cm_end {N : Nat} {c g m w l r M : Int32} (F : cmI N c g m w l) (hm : rg m 0 6) (hr : r.toInt ≤ m.toInt) (er : r = M) : cmP (N + 1) c g M w l := by
  have h1 := F.2.1
  have h3 : m.toInt * (cX N : Int) ≤ 6 * (cX N : Int) := Int.mul_le_mul_of_nonneg_right hm.2 (by omega)
  have h4 := cx_s N
  refine ⟨F.1, by omega, fun h5 h6 => F.2.2 ?_ h6⟩
  rw [er] at hr
  omega
theorem cm_one {N : Nat} {c1 M w l : Int32} (P : cmP N 0 c1 M w l) (hM : w.toInt < M.toInt) (hb : btY l w) : rg c1 1 2147483647 := by
  have t0 : (0 : Int32).toInt = 0 := by decide
  have h1 := P.2.2 hM hb
  rw [t0] at h1
  exact ⟨by omega, (rg_all _).2⟩
theorem pcy_s {v w z : Int32} (h : rg v 1 63) (e1 : w = v - 1) (e2 : z = v &&& w) : pcY z + 1 = pcY v := by
  obtain ⟨n, hn, hn2, -⟩ := rg_nat (b := 63) (x := v) (by unfold rg at *; omega)
  unfold rg at h
  have h1 := pcy_all ⟨n, by omega⟩ (by show n ≠ 0; omega)
  rw [e2, e1, hn]
  exact h1
theorem pz_0 {p : Int32} : (0 : Int32).toInt + (pcY p : Int) = (pcY p : Int) := by rw [show (0 : Int32).toInt = 0 from by decide, Int.zero_add]
theorem pz_n {n v z p : Int32} (F : n.toInt + (pcY v : Int) = (pcY p : Int)) (hn : rg n 0 6) (hv : rg v 1 63) (e : z = n + 1) : rg z 1 6 := by
  have h1 := pcy_s hv rfl rfl
  have h2 := pcy_le p
  have t1 : (1 : Int32).toInt = 1 := by decide
  unfold rg at *
  rw [e, Int32.toInt_add, t1, bmI (by omega) (by omega)]
  omega
theorem pz_s {n v z w x p : Int32} (F : n.toInt + (pcY v : Int) = (pcY p : Int)) (hn : rg n 0 6) (hv : rg v 1 63) (e : z = n + 1) (e1 : w = v - 1) (e2 : x = v &&& w) : z.toInt + (pcY x : Int) = (pcY p : Int) := by
  have h1 := pcy_s hv e1 e2
  have t1 : (1 : Int32).toInt = 1 := by decide
  unfold rg at hn
  have h3 : z.toInt = n.toInt + 1 := by rw [e, Int32.toInt_add, t1, bmI (by omega) (by omega)]
  omega
set_option maxHeartbeats 4000000 in
set_option maxRecDepth 100000 in
theorem t_waysOf_1 (l : Launch) (E : gE) (J : Nat → Nat) (τ : Nat → Nat) (L : List Nat) (f : gF) (hI : tI E L τ f) (p0 : Int32) (rp0 : rg p0 (-2147483648) 1) : tMi l E J yX10_waysOf cX10_waysOf 1 .int (gRm (1) 0 0) [.int p0] L f (tPi E L τ [] f (fun r f1 => rg r 1 1)) := by
  refine tMi.intro (by decide) (Nat.le_of_ble_eq_true rfl) ?_
  intro p e s m below meth c A ls C hr hA hO hH hl
  have C : gC E cX10_waysOf 1 RX10 p s m _ meth c := C
  have hl : lv_has ls 1 [(0, .int p0)] := hl
  have hx := C.1
  have hb := C.2.1
  have hI := hI.S []
  refine lv_iload_n hx hb dX10_waysOf_0 rfl (lv_at hl 0 rfl) ?_
  refine lv_iconst (v := (2 : Int32)) hx hb dX10_waysOf_1 (by decide) ?_
  refine lv_icmp_ge (tgt := 9) hx hb dX10_waysOf_2 (by decide) (fun c1 => ?_) (fun c1 => ?_)
  · skip
    exact (rg_no (show rg (2 : Int32) 2 1 from rf_lel (c_le c1) rl_2 rp0 (by decide)) (by decide)).elim
  · skip
    refine lv_iconst (v := (1 : Int32)) hx hb dX10_waysOf_5 (by decide) ?_
    refine lv_goto (tgt := 17) hx hb dX10_waysOf_6 (by decide) ?_
    exact g_iret C hr hH (Nat.zero_le _) (Nat.zero_le _) dX10_waysOf_17 ⟨rfl, hI, rl_1⟩
set_option maxHeartbeats 4000000 in
set_option maxRecDepth 100000 in
theorem t_waysOf_2 (l : Launch) (E : gE) (J : Nat → Nat) (τ : Nat → Nat) (L : List Nat) (f : gF) (hI : tI E L τ f) (p0 : Int32) (rp0 : rg p0 (-2147483648) 2) : tMi l E J yX10_waysOf cX10_waysOf 1 .int (gRm (2) 0 0) [.int p0] L f (tPi E L τ [] f (fun r f1 => rg r 1 2)) := by
  refine tMi.intro (by decide) (Nat.le_of_ble_eq_true rfl) ?_
  intro p e s m below meth c A ls C hr hA hO hH hl
  have C : gC E cX10_waysOf 1 RX10 p s m _ meth c := C
  have hl : lv_has ls 1 [(0, .int p0)] := hl
  have hx := C.1
  have hb := C.2.1
  have hI := hI.S []
  refine lv_iload_n hx hb dX10_waysOf_0 rfl (lv_at hl 0 rfl) ?_
  refine lv_iconst (v := (2 : Int32)) hx hb dX10_waysOf_1 (by decide) ?_
  refine lv_icmp_ge (tgt := 9) hx hb dX10_waysOf_2 (by decide) (fun c1 => ?_) (fun c1 => ?_)
  · skip
    have r2 : rg p0 2 2 := rf_ler (c_le c1) rl_2 rp0 (by decide)
    refine lv_iload_n hx hb dX10_waysOf_9 rfl (lv_at hl 0 rfl) ?_
    refine lv_iload_n hx hb dX10_waysOf_10 rfl (lv_at hl 0 rfl) ?_
    refine lv_iconst (v := (1 : Int32)) hx hb dX10_waysOf_11 (by decide) ?_
    refine lv_isub hx hb dX10_waysOf_12 ?_
    refine lv_topi (fun z3 ez3 => ?_)
    have r4 : rg z3 1 1 := rg_sub ez3 r2 rl_1 (by decide)
    refine t_Si C hO hl.1 hA hH (As := [.int z3]) (rest := [.int p0]) (t_waysOf_1 l E J τ L f hI.1 z3 (rg_w r4 (by decide))) my_X10_waysOf wd1161 rfl rfl (Nat.le_of_ble_eq_true rfl) ⟨Nat.le_of_ble_eq_true rfl, Nat.le_of_ble_eq_true rfl⟩ ⟨rfl, rfl⟩ dX10_waysOf_13 (fun r6 L1 f5 H locs hp hH => ?_)
    obtain ⟨rfl, s7, h8⟩ := hp
    have hI := hI.call s7 (by decide)
    refine lv_imul hx hb dX10_waysOf_16 ?_
    refine lv_topi (fun z9 ez9 => ?_)
    have r10 : rg z9 2 2 := rg_mul ez9 r2 h8 (by decide)
    exact g_iret C hr hH (Nat.zero_le _) (Nat.zero_le _) dX10_waysOf_17 ⟨rfl, hI, (rg_w r10 (by decide))⟩
  · skip
    have r11 : rg p0 (-2147483648) 1 := rf_ltl (n_le c1) rp0 rl_2 (by decide)
    refine lv_iconst (v := (1 : Int32)) hx hb dX10_waysOf_5 (by decide) ?_
    refine lv_goto (tgt := 17) hx hb dX10_waysOf_6 (by decide) ?_
    exact g_iret C hr hH (Nat.zero_le _) (Nat.zero_le _) dX10_waysOf_17 ⟨rfl, hI, (rg_w rl_1 (by decide))⟩
set_option maxHeartbeats 4000000 in
set_option maxRecDepth 100000 in
theorem t_waysOf_3 (l : Launch) (E : gE) (J : Nat → Nat) (τ : Nat → Nat) (L : List Nat) (f : gF) (hI : tI E L τ f) (p0 : Int32) (rp0 : rg p0 (-2147483648) 3) : tMi l E J yX10_waysOf cX10_waysOf 1 .int (gRm (3) 0 0) [.int p0] L f (tPi E L τ [] f (fun r f1 => rg r 1 6)) := by
  refine tMi.intro (by decide) (Nat.le_of_ble_eq_true rfl) ?_
  intro p e s m below meth c A ls C hr hA hO hH hl
  have C : gC E cX10_waysOf 1 RX10 p s m _ meth c := C
  have hl : lv_has ls 1 [(0, .int p0)] := hl
  have hx := C.1
  have hb := C.2.1
  have hI := hI.S []
  refine lv_iload_n hx hb dX10_waysOf_0 rfl (lv_at hl 0 rfl) ?_
  refine lv_iconst (v := (2 : Int32)) hx hb dX10_waysOf_1 (by decide) ?_
  refine lv_icmp_ge (tgt := 9) hx hb dX10_waysOf_2 (by decide) (fun c1 => ?_) (fun c1 => ?_)
  · skip
    have r2 : rg p0 2 3 := rf_ler (c_le c1) rl_2 rp0 (by decide)
    refine lv_iload_n hx hb dX10_waysOf_9 rfl (lv_at hl 0 rfl) ?_
    refine lv_iload_n hx hb dX10_waysOf_10 rfl (lv_at hl 0 rfl) ?_
    refine lv_iconst (v := (1 : Int32)) hx hb dX10_waysOf_11 (by decide) ?_
    refine lv_isub hx hb dX10_waysOf_12 ?_
    refine lv_topi (fun z3 ez3 => ?_)
    have r4 : rg z3 1 2 := rg_sub ez3 r2 rl_1 (by decide)
    refine t_Si C hO hl.1 hA hH (As := [.int z3]) (rest := [.int p0]) (t_waysOf_2 l E J τ L f hI.1 z3 (rg_w r4 (by decide))) my_X10_waysOf wd1161 rfl rfl (Nat.le_of_ble_eq_true rfl) ⟨Nat.le_of_ble_eq_true rfl, Nat.le_of_ble_eq_true rfl⟩ ⟨rfl, rfl⟩ dX10_waysOf_13 (fun r6 L1 f5 H locs hp hH => ?_)
    obtain ⟨rfl, s7, h8⟩ := hp
    have hI := hI.call s7 (by decide)
    refine lv_imul hx hb dX10_waysOf_16 ?_
    refine lv_topi (fun z9 ez9 => ?_)
    have r10 : rg z9 2 6 := rg_mul ez9 r2 h8 (by decide)
    exact g_iret C hr hH (Nat.zero_le _) (Nat.zero_le _) dX10_waysOf_17 ⟨rfl, hI, (rg_w r10 (by decide))⟩
  · skip
    have r11 : rg p0 (-2147483648) 1 := rf_ltl (n_le c1) rp0 rl_2 (by decide)
    refine lv_iconst (v := (1 : Int32)) hx hb dX10_waysOf_5 (by decide) ?_
    refine lv_goto (tgt := 17) hx hb dX10_waysOf_6 (by decide) ?_
    exact g_iret C hr hH (Nat.zero_le _) (Nat.zero_le _) dX10_waysOf_17 ⟨rfl, hI, (rg_w rl_1 (by decide))⟩
set_option maxHeartbeats 4000000 in
set_option maxRecDepth 100000 in
theorem t_waysOf_4 (l : Launch) (E : gE) (J : Nat → Nat) (τ : Nat → Nat) (L : List Nat) (f : gF) (hI : tI E L τ f) (p0 : Int32) (rp0 : rg p0 (-2147483648) 4) : tMi l E J yX10_waysOf cX10_waysOf 1 .int (gRm (4) 0 0) [.int p0] L f (tPi E L τ [] f (fun r f1 => rg r 1 24)) := by
  refine tMi.intro (by decide) (Nat.le_of_ble_eq_true rfl) ?_
  intro p e s m below meth c A ls C hr hA hO hH hl
  have C : gC E cX10_waysOf 1 RX10 p s m _ meth c := C
  have hl : lv_has ls 1 [(0, .int p0)] := hl
  have hx := C.1
  have hb := C.2.1
  have hI := hI.S []
  refine lv_iload_n hx hb dX10_waysOf_0 rfl (lv_at hl 0 rfl) ?_
  refine lv_iconst (v := (2 : Int32)) hx hb dX10_waysOf_1 (by decide) ?_
  refine lv_icmp_ge (tgt := 9) hx hb dX10_waysOf_2 (by decide) (fun c1 => ?_) (fun c1 => ?_)
  · skip
    have r2 : rg p0 2 4 := rf_ler (c_le c1) rl_2 rp0 (by decide)
    refine lv_iload_n hx hb dX10_waysOf_9 rfl (lv_at hl 0 rfl) ?_
    refine lv_iload_n hx hb dX10_waysOf_10 rfl (lv_at hl 0 rfl) ?_
    refine lv_iconst (v := (1 : Int32)) hx hb dX10_waysOf_11 (by decide) ?_
    refine lv_isub hx hb dX10_waysOf_12 ?_
    refine lv_topi (fun z3 ez3 => ?_)
    have r4 : rg z3 1 3 := rg_sub ez3 r2 rl_1 (by decide)
    refine t_Si C hO hl.1 hA hH (As := [.int z3]) (rest := [.int p0]) (t_waysOf_3 l E J τ L f hI.1 z3 (rg_w r4 (by decide))) my_X10_waysOf wd1161 rfl rfl (Nat.le_of_ble_eq_true rfl) ⟨Nat.le_of_ble_eq_true rfl, Nat.le_of_ble_eq_true rfl⟩ ⟨rfl, rfl⟩ dX10_waysOf_13 (fun r6 L1 f5 H locs hp hH => ?_)
    obtain ⟨rfl, s7, h8⟩ := hp
    have hI := hI.call s7 (by decide)
    refine lv_imul hx hb dX10_waysOf_16 ?_
    refine lv_topi (fun z9 ez9 => ?_)
    have r10 : rg z9 2 24 := rg_mul ez9 r2 h8 (by decide)
    exact g_iret C hr hH (Nat.zero_le _) (Nat.zero_le _) dX10_waysOf_17 ⟨rfl, hI, (rg_w r10 (by decide))⟩
  · skip
    have r11 : rg p0 (-2147483648) 1 := rf_ltl (n_le c1) rp0 rl_2 (by decide)
    refine lv_iconst (v := (1 : Int32)) hx hb dX10_waysOf_5 (by decide) ?_
    refine lv_goto (tgt := 17) hx hb dX10_waysOf_6 (by decide) ?_
    exact g_iret C hr hH (Nat.zero_le _) (Nat.zero_le _) dX10_waysOf_17 ⟨rfl, hI, (rg_w rl_1 (by decide))⟩
set_option maxHeartbeats 4000000 in
set_option maxRecDepth 100000 in
theorem t_waysOf_5 (l : Launch) (E : gE) (J : Nat → Nat) (τ : Nat → Nat) (L : List Nat) (f : gF) (hI : tI E L τ f) (p0 : Int32) (rp0 : rg p0 (-2147483648) 5) : tMi l E J yX10_waysOf cX10_waysOf 1 .int (gRm (5) 0 0) [.int p0] L f (tPi E L τ [] f (fun r f1 => rg r 1 120)) := by
  refine tMi.intro (by decide) (Nat.le_of_ble_eq_true rfl) ?_
  intro p e s m below meth c A ls C hr hA hO hH hl
  have C : gC E cX10_waysOf 1 RX10 p s m _ meth c := C
  have hl : lv_has ls 1 [(0, .int p0)] := hl
  have hx := C.1
  have hb := C.2.1
  have hI := hI.S []
  refine lv_iload_n hx hb dX10_waysOf_0 rfl (lv_at hl 0 rfl) ?_
  refine lv_iconst (v := (2 : Int32)) hx hb dX10_waysOf_1 (by decide) ?_
  refine lv_icmp_ge (tgt := 9) hx hb dX10_waysOf_2 (by decide) (fun c1 => ?_) (fun c1 => ?_)
  · skip
    have r2 : rg p0 2 5 := rf_ler (c_le c1) rl_2 rp0 (by decide)
    refine lv_iload_n hx hb dX10_waysOf_9 rfl (lv_at hl 0 rfl) ?_
    refine lv_iload_n hx hb dX10_waysOf_10 rfl (lv_at hl 0 rfl) ?_
    refine lv_iconst (v := (1 : Int32)) hx hb dX10_waysOf_11 (by decide) ?_
    refine lv_isub hx hb dX10_waysOf_12 ?_
    refine lv_topi (fun z3 ez3 => ?_)
    have r4 : rg z3 1 4 := rg_sub ez3 r2 rl_1 (by decide)
    refine t_Si C hO hl.1 hA hH (As := [.int z3]) (rest := [.int p0]) (t_waysOf_4 l E J τ L f hI.1 z3 (rg_w r4 (by decide))) my_X10_waysOf wd1161 rfl rfl (Nat.le_of_ble_eq_true rfl) ⟨Nat.le_of_ble_eq_true rfl, Nat.le_of_ble_eq_true rfl⟩ ⟨rfl, rfl⟩ dX10_waysOf_13 (fun r6 L1 f5 H locs hp hH => ?_)
    obtain ⟨rfl, s7, h8⟩ := hp
    have hI := hI.call s7 (by decide)
    refine lv_imul hx hb dX10_waysOf_16 ?_
    refine lv_topi (fun z9 ez9 => ?_)
    have r10 : rg z9 2 120 := rg_mul ez9 r2 h8 (by decide)
    exact g_iret C hr hH (Nat.zero_le _) (Nat.zero_le _) dX10_waysOf_17 ⟨rfl, hI, (rg_w r10 (by decide))⟩
  · skip
    have r11 : rg p0 (-2147483648) 1 := rf_ltl (n_le c1) rp0 rl_2 (by decide)
    refine lv_iconst (v := (1 : Int32)) hx hb dX10_waysOf_5 (by decide) ?_
    refine lv_goto (tgt := 17) hx hb dX10_waysOf_6 (by decide) ?_
    exact g_iret C hr hH (Nat.zero_le _) (Nat.zero_le _) dX10_waysOf_17 ⟨rfl, hI, (rg_w rl_1 (by decide))⟩
set_option maxHeartbeats 4000000 in
set_option maxRecDepth 100000 in
theorem t_sizeOf63 (l : Launch) (E : gE) (J : Nat → Nat) (τ : Nat → Nat) (L : List Nat) (f : gF) (hI : tI E L τ f) (p0 : Int32) (rp0 : rg p0 0 63) : tMi l E J yX10_sizeOf cX10_sizeOf 3 .int (gRm (1) 0 0) [.int p0] L f (tPi E L τ [] f (fun r f1 => rg r 0 6)) := by
  refine tMi.intro (by decide) (Nat.le_of_ble_eq_true rfl) ?_
  intro p e s m below meth c A ls C hr hA hO hH hl
  have C : gC E cX10_sizeOf 3 RX10 p s m _ meth c := C
  have hl : lv_has ls 3 [(0, .int p0)] := hl
  have hx := C.1
  have hb := C.2.1
  have hI := hI.S []
  have cut4 : ∀ (n : Nat) (fh4 : gF) (H : Heap) (locs : List Loc) (ls : Array Slot) (v4_1 : Int32) (v4_2 : Int32), v4_2.toInt < (n : Int) → tS E L τ [] f fh4 → gH E A L fh4 s.heap H locs → rg v4_1 0 6 → rg v4_2 0 63 → v4_1.toInt + (pcY v4_2 : Int) = (pcY p0 : Int) → lv_has ls 3 [(0, .int p0), (1, .int v4_1), (2, .int v4_2)] → W p l e (gRm (1) 0 0) s m [.int p0].toArray below meth c H locs 0 0 (MQ below (gQi E A (tPi E L τ [] f (fun r f1 => rg r 0 6))) [.int p0].toArray s (gRm (1) 0 0).cells (gRm (1) 0 0).slots A) (F0 m 4 ls []) := by
    intro n
    induction n with
    | zero =>
      intro fh4 H locs ls v4_1 v4_2 hfu4 hI hH r_v4_1 r_v4_2 F4_sz hl
      exact absurd hfu4 (by have := (r_v4_2).1; omega)
    | succ n ih4 =>
      intro fh4 H locs ls v4_1 v4_2 hfu4 hI hH r_v4_1 r_v4_2 F4_sz hl
      refine lv_iload_n hx hb dX10_sizeOf_4 rfl (lv_at hl 2 rfl) ?_
      refine lv_if_eq (tgt := 20) hx hb dX10_sizeOf_5 (by decide) (fun c1 => ?_) (fun c1 => ?_)
      · skip
        have r2 : rg v4_2 0 0 := rf_eql (c_eq c1) r_v4_2 rl_0 (by decide)
        refine lv_iload_n hx hb dX10_sizeOf_20 rfl (lv_at hl 1 rfl) ?_
        exact g_iret C hr hH (Nat.zero_le _) (Nat.zero_le _) dX10_sizeOf_21 ⟨rfl, hI, r_v4_1⟩
      · skip
        have r3 : rg v4_2 1 63 := rf_nel (n_eq c1) r_v4_2 rl_0 (by decide)
        obtain ⟨z4, ez4⟩ : ∃ y : Int32, y = v4_1 + (1 : Int32) := ⟨_, rfl⟩
        have r5 : rg z4 1 7 := rg_add ez4 r_v4_1 rl_1 (by decide)
        have a6 : z4.toInt = v4_1.toInt + 1 := ai_add ez4 r_v4_1 tl_1 (by decide)
        refine lv_iinc (v := z4) (lv' := [(1, .int z4), (0, .int p0), (2, .int v4_2)]) hx hb dX10_sizeOf_8 hl (k := 1) rfl (by rw [ez4]; rfl) (by decide) rfl (fun ls hl => ?_)
        have r7 : rg z4 1 6 := pz_n F4_sz r_v4_1 r3 ez4
        refine lv_iload_n hx hb dX10_sizeOf_11 rfl (lv_at hl 2 rfl) ?_
        refine lv_iload_n hx hb dX10_sizeOf_12 rfl (lv_at hl 2 rfl) ?_
        refine lv_iconst (v := (1 : Int32)) hx hb dX10_sizeOf_13 (by decide) ?_
        refine lv_isub hx hb dX10_sizeOf_14 ?_
        refine lv_topi (fun z8 ez8 => ?_)
        have r9 : rg z8 0 62 := rg_sub ez8 r3 rl_1 (by decide)
        refine lv_iand hx hb dX10_sizeOf_15 ?_
        refine lv_topi (fun z10 ez10 => ?_)
        have r11 : rg z10 0 62 := rg_andr ez10 r9 (by decide)
        refine lv_istore_n (lv' := [(2, .int z10), (1, .int z4), (0, .int p0)]) hx hb dX10_sizeOf_16 rfl hl (by decide) rfl (fun ls hl => ?_)
        refine lv_goto (tgt := 4) hx hb dX10_sizeOf_17 (by decide) ?_
        exact ih4 _ _ _ _ z4 z10 (sz_f hfu4 (rg_w r3 (by decide)) ez8 ez10) hI hH (rg_w r7 (by decide)) (rg_w r11 (by decide)) (pz_s F4_sz r_v4_1 r3 ez4 ez8 ez10) (lv_sub hl [2, 1, 0] rfl)
  refine lv_iconst (v := (0 : Int32)) hx hb dX10_sizeOf_0 (by decide) ?_
  refine lv_istore_n (lv' := [(1, .int (0 : Int32)), (0, .int p0)]) hx hb dX10_sizeOf_1 rfl hl (by decide) rfl (fun ls hl => ?_)
  refine lv_iload_n hx hb dX10_sizeOf_2 rfl (lv_at hl 1 rfl) ?_
  refine lv_istore_n (lv' := [(2, .int p0), (1, .int (0 : Int32)), (0, .int p0)]) hx hb dX10_sizeOf_3 rfl hl (by decide) rfl (fun ls hl => ?_)
  exact cut4 (p0.toInt.toNat + 1) _ _ _ _ (0 : Int32) p0 (sz_i (rg_w rp0 (by decide))) hI hH (rg_w rl_0 (by decide)) rp0 pz_0 (lv_sub hl [2, 1, 0] rfl)
set_option maxHeartbeats 4000000 in
set_option maxRecDepth 100000 in
theorem t_isBitX (l : Launch) (E : gE) (J : Nat → Nat) (τ : Nat → Nat) (L : List Nat) (f : gF) (hI : tI E L τ f) (p0 : Int32) (rp0 : rg p0 0 63) (p1 : Int32) : tMi l E J yX10_isBit cX10_isBit 2 .boolean (gRm (1) 0 0) [.int p0, .int p1] L f (tPi E L τ [] f (fun r f1 => rg r 0 1 ∧ ((¬ r = 0 → btY p0 p1) ∧ (r = 0 → ¬ btY p0 p1)))) := by
  refine tMi.intro (by decide) (Nat.le_of_ble_eq_true rfl) ?_
  intro p e s m below meth c A ls C hr hA hO hH hl
  have C : gC E cX10_isBit 2 RX10 p s m _ meth c := C
  have hl : lv_has ls 2 [(0, .int p0), (1, .int p1)] := hl
  have hx := C.1
  have hb := C.2.1
  have hI := hI.S []
  refine lv_iload_n hx hb dX10_isBit_0 rfl (lv_at hl 0 rfl) ?_
  refine lv_iload_n hx hb dX10_isBit_1 rfl (lv_at hl 1 rfl) ?_
  refine lv_ishr hx hb dX10_isBit_2 ?_
  refine lv_topi (fun z1 ez1 => ?_)
  refine lv_iconst (v := (1 : Int32)) hx hb dX10_isBit_3 (by decide) ?_
  refine lv_iand hx hb dX10_isBit_4 ?_
  refine lv_topi (fun z2 ez2 => ?_)
  have r3 : rg z2 0 1 := rg_andr ez2 rl_1 (by decide)
  refine lv_iconst (v := (1 : Int32)) hx hb dX10_isBit_5 (by decide) ?_
  refine lv_icmp_ne (tgt := 13) hx hb dX10_isBit_6 (by decide) (fun c4 => ?_) (fun c4 => ?_)
  · skip
    have r5 : rg z2 0 0 := rf_nel (n_eq c4) r3 rl_1 (by decide)
    refine lv_iconst (v := (0 : Int32)) hx hb dX10_isBit_13 (by decide) ?_
    exact g_zret C hr (rg_z (rg_w rl_0 (by decide))) hH (Nat.zero_le _) (Nat.zero_le _) dX10_isBit_14 ⟨rfl, hI, ⟨(rg_w rl_0 (by decide)), ⟨fun h => absurd rfl h, fun _ hb => c4 (by rw [ez2, ez1]; exact hb)⟩⟩⟩
  · skip
    have r6 : rg z2 1 1 := rf_eql (c_eq c4) r3 rl_1 (by decide)
    refine lv_iconst (v := (1 : Int32)) hx hb dX10_isBit_9 (by decide) ?_
    refine lv_goto (tgt := 14) hx hb dX10_isBit_10 (by decide) ?_
    exact g_zret C hr (rg_z (rg_w rl_1 (by decide))) hH (Nat.zero_le _) (Nat.zero_le _) dX10_isBit_14 ⟨rfl, hI, ⟨(rg_w rl_1 (by decide)), ⟨fun _ => by unfold btY; rw [← ez1, ← ez2]; exact c4, fun h => absurd h (by decide)⟩⟩⟩
set_option maxHeartbeats 4000000 in
set_option maxRecDepth 100000 in
theorem t_isMemberX (l : Launch) (E : gE) (J : Nat → Nat) (τ : Nat → Nat) (L : List Nat) (f : gF) (hI : tI E L τ f) {q : Nat} (mq : q ∈ L) (tq : τ q = 40) (p1 : Int64) : tMi l E J yX10_isMember cX10_isMember 3 .boolean (gRm (2) 0 0) [.ref q, .long p1] L f (tPi E L τ [] f (fun r f1 => rg r 0 1 ∧ (((¬ r = 0 → 0 ≤ p1.toInt ∧ p1.toInt ≤ 5) ∧ (∀ vl vh : Nat → Int32, isA E L τ f 46 5 vl → isA E L τ f 47 45 vh → rowOK vl vh 0 → ¬ r = 0 → 1 ≤ (vh 0).toInt)) ∧ (¬ r = 0 → ∀ vh : Nat → Int32, isA E L τ f 47 45 vh → p1.toInt < (vh 6).toInt)))) := by
  refine tMi.intro (by decide) (Nat.le_of_ble_eq_true rfl) ?_
  intro p e s m below meth c A ls C hr hA hO hH hl
  have C : gC E cX10_isMember 3 RX10 p s m _ meth c := C
  have hl : lv_has ls 3 [(0, .ref q), (1, .long p1)] := hl
  have hx := C.1
  have hb := C.2.1
  have hI := hI.S []
  refine lv_lload_n hx hb dX10_isMember_0 rfl (lv_at hl 1 rfl) ?_
  refine lv_lconst (v := (0 : Int64)) hx hb dX10_isMember_1 (by decide) ?_
  refine lv_aload_n hx hb dX10_isMember_2 rfl (lv_at hl 0 rfl) ?_
  refine t_Vi C hO hl.1 hA hH hI.1 (As := []) (rest := [.long (0 : Int64), .long p1]) (t_X10_members l E J τ L f hI.1 mq tq) my_X10_members wd756 mq tq td_40 rfl rfl rfl (Nat.le_of_ble_eq_true rfl) ⟨Nat.le_of_ble_eq_true rfl, Nat.le_of_ble_eq_true rfl⟩ ⟨rfl, rfl⟩ dX10_isMember_3 (fun r2 L1 f1 H locs hp hH => ?_)
  obtain ⟨rfl, s3, h4⟩ := hp
  have hJ := hI
  have hI := hI.call s3 (by decide)
  refine lv_i2l (v := (r2).toInt64) hx hb dX10_isMember_6 rfl ?_
  refine lv_lconst (v := (1 : Int64)) hx hb dX10_isMember_7 (by decide) ?_
  refine lv_lsub hx hb dX10_isMember_8 ?_
  refine lv_topl (fun z5 ez5 => ?_)
  refine t_Si C hO hl.1 hA hH (As := [.long p1, .long (0 : Int64), .long z5]) (rest := []) (t_X10_in l E J τ L f1 hI.1 p1 ((0 : Int64)) z5) my_X10_in wd744 rfl rfl (Nat.le_of_ble_eq_true rfl) ⟨Nat.le_of_ble_eq_true rfl, Nat.le_of_ble_eq_true rfl⟩ ⟨rfl, rfl⟩ dX10_isMember_9 (fun r7 L1 f6 H locs hp hH => ?_)
  obtain ⟨rfl, s8, h9⟩ := hp
  have hJ := hI
  have hI := hI.call s8 (by decide)
  exact g_zret C hr (rg_z h9.1) hH (Nat.zero_le _) (Nat.zero_le _) dX10_isMember_12 ⟨rfl, hI, ⟨h9.1, ⟨⟨fun hn => is_ok (h9.2 hn) ez5 h4.1, fun vl vh h1 h2 h3 hn => is_wM h3 (h4.2 vh h2) (is_pos (h9.2 hn) ez5 h4.1)⟩, fun hn vh h2 => is_lt (h9.2 hn) ez5 h4.1 (h4.2 vh h2)⟩⟩⟩
set_option maxHeartbeats 4000000 in
set_option maxRecDepth 100000 in
theorem t_X10_cutsFrom (l : Launch) (E : gE) (J : Nat → Nat) (τ : Nat → Nat) (L : List Nat) (N : Nat) : ∀ (f : gF) (hI : tI E L τ f) {q : Nat} (mq : q ∈ L) (tq : τ q = 40) (p1 : Int32) (rp1 : rg p1 0 5) (p2 : Int32) (rp2 : rg p2 0 63) (p3 : Int32) (rp3 : rg p3 0 63) {vh : Nat → Int32} (hh : isA E L τ f 47 45 vh) (cm0 : Int32) (km0 : fld f q 46 (.int cm0)) (bm0 : 0 ≤ cm0.toInt) (bm1 : cm0.toInt + (cX N : Int) ≤ 2000000000), pcY p3 < N → tMv l E J yX10_cutsFrom cX10_cutsFrom 7 (gRm (6 + N) 0 0) [.ref q, .int p1, .int p2, .int p3] L f (tPv E L τ [40] f (fun f1 => (∃ c1 : Int32, fld f1 q 46 (.int c1) ∧ cmP N cm0 c1 (vh 6) p1 p3))) := by
  induction N with
  | zero =>
    intro f hI q mq tq p1 rp1 p2 rp2 p3 rp3 vh hh cm0 km0 bm0 bm1 hc
    exact absurd hc (Nat.not_lt_zero _)
  | succ N ih =>
    intro f hI q mq tq p1 rp1 p2 rp2 p3 rp3 vh hh cm0 km0 bm0 bm1 hc
    refine tMv.intro (by decide) (Nat.le_of_ble_eq_true rfl) ?_
    intro p e s m below meth c A ls C hr hA hO hH hl
    have C : gC E cX10_cutsFrom 7 RX10 p s m _ meth c := C
    have hl : lv_has ls 7 [(0, .ref q), (1, .int p1), (2, .int p2), (3, .int p3)] := hl
    have hx := C.1
    have hb := C.2.1
    have hI := hI.S [40]
    obtain ⟨q_30, mq_30, tq_30, kq_30⟩ := t_fldr hI.1 mq tq td_40 (k := 30) rfl
    have rcm0 : rg cm0 0 2000000000 := cm_r bm0 bm1
    have cut8 : ∀ (n : Nat) (fh8 : gF) (H : Heap) (locs : List Loc) (ls : Array Slot) (v8_4 : Int32) (g8_0 : Int32), 6 - v8_4.toInt < (n : Int) → tS E L τ [40] f fh8 → gH E A L fh8 s.heap H locs → rg v8_4 0 6 → rg p3 1 63 → cmI N cm0 g8_0 v8_4 p1 p3 → rg g8_0 0 2000000000 → fld fh8 q 46 (.int g8_0) → lv_has ls 7 [(0, .ref q), (1, .int p1), (2, .int p2), (3, .int p3), (4, .int v8_4)] → W p l e (gRm (6 + (N + 1)) 0 0) s m [.ref q, .int p1, .int p2, .int p3].toArray below meth c H locs 0 0 (MQ below (gQv E A (tPv E L τ [40] f (fun f1 => (∃ c1 : Int32, fld f1 q 46 (.int c1) ∧ cmP (N + 1) cm0 c1 (vh 6) p1 p3)))) [.ref q, .int p1, .int p2, .int p3].toArray s (gRm (6 + (N + 1)) 0 0).cells (gRm (6 + (N + 1)) 0 0).slots A) (F0 m 8 ls []) := by
      intro n
      induction n with
      | zero =>
        intro fh8 H locs ls v8_4 g8_0 hfu8 hI hH r_v8_4 r8_p3 F8_cm Gr8_0 G8_0 hl
        exact (fu_0 hfu8 r_v8_4).elim
      | succ n ih8 =>
        intro fh8 H locs ls v8_4 g8_0 hfu8 hI hH r_v8_4 r8_p3 F8_cm Gr8_0 G8_0 hl
        refine lv_iload hx hb dX10_cutsFrom_8 (lv_at hl 4 rfl) ?_
        refine lv_aload_n hx hb dX10_cutsFrom_10 rfl (lv_at hl 0 rfl) ?_
        refine t_Vi C hO hl.1 hA hH hI.1 (As := []) (rest := [.int v8_4]) (t_X10_members l E J τ L fh8 hI.1 mq tq) my_X10_members wd756 mq tq td_40 rfl rfl rfl (Nat.le_of_ble_eq_true rfl) ⟨(by show 1 + 1 ≤ 6 + (N + 1); omega), (by show 8 + (1 + 11) + 100 * (1) ≤ 100 * (6 + (N + 1)); omega)⟩ ⟨rfl, rfl⟩ dX10_cutsFrom_11 (fun r2 L1 f1 H locs hp hH => ?_)
        obtain ⟨rfl, s3, h4⟩ := hp
        have hJ := hI
        have hI := hI.call s3 (by decide)
        have k5 : fld f1 q 46 (.int g8_0) := fld.eq G8_0 (s3.fr q mq (t_lim tq rfl))
        have mr6 := h4.2 vh (hh.S hJ rfl)
        refine lv_icmp_ge (tgt := 125) hx hb dX10_cutsFrom_14 (by decide) (fun c7 => ?_) (fun c7 => ?_)
        · skip
          exact g_vret C hr hH (Nat.zero_le _) (Nat.zero_le _) dX10_cutsFrom_125 ⟨rfl, hI, ⟨_, k5, cm_end F8_cm r_v8_4 (c_le c7) mr6⟩⟩
        · skip
          have r8 : rg v8_4 0 5 := rf_ltl (n_le c7) r_v8_4 h4.1 (by decide)
          have r9 : rg r2 1 6 := rf_ltr (n_le c7) r_v8_4 h4.1 (by decide)
          refine lv_iload_n hx hb dX10_cutsFrom_17 rfl (lv_at hl 3 rfl) ?_
          refine lv_iload hx hb dX10_cutsFrom_18 (lv_at hl 4 rfl) ?_
          refine t_Si C hO hl.1 hA hH (As := [.int p3, .int v8_4]) (rest := []) (t_isBitX l E J τ L f1 hI.1 p3 (rg_w r8_p3 (by decide)) v8_4) my_X10_isBit wd783 rfl rfl (Nat.le_of_ble_eq_true rfl) ⟨(by show 1 + 1 ≤ 6 + (N + 1); omega), (by show 8 + (2 + 11) + 100 * (1) ≤ 100 * (6 + (N + 1)); omega)⟩ ⟨rfl, rfl⟩ dX10_cutsFrom_20 (fun r11 L1 f10 H locs hp hH => ?_)
          obtain ⟨rfl, s12, h13⟩ := hp
          have hJ := hI
          have hI := hI.call s12 (by decide)
          have k14 : fld f10 q 46 (.int g8_0) := fld.eq k5 (s12.fr q mq (t_lim tq rfl))
          refine lv_if_ne (tgt := 29) hx hb dX10_cutsFrom_23 (by decide) (fun c15 => ?_) (fun c15 => ?_)
          · skip
            have r16 : rg r11 1 1 := rf_nel (n_eq c15) h13.1 rl_0 (by decide)
            refine lv_iload_n hx hb dX10_cutsFrom_29 rfl (lv_at hl 2 rfl) ?_
            refine lv_iconst (v := (1 : Int32)) hx hb dX10_cutsFrom_30 (by decide) ?_
            refine lv_iload hx hb dX10_cutsFrom_31 (lv_at hl 4 rfl) ?_
            refine lv_ishl hx hb dX10_cutsFrom_33 ?_
            refine lv_topi (fun z17 ez17 => ?_)
            have r18 : rg z17 1 32 := rg_shl 0 5 ez17 r8 (by decide)
            refine lv_ior hx hb dX10_cutsFrom_34 ?_
            refine lv_topi (fun z19 ez19 => ?_)
            have r20 : rg z19 0 63 := rg_or 6 ez19 rp2 r18 (by decide)
            refine lv_istore (lv' := [(5, .int z19), (0, .ref q), (1, .int p1), (2, .int p2), (3, .int p3), (4, .int v8_4)]) hx hb dX10_cutsFrom_35 hl (by decide) rfl (fun ls hl => ?_)
            refine lv_iload hx hb dX10_cutsFrom_37 (lv_at hl 5 rfl) ?_
            refine lv_iload_n hx hb dX10_cutsFrom_39 rfl (lv_at hl 2 rfl) ?_
            refine lv_icmp_ne (tgt := 104) hx hb dX10_cutsFrom_40 (by decide) (fun c21 => ?_) (fun c21 => ?_)
            · skip
              refine lv_aload_n hx hb dX10_cutsFrom_104 rfl (lv_at hl 1 rfl) ?_
              refine lv_iload_n hx hb dX10_cutsFrom_105 rfl (lv_at hl 2 rfl) ?_
              refine lv_iload hx hb dX10_cutsFrom_106 (lv_at hl 0 rfl) ?_
              refine lv_iload_n hx hb dX10_cutsFrom_108 rfl (lv_at hl 4 rfl) ?_
              refine lv_iconst (v := (1 : Int32)) hx hb dX10_cutsFrom_109 (by decide) ?_
              refine lv_iload hx hb dX10_cutsFrom_110 (lv_at hl 5 rfl) ?_
              refine lv_ishl hx hb dX10_cutsFrom_112 ?_
              refine lv_topi (fun z22 ez22 => ?_)
              have r23 : rg z22 1 32 := rg_shl 0 5 ez22 r8 (by decide)
              refine lv_iconst (v := (-1 : Int32)) hx hb dX10_cutsFrom_113 (by decide) ?_
              refine lv_ixor hx hb dX10_cutsFrom_114 ?_
              refine lv_topi (fun z24 ez24 => ?_)
              refine lv_iand hx hb dX10_cutsFrom_115 ?_
              refine lv_topi (fun z25 ez25 => ?_)
              have r26 : rg z25 0 63 := rg_andl ez25 r8_p3 (by decide)
              refine t_Vv C hO hl.1 hA hH hI.1 (As := [.int p1, .int z19, .int z25]) (rest := []) (ih f10 hI.1 mq tq p1 rp1 z19 r20 z25 r26 (hh.S hI rfl) g8_0 k14 (Gr8_0).1 (cm_b F8_cm r8 bm1) (Nat.lt_of_succ_lt_succ (Nat.lt_of_le_of_lt (Nat.le_of_eq (pcy_b (rg_w r8_p3 (by decide)) r8 (h13.2.1 c15) ez22 ez24 ez25)) hc))) my_X10_cutsFrom wd1165 mq tq td_40 rfl rfl rfl (Nat.le_of_ble_eq_true rfl) ⟨(by show 6 + N + 1 ≤ 6 + (N + 1); omega), (by show 8 + (7 + 11) + 100 * (6 + N) ≤ 100 * (6 + (N + 1)); omega)⟩ ⟨rfl, rfl⟩ dX10_cutsFrom_116 (fun L1 f27 H locs hp hH => ?_)
              obtain ⟨rfl, s29, h30⟩ := hp
              have hJ := hI
              have hI := hI.call s29 (by decide)
              obtain ⟨cm31, kcm31, pcm31⟩ := h30
              have r32 : rg cm31 0 2000000000 := cm_rg F8_cm r8 bm1 pcm31 Gr8_0
              obtain ⟨z33, ez33⟩ : ∃ y : Int32, y = v8_4 + (1 : Int32) := ⟨_, rfl⟩
              have r34 : rg z33 1 6 := rg_add ez33 r8 rl_1 (by decide)
              have a35 : z33.toInt = v8_4.toInt + 1 := ai_add ez33 r8 tl_1 (by decide)
              refine lv_iinc (v := z33) (lv' := [(4, .int z33), (5, .int z19), (0, .ref q), (1, .int p1), (2, .int p2), (3, .int p3)]) hx hb dX10_cutsFrom_119 hl (k := 5) rfl (by rw [ez33]; rfl) (by decide) rfl (fun ls hl => ?_)
              refine lv_goto (tgt := 8) hx hb dX10_cutsFrom_122 (by decide) ?_
              exact ih8 _ _ _ _ z33 cm31 (fu_s hfu8 a35 (by decide)) hI hH (rg_w r34 (by decide)) r8_p3 (cm_c F8_cm a35 (n_eq c21) pcm31) r32 kcm31 (lv_sub hl [2, 3, 4, 5, 0] rfl)
            · skip
              refine lv_iload_n hx hb dX10_cutsFrom_43 rfl (lv_at hl 4 rfl) ?_
              refine t_Si C hO hl.1 hA hH (As := [.int p3]) (rest := []) (t_sizeOf63 l E J τ L f10 hI.1 p3 (rg_w r8_p3 (by decide))) my_X10_sizeOf wd927 rfl rfl (Nat.le_of_ble_eq_true rfl) ⟨(by show 1 + 1 ≤ 6 + (N + 1); omega), (by show 8 + (3 + 11) + 100 * (1) ≤ 100 * (6 + (N + 1)); omega)⟩ ⟨rfl, rfl⟩ dX10_cutsFrom_44 (fun r37 L1 f36 H locs hp hH => ?_)
              obtain ⟨rfl, s38, h39⟩ := hp
              have hI := hI.call s38 (by decide)
              have k40 : fld f36 q 46 (.int g8_0) := fld.eq k14 (s38.fr q mq (t_lim tq rfl))
              refine lv_iconst (v := (1 : Int32)) hx hb dX10_cutsFrom_47 (by decide) ?_
              refine lv_isub hx hb dX10_cutsFrom_48 ?_
              refine lv_topi (fun z41 ez41 => ?_)
              have r42 : rg z41 (-1) 5 := rg_sub ez41 h39 rl_1 (by decide)
              refine t_Si C hO hl.1 hA hH (As := [.int z41]) (rest := []) (t_waysOf_5 l E J τ L f36 hI.1 z41 (rg_w r42 (by decide))) my_X10_waysOf wd1161 rfl rfl (Nat.le_of_ble_eq_true rfl) ⟨(by show 5 + 1 ≤ 6 + (N + 1); omega), (by show 8 + (1 + 11) + 100 * (5) ≤ 100 * (6 + (N + 1)); omega)⟩ ⟨rfl, rfl⟩ dX10_cutsFrom_49 (fun r44 L1 f43 H locs hp hH => ?_)
              obtain ⟨rfl, s45, h46⟩ := hp
              have hI := hI.call s45 (by decide)
              have k47 : fld f43 q 46 (.int g8_0) := fld.eq k40 (s45.fr q mq (t_lim tq rfl))
              refine lv_istore (lv' := [(6, .int r44), (5, .int z19), (0, .ref q), (1, .int p1), (2, .int p2), (3, .int p3), (4, .int v8_4)]) hx hb dX10_cutsFrom_52 hl (by decide) rfl (fun ls hl => ?_)
              refine lv_aload_n hx hb dX10_cutsFrom_54 rfl (lv_at hl 2 rfl) ?_
              refine lv_dup hx hb dX10_cutsFrom_55 rfl ?_
              obtain ⟨z48, rz48, kz48⟩ := t_fldi hI.1 mq tq td_40 (k := 45) rfl
              refine t_getX C hH hI.1 mq tq td_40 iX10 rfl 45 (by decide) wd1166 rfl kz48 dX10_cutsFrom_56 ?_
              refine lv_iload hx hb dX10_cutsFrom_59 (lv_at hl 0 rfl) ?_
              refine lv_aload_n hx hb dX10_cutsFrom_61 rfl (lv_at hl 2 rfl) ?_
              refine t_getX C hH hI.1 mq tq td_40 iX10 rfl 30 (by decide) wd922 rfl (hI.rf kq_30) dX10_cutsFrom_62 ?_
              refine lv_iload hx hb dX10_cutsFrom_65 (lv_at hl 1 rfl) ?_
              refine lv_aload_n hx hb dX10_cutsFrom_67 rfl (lv_at hl 2 rfl) ?_
              obtain ⟨z49, rz49, kz49⟩ := t_fldi hI.1 mq tq td_40 (k := 47) rfl
              refine t_getX C hH hI.1 mq tq td_40 iX10 rfl 47 (by decide) wd1167 rfl kz49 dX10_cutsFrom_68 ?_
              refine lv_iand hx hb dX10_cutsFrom_71 ?_
              refine lv_topi (fun z50 ez50 => ?_)
              have r51 : rg z50 0 63 := rg_andl ez50 r20 (by decide)
              refine t_ald C hH hI.1 mq_30 tq_30 td_57 (rg_in r51 (by decide)) dX10_cutsFrom_72 (fun z52v az52 _ => ?_)
              refine lv_topi (fun z52 ez52 => ?_)
              refine lv_aload_n hx hb dX10_cutsFrom_73 rfl (lv_at hl 2 rfl) ?_
              refine t_getX C hH hI.1 mq tq td_40 iX10 rfl 30 (by decide) wd922 rfl (hI.rf kq_30) dX10_cutsFrom_74 ?_
              refine lv_iload_n hx hb dX10_cutsFrom_77 rfl (lv_at hl 4 rfl) ?_
              refine lv_aload_n hx hb dX10_cutsFrom_78 rfl (lv_at hl 2 rfl) ?_
              refine t_getX C hH hI.1 mq tq td_40 iX10 rfl 47 (by decide) wd1167 rfl kz49 dX10_cutsFrom_79 ?_
              refine lv_iand hx hb dX10_cutsFrom_82 ?_
              refine lv_topi (fun z53 ez53 => ?_)
              have r54 : rg z53 0 63 := rg_andl ez53 rp2 (by decide)
              refine t_ald C hH hI.1 mq_30 tq_30 td_57 (rg_in r54 (by decide)) dX10_cutsFrom_83 (fun z55v az55 _ => ?_)
              refine lv_topi (fun z55 ez55 => ?_)
              refine lv_isub hx hb dX10_cutsFrom_84 ?_
              refine lv_topi (fun z56 ez56 => ?_)
              refine lv_imul hx hb dX10_cutsFrom_85 ?_
              refine lv_topi (fun z57 ez57 => ?_)
              refine lv_iadd hx hb dX10_cutsFrom_86 ?_
              refine lv_topi (fun z58 ez58 => ?_)
              refine t_put C hH hI mq tq (by decide) td_40 iX10 tyX10 tyX10_ok nmX10 rfl 45 (by decide) wd1166 rfl rfl (v := .int z58) rfl rfl rfl ⟨_, rfl, (rg_all _)⟩ (fun _ h => nomatch h) dX10_cutsFrom_87 (fun f59 H locs hH hI nf59 of59 bf59 => ?_)
              have k60 : fld f59 q 46 (.int g8_0) := of59 46 _ (by decide) k47
              have k61 : fld f59 q 47 (.int z49) := of59 47 _ (by decide) kz49
              refine lv_aload_n hx hb dX10_cutsFrom_90 rfl (lv_at hl 2 rfl) ?_
              refine lv_dup hx hb dX10_cutsFrom_91 rfl ?_
              refine t_getX C hH hI.1 mq tq td_40 iX10 rfl 46 (by decide) wd1168 rfl k60 dX10_cutsFrom_92 ?_
              refine lv_iload hx hb dX10_cutsFrom_95 (lv_at hl 0 rfl) ?_
              refine lv_iadd hx hb dX10_cutsFrom_97 ?_
              refine lv_topi (fun z62 ez62 => ?_)
              have r63 : rg z62 1 2000000120 := rg_add ez62 Gr8_0 h46 (by decide)
              have r64 : rg z62 1 2000000000 := (cm_w F8_cm r8 bm0 bm1 h46 ez62).1
              have cw65 := (cm_w F8_cm r8 bm0 bm1 h46 ez62).2
              refine t_put C hH hI mq tq (by decide) td_40 iX10 tyX10 tyX10_ok nmX10 rfl 46 (by decide) wd1168 rfl rfl (v := .int z62) rfl rfl rfl ⟨_, rfl, (rg_w r64 (by decide))⟩ (fun _ h => nomatch h) dX10_cutsFrom_98 (fun f66 H locs hH hI nf66 of66 bf66 => ?_)
              have k67 : fld f66 q 47 (.int z49) := of66 47 _ (by decide) k61
              have k68 : fld f66 q 45 (.int z58) := of66 45 _ (by decide) nf59
              refine lv_goto (tgt := 119) hx hb dX10_cutsFrom_101 (by decide) ?_
              obtain ⟨z69, ez69⟩ : ∃ y : Int32, y = v8_4 + (1 : Int32) := ⟨_, rfl⟩
              have r70 : rg z69 1 6 := rg_add ez69 r8 rl_1 (by decide)
              have a71 : z69.toInt = v8_4.toInt + 1 := ai_add ez69 r8 tl_1 (by decide)
              refine lv_iinc (v := z69) (lv' := [(4, .int z69), (6, .int r44), (5, .int z19), (0, .ref q), (1, .int p1), (2, .int p2), (3, .int p3)]) hx hb dX10_cutsFrom_119 hl (k := 6) rfl (by rw [ez69]; rfl) (by decide) rfl (fun ls hl => ?_)
              refine lv_goto (tgt := 8) hx hb dX10_cutsFrom_122 (by decide) ?_
              exact ih8 _ _ _ _ z69 z62 (fu_s hfu8 a71 (by decide)) hI hH (rg_w r70 (by decide)) r8_p3 (cm_e F8_cm a71 cw65 h46) (rg_w r64 (by decide)) nf66 (lv_sub hl [3, 4, 5, 6, 0] rfl)
          · skip
            have r72 : rg r11 0 0 := rf_eql (c_eq c15) h13.1 rl_0 (by decide)
            refine lv_goto (tgt := 119) hx hb dX10_cutsFrom_26 (by decide) ?_
            obtain ⟨z73, ez73⟩ : ∃ y : Int32, y = v8_4 + (1 : Int32) := ⟨_, rfl⟩
            have r74 : rg z73 1 6 := rg_add ez73 r8 rl_1 (by decide)
            have a75 : z73.toInt = v8_4.toInt + 1 := ai_add ez73 r8 tl_1 (by decide)
            refine lv_iinc (v := z73) (lv' := [(4, .int z73), (0, .ref q), (1, .int p1), (2, .int p2), (3, .int p3)]) hx hb dX10_cutsFrom_119 hl (k := 4) rfl (by rw [ez73]; rfl) (by decide) rfl (fun ls hl => ?_)
            refine lv_goto (tgt := 8) hx hb dX10_cutsFrom_122 (by decide) ?_
            exact ih8 _ _ _ _ z73 g8_0 (fu_s hfu8 a75 (by decide)) hI hH (rg_w r74 (by decide)) r8_p3 (cm_n F8_cm a75 (h13.2.2 c15)) Gr8_0 k14 (lv_sub hl [1, 2, 3, 4, 0] rfl)
    refine lv_iload_n hx hb dX10_cutsFrom_0 rfl (lv_at hl 3 rfl) ?_
    refine lv_if_ne (tgt := 5) hx hb dX10_cutsFrom_1 (by decide) (fun c76 => ?_) (fun c76 => ?_)
    · skip
      have r77 : rg p3 1 63 := rf_nel (n_eq c76) rp3 rl_0 (by decide)
      refine lv_iconst (v := (0 : Int32)) hx hb dX10_cutsFrom_5 (by decide) ?_
      refine lv_istore (lv' := [(4, .int (0 : Int32)), (0, .ref q), (1, .int p1), (2, .int p2), (3, .int p3)]) hx hb dX10_cutsFrom_6 hl (by decide) rfl (fun ls hl => ?_)
      exact cut8 7 _ _ _ _ (0 : Int32) cm0 (fu_i 7 rl_0 (by decide)) hI hH (rg_w rl_0 (by decide)) r77 (cm_0 rp1) rcm0 km0 (lv_sub hl [1, 2, 3, 4, 0] rfl)
    · skip
      have r78 : rg p3 0 0 := rf_eql (c_eq c76) rp3 rl_0 (by decide)
      exact g_vret C hr hH (Nat.zero_le _) (Nat.zero_le _) dX10_cutsFrom_4 ⟨rfl, hI, ⟨_, km0, cm_z c76 rp1⟩⟩
set_option maxHeartbeats 4000000 in
set_option maxRecDepth 100000 in
theorem t_X10_cut_ (l : Launch) (E : gE) (J : Nat → Nat) (τ : Nat → Nat) (L : List Nat) (f : gF) (hI : tI E L τ f) {q : Nat} (mq : q ∈ L) (tq : τ q = 40) (p1 : Int32) (p2 : Int32) {vl vh : Nat → Int32} (hl0 : isA E L τ f 46 5 vl) (hh : isA E L τ f 47 45 vh) (hR : rowOK vl vh 0) : tMi l E J yX10_cut_ cX10_cut_ 4 .int (gRm (67) 0 0) [.ref q, .int p1, .int p2] L f (tPi E L τ [40, 52, 53, 54, 55, 56, 57, 58, 59, 60, 61] f (fun r f1 => rg r (-2147483648) 2147483647)) := by
  refine tMi.intro (by decide) (Nat.le_of_ble_eq_true rfl) ?_
  intro p e s m below meth c A ls C hr hA hO hH hl
  have C : gC E cX10_cut_ 4 RX10 p s m _ meth c := C
  have hl : lv_has ls 4 [(0, .ref q), (1, .int p1), (2, .int p2)] := hl
  have hx := C.1
  have hb := C.2.1
  have hI := hI.S [40, 52, 53, 54, 55, 56, 57, 58, 59, 60, 61]
  obtain ⟨q_30, mq_30, tq_30, kq_30⟩ := t_fldr hI.1 mq tq td_40 (k := 30) rfl
  have cut35 : ∀ (n : Nat) (fh35 : gF) (H : Heap) (locs : List Loc) (ls : Array Slot) (v35_3 : Int32) (g35_0 : Int32), 6 - v35_3.toInt < (n : Int) → tS E L τ [40, 52, 53, 54, 55, 56, 57, 58, 59, 60, 61] f fh35 → gH E A L fh35 s.heap H locs → rg v35_3 0 6 → rg p1 0 5 → rg p2 0 1 → 1 ≤ (vh 0).toInt → p1.toInt < (vh 6).toInt → rg g35_0 0 63 → fld fh35 q 47 (.int g35_0) → lv_has ls 4 [(0, .ref q), (1, .int p1), (2, .int p2), (3, .int v35_3)] → W p l e (gRm (67) 0 0) s m [.ref q, .int p1, .int p2].toArray below meth c H locs 0 0 (MQ below (gQi E A (tPi E L τ [40, 52, 53, 54, 55, 56, 57, 58, 59, 60, 61] f (fun r f1 => rg r (-2147483648) 2147483647))) [.ref q, .int p1, .int p2].toArray s (gRm (67) 0 0).cells (gRm (67) 0 0).slots A) (F0 m 35 ls []) := by
    intro n
    induction n with
    | zero =>
      intro fh35 H locs ls v35_3 g35_0 hfu35 hI hH r_v35_3 r35_p1 r35_p2 F35_W F35_pm Gr35_0 G35_0 hl
      exact (fu_0 hfu35 r_v35_3).elim
    | succ n ih35 =>
      intro fh35 H locs ls v35_3 g35_0 hfu35 hI hH r_v35_3 r35_p1 r35_p2 F35_W F35_pm Gr35_0 G35_0 hl
      refine lv_iload_n hx hb dX10_cut__35 rfl (lv_at hl 3 rfl) ?_
      refine lv_aload_n hx hb dX10_cut__36 rfl (lv_at hl 0 rfl) ?_
      refine t_Vi C hO hl.1 hA hH hI.1 (As := []) (rest := [.int v35_3]) (t_X10_members l E J τ L fh35 hI.1 mq tq) my_X10_members wd756 mq tq td_40 rfl rfl rfl (Nat.le_of_ble_eq_true rfl) ⟨Nat.le_of_ble_eq_true rfl, Nat.le_of_ble_eq_true rfl⟩ ⟨rfl, rfl⟩ dX10_cut__37 (fun r2 L1 f1 H locs hp hH => ?_)
      obtain ⟨rfl, s3, h4⟩ := hp
      have hJ := hI
      have hI := hI.call s3 (by decide)
      have k5 : fld f1 q 47 (.int g35_0) := fld.eq G35_0 (s3.fr q mq (t_lim tq rfl))
      have mr6 := h4.2 vh (hh.S hJ rfl)
      refine lv_icmp_ge (tgt := 73) hx hb dX10_cut__40 (by decide) (fun c7 => ?_) (fun c7 => ?_)
      · skip
        refine lv_aload_n hx hb dX10_cut__73 rfl (lv_at hl 0 rfl) ?_
        refine t_getX C hH hI.1 mq tq td_40 iX10 rfl 30 (by decide) wd922 rfl (hI.rf kq_30) dX10_cut__74 ?_
        refine lv_aload_n hx hb dX10_cut__77 rfl (lv_at hl 0 rfl) ?_
        refine t_getX C hH hI.1 mq tq td_40 iX10 rfl 47 (by decide) wd1167 rfl k5 dX10_cut__78 ?_
        refine t_ald C hH hI.1 mq_30 tq_30 td_57 (rg_in Gr35_0 (by decide)) dX10_cut__81 (fun z8v az8 _ => ?_)
        refine lv_topi (fun z8 ez8 => ?_)
        refine lv_ldc hx hb C.2.2.2.1 (C.2.2.2.2.1 _ wd938) dX10_cut__82 ?_
        refine lv_icmp_lt (tgt := 89) hx hb dX10_cut__84 (by decide) (fun c9 => ?_) (fun c9 => ?_)
        · skip
          have r10 : rg z8 (-2147483648) 99999 := rf_ltl (c_lt c9) (rg_all _) rl_100000 (by decide)
          refine lv_aload_n hx hb dX10_cut__89 rfl (lv_at hl 0 rfl) ?_
          refine lv_iconst (v := (0 : Int32)) hx hb dX10_cut__90 (by decide) ?_
          refine t_put C hH hI mq tq (by decide) td_40 iX10 tyX10 tyX10_ok nmX10 rfl 45 (by decide) wd1166 rfl rfl (v := .int (0 : Int32)) rfl rfl rfl ⟨_, rfl, (rg_w rl_0 (by decide))⟩ (fun _ h => nomatch h) dX10_cut__91 (fun f11 H locs hH hI nf11 of11 bf11 => ?_)
          have k12 : fld f11 q 47 (.int g35_0) := of11 47 _ (by decide) k5
          refine lv_aload_n hx hb dX10_cut__94 rfl (lv_at hl 0 rfl) ?_
          refine lv_iconst (v := (0 : Int32)) hx hb dX10_cut__95 (by decide) ?_
          refine t_put C hH hI mq tq (by decide) td_40 iX10 tyX10 tyX10_ok nmX10 rfl 46 (by decide) wd1168 rfl rfl (v := .int (0 : Int32)) rfl rfl rfl ⟨_, rfl, (rg_w rl_0 (by decide))⟩ (fun _ h => nomatch h) dX10_cut__96 (fun f13 H locs hH hI nf13 of13 bf13 => ?_)
          have k14 : fld f13 q 47 (.int g35_0) := of13 47 _ (by decide) k12
          have k15 : fld f13 q 45 (.int (0 : Int32)) := of13 45 _ (by decide) nf11
          refine lv_aload_n hx hb dX10_cut__99 rfl (lv_at hl 0 rfl) ?_
          refine lv_iload_n hx hb dX10_cut__100 rfl (lv_at hl 1 rfl) ?_
          refine lv_iconst (v := (0 : Int32)) hx hb dX10_cut__101 (by decide) ?_
          refine lv_iconst (v := (1 : Int32)) hx hb dX10_cut__102 (by decide) ?_
          refine lv_aload_n hx hb dX10_cut__103 rfl (lv_at hl 0 rfl) ?_
          refine t_Vi C hO hl.1 hA hH hI.1 (As := []) (rest := [.int (1 : Int32), .int (0 : Int32), .int p1, .ref q]) (t_X10_members l E J τ L f13 hI.1 mq tq) my_X10_members wd756 mq tq td_40 rfl rfl rfl (Nat.le_of_ble_eq_true rfl) ⟨Nat.le_of_ble_eq_true rfl, Nat.le_of_ble_eq_true rfl⟩ ⟨rfl, rfl⟩ dX10_cut__104 (fun r17 L1 f16 H locs hp hH => ?_)
          obtain ⟨rfl, s18, h19⟩ := hp
          have hJ := hI
          have hI := hI.call s18 (by decide)
          have k20 : fld f16 q 47 (.int g35_0) := fld.eq k14 (s18.fr q mq (t_lim tq rfl))
          have k21 : fld f16 q 45 (.int (0 : Int32)) := fld.eq k15 (s18.fr q mq (t_lim tq rfl))
          have k22 : fld f16 q 46 (.int (0 : Int32)) := fld.eq nf13 (s18.fr q mq (t_lim tq rfl))
          have mr23 := h19.2 vh (hh.S hJ rfl)
          refine lv_ishl hx hb dX10_cut__107 ?_
          refine lv_topi (fun z24 ez24 => ?_)
          have r25 : rg z24 1 64 := rg_shl 0 6 ez24 h19.1 (by decide)
          refine lv_iconst (v := (1 : Int32)) hx hb dX10_cut__108 (by decide) ?_
          refine lv_isub hx hb dX10_cut__109 ?_
          refine lv_topi (fun z26 ez26 => ?_)
          have r27 : rg z26 0 63 := rg_sub ez26 r25 rl_1 (by decide)
          refine t_Vv C hO hl.1 hA hH hI.1 (As := [.int p1, .int (0 : Int32), .int z26]) (rest := []) (t_X10_cutsFrom l E J τ L 7 f16 hI.1 mq tq p1 r35_p1 (0 : Int32) (rg_w rl_0 (by decide)) z26 r27 (hh.S hI rfl) (0 : Int32) k22 cm_70 cm_71 (Nat.lt_succ_of_le (pcy_le _))) my_X10_cutsFrom wd1165 mq tq td_40 rfl rfl rfl (Nat.le_of_ble_eq_true rfl) ⟨Nat.le_of_ble_eq_true rfl, Nat.le_of_ble_eq_true rfl⟩ ⟨rfl, rfl⟩ dX10_cut__110 (fun L1 f28 H locs hp hH => ?_)
          obtain ⟨rfl, s30, h31⟩ := hp
          have hJ := hI
          have hI := hI.call s30 (by decide)
          obtain ⟨cm32, kcm32, pcm32⟩ := h31
          have r33 : rg cm32 1 2147483647 := cm_one pcm32 F35_pm (bt_full h19.1 r35_p1 (by rw [mr23]; exact F35_pm) ez24 ez26)
          refine lv_aload_n hx hb dX10_cut__113 rfl (lv_at hl 0 rfl) ?_
          obtain ⟨z34, rz34, kz34⟩ := t_fldi hI.1 mq tq td_40 (k := 45) rfl
          refine t_getX C hH hI.1 mq tq td_40 iX10 rfl 45 (by decide) wd1166 rfl kz34 dX10_cut__114 ?_
          refine lv_aload_n hx hb dX10_cut__117 rfl (lv_at hl 0 rfl) ?_
          refine t_getX C hH hI.1 mq tq td_40 iX10 rfl 46 (by decide) wd1168 rfl kcm32 dX10_cut__118 ?_
          refine lv_iload_n hx hb dX10_cut__121 rfl (lv_at hl 2 rfl) ?_
          refine t_Si C hO hl.1 hA hH (As := [.int z34, .int cm32, .int p2]) (rest := []) (t_X10_part l E J τ L f28 hI.1 z34 cm32 p2 (rg_ne0 r33 (by decide))) my_X10_part wd956 rfl rfl (Nat.le_of_ble_eq_true rfl) ⟨Nat.le_of_ble_eq_true rfl, Nat.le_of_ble_eq_true rfl⟩ ⟨rfl, rfl⟩ dX10_cut__122 (fun r36 L1 f35 H locs hp hH => ?_)
          obtain ⟨rfl, s37, h38⟩ := hp
          have hI := hI.call s37 (by decide)
          have k39 : fld f35 q 46 (.int cm32) := fld.eq kcm32 (s37.fr q mq (t_lim tq rfl))
          have k40 : fld f35 q 45 (.int z34) := fld.eq kz34 (s37.fr q mq (t_lim tq rfl))
          exact g_iret C hr hH (Nat.zero_le _) (Nat.zero_le _) dX10_cut__125 ⟨rfl, hI, h38⟩
        · skip
          have r41 : rg z8 100000 2147483647 := rf_ler (n_lt c9) rl_100000 (rg_all _) (by decide)
          refine lv_iconst (v := (-1 : Int32)) hx hb dX10_cut__87 (by decide) ?_
          exact g_iret C hr hH (Nat.zero_le _) (Nat.zero_le _) dX10_cut__88 ⟨rfl, hI, (rg_w rl_m1 (by decide))⟩
      · skip
        have r42 : rg v35_3 0 5 := rf_ltl (n_le c7) r_v35_3 h4.1 (by decide)
        have r43 : rg r2 1 6 := rf_ltr (n_le c7) r_v35_3 h4.1 (by decide)
        refine lv_aload_n hx hb dX10_cut__43 rfl (lv_at hl 0 rfl) ?_
        refine lv_dup hx hb dX10_cut__44 rfl ?_
        refine t_getX C hH hI.1 mq tq td_40 iX10 rfl 47 (by decide) wd1167 rfl k5 dX10_cut__45 ?_
        refine lv_aload_n hx hb dX10_cut__48 rfl (lv_at hl 0 rfl) ?_
        refine lv_iload_n hx hb dX10_cut__49 rfl (lv_at hl 3 rfl) ?_
        refine t_Vi C hO hl.1 hA hH hI.1 (As := [.int v35_3]) (rest := [.int g35_0, .ref q]) (t_X10_wantsOf l E J τ L f1 hI.1 mq tq v35_3 r42) my_X10_wantsOf wd822 mq tq td_40 rfl rfl rfl (Nat.le_of_ble_eq_true rfl) ⟨Nat.le_of_ble_eq_true rfl, Nat.le_of_ble_eq_true rfl⟩ ⟨rfl, rfl⟩ dX10_cut__50 (fun r45 L1 f44 H locs hp hH => ?_)
        obtain ⟨rfl, s46, h47⟩ := hp
        have hI := hI.call s46 (by decide)
        have k48 : fld f44 q 47 (.int g35_0) := fld.eq k5 (s46.fr q mq (t_lim tq rfl))
        refine lv_if_le (tgt := 62) hx hb dX10_cut__53 (by decide) (fun c49 => ?_) (fun c49 => ?_)
        · skip
          have r50 : rg r45 0 0 := rf_lel (c_le c49) h47 rl_0 (by decide)
          refine lv_iconst (v := (0 : Int32)) hx hb dX10_cut__62 (by decide) ?_
          refine lv_ior hx hb dX10_cut__63 ?_
          refine lv_topi (fun z51 ez51 => ?_)
          have r52 : rg z51 0 63 := rg_or 6 ez51 Gr35_0 rl_0 (by decide)
          refine t_put C hH hI mq tq (by decide) td_40 iX10 tyX10 tyX10_ok nmX10 rfl 47 (by decide) wd1167 rfl rfl (v := .int z51) rfl rfl rfl ⟨_, rfl, (rg_w r52 (by decide))⟩ (fun _ h => nomatch h) dX10_cut__64 (fun f53 H locs hH hI nf53 of53 bf53 => ?_)
          obtain ⟨z54, ez54⟩ : ∃ y : Int32, y = v35_3 + (1 : Int32) := ⟨_, rfl⟩
          have r55 : rg z54 1 6 := rg_add ez54 r42 rl_1 (by decide)
          have a56 : z54.toInt = v35_3.toInt + 1 := ai_add ez54 r42 tl_1 (by decide)
          refine lv_iinc (v := z54) (lv' := [(3, .int z54), (0, .ref q), (1, .int p1), (2, .int p2)]) hx hb dX10_cut__67 hl (k := 3) rfl (by rw [ez54]; rfl) (by decide) rfl (fun ls hl => ?_)
          refine lv_goto (tgt := 35) hx hb dX10_cut__70 (by decide) ?_
          exact ih35 _ _ _ _ z54 z51 (fu_s hfu35 a56 (by decide)) hI hH (rg_w r55 (by decide)) r35_p1 r35_p2 F35_W F35_pm r52 nf53 (lv_sub hl [1, 2, 3, 0] rfl)
        · skip
          have r57 : rg r45 1 99 := rf_ltr (n_le c49) rl_0 h47 (by decide)
          refine lv_iconst (v := (1 : Int32)) hx hb dX10_cut__56 (by decide) ?_
          refine lv_iload_n hx hb dX10_cut__57 rfl (lv_at hl 3 rfl) ?_
          refine lv_ishl hx hb dX10_cut__58 ?_
          refine lv_topi (fun z58 ez58 => ?_)
          have r59 : rg z58 1 32 := rg_shl 0 5 ez58 r42 (by decide)
          refine lv_goto (tgt := 63) hx hb dX10_cut__59 (by decide) ?_
          refine lv_ior hx hb dX10_cut__63 ?_
          refine lv_topi (fun z60 ez60 => ?_)
          have r61 : rg z60 0 63 := rg_or 6 ez60 Gr35_0 r59 (by decide)
          refine t_put C hH hI mq tq (by decide) td_40 iX10 tyX10 tyX10_ok nmX10 rfl 47 (by decide) wd1167 rfl rfl (v := .int z60) rfl rfl rfl ⟨_, rfl, (rg_w r61 (by decide))⟩ (fun _ h => nomatch h) dX10_cut__64 (fun f62 H locs hH hI nf62 of62 bf62 => ?_)
          obtain ⟨z63, ez63⟩ : ∃ y : Int32, y = v35_3 + (1 : Int32) := ⟨_, rfl⟩
          have r64 : rg z63 1 6 := rg_add ez63 r42 rl_1 (by decide)
          have a65 : z63.toInt = v35_3.toInt + 1 := ai_add ez63 r42 tl_1 (by decide)
          refine lv_iinc (v := z63) (lv' := [(3, .int z63), (0, .ref q), (1, .int p1), (2, .int p2)]) hx hb dX10_cut__67 hl (k := 3) rfl (by rw [ez63]; rfl) (by decide) rfl (fun ls hl => ?_)
          refine lv_goto (tgt := 35) hx hb dX10_cut__70 (by decide) ?_
          exact ih35 _ _ _ _ z63 z60 (fu_s hfu35 a65 (by decide)) hI hH (rg_w r64 (by decide)) r35_p1 r35_p2 F35_W F35_pm r61 nf62 (lv_sub hl [1, 2, 3, 0] rfl)
  refine lv_aload_n hx hb dX10_cut__0 rfl (lv_at hl 0 rfl) ?_
  refine lv_iconst (v := (0 : Int32)) hx hb dX10_cut__1 (by decide) ?_
  refine t_put C hH hI mq tq (by decide) td_40 iX10 tyX10 tyX10_ok nmX10 rfl 0 (by decide) wd855 rfl rfl (v := .int (0 : Int32)) rfl rfl rfl ⟨_, rfl, (rg_w rl_0 (by decide))⟩ (fun _ h => nomatch h) dX10_cut__2 (fun f66 H locs hH hI nf66 of66 bf66 => ?_)
  refine lv_aload_n hx hb dX10_cut__5 rfl (lv_at hl 0 rfl) ?_
  refine lv_iload_n hx hb dX10_cut__6 rfl (lv_at hl 1 rfl) ?_
  refine lv_i2l (v := (p1).toInt64) hx hb dX10_cut__7 rfl ?_
  refine t_Vi C hO hl.1 hA hH hI.1 (As := [.long (p1).toInt64]) (rest := []) (t_isMemberX l E J τ L f66 hI.1 mq tq ((p1).toInt64)) my_X10_isMember wd764 mq tq td_40 rfl rfl rfl (Nat.le_of_ble_eq_true rfl) ⟨Nat.le_of_ble_eq_true rfl, Nat.le_of_ble_eq_true rfl⟩ ⟨rfl, rfl⟩ dX10_cut__8 (fun r68 L1 f67 H locs hp hH => ?_)
  obtain ⟨rfl, s69, h70⟩ := hp
  have hJ := hI
  have hI := hI.call s69 (by decide)
  have k71 : fld f67 q 0 (.int (0 : Int32)) := fld.eq nf66 (s69.fr q mq (t_lim tq rfl))
  have w72 := h70.2.1.2 vl vh (hl0.S hJ rfl) (hh.S hJ rfl) hR
  have w73 := fun hn => h70.2.2 hn vh (hh.S hJ rfl)
  refine lv_if_eq (tgt := 21) hx hb dX10_cut__11 (by decide) (fun c74 => ?_) (fun c74 => ?_)
  · skip
    have r75 : rg r68 0 0 := rf_eql (c_eq c74) h70.1 rl_0 (by decide)
    refine lv_bipush (v := (-2 : Int32)) hx hb dX10_cut__21 (by decide) ?_
    exact g_iret C hr hH (Nat.zero_le _) (Nat.zero_le _) dX10_cut__23 ⟨rfl, hI, (rg_w rl_m2 (by decide))⟩
  · skip
    have r76 : rg r68 1 1 := rf_nel (n_eq c74) h70.1 rl_0 (by decide)
    have r77 : rg p1 0 5 := is_rg (h70.2.1.1 c74) (rg_all _) (by decide)
    have F78 : 1 ≤ (vh 0).toInt := w72 c74
    have F79 : p1.toInt < (vh 6).toInt := by rw [← Int32.toInt_toInt64]; exact w73 c74
    refine lv_iload_n hx hb dX10_cut__14 rfl (lv_at hl 2 rfl) ?_
    refine t_Si C hO hl.1 hA hH (As := [.int p2]) (rest := []) (t_X10_isHalf l E J τ L f67 hI.1 p2) my_X10_isHalf wd910 rfl rfl (Nat.le_of_ble_eq_true rfl) ⟨Nat.le_of_ble_eq_true rfl, Nat.le_of_ble_eq_true rfl⟩ ⟨rfl, rfl⟩ dX10_cut__15 (fun r81 L1 f80 H locs hp hH => ?_)
    obtain ⟨rfl, s82, h83⟩ := hp
    have hI := hI.call s82 (by decide)
    have k84 : fld f80 q 0 (.int (0 : Int32)) := fld.eq k71 (s82.fr q mq (t_lim tq rfl))
    refine lv_if_ne (tgt := 24) hx hb dX10_cut__18 (by decide) (fun c85 => ?_) (fun c85 => ?_)
    · skip
      have r86 : rg r81 1 1 := rf_nel (n_eq c85) h83.1 rl_0 (by decide)
      have r87 : rg p2 0 1 := h83.2 c85
      refine lv_aload_n hx hb dX10_cut__24 rfl (lv_at hl 0 rfl) ?_
      refine t_Vv C hO hl.1 hA hH hI.1 (As := []) (rest := []) (t_X10_laysLamps l E J τ L f80 hI.1 mq tq (hh.S hI rfl) F78) my_X10_laysLamps wd965 mq tq td_40 rfl rfl rfl (Nat.le_of_ble_eq_true rfl) ⟨Nat.le_of_ble_eq_true rfl, Nat.le_of_ble_eq_true rfl⟩ ⟨rfl, rfl⟩ dX10_cut__25 (fun L1 f88 H locs hp hH => ?_)
      obtain ⟨rfl, s90, h91⟩ := hp
      have hI := hI.call s90 (by decide)
      refine lv_aload_n hx hb dX10_cut__28 rfl (lv_at hl 0 rfl) ?_
      refine lv_iconst (v := (0 : Int32)) hx hb dX10_cut__29 (by decide) ?_
      refine t_put C hH hI mq tq (by decide) td_40 iX10 tyX10 tyX10_ok nmX10 rfl 47 (by decide) wd1167 rfl rfl (v := .int (0 : Int32)) rfl rfl rfl ⟨_, rfl, (rg_w rl_0 (by decide))⟩ (fun _ h => nomatch h) dX10_cut__30 (fun f92 H locs hH hI nf92 of92 bf92 => ?_)
      refine lv_iconst (v := (0 : Int32)) hx hb dX10_cut__33 (by decide) ?_
      refine lv_istore_n (lv' := [(3, .int (0 : Int32)), (0, .ref q), (1, .int p1), (2, .int p2)]) hx hb dX10_cut__34 rfl hl (by decide) rfl (fun ls hl => ?_)
      exact cut35 7 _ _ _ _ (0 : Int32) (0 : Int32) (fu_i 7 rl_0 (by decide)) hI hH (rg_w rl_0 (by decide)) r77 r87 F78 F79 (rg_w rl_0 (by decide)) nf92 (lv_sub hl [1, 2, 3, 0] rfl)
    · skip
      have r93 : rg r81 0 0 := rf_eql (c_eq c85) h83.1 rl_0 (by decide)
      refine lv_bipush (v := (-2 : Int32)) hx hb dX10_cut__21 (by decide) ?_
      exact g_iret C hr hH (Nat.zero_le _) (Nat.zero_le _) dX10_cut__23 ⟨rfl, hI, (rg_w rl_m2 (by decide))⟩
