/-! Euclid -/
theorem rem_t {a b z : Int32} (e : z = a - a / b * b) (hb : b.toInt ≠ 0) (ho : a.toInt = -2147483648 → b.toInt ≠ -1) : z.toInt = a.toInt.tmod b.toInt := by
  have h1 := a.le_toInt
  have h2 := a.toInt_lt
  have hd : (a.toInt.tdiv b.toInt).natAbs = a.toInt.natAbs / b.toInt.natAbs := Int.natAbs_tdiv _ _
  have hm : b.toInt * a.toInt.tdiv b.toInt + a.toInt.tmod b.toInt = a.toInt := Int.mul_tdiv_add_tmod _ _
  have hr : (a.toInt.tmod b.toInt).natAbs = a.toInt.natAbs % b.toInt.natAbs := Int.natAbs_tmod _ _
  have hle : a.toInt.natAbs / b.toInt.natAbs ≤ a.toInt.natAbs := Nat.div_le_self _ _
  have hrl : a.toInt.natAbs % b.toInt.natAbs ≤ a.toInt.natAbs := Nat.mod_le _ _
  have hdl : -2147483648 ≤ a.toInt.tdiv b.toInt ∧ a.toInt.tdiv b.toInt ≤ 2147483647 := by
    refine ⟨by omega, ?_⟩
    rcases Int.lt_or_le (a.toInt.tdiv b.toInt) 2147483648 with q | q
    · omega
    · exfalso
      have h3 : a.toInt.natAbs = 2147483648 := by omega
      have h4 : a.toInt = -2147483648 := by omega
      have h5 : a.toInt.natAbs / b.toInt.natAbs = 2147483648 := by omega
      have h6 : b.toInt.natAbs = 1 := by
        rcases Nat.lt_or_ge b.toInt.natAbs 2 with q2 | q2
        · omega
        · have : a.toInt.natAbs / b.toInt.natAbs ≤ a.toInt.natAbs / 2 := Nat.div_le_div_left q2 (by decide)
          omega
      have h7 := ho h4
      have h8 : b.toInt = 1 := by omega
      rw [h8, h4] at q
      exact absurd q (by decide)
  have e1 : (a / b).toInt = a.toInt.tdiv b.toInt := by rw [Int32.toInt_div, bmI hdl.1 hdl.2]
  have e2 : (a / b * b).toInt = b.toInt * a.toInt.tdiv b.toInt := by
    rw [Int32.toInt_mul, e1, Int.mul_comm]
    have hpn : (b.toInt * a.toInt.tdiv b.toInt).natAbs ≤ a.toInt.natAbs := by
      rw [Int.natAbs_mul, hd]
      exact Nat.mul_div_le _ _
    rcases Int.lt_or_le (b.toInt * a.toInt.tdiv b.toInt) 2147483648 with q | q
    · exact bmI (by omega) (by omega)
    · exfalso
      have h3 : a.toInt = -2147483648 := by omega
      have hs : a.toInt.tmod b.toInt ≤ 0 := by
        have := Int.tmod_nonneg b.toInt (a := -a.toInt) (by omega)
        rw [Int.neg_tmod] at this
        omega
      omega
  have hrm : a.toInt.natAbs % b.toInt.natAbs < b.toInt.natAbs := Nat.mod_lt _ (by omega)
  have h3 := b.le_toInt
  have h4 := b.toInt_lt
  rw [e, Int32.toInt_sub, e2, bmI (by omega) (by omega)]
  omega
theorem rem_n {a b z : Int32} (e : z = a - a / b * b) (hb : b.toInt ≠ 0) : z.toInt.natAbs = a.toInt.natAbs % b.toInt.natAbs := by
  by_cases h : a.toInt = -2147483648 ∧ b.toInt = -1
  · have h1 : a = -2147483648 := Int32.toInt_inj.mp (h.1.trans (by decide))
    have h2 : b = -1 := Int32.toInt_inj.mp (h.2.trans (by decide))
    rw [e, h1, h2]
    decide
  · rw [rem_t e hb (fun q r => h ⟨q, r⟩)]
    exact Int.natAbs_tmod _ _
theorem half_n {x y : Nat} (h0 : 0 < y) (h : y ≤ x) : 2 * (x % y) < x := by
  have h1 := Nat.div_add_mod x y
  have h2 := Nat.mod_lt x h0
  have h3 : 1 ≤ x / y := (Nat.le_div_iff_mul_le h0).mpr (by omega)
  have h4 : y * 1 ≤ y * (x / y) := Nat.mul_le_mul_left y h3
  omega
theorem tMi.mono {l : Launch} {E : gE} {J : Nat → Nat} {y : MethodName} {cc : ByteArray} {nl : Nat} {ret : FieldType} {rm : Room} {av : List Value} {L : List Nat} {f : gF} {post post' : Int32 → List Nat → gF → Prop} (h : tMi l E J y cc nl ret rm av L f post) (hp : ∀ r L1 f1, post r L1 f1 → post' r L1 f1) : tMi l E J y cc nl ret rm av L f post' := by
  intro sz p e ha hc hk s m args below hf happ hP ht
  obtain ⟨k, o, h1, h2, h3, hQ, hF⟩ := h sz p e ha hc hk s m args below hf happ hP ht
  obtain ⟨⟨r, u, hv, hp1, hb⟩, hz⟩ := hQ
  exact ⟨k, o, h1, h2, h3, ⟨⟨r, u, hv, hp _ _ _ hp1, hb⟩, hz⟩, hF⟩
theorem eq_rg {x y z : Int32} {a b : Int} (h : rg y a b) (e1 : x = z) (e2 : y = z) : rg x a b := by rw [e1, ← e2]; exact h
theorem common_body (l : Launch) (E : gE) (J : Nat → Nat) (τ : Nat → Nat) (L : List Nat) (D : Nat) (f : gF) (hI : tI E L τ f) (a b : Int32) (hc : ¬ b = 0 → ∀ z : Int32, z = a - a / b * b → ∀ f1 : gF, tI E L τ f1 → tMi l E J yX10_common cX10_common 2 .int (gRm D 0 0) [.int b, .int z] L f1 (tPi E L τ [] f1 (fun r f1 => rg r (-2147483648) 2147483647 ∧ (r = 0 → b = 0 ∧ z = 0)))) : tMi l E J yX10_common cX10_common 2 .int (gRm (D + 1) 0 0) [.int a, .int b] L f (tPi E L τ [] f (fun r f1 => rg r (-2147483648) 2147483647 ∧ (r = 0 → a = 0 ∧ b = 0))) := by
  refine tMi.intro (by decide) (Nat.le_of_ble_eq_true rfl) ?_
  intro p e s m below meth c A ls C hr hA hO hH hl
  have C : gC E cX10_common 2 RX10 p s m _ meth c := C
  have hl : lv_has ls 2 [(0, .int a), (1, .int b)] := hl
  have hx := C.1
  have hb := C.2.1
  have hI := hI.S []
  refine lv_iload_n hx hb dX10_common_0 rfl (lv_at hl 1 rfl) ?_
  refine lv_if_ne (tgt := 8) hx hb dX10_common_1 (by decide) (fun c1 => ?_) (fun c1 => ?_)
  · refine lv_iload_n hx hb dX10_common_8 rfl (lv_at hl 1 rfl) ?_
    refine lv_iload_n hx hb dX10_common_9 rfl (lv_at hl 0 rfl) ?_
    refine lv_iload_n hx hb dX10_common_10 rfl (lv_at hl 1 rfl) ?_
    refine lv_irem hx hb dX10_common_11 c1 ?_
    refine lv_topi (fun z ez => ?_)
    refine t_Si C hO hl.1 hA hH (As := [.int b, .int z]) (rest := []) (hc c1 z ez f hI.1) my_X10_common wd941 rfl rfl (Nat.le_of_ble_eq_true rfl) ⟨(by show D + 1 ≤ D + 1; omega), (by show 8 + (2 + 11) + 100 * D ≤ 100 * (D + 1); omega)⟩ ⟨rfl, rfl⟩ dX10_common_12 (fun r L1 f1 H locs hp hH => ?_)
    obtain ⟨rfl, hS, hP⟩ := hp
    have hI := hI.call hS (by decide)
    exact g_iret C hr hH (Nat.zero_le _) (Nat.zero_le _) dX10_common_15 ⟨rfl, hI, hP.1, fun h => absurd (hP.2 h).1 c1⟩
  · refine lv_iload_n hx hb dX10_common_4 rfl (lv_at hl 0 rfl) ?_
    refine lv_goto (tgt := 15) hx hb dX10_common_5 (by decide) ?_
    exact g_iret C hr hH (Nat.zero_le _) (Nat.zero_le _) dX10_common_15 ⟨rfl, hI, rg_all _, fun h => ⟨h, c1⟩⟩
theorem common_all (l : Launch) (E : gE) (J : Nat → Nat) (τ : Nat → Nat) (L : List Nat) (N : Nat) : ∀ (f : gF) (hI : tI E L τ f) (a b : Int32), b.toInt.natAbs < 2 ^ N → tMi l E J yX10_common cX10_common 2 .int (gRm (2 * N + 1) 0 0) [.int a, .int b] L f (tPi E L τ [] f (fun r f1 => rg r (-2147483648) 2147483647 ∧ (r = 0 → a = 0 ∧ b = 0))) := by
  have z0 : (0 : Int32).toInt = 0 := by decide
  induction N with
  | zero =>
    intro f hI a b hb
    exact common_body l E J τ L 0 f hI a b (fun h => absurd (Int32.toInt_inj.mp (by rw [z0]; omega)) h)
  | succ N ih =>
    intro f hI a b hb
    have hp : 2 ^ (N + 1) = 2 * 2 ^ N := by rw [Nat.pow_succ, Nat.mul_comm]
    refine common_body l E J τ L (2 * N + 2) f hI a b (fun hb0 z ez f1 hI1 => ?_)
    have hb0' : b.toInt ≠ 0 := fun q => hb0 (Int32.toInt_inj.mp (q.trans z0.symm))
    have e1 := rem_n ez hb0'
    refine common_body l E J τ L (2 * N + 1) f1 hI1 b z (fun hz0 z2 ez2 f2 hI2 => ?_)
    have hz0' : z.toInt ≠ 0 := fun q => hz0 (Int32.toInt_inj.mp (q.trans z0.symm))
    have e2 := rem_n ez2 hz0'
    have hzl : z.toInt.natAbs < b.toInt.natAbs := by
      rw [e1]
      exact Nat.mod_lt _ (by omega)
    have hh := half_n (x := b.toInt.natAbs) (y := z.toInt.natAbs) (by omega) (by omega)
    exact ih f2 hI2 z z2 (by omega)
theorem t_common (l : Launch) (E : gE) (J : Nat → Nat) (τ : Nat → Nat) (L : List Nat) (f : gF) (hI : tI E L τ f) (p0 p1 : Int32) : tMi l E J yX10_common cX10_common 2 .int (gRm 65 0 0) [.int p0, .int p1] L f (tPi E L τ [] f (fun r f1 => rg r (-2147483648) 2147483647 ∧ (r = 0 → p0 = 0 ∧ p1 = 0))) := common_all l E J τ L 32 f hI p0 p1 (by have h1 := p1.le_toInt; have h2 := p1.toInt_lt; omega)

set_option maxHeartbeats 4000000 in
set_option maxRecDepth 100000 in
theorem t_X10_part (l : Launch) (E : gE) (J : Nat → Nat) (τ : Nat → Nat) (L : List Nat) (f : gF) (hI : tI E L τ f) (p0 : Int32) (p1 : Int32) (p2 : Int32) (hn : ¬ p1 = 0) : tMi l E J yX10_part cX10_part 3 .int (gRm (66) 0 0) [.int p0, .int p1, .int p2] L f (tPi E L τ [] f (fun r f1 => rg r (-2147483648) 2147483647)) := by
  refine tMi.intro (by decide) (Nat.le_of_ble_eq_true rfl) ?_
  intro p e s m below meth c A ls C hr hA hO hH hl
  have C : gC E cX10_part 3 RX10 p s m _ meth c := C
  have hl : lv_has ls 3 [(0, .int p0), (1, .int p1), (2, .int p2)] := hl
  have hx := C.1
  have hb := C.2.1
  have hI := hI.S []
  refine lv_iload_n hx hb dX10_part_0 rfl (lv_at hl 2 rfl) ?_
  refine lv_if_ne (tgt := 8) hx hb dX10_part_1 (by decide) (fun c1 => ?_) (fun c1 => ?_)
  · skip
    refine lv_iload_n hx hb dX10_part_8 rfl (lv_at hl 1 rfl) ?_
    refine lv_iload_n hx hb dX10_part_9 rfl (lv_at hl 0 rfl) ?_
    refine lv_iload_n hx hb dX10_part_10 rfl (lv_at hl 1 rfl) ?_
    refine t_Si C hO hl.1 hA hH (As := [.int p0, .int p1]) (rest := [.int p1]) (t_common l E J τ L f hI.1 p0 p1) my_X10_common wd941 rfl rfl (Nat.le_of_ble_eq_true rfl) ⟨Nat.le_of_ble_eq_true rfl, Nat.le_of_ble_eq_true rfl⟩ ⟨rfl, rfl⟩ dX10_part_11 (fun r3 L1 f2 H locs hp hH => ?_)
    obtain ⟨rfl, s4, h5⟩ := hp
    have hJ := hI
    have hI := hI.call s4 (by decide)
    refine lv_idiv hx hb dX10_part_14 (fun e => absurd (h5.2 e).2 hn) ?_
    refine lv_topi (fun z6 ez6 => ?_)
    exact g_iret C hr hH (Nat.zero_le _) (Nat.zero_le _) dX10_part_15 ⟨rfl, hI, (rg_all _)⟩
  · skip
    have r7 : rg p2 0 0 := rf_eql (c_eq c1) (rg_all _) rl_0 (by decide)
    refine lv_iload_n hx hb dX10_part_4 rfl (lv_at hl 0 rfl) ?_
    refine lv_goto (tgt := 9) hx hb dX10_part_5 (by decide) ?_
    refine lv_iload_n hx hb dX10_part_9 rfl (lv_at hl 0 rfl) ?_
    refine lv_iload_n hx hb dX10_part_10 rfl (lv_at hl 1 rfl) ?_
    refine t_Si C hO hl.1 hA hH (As := [.int p0, .int p1]) (rest := [.int p0]) (t_common l E J τ L f hI.1 p0 p1) my_X10_common wd941 rfl rfl (Nat.le_of_ble_eq_true rfl) ⟨Nat.le_of_ble_eq_true rfl, Nat.le_of_ble_eq_true rfl⟩ ⟨rfl, rfl⟩ dX10_part_11 (fun r9 L1 f8 H locs hp hH => ?_)
    obtain ⟨rfl, s10, h11⟩ := hp
    have hJ := hI
    have hI := hI.call s10 (by decide)
    refine lv_idiv hx hb dX10_part_14 (fun e => absurd (h11.2 e).2 hn) ?_
    refine lv_topi (fun z12 ez12 => ?_)
    exact g_iret C hr hH (Nat.zero_le _) (Nat.zero_le _) dX10_part_15 ⟨rfl, hI, (rg_all _)⟩
set_option maxHeartbeats 4000000 in
set_option maxRecDepth 100000 in
theorem t_X10_fogAll (l : Launch) (E : gE) (J : Nat → Nat) (τ : Nat → Nat) (L : List Nat) (f : gF) (hI : tI E L τ f) {q : Nat} (mq : q ∈ L) (tq : τ q = 40) : tMi l E J yX10_fogAll cX10_fogAll 3 .int (gRm (2) 0 0) [.ref q] L f (tPi E L τ [] f (fun r f1 => rg r 1 10000)) := by
  refine tMi.intro (by decide) (Nat.le_of_ble_eq_true rfl) ?_
  intro p e s m below meth c A ls C hr hA hO hH hl
  have C : gC E cX10_fogAll 3 RX10 p s m _ meth c := C
  have hl : lv_has ls 3 [(0, .ref q)] := hl
  have hx := C.1
  have hb := C.2.1
  have hI := hI.S []
  refine lv_iconst (v := (1 : Int32)) hx hb dX10_fogAll_0 (by decide) ?_
  refine lv_istore_n (lv' := [(1, .int (1 : Int32)), (0, .ref q)]) hx hb dX10_fogAll_1 rfl hl (by decide) rfl (fun ls hl => ?_)
  refine lv_iconst (v := (0 : Int32)) hx hb dX10_fogAll_2 (by decide) ?_
  refine lv_istore_n (lv' := [(2, .int (0 : Int32)), (1, .int (1 : Int32)), (0, .ref q)]) hx hb dX10_fogAll_3 rfl hl (by decide) rfl (fun ls hl => ?_)
  refine lv_iload_n hx hb dX10_fogAll_4 rfl (lv_at hl 0 rfl) ?_
  refine lv_aload_n hx hb dX10_fogAll_5 rfl (lv_at hl 2 rfl) ?_
  refine t_Vi C hO hl.1 hA hH hI.1 (As := []) (rest := [.int (0 : Int32)]) (t_X10_flights l E J τ L f hI.1 mq tq) my_X10_flights wd752 mq tq td_40 rfl rfl rfl (Nat.le_of_ble_eq_true rfl) ⟨Nat.le_of_ble_eq_true rfl, Nat.le_of_ble_eq_true rfl⟩ ⟨rfl, rfl⟩ dX10_fogAll_6 (fun r2 L1 f1 H locs hp hH => ?_)
  obtain ⟨rfl, s3, h4⟩ := hp
  have hJ := hI
  have hI := hI.call s3 (by decide)
  refine lv_icmp_ge (tgt := 23) hx hb dX10_fogAll_9 (by decide) (fun c5 => ?_) (fun c5 => ?_)
  · skip
    have r6 : rg r2 0 0 := rf_lel (c_le c5) h4.1 rl_0 (by decide)
    refine lv_iload_n hx hb dX10_fogAll_23 rfl (lv_at hl 1 rfl) ?_
    exact g_iret C hr hH (Nat.zero_le _) (Nat.zero_le _) dX10_fogAll_24 ⟨rfl, hI, (rg_w rl_1 (by decide))⟩
  · skip
    have r7 : rg r2 1 4 := rf_ltr (n_le c5) rl_0 h4.1 (by decide)
    refine lv_iload_n hx hb dX10_fogAll_12 rfl (lv_at hl 1 rfl) ?_
    refine lv_bipush (v := (10 : Int32)) hx hb dX10_fogAll_13 (by decide) ?_
    refine lv_imul hx hb dX10_fogAll_15 ?_
    refine lv_topi (fun z8 ez8 => ?_)
    obtain rfl : z8 = (10 : Int32) := ez8.trans (by decide)
    refine lv_istore_n (lv' := [(1, .int (10 : Int32)), (2, .int (0 : Int32)), (0, .ref q)]) hx hb dX10_fogAll_16 rfl hl (by decide) rfl (fun ls hl => ?_)
    refine lv_iinc (v := (1 : Int32)) (lv' := [(2, .int (1 : Int32)), (1, .int (10 : Int32)), (0, .ref q)]) hx hb dX10_fogAll_17 hl (k := 1) rfl (by decide) (by decide) rfl (fun ls hl => ?_)
    refine lv_goto (tgt := 4) hx hb dX10_fogAll_20 (by decide) ?_
    refine lv_iload_n hx hb dX10_fogAll_4 rfl (lv_at hl 0 rfl) ?_
    refine lv_aload_n hx hb dX10_fogAll_5 rfl (lv_at hl 2 rfl) ?_
    refine t_Vi C hO hl.1 hA hH hI.1 (As := []) (rest := [.int (1 : Int32)]) (t_X10_flights l E J τ L f1 hI.1 mq tq) my_X10_flights wd752 mq tq td_40 rfl rfl rfl (Nat.le_of_ble_eq_true rfl) ⟨Nat.le_of_ble_eq_true rfl, Nat.le_of_ble_eq_true rfl⟩ ⟨rfl, rfl⟩ dX10_fogAll_6 (fun r10 L1 f9 H locs hp hH => ?_)
    obtain ⟨rfl, s11, h12⟩ := hp
    have hJ := hI
    have hI := hI.call s11 (by decide)
    refine lv_icmp_ge (tgt := 23) hx hb dX10_fogAll_9 (by decide) (fun c13 => ?_) (fun c13 => ?_)
    · skip
      have r14 : rg r10 0 1 := rf_lel (c_le c13) h12.1 rl_1 (by decide)
      refine lv_iload_n hx hb dX10_fogAll_23 rfl (lv_at hl 1 rfl) ?_
      exact g_iret C hr hH (Nat.zero_le _) (Nat.zero_le _) dX10_fogAll_24 ⟨rfl, hI, (rg_w rl_10 (by decide))⟩
    · skip
      have r15 : rg r10 2 4 := rf_ltr (n_le c13) rl_1 h12.1 (by decide)
      refine lv_iload_n hx hb dX10_fogAll_12 rfl (lv_at hl 1 rfl) ?_
      refine lv_bipush (v := (10 : Int32)) hx hb dX10_fogAll_13 (by decide) ?_
      refine lv_imul hx hb dX10_fogAll_15 ?_
      refine lv_topi (fun z16 ez16 => ?_)
      obtain rfl : z16 = (100 : Int32) := ez16.trans (by decide)
      refine lv_istore_n (lv' := [(1, .int (100 : Int32)), (2, .int (1 : Int32)), (0, .ref q)]) hx hb dX10_fogAll_16 rfl hl (by decide) rfl (fun ls hl => ?_)
      refine lv_iinc (v := (2 : Int32)) (lv' := [(2, .int (2 : Int32)), (1, .int (100 : Int32)), (0, .ref q)]) hx hb dX10_fogAll_17 hl (k := 1) rfl (by decide) (by decide) rfl (fun ls hl => ?_)
      refine lv_goto (tgt := 4) hx hb dX10_fogAll_20 (by decide) ?_
      refine lv_iload_n hx hb dX10_fogAll_4 rfl (lv_at hl 0 rfl) ?_
      refine lv_aload_n hx hb dX10_fogAll_5 rfl (lv_at hl 2 rfl) ?_
      refine t_Vi C hO hl.1 hA hH hI.1 (As := []) (rest := [.int (2 : Int32)]) (t_X10_flights l E J τ L f9 hI.1 mq tq) my_X10_flights wd752 mq tq td_40 rfl rfl rfl (Nat.le_of_ble_eq_true rfl) ⟨Nat.le_of_ble_eq_true rfl, Nat.le_of_ble_eq_true rfl⟩ ⟨rfl, rfl⟩ dX10_fogAll_6 (fun r18 L1 f17 H locs hp hH => ?_)
      obtain ⟨rfl, s19, h20⟩ := hp
      have hJ := hI
      have hI := hI.call s19 (by decide)
      refine lv_icmp_ge (tgt := 23) hx hb dX10_fogAll_9 (by decide) (fun c21 => ?_) (fun c21 => ?_)
      · skip
        have r22 : rg r18 0 2 := rf_lel (c_le c21) h20.1 rl_2 (by decide)
        refine lv_iload_n hx hb dX10_fogAll_23 rfl (lv_at hl 1 rfl) ?_
        exact g_iret C hr hH (Nat.zero_le _) (Nat.zero_le _) dX10_fogAll_24 ⟨rfl, hI, (rg_w rl_100 (by decide))⟩
      · skip
        have r23 : rg r18 3 4 := rf_ltr (n_le c21) rl_2 h20.1 (by decide)
        refine lv_iload_n hx hb dX10_fogAll_12 rfl (lv_at hl 1 rfl) ?_
        refine lv_bipush (v := (10 : Int32)) hx hb dX10_fogAll_13 (by decide) ?_
        refine lv_imul hx hb dX10_fogAll_15 ?_
        refine lv_topi (fun z24 ez24 => ?_)
        obtain rfl : z24 = (1000 : Int32) := ez24.trans (by decide)
        refine lv_istore_n (lv' := [(1, .int (1000 : Int32)), (2, .int (2 : Int32)), (0, .ref q)]) hx hb dX10_fogAll_16 rfl hl (by decide) rfl (fun ls hl => ?_)
        refine lv_iinc (v := (3 : Int32)) (lv' := [(2, .int (3 : Int32)), (1, .int (1000 : Int32)), (0, .ref q)]) hx hb dX10_fogAll_17 hl (k := 1) rfl (by decide) (by decide) rfl (fun ls hl => ?_)
        refine lv_goto (tgt := 4) hx hb dX10_fogAll_20 (by decide) ?_
        refine lv_iload_n hx hb dX10_fogAll_4 rfl (lv_at hl 0 rfl) ?_
        refine lv_aload_n hx hb dX10_fogAll_5 rfl (lv_at hl 2 rfl) ?_
        refine t_Vi C hO hl.1 hA hH hI.1 (As := []) (rest := [.int (3 : Int32)]) (t_X10_flights l E J τ L f17 hI.1 mq tq) my_X10_flights wd752 mq tq td_40 rfl rfl rfl (Nat.le_of_ble_eq_true rfl) ⟨Nat.le_of_ble_eq_true rfl, Nat.le_of_ble_eq_true rfl⟩ ⟨rfl, rfl⟩ dX10_fogAll_6 (fun r26 L1 f25 H locs hp hH => ?_)
        obtain ⟨rfl, s27, h28⟩ := hp
        have hJ := hI
        have hI := hI.call s27 (by decide)
        refine lv_icmp_ge (tgt := 23) hx hb dX10_fogAll_9 (by decide) (fun c29 => ?_) (fun c29 => ?_)
        · skip
          have r30 : rg r26 0 3 := rf_lel (c_le c29) h28.1 rl_3 (by decide)
          refine lv_iload_n hx hb dX10_fogAll_23 rfl (lv_at hl 1 rfl) ?_
          exact g_iret C hr hH (Nat.zero_le _) (Nat.zero_le _) dX10_fogAll_24 ⟨rfl, hI, (rg_w rl_1000 (by decide))⟩
        · skip
          have r31 : rg r26 4 4 := rf_ltr (n_le c29) rl_3 h28.1 (by decide)
          refine lv_iload_n hx hb dX10_fogAll_12 rfl (lv_at hl 1 rfl) ?_
          refine lv_bipush (v := (10 : Int32)) hx hb dX10_fogAll_13 (by decide) ?_
          refine lv_imul hx hb dX10_fogAll_15 ?_
          refine lv_topi (fun z32 ez32 => ?_)
          obtain rfl : z32 = (10000 : Int32) := ez32.trans (by decide)
          refine lv_istore_n (lv' := [(1, .int (10000 : Int32)), (2, .int (3 : Int32)), (0, .ref q)]) hx hb dX10_fogAll_16 rfl hl (by decide) rfl (fun ls hl => ?_)
          refine lv_iinc (v := (4 : Int32)) (lv' := [(2, .int (4 : Int32)), (1, .int (10000 : Int32)), (0, .ref q)]) hx hb dX10_fogAll_17 hl (k := 1) rfl (by decide) (by decide) rfl (fun ls hl => ?_)
          refine lv_goto (tgt := 4) hx hb dX10_fogAll_20 (by decide) ?_
          refine lv_iload_n hx hb dX10_fogAll_4 rfl (lv_at hl 0 rfl) ?_
          refine lv_aload_n hx hb dX10_fogAll_5 rfl (lv_at hl 2 rfl) ?_
          refine t_Vi C hO hl.1 hA hH hI.1 (As := []) (rest := [.int (4 : Int32)]) (t_X10_flights l E J τ L f25 hI.1 mq tq) my_X10_flights wd752 mq tq td_40 rfl rfl rfl (Nat.le_of_ble_eq_true rfl) ⟨Nat.le_of_ble_eq_true rfl, Nat.le_of_ble_eq_true rfl⟩ ⟨rfl, rfl⟩ dX10_fogAll_6 (fun r34 L1 f33 H locs hp hH => ?_)
          obtain ⟨rfl, s35, h36⟩ := hp
          have hJ := hI
          have hI := hI.call s35 (by decide)
          refine lv_icmp_ge (tgt := 23) hx hb dX10_fogAll_9 (by decide) (fun c37 => ?_) (fun c37 => ?_)
          · skip
            refine lv_iload_n hx hb dX10_fogAll_23 rfl (lv_at hl 1 rfl) ?_
            exact g_iret C hr hH (Nat.zero_le _) (Nat.zero_le _) dX10_fogAll_24 ⟨rfl, hI, (rg_w rl_10000 (by decide))⟩
          · skip
            exact (rg_no (show rg (4 : Int32) 4 3 from rf_ltl (n_le c37) rl_4 h36.1 (by decide)) (by decide)).elim
set_option maxHeartbeats 4000000 in
set_option maxRecDepth 100000 in
theorem t_X10_fogs (l : Launch) (E : gE) (J : Nat → Nat) (τ : Nat → Nat) (L : List Nat) (f : gF) (hI : tI E L τ f) {q : Nat} (mq : q ∈ L) (tq : τ q = 40) (p1 : Int32) (rp1 : rg p1 (-1) 5) {vh : Nat → Int32} (hh : isA E L τ f 47 45 vh) (hW : 1 ≤ (vh 0).toInt) : tMi l E J yX10_fogs cX10_fogs 3 .int (gRm (7) 0 0) [.ref q, .int p1] L f (tPi E L τ [40, 52, 53, 54, 55, 56] f (fun r f1 => rg r (-2147483648) 2147483647)) := by
  refine tMi.intro (by decide) (Nat.le_of_ble_eq_true rfl) ?_
  intro p e s m below meth c A ls C hr hA hO hH hl
  have C : gC E cX10_fogs 3 RX10 p s m _ meth c := C
  have hl : lv_has ls 3 [(0, .ref q), (1, .int p1)] := hl
  have hx := C.1
  have hb := C.2.1
  have hI := hI.S [40, 52, 53, 54, 55, 56]
  obtain ⟨q_19, mq_19, tq_19, kq_19⟩ := t_fldr hI.1 mq tq td_40 (k := 19) rfl
  have cut11 : ∀ (n : Nat) (fh11 : gF) (H : Heap) (locs : List Loc) (ls : Array Slot) (v11_2 : Int32) (g11_0 : Int32), 16 - g11_0.toInt < (n : Int) → tS E L τ [40, 52, 53, 54, 55, 56] f fh11 → gH E A L fh11 s.heap H locs → rg g11_0 0 16 → fld fh11 q 24 (.int g11_0) → lv_has ls 3 [(0, .ref q), (1, .int p1), (2, .int v11_2)] → W p l e (gRm (7) 0 0) s m [.ref q, .int p1].toArray below meth c H locs 0 0 (MQ below (gQi E A (tPi E L τ [40, 52, 53, 54, 55, 56] f (fun r f1 => rg r (-2147483648) 2147483647))) [.ref q, .int p1].toArray s (gRm (7) 0 0).cells (gRm (7) 0 0).slots A) (F0 m 11 ls []) := by
    intro n
    induction n with
    | zero =>
      intro fh11 H locs ls v11_2 g11_0 hfu11 hI hH Gr11_0 G11_0 hl
      exact (fu_0 hfu11 Gr11_0).elim
    | succ n ih11 =>
      intro fh11 H locs ls v11_2 g11_0 hfu11 hI hH Gr11_0 G11_0 hl
      refine lv_aload_n hx hb dX10_fogs_11 rfl (lv_at hl 0 rfl) ?_
      refine t_getX C hH hI.1 mq tq td_40 iX10 rfl 24 (by decide) wd774 rfl G11_0 dX10_fogs_12 ?_
      refine lv_iconst (v := (1 : Int32)) hx hb dX10_fogs_15 (by decide) ?_
      refine lv_aload_n hx hb dX10_fogs_16 rfl (lv_at hl 0 rfl) ?_
      refine t_Vi C hO hl.1 hA hH hI.1 (As := []) (rest := [.int (1 : Int32), .int g11_0]) (t_X10_flights l E J τ L fh11 hI.1 mq tq) my_X10_flights wd752 mq tq td_40 rfl rfl rfl (Nat.le_of_ble_eq_true rfl) ⟨Nat.le_of_ble_eq_true rfl, Nat.le_of_ble_eq_true rfl⟩ ⟨rfl, rfl⟩ dX10_fogs_17 (fun r2 L1 f1 H locs hp hH => ?_)
      obtain ⟨rfl, s3, h4⟩ := hp
      have hJ := hI
      have hI := hI.call s3 (by decide)
      have k5 : fld f1 q 24 (.int g11_0) := fld.eq G11_0 (s3.fr q mq (t_lim tq rfl))
      refine lv_ishl hx hb dX10_fogs_20 ?_
      refine lv_topi (fun z6 ez6 => ?_)
      have r7 : rg z6 1 16 := rg_shl 0 4 ez6 h4.1 (by decide)
      refine lv_icmp_ge (tgt := 86) hx hb dX10_fogs_21 (by decide) (fun c8 => ?_) (fun c8 => ?_)
      · skip
        have r9 : rg g11_0 1 16 := rf_ler (c_le c8) r7 Gr11_0 (by decide)
        refine lv_iload_n hx hb dX10_fogs_86 rfl (lv_at hl 2 rfl) ?_
        exact g_iret C hr hH (Nat.zero_le _) (Nat.zero_le _) dX10_fogs_87 ⟨rfl, hI, (rg_all _)⟩
      · skip
        have r10 : rg g11_0 0 15 := rf_ltl (n_le c8) Gr11_0 r7 (by decide)
        refine lv_aload_n hx hb dX10_fogs_24 rfl (lv_at hl 0 rfl) ?_
        refine t_Vv C hO hl.1 hA hH hI.1 (As := []) (rest := []) (t_X10_hearsAll l E J τ L f1 hI.1 mq tq (hh.S hI rfl) hW) my_X10_hearsAll wd805 mq tq td_40 rfl rfl rfl (Nat.le_of_ble_eq_true rfl) ⟨Nat.le_of_ble_eq_true rfl, Nat.le_of_ble_eq_true rfl⟩ ⟨rfl, rfl⟩ dX10_fogs_25 (fun L1 f11 H locs hp hH => ?_)
        obtain ⟨rfl, s13, h14⟩ := hp
        have hI := hI.call s13 (by decide)
        have k15 : fld f11 q 24 (.int g11_0) := fld.eq k5 (s13.fr q mq (t_lim tq rfl))
        refine lv_iload_n hx hb dX10_fogs_28 rfl (lv_at hl 2 rfl) ?_
        refine lv_aload_n hx hb dX10_fogs_29 rfl (lv_at hl 0 rfl) ?_
        refine lv_aload_n hx hb dX10_fogs_30 rfl (lv_at hl 0 rfl) ?_
        refine t_getX C hH hI.1 mq tq td_40 iX10 rfl 24 (by decide) wd774 rfl k15 dX10_fogs_31 ?_
        refine t_Vi C hO hl.1 hA hH hI.1 (As := [.int g11_0]) (rest := [.int v11_2]) (t_X10_fogWeight l E J τ L f11 hI.1 mq tq g11_0) my_X10_fogWeight wd945 mq tq td_40 rfl rfl rfl (Nat.le_of_ble_eq_true rfl) ⟨Nat.le_of_ble_eq_true rfl, Nat.le_of_ble_eq_true rfl⟩ ⟨rfl, rfl⟩ dX10_fogs_34 (fun r17 L1 f16 H locs hp hH => ?_)
        obtain ⟨rfl, s18, h19⟩ := hp
        have hI := hI.call s18 (by decide)
        have k20 : fld f16 q 24 (.int g11_0) := fld.eq k15 (s18.fr q mq (t_lim tq rfl))
        refine lv_iload_n hx hb dX10_fogs_37 rfl (lv_at hl 1 rfl) ?_
        refine lv_iconst (v := (-1 : Int32)) hx hb dX10_fogs_38 (by decide) ?_
        refine lv_icmp_ne (tgt := 49) hx hb dX10_fogs_39 (by decide) (fun c21 => ?_) (fun c21 => ?_)
        · skip
          have r22 : rg p1 0 5 := rf_nel (n_eq c21) rp1 rl_m1 (by decide)
          refine lv_aload_n hx hb dX10_fogs_49 rfl (lv_at hl 0 rfl) ?_
          refine lv_iload_n hx hb dX10_fogs_50 rfl (lv_at hl 1 rfl) ?_
          refine lv_aload_n hx hb dX10_fogs_51 rfl (lv_at hl 0 rfl) ?_
          refine t_getX C hH hI.1 mq tq td_40 iX10 rfl 19 (by decide) wd818 rfl (hI.rf kq_19) dX10_fogs_52 ?_
          refine lv_iconst (v := (3 : Int32)) hx hb dX10_fogs_55 (by decide) ?_
          refine lv_iload_n hx hb dX10_fogs_56 rfl (lv_at hl 1 rfl) ?_
          refine lv_imul hx hb dX10_fogs_57 ?_
          refine lv_topi (fun z23 ez23 => ?_)
          have r24 : rg z23 0 15 := rg_mul ez23 rl_3 r22 (by decide)
          have m25 := mul3 ez23 r22 (by decide)
          refine t_ald C hH hI.1 mq_19 tq_19 td_49 (rg_in r24 (by decide)) dX10_fogs_58 (fun z26v az26 pz26 => ?_)
          refine lv_topi (fun z26 ez26 => ?_)
          have r27 : rg z26 0 19 := mem_c pz26 (rg_in r24 (by decide)) m25 ez26
          refine t_Vi C hO hl.1 hA hH hI.1 (As := [.int p1, .int z26]) (rest := [.int r17, .int v11_2]) (t_X10_isServedIn l E J τ L f16 hI.1 mq tq p1 r22 z26 r27) my_X10_isServedIn wd826 mq tq td_40 rfl rfl rfl (Nat.le_of_ble_eq_true rfl) ⟨Nat.le_of_ble_eq_true rfl, Nat.le_of_ble_eq_true rfl⟩ ⟨rfl, rfl⟩ dX10_fogs_59 (fun r29 L1 f28 H locs hp hH => ?_)
          obtain ⟨rfl, s30, h31⟩ := hp
          have hI := hI.call s30 (by decide)
          have k32 : fld f28 q 24 (.int g11_0) := fld.eq k20 (s30.fr q mq (t_lim tq rfl))
          refine lv_if_eq (tgt := 69) hx hb dX10_fogs_62 (by decide) (fun c33 => ?_) (fun c33 => ?_)
          · skip
            have r34 : rg r29 0 0 := rf_eql (c_eq c33) h31 rl_0 (by decide)
            refine lv_iconst (v := (0 : Int32)) hx hb dX10_fogs_69 (by decide) ?_
            refine lv_imul hx hb dX10_fogs_70 ?_
            refine lv_topi (fun z35 ez35 => ?_)
            refine lv_iadd hx hb dX10_fogs_71 ?_
            refine lv_topi (fun z36 ez36 => ?_)
            refine lv_istore_n (lv' := [(2, .int z36), (0, .ref q), (1, .int p1)]) hx hb dX10_fogs_72 rfl hl (by decide) rfl (fun ls hl => ?_)
            refine lv_aload_n hx hb dX10_fogs_73 rfl (lv_at hl 1 rfl) ?_
            refine lv_dup hx hb dX10_fogs_74 rfl ?_
            refine t_getX C hH hI.1 mq tq td_40 iX10 rfl 24 (by decide) wd774 rfl k32 dX10_fogs_75 ?_
            refine lv_iconst (v := (1 : Int32)) hx hb dX10_fogs_78 (by decide) ?_
            refine lv_iadd hx hb dX10_fogs_79 ?_
            refine lv_topi (fun z37 ez37 => ?_)
            have r38 : rg z37 1 16 := rg_add ez37 r10 rl_1 (by decide)
            have a39 : z37.toInt = g11_0.toInt + 1 := ai_add ez37 r10 tl_1 (by decide)
            refine t_put C hH hI mq tq (by decide) td_40 iX10 tyX10 tyX10_ok nmX10 rfl 24 (by decide) wd774 rfl rfl (v := .int z37) rfl rfl rfl ⟨_, rfl, (rg_w r38 (by decide))⟩ (fun _ h => nomatch h) dX10_fogs_80 (fun f40 H locs hH hI nf40 of40 bf40 => ?_)
            refine lv_goto (tgt := 11) hx hb dX10_fogs_83 (by decide) ?_
            exact ih11 _ _ _ _ z36 z37 (fu_s hfu11 a39 (by decide)) hI hH (rg_w r38 (by decide)) nf40 (lv_sub hl [1, 2, 0] rfl)
          · skip
            have r41 : rg r29 1 1 := rf_nel (n_eq c33) h31 rl_0 (by decide)
            refine lv_iconst (v := (1 : Int32)) hx hb dX10_fogs_65 (by decide) ?_
            refine lv_goto (tgt := 70) hx hb dX10_fogs_66 (by decide) ?_
            refine lv_imul hx hb dX10_fogs_70 ?_
            refine lv_topi (fun z42 ez42 => ?_)
            refine lv_iadd hx hb dX10_fogs_71 ?_
            refine lv_topi (fun z43 ez43 => ?_)
            refine lv_istore_n (lv' := [(2, .int z43), (0, .ref q), (1, .int p1)]) hx hb dX10_fogs_72 rfl hl (by decide) rfl (fun ls hl => ?_)
            refine lv_aload_n hx hb dX10_fogs_73 rfl (lv_at hl 1 rfl) ?_
            refine lv_dup hx hb dX10_fogs_74 rfl ?_
            refine t_getX C hH hI.1 mq tq td_40 iX10 rfl 24 (by decide) wd774 rfl k32 dX10_fogs_75 ?_
            refine lv_iconst (v := (1 : Int32)) hx hb dX10_fogs_78 (by decide) ?_
            refine lv_iadd hx hb dX10_fogs_79 ?_
            refine lv_topi (fun z44 ez44 => ?_)
            have r45 : rg z44 1 16 := rg_add ez44 r10 rl_1 (by decide)
            have a46 : z44.toInt = g11_0.toInt + 1 := ai_add ez44 r10 tl_1 (by decide)
            refine t_put C hH hI mq tq (by decide) td_40 iX10 tyX10 tyX10_ok nmX10 rfl 24 (by decide) wd774 rfl rfl (v := .int z44) rfl rfl rfl ⟨_, rfl, (rg_w r45 (by decide))⟩ (fun _ h => nomatch h) dX10_fogs_80 (fun f47 H locs hH hI nf47 of47 bf47 => ?_)
            refine lv_goto (tgt := 11) hx hb dX10_fogs_83 (by decide) ?_
            exact ih11 _ _ _ _ z43 z44 (fu_s hfu11 a46 (by decide)) hI hH (rg_w r45 (by decide)) nf47 (lv_sub hl [1, 2, 0] rfl)
        · skip
          have r48 : rg p1 (-1) (-1) := rf_eql (c_eq c21) rp1 rl_m1 (by decide)
          refine lv_aload_n hx hb dX10_fogs_42 rfl (lv_at hl 0 rfl) ?_
          refine t_Vi C hO hl.1 hA hH hI.1 (As := []) (rest := [.int r17, .int v11_2]) (t_X10_incomeNow l E J τ L f16 hI.1 mq tq) my_X10_incomeNow wd838 mq tq td_40 rfl rfl rfl (Nat.le_of_ble_eq_true rfl) ⟨Nat.le_of_ble_eq_true rfl, Nat.le_of_ble_eq_true rfl⟩ ⟨rfl, rfl⟩ dX10_fogs_43 (fun r50 L1 f49 H locs hp hH => ?_)
          obtain ⟨rfl, s51, h52⟩ := hp
          have hI := hI.call s51 (by decide)
          have k53 : fld f49 q 24 (.int g11_0) := fld.eq k20 (s51.fr q mq (t_lim tq rfl))
          refine lv_goto (tgt := 70) hx hb dX10_fogs_46 (by decide) ?_
          refine lv_imul hx hb dX10_fogs_70 ?_
          refine lv_topi (fun z54 ez54 => ?_)
          refine lv_iadd hx hb dX10_fogs_71 ?_
          refine lv_topi (fun z55 ez55 => ?_)
          refine lv_istore_n (lv' := [(2, .int z55), (0, .ref q), (1, .int p1)]) hx hb dX10_fogs_72 rfl hl (by decide) rfl (fun ls hl => ?_)
          refine lv_aload_n hx hb dX10_fogs_73 rfl (lv_at hl 1 rfl) ?_
          refine lv_dup hx hb dX10_fogs_74 rfl ?_
          refine t_getX C hH hI.1 mq tq td_40 iX10 rfl 24 (by decide) wd774 rfl k53 dX10_fogs_75 ?_
          refine lv_iconst (v := (1 : Int32)) hx hb dX10_fogs_78 (by decide) ?_
          refine lv_iadd hx hb dX10_fogs_79 ?_
          refine lv_topi (fun z56 ez56 => ?_)
          have r57 : rg z56 1 16 := rg_add ez56 r10 rl_1 (by decide)
          have a58 : z56.toInt = g11_0.toInt + 1 := ai_add ez56 r10 tl_1 (by decide)
          refine t_put C hH hI mq tq (by decide) td_40 iX10 tyX10 tyX10_ok nmX10 rfl 24 (by decide) wd774 rfl rfl (v := .int z56) rfl rfl rfl ⟨_, rfl, (rg_w r57 (by decide))⟩ (fun _ h => nomatch h) dX10_fogs_80 (fun f59 H locs hH hI nf59 of59 bf59 => ?_)
          refine lv_goto (tgt := 11) hx hb dX10_fogs_83 (by decide) ?_
          exact ih11 _ _ _ _ z55 z56 (fu_s hfu11 a58 (by decide)) hI hH (rg_w r57 (by decide)) nf59 (lv_sub hl [1, 2, 0] rfl)
  refine lv_aload_n hx hb dX10_fogs_0 rfl (lv_at hl 0 rfl) ?_
  refine t_Vv C hO hl.1 hA hH hI.1 (As := []) (rest := []) (t_X10_laysNow l E J τ L f hI.1 mq tq (hh.S hI rfl) hW) my_X10_laysNow wd842 mq tq td_40 rfl rfl rfl (Nat.le_of_ble_eq_true rfl) ⟨Nat.le_of_ble_eq_true rfl, Nat.le_of_ble_eq_true rfl⟩ ⟨rfl, rfl⟩ dX10_fogs_1 (fun L1 f60 H locs hp hH => ?_)
  obtain ⟨rfl, s62, h63⟩ := hp
  have hI := hI.call s62 (by decide)
  refine lv_iconst (v := (0 : Int32)) hx hb dX10_fogs_4 (by decide) ?_
  refine lv_istore_n (lv' := [(2, .int (0 : Int32)), (0, .ref q), (1, .int p1)]) hx hb dX10_fogs_5 rfl hl (by decide) rfl (fun ls hl => ?_)
  refine lv_aload_n hx hb dX10_fogs_6 rfl (lv_at hl 1 rfl) ?_
  refine lv_iconst (v := (0 : Int32)) hx hb dX10_fogs_7 (by decide) ?_
  refine t_put C hH hI mq tq (by decide) td_40 iX10 tyX10 tyX10_ok nmX10 rfl 24 (by decide) wd774 rfl rfl (v := .int (0 : Int32)) rfl rfl rfl ⟨_, rfl, (rg_w rl_0 (by decide))⟩ (fun _ h => nomatch h) dX10_fogs_8 (fun f64 H locs hH hI nf64 of64 bf64 => ?_)
  exact cut11 17 _ _ _ _ (0 : Int32) (0 : Int32) (fu_i 17 rl_0 (by decide)) hI hH (rg_w rl_0 (by decide)) nf64 (lv_sub hl [1, 2, 0] rfl)
set_option maxHeartbeats 4000000 in
set_option maxRecDepth 100000 in
theorem t_X10_chance (l : Launch) (E : gE) (J : Nat → Nat) (τ : Nat → Nat) (L : List Nat) (f : gF) (hI : tI E L τ f) {q : Nat} (mq : q ∈ L) (tq : τ q = 40) (p1 : Int32) (p2 : Int32) {vl vh : Nat → Int32} (hl0 : isA E L τ f 46 5 vl) (hh : isA E L τ f 47 45 vh) (hR : rowOK vl vh 0) : tMi l E J yX10_chance cX10_chance 3 .int (gRm (67) 0 0) [.ref q, .int p1, .int p2] L f (tPi E L τ [40, 52, 53, 54, 55, 56] f (fun r f1 => rg r (-2147483648) 2147483647)) := by
  refine tMi.intro (by decide) (Nat.le_of_ble_eq_true rfl) ?_
  intro p e s m below meth c A ls C hr hA hO hH hl
  have C : gC E cX10_chance 3 RX10 p s m _ meth c := C
  have hl : lv_has ls 3 [(0, .ref q), (1, .int p1), (2, .int p2)] := hl
  have hx := C.1
  have hb := C.2.1
  have hI := hI.S [40, 52, 53, 54, 55, 56]
  refine lv_aload_n hx hb dX10_chance_0 rfl (lv_at hl 0 rfl) ?_
  refine lv_iconst (v := (0 : Int32)) hx hb dX10_chance_1 (by decide) ?_
  refine t_put C hH hI mq tq (by decide) td_40 iX10 tyX10 tyX10_ok nmX10 rfl 0 (by decide) wd855 rfl rfl (v := .int (0 : Int32)) rfl rfl rfl ⟨_, rfl, (rg_w rl_0 (by decide))⟩ (fun _ h => nomatch h) dX10_chance_2 (fun f1 H locs hH hI nf1 of1 bf1 => ?_)
  refine lv_aload_n hx hb dX10_chance_5 rfl (lv_at hl 0 rfl) ?_
  refine lv_iload_n hx hb dX10_chance_6 rfl (lv_at hl 1 rfl) ?_
  refine lv_i2l (v := (p1).toInt64) hx hb dX10_chance_7 rfl ?_
  refine t_Vi C hO hl.1 hA hH hI.1 (As := [.long (p1).toInt64]) (rest := []) (t_X10_isMember l E J τ L f1 hI.1 mq tq ((p1).toInt64)) my_X10_isMember wd764 mq tq td_40 rfl rfl rfl (Nat.le_of_ble_eq_true rfl) ⟨Nat.le_of_ble_eq_true rfl, Nat.le_of_ble_eq_true rfl⟩ ⟨rfl, rfl⟩ dX10_chance_8 (fun r3 L1 f2 H locs hp hH => ?_)
  obtain ⟨rfl, s4, h5⟩ := hp
  have hJ := hI
  have hI := hI.call s4 (by decide)
  have w6 := h5.2.2 vl vh (hl0.S hJ rfl) (hh.S hJ rfl) hR
  refine lv_if_eq (tgt := 37) hx hb dX10_chance_11 (by decide) (fun c7 => ?_) (fun c7 => ?_)
  · skip
    have r8 : rg r3 0 0 := rf_eql (c_eq c7) h5.1 rl_0 (by decide)
    refine lv_bipush (v := (-2 : Int32)) hx hb dX10_chance_37 (by decide) ?_
    exact g_iret C hr hH (Nat.zero_le _) (Nat.zero_le _) dX10_chance_39 ⟨rfl, hI, (rg_w rl_m2 (by decide))⟩
  · skip
    have r9 : rg r3 1 1 := rf_nel (n_eq c7) h5.1 rl_0 (by decide)
    have r10 : rg p1 0 5 := is_rg (h5.2.1 c7) (rg_all _) (by decide)
    have F11 : 1 ≤ (vh 0).toInt := w6 c7
    refine lv_iload_n hx hb dX10_chance_14 rfl (lv_at hl 2 rfl) ?_
    refine t_Si C hO hl.1 hA hH (As := [.int p2]) (rest := []) (t_X10_isHalf l E J τ L f2 hI.1 p2) my_X10_isHalf wd910 rfl rfl (Nat.le_of_ble_eq_true rfl) ⟨Nat.le_of_ble_eq_true rfl, Nat.le_of_ble_eq_true rfl⟩ ⟨rfl, rfl⟩ dX10_chance_15 (fun r13 L1 f12 H locs hp hH => ?_)
    obtain ⟨rfl, s14, h15⟩ := hp
    have hI := hI.call s14 (by decide)
    refine lv_if_eq (tgt := 37) hx hb dX10_chance_18 (by decide) (fun c16 => ?_) (fun c16 => ?_)
    · skip
      have r17 : rg r13 0 0 := rf_eql (c_eq c16) h15.1 rl_0 (by decide)
      refine lv_bipush (v := (-2 : Int32)) hx hb dX10_chance_37 (by decide) ?_
      exact g_iret C hr hH (Nat.zero_le _) (Nat.zero_le _) dX10_chance_39 ⟨rfl, hI, (rg_w rl_m2 (by decide))⟩
    · skip
      have r18 : rg r13 1 1 := rf_nel (n_eq c16) h15.1 rl_0 (by decide)
      have r19 : rg p2 0 1 := h15.2 c16
      refine lv_aload_n hx hb dX10_chance_21 rfl (lv_at hl 0 rfl) ?_
      refine lv_iload_n hx hb dX10_chance_22 rfl (lv_at hl 1 rfl) ?_
      refine t_Vi C hO hl.1 hA hH hI.1 (As := [.int p1]) (rest := []) (t_X10_fogs l E J τ L f12 hI.1 mq tq p1 (rg_w r10 (by decide)) (hh.S hI rfl) F11) my_X10_fogs wd949 mq tq td_40 rfl rfl rfl (Nat.le_of_ble_eq_true rfl) ⟨Nat.le_of_ble_eq_true rfl, Nat.le_of_ble_eq_true rfl⟩ ⟨rfl, rfl⟩ dX10_chance_23 (fun r21 L1 f20 H locs hp hH => ?_)
      obtain ⟨rfl, s22, h23⟩ := hp
      have hI := hI.call s22 (by decide)
      refine lv_aload_n hx hb dX10_chance_26 rfl (lv_at hl 0 rfl) ?_
      refine t_Vi C hO hl.1 hA hH hI.1 (As := []) (rest := [.int r21]) (t_X10_fogAll l E J τ L f20 hI.1 mq tq) my_X10_fogAll wd953 mq tq td_40 rfl rfl rfl (Nat.le_of_ble_eq_true rfl) ⟨Nat.le_of_ble_eq_true rfl, Nat.le_of_ble_eq_true rfl⟩ ⟨rfl, rfl⟩ dX10_chance_27 (fun r25 L1 f24 H locs hp hH => ?_)
      obtain ⟨rfl, s26, h27⟩ := hp
      have hI := hI.call s26 (by decide)
      refine lv_iload_n hx hb dX10_chance_30 rfl (lv_at hl 2 rfl) ?_
      refine t_Si C hO hl.1 hA hH (As := [.int r21, .int r25, .int p2]) (rest := []) (t_X10_part l E J τ L f24 hI.1 r21 r25 p2 (rg_ne0 h27 (by decide))) my_X10_part wd956 rfl rfl (Nat.le_of_ble_eq_true rfl) ⟨Nat.le_of_ble_eq_true rfl, Nat.le_of_ble_eq_true rfl⟩ ⟨rfl, rfl⟩ dX10_chance_31 (fun r29 L1 f28 H locs hp hH => ?_)
      obtain ⟨rfl, s30, h31⟩ := hp
      have hI := hI.call s30 (by decide)
      refine lv_goto (tgt := 39) hx hb dX10_chance_34 (by decide) ?_
      exact g_iret C hr hH (Nat.zero_le _) (Nat.zero_le _) dX10_chance_39 ⟨rfl, hI, h31⟩
set_option maxHeartbeats 4000000 in
set_option maxRecDepth 100000 in
theorem t_X10_mean (l : Launch) (E : gE) (J : Nat → Nat) (τ : Nat → Nat) (L : List Nat) (f : gF) (hI : tI E L τ f) {q : Nat} (mq : q ∈ L) (tq : τ q = 40) (p1 : Int32) {vl vh : Nat → Int32} (hl0 : isA E L τ f 46 5 vl) (hh : isA E L τ f 47 45 vh) (hR : rowOK vl vh 0) : tMi l E J yX10_mean cX10_mean 2 .int (gRm (67) 0 0) [.ref q, .int p1] L f (tPi E L τ [40, 52, 53, 54, 55, 56] f (fun r f1 => rg r (-2147483648) 2147483647)) := by
  refine tMi.intro (by decide) (Nat.le_of_ble_eq_true rfl) ?_
  intro p e s m below meth c A ls C hr hA hO hH hl
  have C : gC E cX10_mean 2 RX10 p s m _ meth c := C
  have hl : lv_has ls 2 [(0, .ref q), (1, .int p1)] := hl
  have hx := C.1
  have hb := C.2.1
  have hI := hI.S [40, 52, 53, 54, 55, 56]
  refine lv_aload_n hx hb dX10_mean_0 rfl (lv_at hl 0 rfl) ?_
  refine lv_iconst (v := (0 : Int32)) hx hb dX10_mean_1 (by decide) ?_
  refine t_put C hH hI mq tq (by decide) td_40 iX10 tyX10 tyX10_ok nmX10 rfl 0 (by decide) wd855 rfl rfl (v := .int (0 : Int32)) rfl rfl rfl ⟨_, rfl, (rg_w rl_0 (by decide))⟩ (fun _ h => nomatch h) dX10_mean_2 (fun f1 H locs hH hI nf1 of1 bf1 => ?_)
  refine lv_aload_n hx hb dX10_mean_5 rfl (lv_at hl 0 rfl) ?_
  refine t_Vi C hO hl.1 hA hH hI.1 (As := []) (rest := []) (t_X10_isLand l E J τ L f1 hI.1 mq tq) my_X10_isLand wd768 mq tq td_40 rfl rfl rfl (Nat.le_of_ble_eq_true rfl) ⟨Nat.le_of_ble_eq_true rfl, Nat.le_of_ble_eq_true rfl⟩ ⟨rfl, rfl⟩ dX10_mean_6 (fun r3 L1 f2 H locs hp hH => ?_)
  obtain ⟨rfl, s4, h5⟩ := hp
  have hJ := hI
  have hI := hI.call s4 (by decide)
  have w6 := h5.2 vl vh (hl0.S hJ rfl) (hh.S hJ rfl) hR
  refine lv_if_eq (tgt := 35) hx hb dX10_mean_9 (by decide) (fun c7 => ?_) (fun c7 => ?_)
  · skip
    have r8 : rg r3 0 0 := rf_eql (c_eq c7) h5.1 rl_0 (by decide)
    refine lv_bipush (v := (-2 : Int32)) hx hb dX10_mean_35 (by decide) ?_
    exact g_iret C hr hH (Nat.zero_le _) (Nat.zero_le _) dX10_mean_37 ⟨rfl, hI, (rg_w rl_m2 (by decide))⟩
  · skip
    have r9 : rg r3 1 1 := rf_nel (n_eq c7) h5.1 rl_0 (by decide)
    have F10 : 1 ≤ (vh 0).toInt := w6 c7
    refine lv_iload_n hx hb dX10_mean_12 rfl (lv_at hl 1 rfl) ?_
    refine t_Si C hO hl.1 hA hH (As := [.int p1]) (rest := []) (t_X10_isHalf l E J τ L f2 hI.1 p1) my_X10_isHalf wd910 rfl rfl (Nat.le_of_ble_eq_true rfl) ⟨Nat.le_of_ble_eq_true rfl, Nat.le_of_ble_eq_true rfl⟩ ⟨rfl, rfl⟩ dX10_mean_13 (fun r12 L1 f11 H locs hp hH => ?_)
    obtain ⟨rfl, s13, h14⟩ := hp
    have hI := hI.call s13 (by decide)
    refine lv_if_eq (tgt := 35) hx hb dX10_mean_16 (by decide) (fun c15 => ?_) (fun c15 => ?_)
    · skip
      have r16 : rg r12 0 0 := rf_eql (c_eq c15) h14.1 rl_0 (by decide)
      refine lv_bipush (v := (-2 : Int32)) hx hb dX10_mean_35 (by decide) ?_
      exact g_iret C hr hH (Nat.zero_le _) (Nat.zero_le _) dX10_mean_37 ⟨rfl, hI, (rg_w rl_m2 (by decide))⟩
    · skip
      have r17 : rg r12 1 1 := rf_nel (n_eq c15) h14.1 rl_0 (by decide)
      have r18 : rg p1 0 1 := h14.2 c15
      refine lv_aload_n hx hb dX10_mean_19 rfl (lv_at hl 0 rfl) ?_
      refine lv_iconst (v := (-1 : Int32)) hx hb dX10_mean_20 (by decide) ?_
      refine t_Vi C hO hl.1 hA hH hI.1 (As := [.int (-1 : Int32)]) (rest := []) (t_X10_fogs l E J τ L f11 hI.1 mq tq (-1 : Int32) (rg_w rl_m1 (by decide)) (hh.S hI rfl) F10) my_X10_fogs wd949 mq tq td_40 rfl rfl rfl (Nat.le_of_ble_eq_true rfl) ⟨Nat.le_of_ble_eq_true rfl, Nat.le_of_ble_eq_true rfl⟩ ⟨rfl, rfl⟩ dX10_mean_21 (fun r20 L1 f19 H locs hp hH => ?_)
      obtain ⟨rfl, s21, h22⟩ := hp
      have hI := hI.call s21 (by decide)
      refine lv_aload_n hx hb dX10_mean_24 rfl (lv_at hl 0 rfl) ?_
      refine t_Vi C hO hl.1 hA hH hI.1 (As := []) (rest := [.int r20]) (t_X10_fogAll l E J τ L f19 hI.1 mq tq) my_X10_fogAll wd953 mq tq td_40 rfl rfl rfl (Nat.le_of_ble_eq_true rfl) ⟨Nat.le_of_ble_eq_true rfl, Nat.le_of_ble_eq_true rfl⟩ ⟨rfl, rfl⟩ dX10_mean_25 (fun r24 L1 f23 H locs hp hH => ?_)
      obtain ⟨rfl, s25, h26⟩ := hp
      have hI := hI.call s25 (by decide)
      refine lv_iload_n hx hb dX10_mean_28 rfl (lv_at hl 1 rfl) ?_
      refine t_Si C hO hl.1 hA hH (As := [.int r20, .int r24, .int p1]) (rest := []) (t_X10_part l E J τ L f23 hI.1 r20 r24 p1 (rg_ne0 h26 (by decide))) my_X10_part wd956 rfl rfl (Nat.le_of_ble_eq_true rfl) ⟨Nat.le_of_ble_eq_true rfl, Nat.le_of_ble_eq_true rfl⟩ ⟨rfl, rfl⟩ dX10_mean_29 (fun r28 L1 f27 H locs hp hH => ?_)
      obtain ⟨rfl, s29, h30⟩ := hp
      have hI := hI.call s29 (by decide)
      refine lv_goto (tgt := 37) hx hb dX10_mean_32 (by decide) ?_
      exact g_iret C hr hH (Nat.zero_le _) (Nat.zero_le _) dX10_mean_37 ⟨rfl, hI, h30⟩
set_option maxHeartbeats 4000000 in
set_option maxRecDepth 100000 in
theorem t_X10_flown (l : Launch) (E : gE) (J : Nat → Nat) (τ : Nat → Nat) (L : List Nat) (f : gF) (hI : tI E L τ f) {q : Nat} (mq : q ∈ L) (tq : τ q = 40) (p1 : Int32) (p2 : Int32) {vl vh : Nat → Int32} (hl0 : isA E L τ f 46 5 vl) (hh : isA E L τ f 47 45 vh) (hR : rowOK vl vh 0) : tMi l E J yX10_flown cX10_flown 5 .int (gRm (67) 0 0) [.ref q, .int p1, .int p2] L f (tPi E L τ [40] f (fun r f1 => rg r (-2147483648) 2147483647)) := by
  refine tMi.intro (by decide) (Nat.le_of_ble_eq_true rfl) ?_
  intro p e s m below meth c A ls C hr hA hO hH hl
  have C : gC E cX10_flown 5 RX10 p s m _ meth c := C
  have hl : lv_has ls 5 [(0, .ref q), (1, .int p1), (2, .int p2)] := hl
  have hx := C.1
  have hb := C.2.1
  have hI := hI.S [40]
  have cut39 : ∀ (n : Nat) (fh39 : gF) (H : Heap) (locs : List Loc) (ls : Array Slot) (v39_3 : Int32) (v39_4 : Int32), 16 - v39_4.toInt < (n : Int) → tS E L τ [40] f fh39 → gH E A L fh39 s.heap H locs → rg v39_4 0 16 → rg p1 0 4 → rg p2 0 1 → 1 ≤ (vh 0).toInt → lv_has ls 5 [(0, .ref q), (1, .int p1), (2, .int p2), (3, .int v39_3), (4, .int v39_4)] → W p l e (gRm (67) 0 0) s m [.ref q, .int p1, .int p2].toArray below meth c H locs 0 0 (MQ below (gQi E A (tPi E L τ [40] f (fun r f1 => rg r (-2147483648) 2147483647))) [.ref q, .int p1, .int p2].toArray s (gRm (67) 0 0).cells (gRm (67) 0 0).slots A) (F0 m 39 ls []) := by
    intro n
    induction n with
    | zero =>
      intro fh39 H locs ls v39_3 v39_4 hfu39 hI hH r_v39_4 r39_p1 r39_p2 F39_W hl
      exact (fu_0 hfu39 r_v39_4).elim
    | succ n ih39 =>
      intro fh39 H locs ls v39_3 v39_4 hfu39 hI hH r_v39_4 r39_p1 r39_p2 F39_W hl
      refine lv_iload hx hb dX10_flown_39 (lv_at hl 4 rfl) ?_
      refine lv_iconst (v := (1 : Int32)) hx hb dX10_flown_41 (by decide) ?_
      refine lv_aload_n hx hb dX10_flown_42 rfl (lv_at hl 0 rfl) ?_
      refine t_Vi C hO hl.1 hA hH hI.1 (As := []) (rest := [.int (1 : Int32), .int v39_4]) (t_X10_flights l E J τ L fh39 hI.1 mq tq) my_X10_flights wd752 mq tq td_40 rfl rfl rfl (Nat.le_of_ble_eq_true rfl) ⟨Nat.le_of_ble_eq_true rfl, Nat.le_of_ble_eq_true rfl⟩ ⟨rfl, rfl⟩ dX10_flown_43 (fun r2 L1 f1 H locs hp hH => ?_)
      obtain ⟨rfl, s3, h4⟩ := hp
      have hJ := hI
      have hI := hI.call s3 (by decide)
      refine lv_ishl hx hb dX10_flown_46 ?_
      refine lv_topi (fun z5 ez5 => ?_)
      have r6 : rg z5 1 16 := rg_shl 0 4 ez5 h4.1 (by decide)
      refine lv_icmp_ge (tgt := 83) hx hb dX10_flown_47 (by decide) (fun c7 => ?_) (fun c7 => ?_)
      · skip
        have r8 : rg v39_4 1 16 := rf_ler (c_le c7) r6 r_v39_4 (by decide)
        refine lv_iload_n hx hb dX10_flown_83 rfl (lv_at hl 3 rfl) ?_
        refine lv_aload_n hx hb dX10_flown_84 rfl (lv_at hl 0 rfl) ?_
        refine t_Vi C hO hl.1 hA hH hI.1 (As := []) (rest := [.int v39_3]) (t_X10_fogAll l E J τ L f1 hI.1 mq tq) my_X10_fogAll wd953 mq tq td_40 rfl rfl rfl (Nat.le_of_ble_eq_true rfl) ⟨Nat.le_of_ble_eq_true rfl, Nat.le_of_ble_eq_true rfl⟩ ⟨rfl, rfl⟩ dX10_flown_85 (fun r10 L1 f9 H locs hp hH => ?_)
        obtain ⟨rfl, s11, h12⟩ := hp
        have hI := hI.call s11 (by decide)
        refine lv_iload_n hx hb dX10_flown_88 rfl (lv_at hl 2 rfl) ?_
        refine t_Si C hO hl.1 hA hH (As := [.int v39_3, .int r10, .int p2]) (rest := []) (t_X10_part l E J τ L f9 hI.1 v39_3 r10 p2 (rg_ne0 h12 (by decide))) my_X10_part wd956 rfl rfl (Nat.le_of_ble_eq_true rfl) ⟨Nat.le_of_ble_eq_true rfl, Nat.le_of_ble_eq_true rfl⟩ ⟨rfl, rfl⟩ dX10_flown_89 (fun r14 L1 f13 H locs hp hH => ?_)
        obtain ⟨rfl, s15, h16⟩ := hp
        have hI := hI.call s15 (by decide)
        exact g_iret C hr hH (Nat.zero_le _) (Nat.zero_le _) dX10_flown_92 ⟨rfl, hI, h16⟩
      · skip
        have r17 : rg v39_4 0 15 := rf_ltl (n_le c7) r_v39_4 r6 (by decide)
        refine lv_iload_n hx hb dX10_flown_50 rfl (lv_at hl 3 rfl) ?_
        refine lv_aload_n hx hb dX10_flown_51 rfl (lv_at hl 0 rfl) ?_
        refine t_Vi C hO hl.1 hA hH hI.1 (As := []) (rest := [.int v39_3]) (t_X10_flights l E J τ L f1 hI.1 mq tq) my_X10_flights wd752 mq tq td_40 rfl rfl rfl (Nat.le_of_ble_eq_true rfl) ⟨Nat.le_of_ble_eq_true rfl, Nat.le_of_ble_eq_true rfl⟩ ⟨rfl, rfl⟩ dX10_flown_52 (fun r19 L1 f18 H locs hp hH => ?_)
        obtain ⟨rfl, s20, h21⟩ := hp
        have hJ := hI
        have hI := hI.call s20 (by decide)
        refine lv_iload hx hb dX10_flown_55 (lv_at hl 4 rfl) ?_
        refine t_Si C hO hl.1 hA hH (As := [.int v39_4]) (rest := [.int r19, .int v39_3]) (t_X10_sizeOf l E J τ L f18 hI.1 v39_4 (rg_w r17 (by decide))) my_X10_sizeOf wd927 rfl rfl (Nat.le_of_ble_eq_true rfl) ⟨Nat.le_of_ble_eq_true rfl, Nat.le_of_ble_eq_true rfl⟩ ⟨rfl, rfl⟩ dX10_flown_57 (fun r23 L1 f22 H locs hp hH => ?_)
        obtain ⟨rfl, s24, h25⟩ := hp
        have hI := hI.call s24 (by decide)
        refine lv_isub hx hb dX10_flown_60 ?_
        refine lv_topi (fun z26 ez26 => ?_)
        have r27 : rg z26 (-2147483647) 4 := rg_sub ez26 h21.1 h25 (by decide)
        refine lv_iload_n hx hb dX10_flown_61 rfl (lv_at hl 1 rfl) ?_
        refine lv_icmp_lt (tgt := 74) hx hb dX10_flown_62 (by decide) (fun c28 => ?_) (fun c28 => ?_)
        · skip
          have r29 : rg z26 (-2147483647) 3 := rf_ltl (c_lt c28) r27 r39_p1 (by decide)
          refine lv_iconst (v := (0 : Int32)) hx hb dX10_flown_74 (by decide) ?_
          refine lv_iadd hx hb dX10_flown_75 ?_
          refine lv_topi (fun z30 ez30 => ?_)
          have r31 : rg z30 (-2147483648) 2147483647 := rg_add ez30 (rg_all _) rl_0 (by decide)
          have a32 : z30.toInt = v39_3.toInt + 0 := ai_add ez30 (rg_all _) tl_0 (by decide)
          refine lv_istore_n (lv' := [(3, .int z30), (0, .ref q), (1, .int p1), (2, .int p2), (4, .int v39_4)]) hx hb dX10_flown_76 rfl hl (by decide) rfl (fun ls hl => ?_)
          obtain ⟨z33, ez33⟩ : ∃ y : Int32, y = v39_4 + (1 : Int32) := ⟨_, rfl⟩
          have r34 : rg z33 1 16 := rg_add ez33 r17 rl_1 (by decide)
          have a35 : z33.toInt = v39_4.toInt + 1 := ai_add ez33 r17 tl_1 (by decide)
          refine lv_iinc (v := z33) (lv' := [(4, .int z33), (3, .int z30), (0, .ref q), (1, .int p1), (2, .int p2)]) hx hb dX10_flown_77 hl (k := 4) rfl (by rw [ez33]; rfl) (by decide) rfl (fun ls hl => ?_)
          refine lv_goto (tgt := 39) hx hb dX10_flown_80 (by decide) ?_
          exact ih39 _ _ _ _ z30 z33 (fu_s hfu39 a35 (by decide)) hI hH (rg_w r34 (by decide)) r39_p1 r39_p2 F39_W (lv_sub hl [2, 3, 4, 1, 0] rfl)
        · skip
          have r36 : rg z26 0 4 := rf_ler (n_lt c28) r39_p1 r27 (by decide)
          refine lv_aload_n hx hb dX10_flown_65 rfl (lv_at hl 0 rfl) ?_
          refine lv_iload hx hb dX10_flown_66 (lv_at hl 4 rfl) ?_
          refine t_Vi C hO hl.1 hA hH hI.1 (As := [.int v39_4]) (rest := [.int v39_3]) (t_X10_fogWeight l E J τ L f22 hI.1 mq tq v39_4) my_X10_fogWeight wd945 mq tq td_40 rfl rfl rfl (Nat.le_of_ble_eq_true rfl) ⟨Nat.le_of_ble_eq_true rfl, Nat.le_of_ble_eq_true rfl⟩ ⟨rfl, rfl⟩ dX10_flown_68 (fun r38 L1 f37 H locs hp hH => ?_)
          obtain ⟨rfl, s39, h40⟩ := hp
          have hI := hI.call s39 (by decide)
          refine lv_goto (tgt := 75) hx hb dX10_flown_71 (by decide) ?_
          refine lv_iadd hx hb dX10_flown_75 ?_
          refine lv_topi (fun z41 ez41 => ?_)
          refine lv_istore_n (lv' := [(3, .int z41), (0, .ref q), (1, .int p1), (2, .int p2), (4, .int v39_4)]) hx hb dX10_flown_76 rfl hl (by decide) rfl (fun ls hl => ?_)
          obtain ⟨z42, ez42⟩ : ∃ y : Int32, y = v39_4 + (1 : Int32) := ⟨_, rfl⟩
          have r43 : rg z42 1 16 := rg_add ez42 r17 rl_1 (by decide)
          have a44 : z42.toInt = v39_4.toInt + 1 := ai_add ez42 r17 tl_1 (by decide)
          refine lv_iinc (v := z42) (lv' := [(4, .int z42), (3, .int z41), (0, .ref q), (1, .int p1), (2, .int p2)]) hx hb dX10_flown_77 hl (k := 4) rfl (by rw [ez42]; rfl) (by decide) rfl (fun ls hl => ?_)
          refine lv_goto (tgt := 39) hx hb dX10_flown_80 (by decide) ?_
          exact ih39 _ _ _ _ z41 z42 (fu_s hfu39 a44 (by decide)) hI hH (rg_w r43 (by decide)) r39_p1 r39_p2 F39_W (lv_sub hl [2, 3, 4, 1, 0] rfl)
  refine lv_aload_n hx hb dX10_flown_0 rfl (lv_at hl 0 rfl) ?_
  refine lv_iconst (v := (0 : Int32)) hx hb dX10_flown_1 (by decide) ?_
  refine t_put C hH hI mq tq (by decide) td_40 iX10 tyX10 tyX10_ok nmX10 rfl 0 (by decide) wd855 rfl rfl (v := .int (0 : Int32)) rfl rfl rfl ⟨_, rfl, (rg_w rl_0 (by decide))⟩ (fun _ h => nomatch h) dX10_flown_2 (fun f45 H locs hH hI nf45 of45 bf45 => ?_)
  refine lv_aload_n hx hb dX10_flown_5 rfl (lv_at hl 0 rfl) ?_
  refine t_Vi C hO hl.1 hA hH hI.1 (As := []) (rest := []) (t_X10_isLand l E J τ L f45 hI.1 mq tq) my_X10_isLand wd768 mq tq td_40 rfl rfl rfl (Nat.le_of_ble_eq_true rfl) ⟨Nat.le_of_ble_eq_true rfl, Nat.le_of_ble_eq_true rfl⟩ ⟨rfl, rfl⟩ dX10_flown_6 (fun r47 L1 f46 H locs hp hH => ?_)
  obtain ⟨rfl, s48, h49⟩ := hp
  have hJ := hI
  have hI := hI.call s48 (by decide)
  have w50 := h49.2 vl vh (hl0.S hJ rfl) (hh.S hJ rfl) hR
  refine lv_if_eq (tgt := 31) hx hb dX10_flown_9 (by decide) (fun c51 => ?_) (fun c51 => ?_)
  · skip
    have r52 : rg r47 0 0 := rf_eql (c_eq c51) h49.1 rl_0 (by decide)
    refine lv_bipush (v := (-2 : Int32)) hx hb dX10_flown_31 (by decide) ?_
    exact g_iret C hr hH (Nat.zero_le _) (Nat.zero_le _) dX10_flown_33 ⟨rfl, hI, (rg_w rl_m2 (by decide))⟩
  · skip
    have r53 : rg r47 1 1 := rf_nel (n_eq c51) h49.1 rl_0 (by decide)
    have F54 : 1 ≤ (vh 0).toInt := w50 c51
    refine lv_iload_n hx hb dX10_flown_12 rfl (lv_at hl 1 rfl) ?_
    refine lv_i2l (v := (p1).toInt64) hx hb dX10_flown_13 rfl ?_
    refine lv_lconst (v := (0 : Int64)) hx hb dX10_flown_14 (by decide) ?_
    refine lv_ldc2 hx hb C.2.2.2.1 (C.2.2.2.2.1 _ wd957) dX10_flown_15 ?_
    refine t_Si C hO hl.1 hA hH (As := [.long (p1).toInt64, .long (0 : Int64), .long (4 : Int64)]) (rest := []) (t_X10_in l E J τ L f46 hI.1 ((p1).toInt64) ((0 : Int64)) ((4 : Int64))) my_X10_in wd744 rfl rfl (Nat.le_of_ble_eq_true rfl) ⟨Nat.le_of_ble_eq_true rfl, Nat.le_of_ble_eq_true rfl⟩ ⟨rfl, rfl⟩ dX10_flown_18 (fun r56 L1 f55 H locs hp hH => ?_)
    obtain ⟨rfl, s57, h58⟩ := hp
    have hJ := hI
    have hI := hI.call s57 (by decide)
    refine lv_if_eq (tgt := 31) hx hb dX10_flown_21 (by decide) (fun c59 => ?_) (fun c59 => ?_)
    · skip
      have r60 : rg r56 0 0 := rf_eql (c_eq c59) h58.1 rl_0 (by decide)
      refine lv_bipush (v := (-2 : Int32)) hx hb dX10_flown_31 (by decide) ?_
      exact g_iret C hr hH (Nat.zero_le _) (Nat.zero_le _) dX10_flown_33 ⟨rfl, hI, (rg_w rl_m2 (by decide))⟩
    · skip
      have r61 : rg r56 1 1 := rf_nel (n_eq c59) h58.1 rl_0 (by decide)
      have r62 : rg p1 0 4 := in_rg (la := 0) (lb := 4) (h58.2 c59) (rg_all _) (by decide) (by decide) (by decide)
      refine lv_iload_n hx hb dX10_flown_24 rfl (lv_at hl 2 rfl) ?_
      refine t_Si C hO hl.1 hA hH (As := [.int p2]) (rest := []) (t_X10_isHalf l E J τ L f55 hI.1 p2) my_X10_isHalf wd910 rfl rfl (Nat.le_of_ble_eq_true rfl) ⟨Nat.le_of_ble_eq_true rfl, Nat.le_of_ble_eq_true rfl⟩ ⟨rfl, rfl⟩ dX10_flown_25 (fun r64 L1 f63 H locs hp hH => ?_)
      obtain ⟨rfl, s65, h66⟩ := hp
      have hI := hI.call s65 (by decide)
      refine lv_if_ne (tgt := 34) hx hb dX10_flown_28 (by decide) (fun c67 => ?_) (fun c67 => ?_)
      · skip
        have r68 : rg r64 1 1 := rf_nel (n_eq c67) h66.1 rl_0 (by decide)
        have r69 : rg p2 0 1 := h66.2 c67
        refine lv_iconst (v := (0 : Int32)) hx hb dX10_flown_34 (by decide) ?_
        refine lv_istore_n (lv' := [(3, .int (0 : Int32)), (0, .ref q), (1, .int p1), (2, .int p2)]) hx hb dX10_flown_35 rfl hl (by decide) rfl (fun ls hl => ?_)
        refine lv_iconst (v := (0 : Int32)) hx hb dX10_flown_36 (by decide) ?_
        refine lv_istore (lv' := [(4, .int (0 : Int32)), (3, .int (0 : Int32)), (0, .ref q), (1, .int p1), (2, .int p2)]) hx hb dX10_flown_37 hl (by decide) rfl (fun ls hl => ?_)
        exact cut39 17 _ _ _ _ (0 : Int32) (0 : Int32) (fu_i 17 rl_0 (by decide)) hI hH (rg_w rl_0 (by decide)) r62 r69 F54 (lv_sub hl [2, 3, 4, 1, 0] rfl)
      · skip
        have r70 : rg r64 0 0 := rf_eql (c_eq c67) h66.1 rl_0 (by decide)
        refine lv_bipush (v := (-2 : Int32)) hx hb dX10_flown_31 (by decide) ?_
        exact g_iret C hr hH (Nat.zero_le _) (Nat.zero_le _) dX10_flown_33 ⟨rfl, hI, (rg_w rl_m2 (by decide))⟩
set_option maxHeartbeats 4000000 in
set_option maxRecDepth 100000 in
theorem t_X10_isSet (l : Launch) (E : gE) (J : Nat → Nat) (τ : Nat → Nat) (L : List Nat) (f : gF) (hI : tI E L τ f) {q : Nat} (mq : q ∈ L) (tq : τ q = 40) (p1 : Int32) : tMi l E J yX10_isSet cX10_isSet 2 .boolean (gRm (2) 0 0) [.ref q, .int p1] L f (tPi E L τ [] f (fun r f1 => rg r 0 1 ∧ (¬ r = 0 → rg p1 0 63) ∧ ((∀ vl vh : Nat → Int32, isA E L τ f 46 5 vl → isA E L τ f 47 45 vh → rowOK vl vh 0 → ¬ r = 0 → 1 ≤ (vh 0).toInt)))) := by
  refine tMi.intro (by decide) (Nat.le_of_ble_eq_true rfl) ?_
  intro p e s m below meth c A ls C hr hA hO hH hl
  have C : gC E cX10_isSet 2 RX10 p s m _ meth c := C
  have hl : lv_has ls 2 [(0, .ref q), (1, .int p1)] := hl
  have hx := C.1
  have hb := C.2.1
  have hI := hI.S []
  refine lv_aload_n hx hb dX10_isSet_0 rfl (lv_at hl 0 rfl) ?_
  refine t_Vi C hO hl.1 hA hH hI.1 (As := []) (rest := []) (t_X10_isLand l E J τ L f hI.1 mq tq) my_X10_isLand wd768 mq tq td_40 rfl rfl rfl (Nat.le_of_ble_eq_true rfl) ⟨Nat.le_of_ble_eq_true rfl, Nat.le_of_ble_eq_true rfl⟩ ⟨rfl, rfl⟩ dX10_isSet_1 (fun r2 L1 f1 H locs hp hH => ?_)
  obtain ⟨rfl, s3, h4⟩ := hp
  have hJ := hI
  have hI := hI.call s3 (by decide)
  have w5 := fun vl vh (h1 : isA E L τ f 46 5 vl) (h2 : isA E L τ f 47 45 vh) (h3 : rowOK vl vh 0) => h4.2 vl vh (h1.S hJ rfl) (h2.S hJ rfl) h3
  refine lv_if_eq (tgt := 29) hx hb dX10_isSet_4 (by decide) (fun c6 => ?_) (fun c6 => ?_)
  · skip
    have r7 : rg r2 0 0 := rf_eql (c_eq c6) h4.1 rl_0 (by decide)
    refine lv_iconst (v := (0 : Int32)) hx hb dX10_isSet_29 (by decide) ?_
    exact g_zret C hr (rg_z (rg_w rl_0 (by decide))) hH (Nat.zero_le _) (Nat.zero_le _) dX10_isSet_30 ⟨rfl, hI, ⟨(rg_w rl_0 (by decide)), (fun h => absurd rfl h), (fun _ _ _ _ _ h => absurd rfl h)⟩⟩
  · skip
    have r8 : rg r2 1 1 := rf_nel (n_eq c6) h4.1 rl_0 (by decide)
    refine lv_iload_n hx hb dX10_isSet_7 rfl (lv_at hl 1 rfl) ?_
    refine lv_i2l (v := (p1).toInt64) hx hb dX10_isSet_8 rfl ?_
    refine lv_lconst (v := (0 : Int64)) hx hb dX10_isSet_9 (by decide) ?_
    refine lv_iconst (v := (1 : Int32)) hx hb dX10_isSet_10 (by decide) ?_
    refine lv_aload_n hx hb dX10_isSet_11 rfl (lv_at hl 0 rfl) ?_
    refine t_Vi C hO hl.1 hA hH hI.1 (As := []) (rest := [.int (1 : Int32), .long (0 : Int64), .long (p1).toInt64]) (t_X10_members l E J τ L f1 hI.1 mq tq) my_X10_members wd756 mq tq td_40 rfl rfl rfl (Nat.le_of_ble_eq_true rfl) ⟨Nat.le_of_ble_eq_true rfl, Nat.le_of_ble_eq_true rfl⟩ ⟨rfl, rfl⟩ dX10_isSet_12 (fun r10 L1 f9 H locs hp hH => ?_)
    obtain ⟨rfl, s11, h12⟩ := hp
    have hJ := hI
    have hI := hI.call s11 (by decide)
    refine lv_ishl hx hb dX10_isSet_15 ?_
    refine lv_topi (fun z13 ez13 => ?_)
    have r14 : rg z13 1 64 := rg_shl 0 6 ez13 h12.1 (by decide)
    refine lv_iconst (v := (1 : Int32)) hx hb dX10_isSet_16 (by decide) ?_
    refine lv_isub hx hb dX10_isSet_17 ?_
    refine lv_topi (fun z15 ez15 => ?_)
    have r16 : rg z15 0 63 := rg_sub ez15 r14 rl_1 (by decide)
    refine lv_i2l (v := (z15).toInt64) hx hb dX10_isSet_18 rfl ?_
    refine t_Si C hO hl.1 hA hH (As := [.long (p1).toInt64, .long (0 : Int64), .long (z15).toInt64]) (rest := []) (t_X10_in l E J τ L f9 hI.1 ((p1).toInt64) ((0 : Int64)) ((z15).toInt64)) my_X10_in wd744 rfl rfl (Nat.le_of_ble_eq_true rfl) ⟨Nat.le_of_ble_eq_true rfl, Nat.le_of_ble_eq_true rfl⟩ ⟨rfl, rfl⟩ dX10_isSet_19 (fun r18 L1 f17 H locs hp hH => ?_)
    obtain ⟨rfl, s19, h20⟩ := hp
    have hJ := hI
    have hI := hI.call s19 (by decide)
    refine lv_if_eq (tgt := 29) hx hb dX10_isSet_22 (by decide) (fun c21 => ?_) (fun c21 => ?_)
    · skip
      have r22 : rg r18 0 0 := rf_eql (c_eq c21) h20.1 rl_0 (by decide)
      refine lv_iconst (v := (0 : Int32)) hx hb dX10_isSet_29 (by decide) ?_
      exact g_zret C hr (rg_z (rg_w rl_0 (by decide))) hH (Nat.zero_le _) (Nat.zero_le _) dX10_isSet_30 ⟨rfl, hI, ⟨(rg_w rl_0 (by decide)), (fun h => absurd rfl h), (fun _ _ _ _ _ h => absurd rfl h)⟩⟩
    · skip
      have r23 : rg r18 1 1 := rf_nel (n_eq c21) h20.1 rl_0 (by decide)
      have r24 : rg p1 0 63 := in_rgy (la := 0) (h20.2 c21) (rg_all _) r16 (by decide) (by decide)
      refine lv_iconst (v := (1 : Int32)) hx hb dX10_isSet_25 (by decide) ?_
      refine lv_goto (tgt := 30) hx hb dX10_isSet_26 (by decide) ?_
      exact g_zret C hr (rg_z (rg_w rl_1 (by decide))) hH (Nat.zero_le _) (Nat.zero_le _) dX10_isSet_30 ⟨rfl, hI, ⟨(rg_w rl_1 (by decide)), (fun _ => r24), (fun vl vh h1 h2 h3 _ => w5 vl vh h1 h2 h3 c6)⟩⟩
set_option maxHeartbeats 4000000 in
set_option maxRecDepth 100000 in
theorem t_X10_fewest (l : Launch) (E : gE) (J : Nat → Nat) (τ : Nat → Nat) (L : List Nat) (f : gF) (hI : tI E L τ f) {q : Nat} (mq : q ∈ L) (tq : τ q = 40) (p1 : Int32) {vl vh : Nat → Int32} (hl0 : isA E L τ f 46 5 vl) (hh : isA E L τ f 47 45 vh) (hR : rowOK vl vh 0) : tMi l E J yX10_fewest cX10_fewest 2 .int (gRm (30) 0 0) [.ref q, .int p1] L f (tPi E L τ [40, 52, 53, 54, 55, 56, 57, 58, 59, 60, 61] f (fun r f1 => rg r (-2147483648) 2147483647)) := by
  refine tMi.intro (by decide) (Nat.le_of_ble_eq_true rfl) ?_
  intro p e s m below meth c A ls C hr hA hO hH hl
  have C : gC E cX10_fewest 2 RX10 p s m _ meth c := C
  have hl : lv_has ls 2 [(0, .ref q), (1, .int p1)] := hl
  have hx := C.1
  have hb := C.2.1
  have hI := hI.S [40, 52, 53, 54, 55, 56, 57, 58, 59, 60, 61]
  obtain ⟨q_30, mq_30, tq_30, kq_30⟩ := t_fldr hI.1 mq tq td_40 (k := 30) rfl
  refine lv_aload_n hx hb dX10_fewest_0 rfl (lv_at hl 0 rfl) ?_
  refine lv_iconst (v := (0 : Int32)) hx hb dX10_fewest_1 (by decide) ?_
  refine t_put C hH hI mq tq (by decide) td_40 iX10 tyX10 tyX10_ok nmX10 rfl 0 (by decide) wd855 rfl rfl (v := .int (0 : Int32)) rfl rfl rfl ⟨_, rfl, (rg_w rl_0 (by decide))⟩ (fun _ h => nomatch h) dX10_fewest_2 (fun f1 H locs hH hI nf1 of1 bf1 => ?_)
  refine lv_aload_n hx hb dX10_fewest_5 rfl (lv_at hl 0 rfl) ?_
  refine lv_iload_n hx hb dX10_fewest_6 rfl (lv_at hl 1 rfl) ?_
  refine t_Vi C hO hl.1 hA hH hI.1 (As := [.int p1]) (rest := []) (t_X10_isSet l E J τ L f1 hI.1 mq tq p1) my_X10_isSet wd961 mq tq td_40 rfl rfl rfl (Nat.le_of_ble_eq_true rfl) ⟨Nat.le_of_ble_eq_true rfl, Nat.le_of_ble_eq_true rfl⟩ ⟨rfl, rfl⟩ dX10_fewest_7 (fun r3 L1 f2 H locs hp hH => ?_)
  obtain ⟨rfl, s4, h5⟩ := hp
  have hJ := hI
  have hI := hI.call s4 (by decide)
  have w6 := h5.2.2 vl vh (hl0.S hJ rfl) (hh.S hJ rfl) hR
  refine lv_if_ne (tgt := 16) hx hb dX10_fewest_10 (by decide) (fun c7 => ?_) (fun c7 => ?_)
  · skip
    have r8 : rg r3 1 1 := rf_nel (n_eq c7) h5.1 rl_0 (by decide)
    have r9 : rg p1 0 63 := h5.2.1 c7
    have F10 : 1 ≤ (vh 0).toInt := w6 c7
    refine lv_aload_n hx hb dX10_fewest_16 rfl (lv_at hl 0 rfl) ?_
    refine t_Vv C hO hl.1 hA hH hI.1 (As := []) (rest := []) (t_X10_laysLamps l E J τ L f2 hI.1 mq tq (hh.S hI rfl) F10) my_X10_laysLamps wd965 mq tq td_40 rfl rfl rfl (Nat.le_of_ble_eq_true rfl) ⟨Nat.le_of_ble_eq_true rfl, Nat.le_of_ble_eq_true rfl⟩ ⟨rfl, rfl⟩ dX10_fewest_17 (fun L1 f11 H locs hp hH => ?_)
    obtain ⟨rfl, s13, h14⟩ := hp
    have hI := hI.call s13 (by decide)
    refine lv_aload_n hx hb dX10_fewest_20 rfl (lv_at hl 0 rfl) ?_
    refine t_getX C hH hI.1 mq tq td_40 iX10 rfl 30 (by decide) wd922 rfl (hI.rf kq_30) dX10_fewest_21 ?_
    refine lv_iload_n hx hb dX10_fewest_24 rfl (lv_at hl 1 rfl) ?_
    refine t_ald C hH hI.1 mq_30 tq_30 td_57 (rg_in r9 (by decide)) dX10_fewest_25 (fun z15v az15 _ => ?_)
    refine lv_topi (fun z15 ez15 => ?_)
    refine lv_ldc hx hb C.2.2.2.1 (C.2.2.2.2.1 _ wd938) dX10_fewest_26 ?_
    refine lv_icmp_lt (tgt := 35) hx hb dX10_fewest_28 (by decide) (fun c16 => ?_) (fun c16 => ?_)
    · skip
      have r17 : rg z15 (-2147483648) 99999 := rf_ltl (c_lt c16) (rg_all _) rl_100000 (by decide)
      refine lv_aload_n hx hb dX10_fewest_35 rfl (lv_at hl 0 rfl) ?_
      refine t_getX C hH hI.1 mq tq td_40 iX10 rfl 30 (by decide) wd922 rfl (hI.rf kq_30) dX10_fewest_36 ?_
      refine lv_iload_n hx hb dX10_fewest_39 rfl (lv_at hl 1 rfl) ?_
      refine t_ald C hH hI.1 mq_30 tq_30 td_57 (rg_in r9 (by decide)) dX10_fewest_40 (fun z18v az18 _ => ?_)
      refine lv_topi (fun z18 ez18 => ?_)
      exact g_iret C hr hH (Nat.zero_le _) (Nat.zero_le _) dX10_fewest_41 ⟨rfl, hI, (rg_all _)⟩
    · skip
      have r19 : rg z15 100000 2147483647 := rf_ler (n_lt c16) rl_100000 (rg_all _) (by decide)
      refine lv_iconst (v := (-1 : Int32)) hx hb dX10_fewest_31 (by decide) ?_
      refine lv_goto (tgt := 41) hx hb dX10_fewest_32 (by decide) ?_
      exact g_iret C hr hH (Nat.zero_le _) (Nat.zero_le _) dX10_fewest_41 ⟨rfl, hI, (rg_w rl_m1 (by decide))⟩
  · skip
    have r20 : rg r3 0 0 := rf_eql (c_eq c7) h5.1 rl_0 (by decide)
    refine lv_bipush (v := (-2 : Int32)) hx hb dX10_fewest_13 (by decide) ?_
    exact g_iret C hr hH (Nat.zero_le _) (Nat.zero_le _) dX10_fewest_15 ⟨rfl, hI, (rg_w rl_m2 (by decide))⟩
set_option maxHeartbeats 4000000 in
set_option maxRecDepth 100000 in
theorem t_X10_lights (l : Launch) (E : gE) (J : Nat → Nat) (τ : Nat → Nat) (L : List Nat) (f : gF) (hI : tI E L τ f) {q : Nat} (mq : q ∈ L) (tq : τ q = 40) (p1 : Int32) {vl vh : Nat → Int32} (hl0 : isA E L τ f 46 5 vl) (hh : isA E L τ f 47 45 vh) (hR : rowOK vl vh 0) : tMi l E J yX10_lights cX10_lights 2 .int (gRm (30) 0 0) [.ref q, .int p1] L f (tPi E L τ [40, 52, 53, 54, 55, 56, 57, 58, 59, 60, 61] f (fun r f1 => rg r (-2147483648) 2147483647)) := by
  refine tMi.intro (by decide) (Nat.le_of_ble_eq_true rfl) ?_
  intro p e s m below meth c A ls C hr hA hO hH hl
  have C : gC E cX10_lights 2 RX10 p s m _ meth c := C
  have hl : lv_has ls 2 [(0, .ref q), (1, .int p1)] := hl
  have hx := C.1
  have hb := C.2.1
  have hI := hI.S [40, 52, 53, 54, 55, 56, 57, 58, 59, 60, 61]
  obtain ⟨q_30, mq_30, tq_30, kq_30⟩ := t_fldr hI.1 mq tq td_40 (k := 30) rfl
  obtain ⟨q_31, mq_31, tq_31, kq_31⟩ := t_fldr hI.1 mq tq td_40 (k := 31) rfl
  refine lv_aload_n hx hb dX10_lights_0 rfl (lv_at hl 0 rfl) ?_
  refine lv_iconst (v := (0 : Int32)) hx hb dX10_lights_1 (by decide) ?_
  refine t_put C hH hI mq tq (by decide) td_40 iX10 tyX10 tyX10_ok nmX10 rfl 0 (by decide) wd855 rfl rfl (v := .int (0 : Int32)) rfl rfl rfl ⟨_, rfl, (rg_w rl_0 (by decide))⟩ (fun _ h => nomatch h) dX10_lights_2 (fun f1 H locs hH hI nf1 of1 bf1 => ?_)
  refine lv_aload_n hx hb dX10_lights_5 rfl (lv_at hl 0 rfl) ?_
  refine lv_iload_n hx hb dX10_lights_6 rfl (lv_at hl 1 rfl) ?_
  refine t_Vi C hO hl.1 hA hH hI.1 (As := [.int p1]) (rest := []) (t_X10_isSet l E J τ L f1 hI.1 mq tq p1) my_X10_isSet wd961 mq tq td_40 rfl rfl rfl (Nat.le_of_ble_eq_true rfl) ⟨Nat.le_of_ble_eq_true rfl, Nat.le_of_ble_eq_true rfl⟩ ⟨rfl, rfl⟩ dX10_lights_7 (fun r3 L1 f2 H locs hp hH => ?_)
  obtain ⟨rfl, s4, h5⟩ := hp
  have hJ := hI
  have hI := hI.call s4 (by decide)
  have w6 := h5.2.2 vl vh (hl0.S hJ rfl) (hh.S hJ rfl) hR
  refine lv_if_ne (tgt := 16) hx hb dX10_lights_10 (by decide) (fun c7 => ?_) (fun c7 => ?_)
  · skip
    have r8 : rg r3 1 1 := rf_nel (n_eq c7) h5.1 rl_0 (by decide)
    have r9 : rg p1 0 63 := h5.2.1 c7
    have F10 : 1 ≤ (vh 0).toInt := w6 c7
    refine lv_aload_n hx hb dX10_lights_16 rfl (lv_at hl 0 rfl) ?_
    refine t_Vv C hO hl.1 hA hH hI.1 (As := []) (rest := []) (t_X10_laysLamps l E J τ L f2 hI.1 mq tq (hh.S hI rfl) F10) my_X10_laysLamps wd965 mq tq td_40 rfl rfl rfl (Nat.le_of_ble_eq_true rfl) ⟨Nat.le_of_ble_eq_true rfl, Nat.le_of_ble_eq_true rfl⟩ ⟨rfl, rfl⟩ dX10_lights_17 (fun L1 f11 H locs hp hH => ?_)
    obtain ⟨rfl, s13, h14⟩ := hp
    have hI := hI.call s13 (by decide)
    refine lv_aload_n hx hb dX10_lights_20 rfl (lv_at hl 0 rfl) ?_
    refine t_getX C hH hI.1 mq tq td_40 iX10 rfl 30 (by decide) wd922 rfl (hI.rf kq_30) dX10_lights_21 ?_
    refine lv_iload_n hx hb dX10_lights_24 rfl (lv_at hl 1 rfl) ?_
    refine t_ald C hH hI.1 mq_30 tq_30 td_57 (rg_in r9 (by decide)) dX10_lights_25 (fun z15v az15 _ => ?_)
    refine lv_topi (fun z15 ez15 => ?_)
    refine lv_ldc hx hb C.2.2.2.1 (C.2.2.2.2.1 _ wd938) dX10_lights_26 ?_
    refine lv_icmp_lt (tgt := 35) hx hb dX10_lights_28 (by decide) (fun c16 => ?_) (fun c16 => ?_)
    · skip
      have r17 : rg z15 (-2147483648) 99999 := rf_ltl (c_lt c16) (rg_all _) rl_100000 (by decide)
      refine lv_aload_n hx hb dX10_lights_35 rfl (lv_at hl 0 rfl) ?_
      refine t_getX C hH hI.1 mq tq td_40 iX10 rfl 31 (by decide) wd923 rfl (hI.rf kq_31) dX10_lights_36 ?_
      refine lv_iload_n hx hb dX10_lights_39 rfl (lv_at hl 1 rfl) ?_
      refine t_ald C hH hI.1 mq_31 tq_31 td_58 (rg_in r9 (by decide)) dX10_lights_40 (fun z18v az18 _ => ?_)
      refine lv_topi (fun z18 ez18 => ?_)
      exact g_iret C hr hH (Nat.zero_le _) (Nat.zero_le _) dX10_lights_41 ⟨rfl, hI, (rg_all _)⟩
    · skip
      have r19 : rg z15 100000 2147483647 := rf_ler (n_lt c16) rl_100000 (rg_all _) (by decide)
      refine lv_iconst (v := (-1 : Int32)) hx hb dX10_lights_31 (by decide) ?_
      refine lv_goto (tgt := 41) hx hb dX10_lights_32 (by decide) ?_
      exact g_iret C hr hH (Nat.zero_le _) (Nat.zero_le _) dX10_lights_41 ⟨rfl, hI, (rg_w rl_m1 (by decide))⟩
  · skip
    have r20 : rg r3 0 0 := rf_eql (c_eq c7) h5.1 rl_0 (by decide)
    refine lv_bipush (v := (-2 : Int32)) hx hb dX10_lights_13 (by decide) ?_
    exact g_iret C hr hH (Nat.zero_le _) (Nat.zero_le _) dX10_lights_15 ⟨rfl, hI, (rg_w rl_m2 (by decide))⟩
set_option maxHeartbeats 4000000 in
set_option maxRecDepth 100000 in
theorem t_X10_best (l : Launch) (E : gE) (J : Nat → Nat) (τ : Nat → Nat) (L : List Nat) (f : gF) (hI : tI E L τ f) {q : Nat} (mq : q ∈ L) (tq : τ q = 40) (p1 : Int32) {vl vh : Nat → Int32} (hl0 : isA E L τ f 46 5 vl) (hh : isA E L τ f 47 45 vh) (hR : rowOK vl vh 0) : tMi l E J yX10_best cX10_best 2 .int (gRm (30) 0 0) [.ref q, .int p1] L f (tPi E L τ [40, 52, 53, 54, 55, 56, 57, 58, 59, 60, 61] f (fun r f1 => rg r (-2147483648) 2147483647)) := by
  refine tMi.intro (by decide) (Nat.le_of_ble_eq_true rfl) ?_
  intro p e s m below meth c A ls C hr hA hO hH hl
  have C : gC E cX10_best 2 RX10 p s m _ meth c := C
  have hl : lv_has ls 2 [(0, .ref q), (1, .int p1)] := hl
  have hx := C.1
  have hb := C.2.1
  have hI := hI.S [40, 52, 53, 54, 55, 56, 57, 58, 59, 60, 61]
  obtain ⟨q_32, mq_32, tq_32, kq_32⟩ := t_fldr hI.1 mq tq td_40 (k := 32) rfl
  refine lv_aload_n hx hb dX10_best_0 rfl (lv_at hl 0 rfl) ?_
  refine lv_iconst (v := (0 : Int32)) hx hb dX10_best_1 (by decide) ?_
  refine t_put C hH hI mq tq (by decide) td_40 iX10 tyX10 tyX10_ok nmX10 rfl 0 (by decide) wd855 rfl rfl (v := .int (0 : Int32)) rfl rfl rfl ⟨_, rfl, (rg_w rl_0 (by decide))⟩ (fun _ h => nomatch h) dX10_best_2 (fun f1 H locs hH hI nf1 of1 bf1 => ?_)
  refine lv_aload_n hx hb dX10_best_5 rfl (lv_at hl 0 rfl) ?_
  refine lv_iload_n hx hb dX10_best_6 rfl (lv_at hl 1 rfl) ?_
  refine t_Vi C hO hl.1 hA hH hI.1 (As := [.int p1]) (rest := []) (t_X10_isMany l E J τ L f1 hI.1 mq tq p1) my_X10_isMany wd969 mq tq td_40 rfl rfl rfl (Nat.le_of_ble_eq_true rfl) ⟨Nat.le_of_ble_eq_true rfl, Nat.le_of_ble_eq_true rfl⟩ ⟨rfl, rfl⟩ dX10_best_7 (fun r3 L1 f2 H locs hp hH => ?_)
  obtain ⟨rfl, s4, h5⟩ := hp
  have hJ := hI
  have hI := hI.call s4 (by decide)
  have w6 := h5.2.2 vl vh (hl0.S hJ rfl) (hh.S hJ rfl) hR
  refine lv_if_ne (tgt := 16) hx hb dX10_best_10 (by decide) (fun c7 => ?_) (fun c7 => ?_)
  · skip
    have r8 : rg r3 1 1 := rf_nel (n_eq c7) h5.1 rl_0 (by decide)
    have r9 : rg p1 0 3 := h5.2.1 c7
    have F10 : 1 ≤ (vh 0).toInt := w6 c7
    refine lv_aload_n hx hb dX10_best_16 rfl (lv_at hl 0 rfl) ?_
    refine t_Vv C hO hl.1 hA hH hI.1 (As := []) (rest := []) (t_X10_laysLamps l E J τ L f2 hI.1 mq tq (hh.S hI rfl) F10) my_X10_laysLamps wd965 mq tq td_40 rfl rfl rfl (Nat.le_of_ble_eq_true rfl) ⟨Nat.le_of_ble_eq_true rfl, Nat.le_of_ble_eq_true rfl⟩ ⟨rfl, rfl⟩ dX10_best_17 (fun L1 f11 H locs hp hH => ?_)
    obtain ⟨rfl, s13, h14⟩ := hp
    have hI := hI.call s13 (by decide)
    refine lv_aload_n hx hb dX10_best_20 rfl (lv_at hl 0 rfl) ?_
    refine t_getX C hH hI.1 mq tq td_40 iX10 rfl 32 (by decide) wd928 rfl (hI.rf kq_32) dX10_best_21 ?_
    refine lv_iload_n hx hb dX10_best_24 rfl (lv_at hl 1 rfl) ?_
    refine t_ald C hH hI.1 mq_32 tq_32 td_59 (rg_in r9 (by decide)) dX10_best_25 (fun z15v az15 _ => ?_)
    refine lv_topi (fun z15 ez15 => ?_)
    exact g_iret C hr hH (Nat.zero_le _) (Nat.zero_le _) dX10_best_26 ⟨rfl, hI, (rg_all _)⟩
  · skip
    have r16 : rg r3 0 0 := rf_eql (c_eq c7) h5.1 rl_0 (by decide)
    refine lv_bipush (v := (-2 : Int32)) hx hb dX10_best_13 (by decide) ?_
    exact g_iret C hr hH (Nat.zero_le _) (Nat.zero_le _) dX10_best_15 ⟨rfl, hI, (rg_w rl_m2 (by decide))⟩
set_option maxHeartbeats 4000000 in
set_option maxRecDepth 100000 in
theorem t_X10_bests (l : Launch) (E : gE) (J : Nat → Nat) (τ : Nat → Nat) (L : List Nat) (f : gF) (hI : tI E L τ f) {q : Nat} (mq : q ∈ L) (tq : τ q = 40) (p1 : Int32) {vl vh : Nat → Int32} (hl0 : isA E L τ f 46 5 vl) (hh : isA E L τ f 47 45 vh) (hR : rowOK vl vh 0) : tMi l E J yX10_bests cX10_bests 2 .int (gRm (30) 0 0) [.ref q, .int p1] L f (tPi E L τ [40, 52, 53, 54, 55, 56, 57, 58, 59, 60, 61] f (fun r f1 => rg r (-2147483648) 2147483647)) := by
  refine tMi.intro (by decide) (Nat.le_of_ble_eq_true rfl) ?_
  intro p e s m below meth c A ls C hr hA hO hH hl
  have C : gC E cX10_bests 2 RX10 p s m _ meth c := C
  have hl : lv_has ls 2 [(0, .ref q), (1, .int p1)] := hl
  have hx := C.1
  have hb := C.2.1
  have hI := hI.S [40, 52, 53, 54, 55, 56, 57, 58, 59, 60, 61]
  obtain ⟨q_33, mq_33, tq_33, kq_33⟩ := t_fldr hI.1 mq tq td_40 (k := 33) rfl
  refine lv_aload_n hx hb dX10_bests_0 rfl (lv_at hl 0 rfl) ?_
  refine lv_iconst (v := (0 : Int32)) hx hb dX10_bests_1 (by decide) ?_
  refine t_put C hH hI mq tq (by decide) td_40 iX10 tyX10 tyX10_ok nmX10 rfl 0 (by decide) wd855 rfl rfl (v := .int (0 : Int32)) rfl rfl rfl ⟨_, rfl, (rg_w rl_0 (by decide))⟩ (fun _ h => nomatch h) dX10_bests_2 (fun f1 H locs hH hI nf1 of1 bf1 => ?_)
  refine lv_aload_n hx hb dX10_bests_5 rfl (lv_at hl 0 rfl) ?_
  refine lv_iload_n hx hb dX10_bests_6 rfl (lv_at hl 1 rfl) ?_
  refine t_Vi C hO hl.1 hA hH hI.1 (As := [.int p1]) (rest := []) (t_X10_isMany l E J τ L f1 hI.1 mq tq p1) my_X10_isMany wd969 mq tq td_40 rfl rfl rfl (Nat.le_of_ble_eq_true rfl) ⟨Nat.le_of_ble_eq_true rfl, Nat.le_of_ble_eq_true rfl⟩ ⟨rfl, rfl⟩ dX10_bests_7 (fun r3 L1 f2 H locs hp hH => ?_)
  obtain ⟨rfl, s4, h5⟩ := hp
  have hJ := hI
  have hI := hI.call s4 (by decide)
  have w6 := h5.2.2 vl vh (hl0.S hJ rfl) (hh.S hJ rfl) hR
  refine lv_if_ne (tgt := 16) hx hb dX10_bests_10 (by decide) (fun c7 => ?_) (fun c7 => ?_)
  · skip
    have r8 : rg r3 1 1 := rf_nel (n_eq c7) h5.1 rl_0 (by decide)
    have r9 : rg p1 0 3 := h5.2.1 c7
    have F10 : 1 ≤ (vh 0).toInt := w6 c7
    refine lv_aload_n hx hb dX10_bests_16 rfl (lv_at hl 0 rfl) ?_
    refine t_Vv C hO hl.1 hA hH hI.1 (As := []) (rest := []) (t_X10_laysLamps l E J τ L f2 hI.1 mq tq (hh.S hI rfl) F10) my_X10_laysLamps wd965 mq tq td_40 rfl rfl rfl (Nat.le_of_ble_eq_true rfl) ⟨Nat.le_of_ble_eq_true rfl, Nat.le_of_ble_eq_true rfl⟩ ⟨rfl, rfl⟩ dX10_bests_17 (fun L1 f11 H locs hp hH => ?_)
    obtain ⟨rfl, s13, h14⟩ := hp
    have hI := hI.call s13 (by decide)
    refine lv_aload_n hx hb dX10_bests_20 rfl (lv_at hl 0 rfl) ?_
    refine t_getX C hH hI.1 mq tq td_40 iX10 rfl 33 (by decide) wd929 rfl (hI.rf kq_33) dX10_bests_21 ?_
    refine lv_iload_n hx hb dX10_bests_24 rfl (lv_at hl 1 rfl) ?_
    refine t_aldR C hH hI.1 mq_33 tq_33 td_60 (rg_in r9 (by decide)) dX10_bests_25 (fun z15 rz15 => ?_)
    exact g_iret C hr hH (Nat.zero_le _) (Nat.zero_le _) dX10_bests_26 ⟨rfl, hI, (rg_w rz15 (by decide))⟩
  · skip
    have r16 : rg r3 0 0 := rf_eql (c_eq c7) h5.1 rl_0 (by decide)
    refine lv_bipush (v := (-2 : Int32)) hx hb dX10_bests_13 (by decide) ?_
    exact g_iret C hr hH (Nat.zero_le _) (Nat.zero_le _) dX10_bests_15 ⟨rfl, hI, (rg_w rl_m2 (by decide))⟩
set_option maxHeartbeats 4000000 in
set_option maxRecDepth 100000 in
theorem t_X10_most (l : Launch) (E : gE) (J : Nat → Nat) (τ : Nat → Nat) (L : List Nat) (f : gF) (hI : tI E L τ f) {q : Nat} (mq : q ∈ L) (tq : τ q = 40) (p1 : Int32) {vl vh : Nat → Int32} (hl0 : isA E L τ f 46 5 vl) (hh : isA E L τ f 47 45 vh) (hR : rowOK vl vh 0) : tMi l E J yX10_most cX10_most 2 .int (gRm (30) 0 0) [.ref q, .int p1] L f (tPi E L τ [40, 52, 53, 54, 55, 56, 57, 58, 59, 60, 61] f (fun r f1 => rg r (-2147483648) 2147483647)) := by
  refine tMi.intro (by decide) (Nat.le_of_ble_eq_true rfl) ?_
  intro p e s m below meth c A ls C hr hA hO hH hl
  have C : gC E cX10_most 2 RX10 p s m _ meth c := C
  have hl : lv_has ls 2 [(0, .ref q), (1, .int p1)] := hl
  have hx := C.1
  have hb := C.2.1
  have hI := hI.S [40, 52, 53, 54, 55, 56, 57, 58, 59, 60, 61]
  obtain ⟨q_34, mq_34, tq_34, kq_34⟩ := t_fldr hI.1 mq tq td_40 (k := 34) rfl
  refine lv_aload_n hx hb dX10_most_0 rfl (lv_at hl 0 rfl) ?_
  refine lv_iconst (v := (0 : Int32)) hx hb dX10_most_1 (by decide) ?_
  refine t_put C hH hI mq tq (by decide) td_40 iX10 tyX10 tyX10_ok nmX10 rfl 0 (by decide) wd855 rfl rfl (v := .int (0 : Int32)) rfl rfl rfl ⟨_, rfl, (rg_w rl_0 (by decide))⟩ (fun _ h => nomatch h) dX10_most_2 (fun f1 H locs hH hI nf1 of1 bf1 => ?_)
  refine lv_aload_n hx hb dX10_most_5 rfl (lv_at hl 0 rfl) ?_
  refine lv_iload_n hx hb dX10_most_6 rfl (lv_at hl 1 rfl) ?_
  refine t_Vi C hO hl.1 hA hH hI.1 (As := [.int p1]) (rest := []) (t_X10_isMany l E J τ L f1 hI.1 mq tq p1) my_X10_isMany wd969 mq tq td_40 rfl rfl rfl (Nat.le_of_ble_eq_true rfl) ⟨Nat.le_of_ble_eq_true rfl, Nat.le_of_ble_eq_true rfl⟩ ⟨rfl, rfl⟩ dX10_most_7 (fun r3 L1 f2 H locs hp hH => ?_)
  obtain ⟨rfl, s4, h5⟩ := hp
  have hJ := hI
  have hI := hI.call s4 (by decide)
  have w6 := h5.2.2 vl vh (hl0.S hJ rfl) (hh.S hJ rfl) hR
  refine lv_if_ne (tgt := 16) hx hb dX10_most_10 (by decide) (fun c7 => ?_) (fun c7 => ?_)
  · skip
    have r8 : rg r3 1 1 := rf_nel (n_eq c7) h5.1 rl_0 (by decide)
    have r9 : rg p1 0 3 := h5.2.1 c7
    have F10 : 1 ≤ (vh 0).toInt := w6 c7
    refine lv_aload_n hx hb dX10_most_16 rfl (lv_at hl 0 rfl) ?_
    refine t_Vv C hO hl.1 hA hH hI.1 (As := []) (rest := []) (t_X10_laysLamps l E J τ L f2 hI.1 mq tq (hh.S hI rfl) F10) my_X10_laysLamps wd965 mq tq td_40 rfl rfl rfl (Nat.le_of_ble_eq_true rfl) ⟨Nat.le_of_ble_eq_true rfl, Nat.le_of_ble_eq_true rfl⟩ ⟨rfl, rfl⟩ dX10_most_17 (fun L1 f11 H locs hp hH => ?_)
    obtain ⟨rfl, s13, h14⟩ := hp
    have hI := hI.call s13 (by decide)
    refine lv_aload_n hx hb dX10_most_20 rfl (lv_at hl 0 rfl) ?_
    refine t_getX C hH hI.1 mq tq td_40 iX10 rfl 34 (by decide) wd924 rfl (hI.rf kq_34) dX10_most_21 ?_
    refine lv_iload_n hx hb dX10_most_24 rfl (lv_at hl 1 rfl) ?_
    refine t_ald C hH hI.1 mq_34 tq_34 td_61 (rg_in r9 (by decide)) dX10_most_25 (fun z15v az15 _ => ?_)
    refine lv_topi (fun z15 ez15 => ?_)
    exact g_iret C hr hH (Nat.zero_le _) (Nat.zero_le _) dX10_most_26 ⟨rfl, hI, (rg_all _)⟩
  · skip
    have r16 : rg r3 0 0 := rf_eql (c_eq c7) h5.1 rl_0 (by decide)
    refine lv_bipush (v := (-2 : Int32)) hx hb dX10_most_13 (by decide) ?_
    exact g_iret C hr hH (Nat.zero_le _) (Nat.zero_le _) dX10_most_15 ⟨rfl, hI, (rg_w rl_m2 (by decide))⟩
set_option maxHeartbeats 4000000 in
set_option maxRecDepth 100000 in
theorem t_wantsOfX (l : Launch) (E : gE) (J : Nat → Nat) (τ : Nat → Nat) (L : List Nat) (f : gF) (hI : tI E L τ f) {q : Nat} (mq : q ∈ L) (tq : τ q = 40) (p1 : Int32) (rp1 : rg p1 0 5) : tMi l E J yX10_wantsOf cX10_wantsOf 2 .int (gRm (1) 0 0) [.ref q, .int p1] L f (tPi E L τ [] f (fun r f1 => rg r 0 99 ∧ (∀ (ar : Nat) (v : Nat → Int32), fld f q 19 (.ref ar) → f ar = .inl (E.2.2 1, 90, .inl v) → r = v (((3 : Int32) * p1 + 1).toNatClampNeg)))) := by
  refine tMi.intro (by decide) (Nat.le_of_ble_eq_true rfl) ?_
  intro p e s m below meth c A ls C hr hA hO hH hl
  have C : gC E cX10_wantsOf 2 RX10 p s m _ meth c := C
  have hl : lv_has ls 2 [(0, .ref q), (1, .int p1)] := hl
  have hx := C.1
  have hb := C.2.1
  have hI := hI.S []
  obtain ⟨q_19, mq_19, tq_19, kq_19⟩ := t_fldr hI.1 mq tq td_40 (k := 19) rfl
  refine lv_aload_n hx hb dX10_wantsOf_0 rfl (lv_at hl 0 rfl) ?_
  refine t_getX C hH hI.1 mq tq td_40 iX10 rfl 19 (by decide) wd818 rfl (hI.rf kq_19) dX10_wantsOf_1 ?_
  refine lv_iconst (v := (3 : Int32)) hx hb dX10_wantsOf_4 (by decide) ?_
  refine lv_iload_n hx hb dX10_wantsOf_5 rfl (lv_at hl 1 rfl) ?_
  refine lv_imul hx hb dX10_wantsOf_6 ?_
  refine lv_topi (fun z1 ez1 => ?_)
  have r2 : rg z1 0 15 := rg_mul ez1 rl_3 rp1 (by decide)
  have m3 := mul3 ez1 rp1 (by decide)
  refine lv_iconst (v := (1 : Int32)) hx hb dX10_wantsOf_7 (by decide) ?_
  refine lv_iadd hx hb dX10_wantsOf_8 ?_
  refine lv_topi (fun z4 ez4 => ?_)
  have r5 : rg z4 1 16 := rg_add ez4 r2 rl_1 (by decide)
  have a6 : z4.toInt = z1.toInt + 1 := ai_add ez4 r2 tl_1 (by decide)
  refine t_ald C hH hI.1 mq_19 tq_19 td_49 (rg_in r5 (by decide)) dX10_wantsOf_9 (fun z7v az7 pz7 => ?_)
  refine lv_topi (fun z7 ez7 => ?_)
  have r8 : rg z7 0 99 := mem_any pz7 (rg_in r5 (by decide)) ez7
  exact g_iret C hr hH (Nat.zero_le _) (Nat.zero_le _) dX10_wantsOf_10 ⟨rfl, hI, ⟨r8, (fun ar v h1 h2 => by have hq := fld_injR h1 kq_19; subst hq; rw [ez7, arr_inj az7 h2]; subst_vars; rfl)⟩⟩
set_option maxHeartbeats 4000000 in
set_option maxRecDepth 100000 in
theorem t_paysOfX (l : Launch) (E : gE) (J : Nat → Nat) (τ : Nat → Nat) (L : List Nat) (f : gF) (hI : tI E L τ f) {q : Nat} (mq : q ∈ L) (tq : τ q = 40) (p1 : Int32) (rp1 : rg p1 0 5) : tMi l E J yX10_paysOf cX10_paysOf 2 .int (gRm (1) 0 0) [.ref q, .int p1] L f (tPi E L τ [] f (fun r f1 => rg r 0 99 ∧ (∀ (ar : Nat) (v : Nat → Int32), fld f q 19 (.ref ar) → f ar = .inl (E.2.2 1, 90, .inl v) → r = v (((3 : Int32) * p1 + 2).toNatClampNeg)))) := by
  refine tMi.intro (by decide) (Nat.le_of_ble_eq_true rfl) ?_
  intro p e s m below meth c A ls C hr hA hO hH hl
  have C : gC E cX10_paysOf 2 RX10 p s m _ meth c := C
  have hl : lv_has ls 2 [(0, .ref q), (1, .int p1)] := hl
  have hx := C.1
  have hb := C.2.1
  have hI := hI.S []
  obtain ⟨q_19, mq_19, tq_19, kq_19⟩ := t_fldr hI.1 mq tq td_40 (k := 19) rfl
  refine lv_aload_n hx hb dX10_paysOf_0 rfl (lv_at hl 0 rfl) ?_
  refine t_getX C hH hI.1 mq tq td_40 iX10 rfl 19 (by decide) wd818 rfl (hI.rf kq_19) dX10_paysOf_1 ?_
  refine lv_iconst (v := (3 : Int32)) hx hb dX10_paysOf_4 (by decide) ?_
  refine lv_iload_n hx hb dX10_paysOf_5 rfl (lv_at hl 1 rfl) ?_
  refine lv_imul hx hb dX10_paysOf_6 ?_
  refine lv_topi (fun z1 ez1 => ?_)
  have r2 : rg z1 0 15 := rg_mul ez1 rl_3 rp1 (by decide)
  have m3 := mul3 ez1 rp1 (by decide)
  refine lv_iconst (v := (2 : Int32)) hx hb dX10_paysOf_7 (by decide) ?_
  refine lv_iadd hx hb dX10_paysOf_8 ?_
  refine lv_topi (fun z4 ez4 => ?_)
  have r5 : rg z4 2 17 := rg_add ez4 r2 rl_2 (by decide)
  have a6 : z4.toInt = z1.toInt + 2 := ai_add ez4 r2 tl_2 (by decide)
  refine t_ald C hH hI.1 mq_19 tq_19 td_49 (rg_in r5 (by decide)) dX10_paysOf_9 (fun z7v az7 pz7 => ?_)
  refine lv_topi (fun z7 ez7 => ?_)
  have r8 : rg z7 0 99 := mem_any pz7 (rg_in r5 (by decide)) ez7
  exact g_iret C hr hH (Nat.zero_le _) (Nat.zero_le _) dX10_paysOf_10 ⟨rfl, hI, ⟨r8, (fun ar v h1 h2 => by have hq := fld_injR h1 kq_19; subst hq; rw [ez7, arr_inj az7 h2]; subst_vars; rfl)⟩⟩
set_option maxHeartbeats 4000000 in
set_option maxRecDepth 100000 in
theorem t_wantedAt_100 (l : Launch) (E : gE) (J : Nat → Nat) (τ : Nat → Nat) (L : List Nat) (f : gF) (hI : tI E L τ f) {q : Nat} (mq : q ∈ L) (tq : τ q = 40) (p1 : Int32) (rp1 : rg p1 100 101) : tMi l E J yX10_wantedAt cX10_wantedAt 4 .int (gRm (2) 0 0) [.ref q, .int p1] L f (tPi E L τ [] f (fun r f1 => rg r 0 0)) := by
  refine tMi.intro (by decide) (Nat.le_of_ble_eq_true rfl) ?_
  intro p e s m below meth c A ls C hr hA hO hH hl
  have C : gC E cX10_wantedAt 4 RX10 p s m _ meth c := C
  have hl : lv_has ls 4 [(0, .ref q), (1, .int p1)] := hl
  have hx := C.1
  have hb := C.2.1
  have hI := hI.S []
  obtain ⟨mb0, mmb0, tmb0, kmb0⟩ := t_fldr hI.1 mq tq td_40 (k := 19) rfl
  obtain ⟨vm0, hvm0, pvm0⟩ := t_arr hI.1 mmb0 tmb0 td_49
  have cut4 : ∀ (n : Nat) (fh4 : gF) (H : Heap) (locs : List Loc) (ls : Array Slot) (v4_3 : Int32), 6 - v4_3.toInt < (n : Int) → tS E L τ [] f fh4 → gH E A L fh4 s.heap H locs → rg v4_3 0 6 → lv_has ls 4 [(0, .ref q), (1, .int p1), (2, .int (0 : Int32)), (3, .int v4_3)] → W p l e (gRm (2) 0 0) s m [.ref q, .int p1].toArray below meth c H locs 0 0 (MQ below (gQi E A (tPi E L τ [] f (fun r f1 => rg r 0 0))) [.ref q, .int p1].toArray s (gRm (2) 0 0).cells (gRm (2) 0 0).slots A) (F0 m 4 ls []) := by
    intro n
    induction n with
    | zero =>
      intro fh4 H locs ls v4_3 hfu4 hI hH r_v4_3 hl
      exact (fu_0 hfu4 r_v4_3).elim
    | succ n ih4 =>
      intro fh4 H locs ls v4_3 hfu4 hI hH r_v4_3 hl
      refine lv_iload_n hx hb dX10_wantedAt_4 rfl (lv_at hl 3 rfl) ?_
      refine lv_aload_n hx hb dX10_wantedAt_5 rfl (lv_at hl 0 rfl) ?_
      refine t_Vi C hO hl.1 hA hH hI.1 (As := []) (rest := [.int v4_3]) (t_X10_members l E J τ L fh4 hI.1 mq tq) my_X10_members wd756 mq tq td_40 rfl rfl rfl (Nat.le_of_ble_eq_true rfl) ⟨Nat.le_of_ble_eq_true rfl, Nat.le_of_ble_eq_true rfl⟩ ⟨rfl, rfl⟩ dX10_wantedAt_6 (fun r2 L1 f1 H locs hp hH => ?_)
      obtain ⟨rfl, s3, h4⟩ := hp
      have hJ := hI
      have hI := hI.call s3 (by decide)
      refine lv_icmp_ge (tgt := 53) hx hb dX10_wantedAt_9 (by decide) (fun c5 => ?_) (fun c5 => ?_)
      · skip
        refine lv_iload_n hx hb dX10_wantedAt_53 rfl (lv_at hl 2 rfl) ?_
        exact g_iret C hr hH (Nat.zero_le _) (Nat.zero_le _) dX10_wantedAt_54 ⟨rfl, hI, rl_0⟩
      · skip
        have r6 : rg v4_3 0 5 := rf_ltl (n_le c5) r_v4_3 h4.1 (by decide)
        have r7 : rg r2 1 6 := rf_ltr (n_le c5) r_v4_3 h4.1 (by decide)
        refine lv_iload_n hx hb dX10_wantedAt_12 rfl (lv_at hl 2 rfl) ?_
        refine lv_aload_n hx hb dX10_wantedAt_13 rfl (lv_at hl 0 rfl) ?_
        refine lv_iload_n hx hb dX10_wantedAt_14 rfl (lv_at hl 3 rfl) ?_
        refine t_Vi C hO hl.1 hA hH hI.1 (As := [.int v4_3]) (rest := [.int (0 : Int32)]) (t_wantsOfX l E J τ L f1 hI.1 mq tq v4_3 r6) my_X10_wantsOf wd822 mq tq td_40 rfl rfl rfl (Nat.le_of_ble_eq_true rfl) ⟨Nat.le_of_ble_eq_true rfl, Nat.le_of_ble_eq_true rfl⟩ ⟨rfl, rfl⟩ dX10_wantedAt_15 (fun r9 L1 f8 H locs hp hH => ?_)
        obtain ⟨rfl, s10, h11⟩ := hp
        have hJ := hI
        have hI := hI.call s10 (by decide)
        have w12 := h11.2 mb0 vm0 (hJ.rf kmb0) ((hJ.fr mb0 mmb0 (t_lim tmb0 rfl)).trans hvm0)
        refine lv_if_le (tgt := 44) hx hb dX10_wantedAt_18 (by decide) (fun c13 => ?_) (fun c13 => ?_)
        · skip
          have r14 : rg r9 0 0 := rf_lel (c_le c13) h11.1 rl_0 (by decide)
          refine lv_iconst (v := (0 : Int32)) hx hb dX10_wantedAt_44 (by decide) ?_
          refine lv_iadd hx hb dX10_wantedAt_45 ?_
          refine lv_topi (fun z15 ez15 => ?_)
          obtain rfl : z15 = (0 : Int32) := ez15.trans (by decide)
          refine lv_istore_n (lv' := [(2, .int (0 : Int32)), (0, .ref q), (1, .int p1), (3, .int v4_3)]) hx hb dX10_wantedAt_46 rfl hl (by decide) rfl (fun ls hl => ?_)
          obtain ⟨z16, ez16⟩ : ∃ y : Int32, y = v4_3 + (1 : Int32) := ⟨_, rfl⟩
          have r17 : rg z16 1 6 := rg_add ez16 r6 rl_1 (by decide)
          have a18 : z16.toInt = v4_3.toInt + 1 := ai_add ez16 r6 tl_1 (by decide)
          refine lv_iinc (v := z16) (lv' := [(3, .int z16), (2, .int (0 : Int32)), (0, .ref q), (1, .int p1)]) hx hb dX10_wantedAt_47 hl (k := 3) rfl (by rw [ez16]; rfl) (by decide) rfl (fun ls hl => ?_)
          refine lv_goto (tgt := 4) hx hb dX10_wantedAt_50 (by decide) ?_
          exact ih4 _ _ _ _ z16 (fu_s hfu4 a18 (by decide)) hI hH (rg_w r17 (by decide)) (lv_sub hl [2, 3, 1, 0] rfl)
        · skip
          have r19 : rg r9 1 99 := rf_ltr (n_le c13) rl_0 h11.1 (by decide)
          refine lv_aload_n hx hb dX10_wantedAt_21 rfl (lv_at hl 0 rfl) ?_
          refine lv_iload_n hx hb dX10_wantedAt_22 rfl (lv_at hl 3 rfl) ?_
          refine t_Vi C hO hl.1 hA hH hI.1 (As := [.int v4_3]) (rest := [.int (0 : Int32)]) (t_paysOfX l E J τ L f8 hI.1 mq tq v4_3 r6) my_X10_paysOf wd830 mq tq td_40 rfl rfl rfl (Nat.le_of_ble_eq_true rfl) ⟨Nat.le_of_ble_eq_true rfl, Nat.le_of_ble_eq_true rfl⟩ ⟨rfl, rfl⟩ dX10_wantedAt_23 (fun r21 L1 f20 H locs hp hH => ?_)
          obtain ⟨rfl, s22, h23⟩ := hp
          have hJ := hI
          have hI := hI.call s22 (by decide)
          have w24 := h23.2 mb0 vm0 (hJ.rf kmb0) ((hJ.fr mb0 mmb0 (t_lim tmb0 rfl)).trans hvm0)
          refine lv_iload_n hx hb dX10_wantedAt_26 rfl (lv_at hl 1 rfl) ?_
          refine lv_aload_n hx hb dX10_wantedAt_27 rfl (lv_at hl 0 rfl) ?_
          refine lv_iload_n hx hb dX10_wantedAt_28 rfl (lv_at hl 3 rfl) ?_
          refine t_Vi C hO hl.1 hA hH hI.1 (As := [.int v4_3]) (rest := [.int p1, .int r21, .int (0 : Int32)]) (t_wantsOfX l E J τ L f20 hI.1 mq tq v4_3 r6) my_X10_wantsOf wd822 mq tq td_40 rfl rfl rfl (Nat.le_of_ble_eq_true rfl) ⟨Nat.le_of_ble_eq_true rfl, Nat.le_of_ble_eq_true rfl⟩ ⟨rfl, rfl⟩ dX10_wantedAt_29 (fun r26 L1 f25 H locs hp hH => ?_)
          obtain ⟨rfl, s27, h28⟩ := hp
          have hJ := hI
          have hI := hI.call s27 (by decide)
          have w29 := h28.2 mb0 vm0 (hJ.rf kmb0) ((hJ.fr mb0 mmb0 (t_lim tmb0 rfl)).trans hvm0)
          have r30 : rg r26 1 99 := eq_rg r19 w29 w12
          refine lv_imul hx hb dX10_wantedAt_32 ?_
          refine lv_topi (fun z31 ez31 => ?_)
          have r32 : rg z31 100 9999 := rg_mul ez31 rp1 r30 (by decide)
          refine lv_icmp_lt (tgt := 44) hx hb dX10_wantedAt_33 (by decide) (fun c33 => ?_) (fun c33 => ?_)
          · skip
            refine lv_iconst (v := (0 : Int32)) hx hb dX10_wantedAt_44 (by decide) ?_
            refine lv_iadd hx hb dX10_wantedAt_45 ?_
            refine lv_topi (fun z34 ez34 => ?_)
            obtain rfl : z34 = (0 : Int32) := ez34.trans (by decide)
            refine lv_istore_n (lv' := [(2, .int (0 : Int32)), (0, .ref q), (1, .int p1), (3, .int v4_3)]) hx hb dX10_wantedAt_46 rfl hl (by decide) rfl (fun ls hl => ?_)
            obtain ⟨z35, ez35⟩ : ∃ y : Int32, y = v4_3 + (1 : Int32) := ⟨_, rfl⟩
            have r36 : rg z35 1 6 := rg_add ez35 r6 rl_1 (by decide)
            have a37 : z35.toInt = v4_3.toInt + 1 := ai_add ez35 r6 tl_1 (by decide)
            refine lv_iinc (v := z35) (lv' := [(3, .int z35), (2, .int (0 : Int32)), (0, .ref q), (1, .int p1)]) hx hb dX10_wantedAt_47 hl (k := 3) rfl (by rw [ez35]; rfl) (by decide) rfl (fun ls hl => ?_)
            refine lv_goto (tgt := 4) hx hb dX10_wantedAt_50 (by decide) ?_
            exact ih4 _ _ _ _ z35 (fu_s hfu4 a37 (by decide)) hI hH (rg_w r36 (by decide)) (lv_sub hl [2, 3, 1, 0] rfl)
          · skip
            exact (rg_no (show rg z31 100 99 from rf_lel (n_lt c33) r32 h23.1 (by decide)) (by decide)).elim
  refine lv_iconst (v := (0 : Int32)) hx hb dX10_wantedAt_0 (by decide) ?_
  refine lv_istore_n (lv' := [(2, .int (0 : Int32)), (0, .ref q), (1, .int p1)]) hx hb dX10_wantedAt_1 rfl hl (by decide) rfl (fun ls hl => ?_)
  refine lv_iconst (v := (0 : Int32)) hx hb dX10_wantedAt_2 (by decide) ?_
  refine lv_istore_n (lv' := [(3, .int (0 : Int32)), (2, .int (0 : Int32)), (0, .ref q), (1, .int p1)]) hx hb dX10_wantedAt_3 rfl hl (by decide) rfl (fun ls hl => ?_)
  exact cut4 7 _ _ _ _ (0 : Int32) (fu_i 7 rl_0 (by decide)) hI hH (rg_w rl_0 (by decide)) (lv_sub hl [2, 3, 1, 0] rfl)
set_option maxHeartbeats 4000000 in
set_option maxRecDepth 100000 in
theorem t_wantedAt_any (l : Launch) (E : gE) (J : Nat → Nat) (τ : Nat → Nat) (L : List Nat) (f : gF) (hI : tI E L τ f) {q : Nat} (mq : q ∈ L) (tq : τ q = 40) (p1 : Int32) : tMi l E J yX10_wantedAt cX10_wantedAt 4 .int (gRm (2) 0 0) [.ref q, .int p1] L f (tPi E L τ [] f (fun r f1 => rg r (-2147483648) 2147483647)) := by
  refine tMi.intro (by decide) (Nat.le_of_ble_eq_true rfl) ?_
  intro p e s m below meth c A ls C hr hA hO hH hl
  have C : gC E cX10_wantedAt 4 RX10 p s m _ meth c := C
  have hl : lv_has ls 4 [(0, .ref q), (1, .int p1)] := hl
  have hx := C.1
  have hb := C.2.1
  have hI := hI.S []
  have cut4 : ∀ (n : Nat) (fh4 : gF) (H : Heap) (locs : List Loc) (ls : Array Slot) (v4_2 : Int32) (v4_3 : Int32), 6 - v4_3.toInt < (n : Int) → tS E L τ [] f fh4 → gH E A L fh4 s.heap H locs → rg v4_3 0 6 → lv_has ls 4 [(0, .ref q), (1, .int p1), (2, .int v4_2), (3, .int v4_3)] → W p l e (gRm (2) 0 0) s m [.ref q, .int p1].toArray below meth c H locs 0 0 (MQ below (gQi E A (tPi E L τ [] f (fun r f1 => rg r (-2147483648) 2147483647))) [.ref q, .int p1].toArray s (gRm (2) 0 0).cells (gRm (2) 0 0).slots A) (F0 m 4 ls []) := by
    intro n
    induction n with
    | zero =>
      intro fh4 H locs ls v4_2 v4_3 hfu4 hI hH r_v4_3 hl
      exact (fu_0 hfu4 r_v4_3).elim
    | succ n ih4 =>
      intro fh4 H locs ls v4_2 v4_3 hfu4 hI hH r_v4_3 hl
      refine lv_iload_n hx hb dX10_wantedAt_4 rfl (lv_at hl 3 rfl) ?_
      refine lv_aload_n hx hb dX10_wantedAt_5 rfl (lv_at hl 0 rfl) ?_
      refine t_Vi C hO hl.1 hA hH hI.1 (As := []) (rest := [.int v4_3]) (t_X10_members l E J τ L fh4 hI.1 mq tq) my_X10_members wd756 mq tq td_40 rfl rfl rfl (Nat.le_of_ble_eq_true rfl) ⟨Nat.le_of_ble_eq_true rfl, Nat.le_of_ble_eq_true rfl⟩ ⟨rfl, rfl⟩ dX10_wantedAt_6 (fun r2 L1 f1 H locs hp hH => ?_)
      obtain ⟨rfl, s3, h4⟩ := hp
      have hJ := hI
      have hI := hI.call s3 (by decide)
      refine lv_icmp_ge (tgt := 53) hx hb dX10_wantedAt_9 (by decide) (fun c5 => ?_) (fun c5 => ?_)
      · skip
        refine lv_iload_n hx hb dX10_wantedAt_53 rfl (lv_at hl 2 rfl) ?_
        exact g_iret C hr hH (Nat.zero_le _) (Nat.zero_le _) dX10_wantedAt_54 ⟨rfl, hI, (rg_all _)⟩
      · skip
        have r6 : rg v4_3 0 5 := rf_ltl (n_le c5) r_v4_3 h4.1 (by decide)
        have r7 : rg r2 1 6 := rf_ltr (n_le c5) r_v4_3 h4.1 (by decide)
        refine lv_iload_n hx hb dX10_wantedAt_12 rfl (lv_at hl 2 rfl) ?_
        refine lv_aload_n hx hb dX10_wantedAt_13 rfl (lv_at hl 0 rfl) ?_
        refine lv_iload_n hx hb dX10_wantedAt_14 rfl (lv_at hl 3 rfl) ?_
        refine t_Vi C hO hl.1 hA hH hI.1 (As := [.int v4_3]) (rest := [.int v4_2]) (t_X10_wantsOf l E J τ L f1 hI.1 mq tq v4_3 r6) my_X10_wantsOf wd822 mq tq td_40 rfl rfl rfl (Nat.le_of_ble_eq_true rfl) ⟨Nat.le_of_ble_eq_true rfl, Nat.le_of_ble_eq_true rfl⟩ ⟨rfl, rfl⟩ dX10_wantedAt_15 (fun r9 L1 f8 H locs hp hH => ?_)
        obtain ⟨rfl, s10, h11⟩ := hp
        have hI := hI.call s10 (by decide)
        refine lv_if_le (tgt := 44) hx hb dX10_wantedAt_18 (by decide) (fun c12 => ?_) (fun c12 => ?_)
        · skip
          have r13 : rg r9 0 0 := rf_lel (c_le c12) h11 rl_0 (by decide)
          refine lv_iconst (v := (0 : Int32)) hx hb dX10_wantedAt_44 (by decide) ?_
          refine lv_iadd hx hb dX10_wantedAt_45 ?_
          refine lv_topi (fun z14 ez14 => ?_)
          have r15 : rg z14 (-2147483648) 2147483647 := rg_add ez14 (rg_all _) rl_0 (by decide)
          have a16 : z14.toInt = v4_2.toInt + 0 := ai_add ez14 (rg_all _) tl_0 (by decide)
          refine lv_istore_n (lv' := [(2, .int z14), (0, .ref q), (1, .int p1), (3, .int v4_3)]) hx hb dX10_wantedAt_46 rfl hl (by decide) rfl (fun ls hl => ?_)
          obtain ⟨z17, ez17⟩ : ∃ y : Int32, y = v4_3 + (1 : Int32) := ⟨_, rfl⟩
          have r18 : rg z17 1 6 := rg_add ez17 r6 rl_1 (by decide)
          have a19 : z17.toInt = v4_3.toInt + 1 := ai_add ez17 r6 tl_1 (by decide)
          refine lv_iinc (v := z17) (lv' := [(3, .int z17), (2, .int z14), (0, .ref q), (1, .int p1)]) hx hb dX10_wantedAt_47 hl (k := 3) rfl (by rw [ez17]; rfl) (by decide) rfl (fun ls hl => ?_)
          refine lv_goto (tgt := 4) hx hb dX10_wantedAt_50 (by decide) ?_
          exact ih4 _ _ _ _ z14 z17 (fu_s hfu4 a19 (by decide)) hI hH (rg_w r18 (by decide)) (lv_sub hl [2, 3, 1, 0] rfl)
        · skip
          have r20 : rg r9 1 99 := rf_ltr (n_le c12) rl_0 h11 (by decide)
          refine lv_aload_n hx hb dX10_wantedAt_21 rfl (lv_at hl 0 rfl) ?_
          refine lv_iload_n hx hb dX10_wantedAt_22 rfl (lv_at hl 3 rfl) ?_
          refine t_Vi C hO hl.1 hA hH hI.1 (As := [.int v4_3]) (rest := [.int v4_2]) (t_X10_paysOf l E J τ L f8 hI.1 mq tq v4_3 r6) my_X10_paysOf wd830 mq tq td_40 rfl rfl rfl (Nat.le_of_ble_eq_true rfl) ⟨Nat.le_of_ble_eq_true rfl, Nat.le_of_ble_eq_true rfl⟩ ⟨rfl, rfl⟩ dX10_wantedAt_23 (fun r22 L1 f21 H locs hp hH => ?_)
          obtain ⟨rfl, s23, h24⟩ := hp
          have hI := hI.call s23 (by decide)
          refine lv_iload_n hx hb dX10_wantedAt_26 rfl (lv_at hl 1 rfl) ?_
          refine lv_aload_n hx hb dX10_wantedAt_27 rfl (lv_at hl 0 rfl) ?_
          refine lv_iload_n hx hb dX10_wantedAt_28 rfl (lv_at hl 3 rfl) ?_
          refine t_Vi C hO hl.1 hA hH hI.1 (As := [.int v4_3]) (rest := [.int p1, .int r22, .int v4_2]) (t_X10_wantsOf l E J τ L f21 hI.1 mq tq v4_3 r6) my_X10_wantsOf wd822 mq tq td_40 rfl rfl rfl (Nat.le_of_ble_eq_true rfl) ⟨Nat.le_of_ble_eq_true rfl, Nat.le_of_ble_eq_true rfl⟩ ⟨rfl, rfl⟩ dX10_wantedAt_29 (fun r26 L1 f25 H locs hp hH => ?_)
          obtain ⟨rfl, s27, h28⟩ := hp
          have hI := hI.call s27 (by decide)
          refine lv_imul hx hb dX10_wantedAt_32 ?_
          refine lv_topi (fun z29 ez29 => ?_)
          refine lv_icmp_lt (tgt := 44) hx hb dX10_wantedAt_33 (by decide) (fun c30 => ?_) (fun c30 => ?_)
          · skip
            have r31 : rg z29 1 2147483647 := rf_ltr (c_lt c30) h24 (rg_all _) (by decide)
            refine lv_iconst (v := (0 : Int32)) hx hb dX10_wantedAt_44 (by decide) ?_
            refine lv_iadd hx hb dX10_wantedAt_45 ?_
            refine lv_topi (fun z32 ez32 => ?_)
            have r33 : rg z32 (-2147483648) 2147483647 := rg_add ez32 (rg_all _) rl_0 (by decide)
            have a34 : z32.toInt = v4_2.toInt + 0 := ai_add ez32 (rg_all _) tl_0 (by decide)
            refine lv_istore_n (lv' := [(2, .int z32), (0, .ref q), (1, .int p1), (3, .int v4_3)]) hx hb dX10_wantedAt_46 rfl hl (by decide) rfl (fun ls hl => ?_)
            obtain ⟨z35, ez35⟩ : ∃ y : Int32, y = v4_3 + (1 : Int32) := ⟨_, rfl⟩
            have r36 : rg z35 1 6 := rg_add ez35 r6 rl_1 (by decide)
            have a37 : z35.toInt = v4_3.toInt + 1 := ai_add ez35 r6 tl_1 (by decide)
            refine lv_iinc (v := z35) (lv' := [(3, .int z35), (2, .int z32), (0, .ref q), (1, .int p1)]) hx hb dX10_wantedAt_47 hl (k := 3) rfl (by rw [ez35]; rfl) (by decide) rfl (fun ls hl => ?_)
            refine lv_goto (tgt := 4) hx hb dX10_wantedAt_50 (by decide) ?_
            exact ih4 _ _ _ _ z32 z35 (fu_s hfu4 a37 (by decide)) hI hH (rg_w r36 (by decide)) (lv_sub hl [2, 3, 1, 0] rfl)
          · skip
            have r38 : rg z29 (-2147483648) 99 := rf_lel (n_lt c30) (rg_all _) h24 (by decide)
            refine lv_aload_n hx hb dX10_wantedAt_36 rfl (lv_at hl 0 rfl) ?_
            refine lv_iload_n hx hb dX10_wantedAt_37 rfl (lv_at hl 3 rfl) ?_
            refine t_Vi C hO hl.1 hA hH hI.1 (As := [.int v4_3]) (rest := [.int v4_2]) (t_X10_wantsOf l E J τ L f25 hI.1 mq tq v4_3 r6) my_X10_wantsOf wd822 mq tq td_40 rfl rfl rfl (Nat.le_of_ble_eq_true rfl) ⟨Nat.le_of_ble_eq_true rfl, Nat.le_of_ble_eq_true rfl⟩ ⟨rfl, rfl⟩ dX10_wantedAt_38 (fun r40 L1 f39 H locs hp hH => ?_)
            obtain ⟨rfl, s41, h42⟩ := hp
            have hI := hI.call s41 (by decide)
            refine lv_goto (tgt := 45) hx hb dX10_wantedAt_41 (by decide) ?_
            refine lv_iadd hx hb dX10_wantedAt_45 ?_
            refine lv_topi (fun z43 ez43 => ?_)
            refine lv_istore_n (lv' := [(2, .int z43), (0, .ref q), (1, .int p1), (3, .int v4_3)]) hx hb dX10_wantedAt_46 rfl hl (by decide) rfl (fun ls hl => ?_)
            obtain ⟨z44, ez44⟩ : ∃ y : Int32, y = v4_3 + (1 : Int32) := ⟨_, rfl⟩
            have r45 : rg z44 1 6 := rg_add ez44 r6 rl_1 (by decide)
            have a46 : z44.toInt = v4_3.toInt + 1 := ai_add ez44 r6 tl_1 (by decide)
            refine lv_iinc (v := z44) (lv' := [(3, .int z44), (2, .int z43), (0, .ref q), (1, .int p1)]) hx hb dX10_wantedAt_47 hl (k := 3) rfl (by rw [ez44]; rfl) (by decide) rfl (fun ls hl => ?_)
            refine lv_goto (tgt := 4) hx hb dX10_wantedAt_50 (by decide) ?_
            exact ih4 _ _ _ _ z43 z44 (fu_s hfu4 a46 (by decide)) hI hH (rg_w r45 (by decide)) (lv_sub hl [2, 3, 1, 0] rfl)
  refine lv_iconst (v := (0 : Int32)) hx hb dX10_wantedAt_0 (by decide) ?_
  refine lv_istore_n (lv' := [(2, .int (0 : Int32)), (0, .ref q), (1, .int p1)]) hx hb dX10_wantedAt_1 rfl hl (by decide) rfl (fun ls hl => ?_)
  refine lv_iconst (v := (0 : Int32)) hx hb dX10_wantedAt_2 (by decide) ?_
  refine lv_istore_n (lv' := [(3, .int (0 : Int32)), (2, .int (0 : Int32)), (0, .ref q), (1, .int p1)]) hx hb dX10_wantedAt_3 rfl hl (by decide) rfl (fun ls hl => ?_)
  exact cut4 7 _ _ _ _ (0 : Int32) (0 : Int32) (fu_i 7 rl_0 (by decide)) hI hH (rg_w rl_0 (by decide)) (lv_sub hl [2, 3, 1, 0] rfl)
theorem t_wantedAt (l : Launch) (E : gE) (J : Nat → Nat) (τ : Nat → Nat) (L : List Nat) (f : gF) (hI : tI E L τ f) {q : Nat} (mq : q ∈ L) (tq : τ q = 40) (p1 : Int32) (rp1 : rg p1 0 100) : tMi l E J yX10_wantedAt cX10_wantedAt 4 .int (gRm (2) 0 0) [.ref q, .int p1] L f (tPi E L τ [] f (fun r f1 => rg r (-2147483648) 2147483647 ∧ (1 ≤ r.toInt → rg p1 0 99))) := by
  by_cases h : p1.toInt = 100
  · refine (t_wantedAt_100 l E J τ L f hI mq tq p1 ⟨by omega, by omega⟩).mono (fun r L1 f1 hp => ⟨hp.1, hp.2.1, rg_all _, fun h1 => ?_⟩)
    have h2 := hp.2.2.2
    omega
  · refine (t_wantedAt_any l E J τ L f hI mq tq p1).mono (fun r L1 f1 hp => ⟨hp.1, hp.2.1, rg_all _, fun _ => ⟨rp1.1, ?_⟩⟩)
    have h2 := rp1.2
    omega
set_option maxHeartbeats 4000000 in
set_option maxRecDepth 100000 in
theorem t_X10_price (l : Launch) (E : gE) (J : Nat → Nat) (τ : Nat → Nat) (L : List Nat) (f : gF) (hI : tI E L τ f) {q : Nat} (mq : q ∈ L) (tq : τ q = 40) (p1 : Int32) {vl vh : Nat → Int32} (hl0 : isA E L τ f 46 5 vl) (hh : isA E L τ f 47 45 vh) (hR : rowOK vl vh 0) : tMi l E J yX10_price cX10_price 3 .int (gRm (3) 0 0) [.ref q, .int p1] L f (tPi E L τ [40] f (fun r f1 => rg r (-2147483648) 2147483647)) := by
  refine tMi.intro (by decide) (Nat.le_of_ble_eq_true rfl) ?_
  intro p e s m below meth c A ls C hr hA hO hH hl
  have C : gC E cX10_price 3 RX10 p s m _ meth c := C
  have hl : lv_has ls 3 [(0, .ref q), (1, .int p1)] := hl
  have hx := C.1
  have hb := C.2.1
  have hI := hI.S [40]
  have cut29 : ∀ (n : Nat) (fh29 : gF) (H : Heap) (locs : List Loc) (ls : Array Slot) (v29_2 : Int32), 100 - v29_2.toInt < (n : Int) → tS E L τ [40] f fh29 → gH E A L fh29 s.heap H locs → rg v29_2 0 100 → rg p1 0 999 → 1 ≤ (vh 0).toInt → lv_has ls 3 [(0, .ref q), (1, .int p1), (2, .int v29_2)] → W p l e (gRm (3) 0 0) s m [.ref q, .int p1].toArray below meth c H locs 0 0 (MQ below (gQi E A (tPi E L τ [40] f (fun r f1 => rg r (-2147483648) 2147483647))) [.ref q, .int p1].toArray s (gRm (3) 0 0).cells (gRm (3) 0 0).slots A) (F0 m 29 ls []) := by
    intro n
    induction n with
    | zero =>
      intro fh29 H locs ls v29_2 hfu29 hI hH r_v29_2 r29_p1 F29_W hl
      exact (fu_0 hfu29 r_v29_2).elim
    | succ n ih29 =>
      intro fh29 H locs ls v29_2 hfu29 hI hH r_v29_2 r29_p1 F29_W hl
      refine lv_aload_n hx hb dX10_price_29 rfl (lv_at hl 0 rfl) ?_
      refine lv_iload_n hx hb dX10_price_30 rfl (lv_at hl 2 rfl) ?_
      refine t_Vi C hO hl.1 hA hH hI.1 (As := [.int v29_2]) (rest := []) (t_wantedAt l E J τ L fh29 hI.1 mq tq v29_2 r_v29_2) my_X10_wantedAt wd973 mq tq td_40 rfl rfl rfl (Nat.le_of_ble_eq_true rfl) ⟨Nat.le_of_ble_eq_true rfl, Nat.le_of_ble_eq_true rfl⟩ ⟨rfl, rfl⟩ dX10_price_31 (fun r2 L1 f1 H locs hp hH => ?_)
      obtain ⟨rfl, s3, h4⟩ := hp
      have hJ := hI
      have hI := hI.call s3 (by decide)
      refine lv_iload_n hx hb dX10_price_34 rfl (lv_at hl 1 rfl) ?_
      refine lv_icmp_le (tgt := 44) hx hb dX10_price_35 (by decide) (fun c5 => ?_) (fun c5 => ?_)
      · skip
        have r6 : rg r2 (-2147483648) 999 := rf_lel (c_le c5) h4.1 r29_p1 (by decide)
        refine lv_iload_n hx hb dX10_price_44 rfl (lv_at hl 2 rfl) ?_
        exact g_iret C hr hH (Nat.zero_le _) (Nat.zero_le _) dX10_price_45 ⟨rfl, hI, (rg_w r_v29_2 (by decide))⟩
      · skip
        have r7 : rg r2 1 2147483647 := rf_ltr (n_le c5) r29_p1 h4.1 (by decide)
        have r8 : rg v29_2 0 99 := rf_eql rfl r_v29_2 (h4.2 (r7).1) (by decide)
        obtain ⟨z9, ez9⟩ : ∃ y : Int32, y = v29_2 + (1 : Int32) := ⟨_, rfl⟩
        have r10 : rg z9 1 100 := rg_add ez9 r8 rl_1 (by decide)
        have a11 : z9.toInt = v29_2.toInt + 1 := ai_add ez9 r8 tl_1 (by decide)
        refine lv_iinc (v := z9) (lv' := [(2, .int z9), (0, .ref q), (1, .int p1)]) hx hb dX10_price_38 hl (k := 2) rfl (by rw [ez9]; rfl) (by decide) rfl (fun ls hl => ?_)
        refine lv_goto (tgt := 29) hx hb dX10_price_41 (by decide) ?_
        exact ih29 _ _ _ _ z9 (fu_s hfu29 a11 (by decide)) hI hH (rg_w r10 (by decide)) r29_p1 F29_W (lv_sub hl [1, 2, 0] rfl)
  refine lv_aload_n hx hb dX10_price_0 rfl (lv_at hl 0 rfl) ?_
  refine lv_iconst (v := (0 : Int32)) hx hb dX10_price_1 (by decide) ?_
  refine t_put C hH hI mq tq (by decide) td_40 iX10 tyX10 tyX10_ok nmX10 rfl 0 (by decide) wd855 rfl rfl (v := .int (0 : Int32)) rfl rfl rfl ⟨_, rfl, (rg_w rl_0 (by decide))⟩ (fun _ h => nomatch h) dX10_price_2 (fun f12 H locs hH hI nf12 of12 bf12 => ?_)
  refine lv_aload_n hx hb dX10_price_5 rfl (lv_at hl 0 rfl) ?_
  refine t_Vi C hO hl.1 hA hH hI.1 (As := []) (rest := []) (t_X10_isLand l E J τ L f12 hI.1 mq tq) my_X10_isLand wd768 mq tq td_40 rfl rfl rfl (Nat.le_of_ble_eq_true rfl) ⟨Nat.le_of_ble_eq_true rfl, Nat.le_of_ble_eq_true rfl⟩ ⟨rfl, rfl⟩ dX10_price_6 (fun r14 L1 f13 H locs hp hH => ?_)
  obtain ⟨rfl, s15, h16⟩ := hp
  have hJ := hI
  have hI := hI.call s15 (by decide)
  have w17 := h16.2 vl vh (hl0.S hJ rfl) (hh.S hJ rfl) hR
  refine lv_if_eq (tgt := 24) hx hb dX10_price_9 (by decide) (fun c18 => ?_) (fun c18 => ?_)
  · skip
    have r19 : rg r14 0 0 := rf_eql (c_eq c18) h16.1 rl_0 (by decide)
    refine lv_bipush (v := (-2 : Int32)) hx hb dX10_price_24 (by decide) ?_
    exact g_iret C hr hH (Nat.zero_le _) (Nat.zero_le _) dX10_price_26 ⟨rfl, hI, (rg_w rl_m2 (by decide))⟩
  · skip
    have r20 : rg r14 1 1 := rf_nel (n_eq c18) h16.1 rl_0 (by decide)
    have F21 : 1 ≤ (vh 0).toInt := w17 c18
    refine lv_iload_n hx hb dX10_price_12 rfl (lv_at hl 1 rfl) ?_
    refine lv_i2l (v := (p1).toInt64) hx hb dX10_price_13 rfl ?_
    refine lv_lconst (v := (0 : Int64)) hx hb dX10_price_14 (by decide) ?_
    refine lv_ldc2 hx hb C.2.2.2.1 (C.2.2.2.2.1 _ wd974) dX10_price_15 ?_
    refine t_Si C hO hl.1 hA hH (As := [.long (p1).toInt64, .long (0 : Int64), .long (999 : Int64)]) (rest := []) (t_X10_in l E J τ L f13 hI.1 ((p1).toInt64) ((0 : Int64)) ((999 : Int64))) my_X10_in wd744 rfl rfl (Nat.le_of_ble_eq_true rfl) ⟨Nat.le_of_ble_eq_true rfl, Nat.le_of_ble_eq_true rfl⟩ ⟨rfl, rfl⟩ dX10_price_18 (fun r23 L1 f22 H locs hp hH => ?_)
    obtain ⟨rfl, s24, h25⟩ := hp
    have hJ := hI
    have hI := hI.call s24 (by decide)
    refine lv_if_ne (tgt := 27) hx hb dX10_price_21 (by decide) (fun c26 => ?_) (fun c26 => ?_)
    · skip
      have r27 : rg r23 1 1 := rf_nel (n_eq c26) h25.1 rl_0 (by decide)
      have r28 : rg p1 0 999 := in_rg (la := 0) (lb := 999) (h25.2 c26) (rg_all _) (by decide) (by decide) (by decide)
      refine lv_iconst (v := (0 : Int32)) hx hb dX10_price_27 (by decide) ?_
      refine lv_istore_n (lv' := [(2, .int (0 : Int32)), (0, .ref q), (1, .int p1)]) hx hb dX10_price_28 rfl hl (by decide) rfl (fun ls hl => ?_)
      exact cut29 101 _ _ _ _ (0 : Int32) (fu_i 101 rl_0 (by decide)) hI hH (rg_w rl_0 (by decide)) r28 F21 (lv_sub hl [1, 2, 0] rfl)
    · skip
      have r29 : rg r23 0 0 := rf_eql (c_eq c26) h25.1 rl_0 (by decide)
      refine lv_bipush (v := (-2 : Int32)) hx hb dX10_price_24 (by decide) ?_
      exact g_iret C hr hH (Nat.zero_le _) (Nat.zero_le _) dX10_price_26 ⟨rfl, hI, (rg_w rl_m2 (by decide))⟩
