theorem act_w {v : Nat → Int32} {k i0 m1 i1 a b : Int32} (h : actP v) (rk : rg k 0 199) (e0 : i0 = (3 : Int32) * k) (e1 : m1 = (3 : Int32) * k) (e2 : i1 = m1 + 1) (ea : a = v i0.toNatClampNeg) (eb : b = v i1.toNatClampNeg) (h1 : a.toInt = (1 : Int32).toInt) : rg b 0 3 := by
  obtain ⟨n, hn, hn2, -⟩ := rg_nat rk
  have t3 : (3 : Int32).toInt = 3 := by decide
  have t1 : (1 : Int32).toInt = 1 := by decide
  unfold rg at rk
  have k0 : i0.toInt = 3 * k.toInt := by rw [e0, Int32.toInt_mul, t3, bmI (by omega) (by omega)]
  have k1 : m1.toInt = 3 * k.toInt := by rw [e1, Int32.toInt_mul, t3, bmI (by omega) (by omega)]
  have k2 : i1.toInt = 3 * k.toInt + 1 := by rw [e2, Int32.toInt_add, k1, t1, bmI (by omega) (by omega)]
  have j0 : i0.toNatClampNeg = 3 * n := by show i0.toInt.toNat = _; omega
  have j1 : i1.toNatClampNeg = 3 * n + 1 := by show i1.toInt.toNat = _; omega
  rw [j0] at ea
  rw [j1] at eb
  rw [eb]
  exact h n (by omega) (by rw [← ea]; exact Int32.toInt_inj.mp h1)
theorem in_rgy {x y : Int32} {a : Int64} {la c d e g lo hi : Int} (h : a.toInt ≤ x.toInt64.toInt ∧ x.toInt64.toInt ≤ y.toInt64.toInt) (hx : rg x c d) (hy : rg y e g) (ha : a.toInt = la) (s : ((decide (lo ≤ la) || decide (lo ≤ c)) && (decide (g ≤ hi) || decide (d ≤ hi))) = true) : rg x lo hi := by
  rw [Int32.toInt_toInt64, Int32.toInt_toInt64, ha] at h
  simp only [Bool.and_eq_true, Bool.or_eq_true, decide_eq_true_eq] at s
  unfold rg at *
  omega
set_option maxHeartbeats 4000000 in
set_option maxRecDepth 100000 in
theorem t_X10_far (l : Launch) (E : gE) (J : Nat → Nat) (τ : Nat → Nat) (L : List Nat) (f : gF) (hI : tI E L τ f) {q : Nat} (mq : q ∈ L) (tq : τ q = 40) (p1 : Int32) (p2 : Int32) {vh : Nat → Int32} (hh : isA E L τ f 47 45 vh) (hW : 1 ≤ (vh 0).toInt) : tMi l E J yX10_far cX10_far 5 .int (gRm (1) 0 0) [.ref q, .int p1, .int p2] L f (tPi E L τ [] f (fun r f1 => rg r (-2147483648) 2147483647)) := by
  refine tMi.intro (by decide) (Nat.le_of_ble_eq_true rfl) ?_
  intro p e s m below meth c A ls C hr hA hO hH hl
  have C : gC E cX10_far 5 RX10 p s m _ meth c := C
  have hl : lv_has ls 5 [(0, .ref q), (1, .int p1), (2, .int p2)] := hl
  have hx := C.1
  have hb := C.2.1
  have hI := hI.S []
  obtain ⟨q_17, mq_17, tq_17, kq_17⟩ := t_fldr hI.1 mq tq td_40 (k := 17) rfl
  refine lv_iload_n hx hb dX10_far_0 rfl (lv_at hl 1 rfl) ?_
  refine lv_aload_n hx hb dX10_far_1 rfl (lv_at hl 0 rfl) ?_
  refine t_getX C hH hI.1 mq tq td_40 iX10 rfl 17 (by decide) wd747 rfl (hI.rf kq_17) dX10_far_2 ?_
  refine lv_iconst (v := (0 : Int32)) hx hb dX10_far_5 (by decide) ?_
  refine t_ald C hH hI.1 mq_17 tq_17 td_47 (rg_in rl_0 (by decide)) dX10_far_6 (fun z1v az1 pz1 => ?_)
  refine lv_topi (fun z1 ez1 => ?_)
  rw [arr_inj az1 ((hI.fr q_17 mq_17 (t_lim tq_17 rfl)).trans (hh q_17 mq_17 tq_17))] at ez1 pz1
  have r2 : rg z1 0 5 := has_rg pz1 (i := (0 : Int32)) 0 rfl (by decide) ez1
  have r3 : rg z1 1 5 := has_w pz1 hW (i := (0 : Int32)) rfl ez1
  refine lv_irem hx hb dX10_far_7 (rg_ne0 r3 (by decide)) ?_
  refine lv_topi (fun z4 ez4 => ?_)
  refine lv_iload_n hx hb dX10_far_8 rfl (lv_at hl 2 rfl) ?_
  refine lv_aload_n hx hb dX10_far_9 rfl (lv_at hl 0 rfl) ?_
  refine t_getX C hH hI.1 mq tq td_40 iX10 rfl 17 (by decide) wd747 rfl (hI.rf kq_17) dX10_far_10 ?_
  refine lv_iconst (v := (0 : Int32)) hx hb dX10_far_13 (by decide) ?_
  refine t_ald C hH hI.1 mq_17 tq_17 td_47 (rg_in rl_0 (by decide)) dX10_far_14 (fun z5v az5 pz5 => ?_)
  refine lv_topi (fun z5 ez5 => ?_)
  rw [arr_inj az5 ((hI.fr q_17 mq_17 (t_lim tq_17 rfl)).trans (hh q_17 mq_17 tq_17))] at ez5 pz5
  have r6 : rg z5 0 5 := has_rg pz5 (i := (0 : Int32)) 0 rfl (by decide) ez5
  have r7 : rg z5 1 5 := has_w pz5 hW (i := (0 : Int32)) rfl ez5
  refine lv_irem hx hb dX10_far_15 (rg_ne0 r7 (by decide)) ?_
  refine lv_topi (fun z8 ez8 => ?_)
  refine lv_isub hx hb dX10_far_16 ?_
  refine lv_topi (fun z9 ez9 => ?_)
  refine lv_istore_n (lv' := [(3, .int z9), (0, .ref q), (1, .int p1), (2, .int p2)]) hx hb dX10_far_17 rfl hl (by decide) rfl (fun ls hl => ?_)
  refine lv_iload_n hx hb dX10_far_18 rfl (lv_at hl 2 rfl) ?_
  refine lv_aload_n hx hb dX10_far_19 rfl (lv_at hl 1 rfl) ?_
  refine t_getX C hH hI.1 mq tq td_40 iX10 rfl 17 (by decide) wd747 rfl (hI.rf kq_17) dX10_far_20 ?_
  refine lv_iconst (v := (0 : Int32)) hx hb dX10_far_23 (by decide) ?_
  refine t_ald C hH hI.1 mq_17 tq_17 td_47 (rg_in rl_0 (by decide)) dX10_far_24 (fun z10v az10 pz10 => ?_)
  refine lv_topi (fun z10 ez10 => ?_)
  rw [arr_inj az10 ((hI.fr q_17 mq_17 (t_lim tq_17 rfl)).trans (hh q_17 mq_17 tq_17))] at ez10 pz10
  have r11 : rg z10 0 5 := has_rg pz10 (i := (0 : Int32)) 0 rfl (by decide) ez10
  have r12 : rg z10 1 5 := has_w pz10 hW (i := (0 : Int32)) rfl ez10
  refine lv_idiv hx hb dX10_far_25 (rg_ne0 r12 (by decide)) ?_
  refine lv_topi (fun z13 ez13 => ?_)
  refine lv_iload_n hx hb dX10_far_26 rfl (lv_at hl 3 rfl) ?_
  refine lv_aload_n hx hb dX10_far_27 rfl (lv_at hl 1 rfl) ?_
  refine t_getX C hH hI.1 mq tq td_40 iX10 rfl 17 (by decide) wd747 rfl (hI.rf kq_17) dX10_far_28 ?_
  refine lv_iconst (v := (0 : Int32)) hx hb dX10_far_31 (by decide) ?_
  refine t_ald C hH hI.1 mq_17 tq_17 td_47 (rg_in rl_0 (by decide)) dX10_far_32 (fun z14v az14 pz14 => ?_)
  refine lv_topi (fun z14 ez14 => ?_)
  rw [arr_inj az14 ((hI.fr q_17 mq_17 (t_lim tq_17 rfl)).trans (hh q_17 mq_17 tq_17))] at ez14 pz14
  have r15 : rg z14 0 5 := has_rg pz14 (i := (0 : Int32)) 0 rfl (by decide) ez14
  have r16 : rg z14 1 5 := has_w pz14 hW (i := (0 : Int32)) rfl ez14
  refine lv_idiv hx hb dX10_far_33 (rg_ne0 r16 (by decide)) ?_
  refine lv_topi (fun z17 ez17 => ?_)
  refine lv_isub hx hb dX10_far_34 ?_
  refine lv_topi (fun z18 ez18 => ?_)
  refine lv_istore (lv' := [(4, .int z18), (3, .int z9), (0, .ref q), (1, .int p1), (2, .int p2)]) hx hb dX10_far_35 hl (by decide) rfl (fun ls hl => ?_)
  refine lv_iload_n hx hb dX10_far_37 rfl (lv_at hl 1 rfl) ?_
  refine lv_if_ge (tgt := 46) hx hb dX10_far_38 (by decide) (fun c19 => ?_) (fun c19 => ?_)
  · skip
    have r20 : rg z9 0 2147483647 := rf_ler (c_le c19) rl_0 (rg_all _) (by decide)
    refine lv_iload_n hx hb dX10_far_46 rfl (lv_at hl 1 rfl) ?_
    refine lv_iload hx hb dX10_far_47 (lv_at hl 0 rfl) ?_
    refine lv_if_ge (tgt := 58) hx hb dX10_far_49 (by decide) (fun c21 => ?_) (fun c21 => ?_)
    · skip
      have r22 : rg z18 0 2147483647 := rf_ler (c_le c21) rl_0 (rg_all _) (by decide)
      refine lv_iload hx hb dX10_far_58 (lv_at hl 0 rfl) ?_
      refine lv_iadd hx hb dX10_far_60 ?_
      refine lv_topi (fun z23 ez23 => ?_)
      exact g_iret C hr hH (Nat.zero_le _) (Nat.zero_le _) dX10_far_61 ⟨rfl, hI, (rg_all _)⟩
    · skip
      have r24 : rg z18 (-2147483648) (-1) := rf_ltl (n_le c21) (rg_all _) rl_0 (by decide)
      refine lv_iload hx hb dX10_far_52 (lv_at hl 0 rfl) ?_
      refine lv_ineg hx hb dX10_far_54 ?_
      refine lv_topi (fun z25 ez25 => ?_)
      refine lv_goto (tgt := 60) hx hb dX10_far_55 (by decide) ?_
      refine lv_iadd hx hb dX10_far_60 ?_
      refine lv_topi (fun z26 ez26 => ?_)
      exact g_iret C hr hH (Nat.zero_le _) (Nat.zero_le _) dX10_far_61 ⟨rfl, hI, (rg_all _)⟩
  · skip
    have r27 : rg z9 (-2147483648) (-1) := rf_ltl (n_le c19) (rg_all _) rl_0 (by decide)
    refine lv_iload_n hx hb dX10_far_41 rfl (lv_at hl 1 rfl) ?_
    refine lv_ineg hx hb dX10_far_42 ?_
    refine lv_topi (fun z28 ez28 => ?_)
    refine lv_goto (tgt := 47) hx hb dX10_far_43 (by decide) ?_
    refine lv_iload hx hb dX10_far_47 (lv_at hl 0 rfl) ?_
    refine lv_if_ge (tgt := 58) hx hb dX10_far_49 (by decide) (fun c29 => ?_) (fun c29 => ?_)
    · skip
      have r30 : rg z18 0 2147483647 := rf_ler (c_le c29) rl_0 (rg_all _) (by decide)
      refine lv_iload hx hb dX10_far_58 (lv_at hl 0 rfl) ?_
      refine lv_iadd hx hb dX10_far_60 ?_
      refine lv_topi (fun z31 ez31 => ?_)
      exact g_iret C hr hH (Nat.zero_le _) (Nat.zero_le _) dX10_far_61 ⟨rfl, hI, (rg_all _)⟩
    · skip
      have r32 : rg z18 (-2147483648) (-1) := rf_ltl (n_le c29) (rg_all _) rl_0 (by decide)
      refine lv_iload hx hb dX10_far_52 (lv_at hl 0 rfl) ?_
      refine lv_ineg hx hb dX10_far_54 ?_
      refine lv_topi (fun z33 ez33 => ?_)
      refine lv_goto (tgt := 60) hx hb dX10_far_55 (by decide) ?_
      refine lv_iadd hx hb dX10_far_60 ?_
      refine lv_topi (fun z34 ez34 => ?_)
      exact g_iret C hr hH (Nat.zero_le _) (Nat.zero_le _) dX10_far_61 ⟨rfl, hI, (rg_all _)⟩
set_option maxHeartbeats 4000000 in
set_option maxRecDepth 100000 in
theorem t_X10_beside (l : Launch) (E : gE) (J : Nat → Nat) (τ : Nat → Nat) (L : List Nat) (f : gF) (hI : tI E L τ f) {q : Nat} (mq : q ∈ L) (tq : τ q = 40) (p1 : Int32) (p2 : Int32) {vh : Nat → Int32} (hh : isA E L τ f 47 45 vh) (hW : 1 ≤ (vh 0).toInt) : tMi l E J yX10_beside cX10_beside 5 .int (gRm (2) 0 0) [.ref q, .int p1, .int p2] L f (tPi E L τ [] f (fun r f1 => rg r (-2147483648) 2147483647)) := by
  refine tMi.intro (by decide) (Nat.le_of_ble_eq_true rfl) ?_
  intro p e s m below meth c A ls C hr hA hO hH hl
  have C : gC E cX10_beside 5 RX10 p s m _ meth c := C
  have hl : lv_has ls 5 [(0, .ref q), (1, .int p1), (2, .int p2)] := hl
  have hx := C.1
  have hb := C.2.1
  have hI := hI.S []
  obtain ⟨q_17, mq_17, tq_17, kq_17⟩ := t_fldr hI.1 mq tq td_40 (k := 17) rfl
  refine lv_iload_n hx hb dX10_beside_0 rfl (lv_at hl 1 rfl) ?_
  refine lv_aload_n hx hb dX10_beside_1 rfl (lv_at hl 0 rfl) ?_
  refine t_getX C hH hI.1 mq tq td_40 iX10 rfl 17 (by decide) wd747 rfl (hI.rf kq_17) dX10_beside_2 ?_
  refine lv_iconst (v := (0 : Int32)) hx hb dX10_beside_5 (by decide) ?_
  refine t_ald C hH hI.1 mq_17 tq_17 td_47 (rg_in rl_0 (by decide)) dX10_beside_6 (fun z1v az1 pz1 => ?_)
  refine lv_topi (fun z1 ez1 => ?_)
  rw [arr_inj az1 ((hI.fr q_17 mq_17 (t_lim tq_17 rfl)).trans (hh q_17 mq_17 tq_17))] at ez1 pz1
  have r2 : rg z1 0 5 := has_rg pz1 (i := (0 : Int32)) 0 rfl (by decide) ez1
  have r3 : rg z1 1 5 := has_w pz1 hW (i := (0 : Int32)) rfl ez1
  refine lv_irem hx hb dX10_beside_7 (rg_ne0 r3 (by decide)) ?_
  refine lv_topi (fun z4 ez4 => ?_)
  refine lv_iload_n hx hb dX10_beside_8 rfl (lv_at hl 2 rfl) ?_
  refine lv_iconst (v := (1 : Int32)) hx hb dX10_beside_9 (by decide) ?_
  refine lv_icmp_ne (tgt := 17) hx hb dX10_beside_10 (by decide) (fun c5 => ?_) (fun c5 => ?_)
  · skip
    refine lv_iload_n hx hb dX10_beside_17 rfl (lv_at hl 2 rfl) ?_
    refine lv_iconst (v := (3 : Int32)) hx hb dX10_beside_18 (by decide) ?_
    refine lv_icmp_ne (tgt := 26) hx hb dX10_beside_19 (by decide) (fun c6 => ?_) (fun c6 => ?_)
    · skip
      refine lv_iconst (v := (0 : Int32)) hx hb dX10_beside_26 (by decide) ?_
      refine lv_iadd hx hb dX10_beside_27 ?_
      refine lv_topi (fun z7 ez7 => ?_)
      have r8 : rg z7 (-2147483648) 2147483647 := rg_add ez7 (rg_all _) rl_0 (by decide)
      have a9 : z7.toInt = z4.toInt + 0 := ai_add ez7 (rg_all _) tl_0 (by decide)
      refine lv_istore_n (lv' := [(3, .int z7), (0, .ref q), (1, .int p1), (2, .int p2)]) hx hb dX10_beside_28 rfl hl (by decide) rfl (fun ls hl => ?_)
      refine lv_iload_n hx hb dX10_beside_29 rfl (lv_at hl 2 rfl) ?_
      refine lv_aload_n hx hb dX10_beside_30 rfl (lv_at hl 1 rfl) ?_
      refine t_getX C hH hI.1 mq tq td_40 iX10 rfl 17 (by decide) wd747 rfl (hI.rf kq_17) dX10_beside_31 ?_
      refine lv_iconst (v := (0 : Int32)) hx hb dX10_beside_34 (by decide) ?_
      refine t_ald C hH hI.1 mq_17 tq_17 td_47 (rg_in rl_0 (by decide)) dX10_beside_35 (fun z10v az10 pz10 => ?_)
      refine lv_topi (fun z10 ez10 => ?_)
      rw [arr_inj az10 ((hI.fr q_17 mq_17 (t_lim tq_17 rfl)).trans (hh q_17 mq_17 tq_17))] at ez10 pz10
      have r11 : rg z10 0 5 := has_rg pz10 (i := (0 : Int32)) 0 rfl (by decide) ez10
      have r12 : rg z10 1 5 := has_w pz10 hW (i := (0 : Int32)) rfl ez10
      refine lv_idiv hx hb dX10_beside_36 (rg_ne0 r12 (by decide)) ?_
      refine lv_topi (fun z13 ez13 => ?_)
      refine lv_iload_n hx hb dX10_beside_37 rfl (lv_at hl 3 rfl) ?_
      refine lv_iconst (v := (2 : Int32)) hx hb dX10_beside_38 (by decide) ?_
      refine lv_icmp_ne (tgt := 46) hx hb dX10_beside_39 (by decide) (fun c14 => ?_) (fun c14 => ?_)
      · skip
        refine lv_iload_n hx hb dX10_beside_46 rfl (lv_at hl 3 rfl) ?_
        refine lv_if_ne (tgt := 54) hx hb dX10_beside_47 (by decide) (fun c15 => ?_) (fun c15 => ?_)
        · skip
          refine lv_iconst (v := (0 : Int32)) hx hb dX10_beside_54 (by decide) ?_
          refine lv_iadd hx hb dX10_beside_55 ?_
          refine lv_topi (fun z16 ez16 => ?_)
          have r17 : rg z16 (-2147483648) 2147483647 := rg_add ez16 (rg_all _) rl_0 (by decide)
          have a18 : z16.toInt = z13.toInt + 0 := ai_add ez16 (rg_all _) tl_0 (by decide)
          refine lv_istore (lv' := [(4, .int z16), (3, .int z7), (0, .ref q), (1, .int p1), (2, .int p2)]) hx hb dX10_beside_56 hl (by decide) rfl (fun ls hl => ?_)
          refine lv_iload_n hx hb dX10_beside_58 rfl (lv_at hl 1 rfl) ?_
          refine lv_i2l (v := (z7).toInt64) hx hb dX10_beside_59 rfl ?_
          refine lv_lconst (v := (0 : Int64)) hx hb dX10_beside_60 (by decide) ?_
          refine lv_aload_n hx hb dX10_beside_61 rfl (lv_at hl 2 rfl) ?_
          refine t_getX C hH hI.1 mq tq td_40 iX10 rfl 17 (by decide) wd747 rfl (hI.rf kq_17) dX10_beside_62 ?_
          refine lv_iconst (v := (0 : Int32)) hx hb dX10_beside_65 (by decide) ?_
          refine t_ald C hH hI.1 mq_17 tq_17 td_47 (rg_in rl_0 (by decide)) dX10_beside_66 (fun z19v az19 pz19 => ?_)
          refine lv_topi (fun z19 ez19 => ?_)
          rw [arr_inj az19 ((hI.fr q_17 mq_17 (t_lim tq_17 rfl)).trans (hh q_17 mq_17 tq_17))] at ez19 pz19
          have r20 : rg z19 0 5 := has_rg pz19 (i := (0 : Int32)) 0 rfl (by decide) ez19
          have r21 : rg z19 1 5 := has_w pz19 hW (i := (0 : Int32)) rfl ez19
          refine lv_iconst (v := (1 : Int32)) hx hb dX10_beside_67 (by decide) ?_
          refine lv_isub hx hb dX10_beside_68 ?_
          refine lv_topi (fun z22 ez22 => ?_)
          have r23 : rg z22 0 4 := rg_sub ez22 r21 rl_1 (by decide)
          refine lv_i2l (v := (z22).toInt64) hx hb dX10_beside_69 rfl ?_
          refine t_Si C hO hl.1 hA hH (As := [.long (z7).toInt64, .long (0 : Int64), .long (z22).toInt64]) (rest := []) (t_X10_in l E J τ L f hI.1 ((z7).toInt64) ((0 : Int64)) ((z22).toInt64)) my_X10_in wd744 rfl rfl (Nat.le_of_ble_eq_true rfl) ⟨Nat.le_of_ble_eq_true rfl, Nat.le_of_ble_eq_true rfl⟩ ⟨rfl, rfl⟩ dX10_beside_70 (fun r25 L1 f24 H locs hp hH => ?_)
          obtain ⟨rfl, s26, h27⟩ := hp
          have hJ := hI
          have hI := hI.call s26 (by decide)
          refine lv_if_eq (tgt := 109) hx hb dX10_beside_73 (by decide) (fun c28 => ?_) (fun c28 => ?_)
          · skip
            have r29 : rg r25 0 0 := rf_eql (c_eq c28) h27.1 rl_0 (by decide)
            refine lv_iconst (v := (-1 : Int32)) hx hb dX10_beside_109 (by decide) ?_
            exact g_iret C hr hH (Nat.zero_le _) (Nat.zero_le _) dX10_beside_110 ⟨rfl, hI, (rg_w rl_m1 (by decide))⟩
          · skip
            have r30 : rg r25 1 1 := rf_nel (n_eq c28) h27.1 rl_0 (by decide)
            have r31 : rg z7 0 4 := in_rgy (la := 0) (h27.2 c28) r8 r23 (by decide) (by decide)
            refine lv_iload hx hb dX10_beside_76 (lv_at hl 0 rfl) ?_
            refine lv_i2l (v := (z16).toInt64) hx hb dX10_beside_78 rfl ?_
            refine lv_lconst (v := (0 : Int64)) hx hb dX10_beside_79 (by decide) ?_
            refine lv_aload_n hx hb dX10_beside_80 rfl (lv_at hl 2 rfl) ?_
            refine t_getX C hH hI.1 mq tq td_40 iX10 rfl 17 (by decide) wd747 rfl (hI.rf kq_17) dX10_beside_81 ?_
            refine lv_iconst (v := (1 : Int32)) hx hb dX10_beside_84 (by decide) ?_
            refine t_ald C hH hI.1 mq_17 tq_17 td_47 (rg_in rl_1 (by decide)) dX10_beside_85 (fun z32v az32 pz32 => ?_)
            refine lv_topi (fun z32 ez32 => ?_)
            rw [arr_inj az32 ((hI.fr q_17 mq_17 (t_lim tq_17 rfl)).trans (hh q_17 mq_17 tq_17))] at ez32 pz32
            have r33 : rg z32 0 4 := has_rg pz32 (i := (1 : Int32)) 1 rfl (by decide) ez32
            refine lv_iconst (v := (1 : Int32)) hx hb dX10_beside_86 (by decide) ?_
            refine lv_isub hx hb dX10_beside_87 ?_
            refine lv_topi (fun z34 ez34 => ?_)
            have r35 : rg z34 (-1) 3 := rg_sub ez34 r33 rl_1 (by decide)
            refine lv_i2l (v := (z34).toInt64) hx hb dX10_beside_88 rfl ?_
            refine t_Si C hO hl.1 hA hH (As := [.long (z16).toInt64, .long (0 : Int64), .long (z34).toInt64]) (rest := []) (t_X10_in l E J τ L f24 hI.1 ((z16).toInt64) ((0 : Int64)) ((z34).toInt64)) my_X10_in wd744 rfl rfl (Nat.le_of_ble_eq_true rfl) ⟨Nat.le_of_ble_eq_true rfl, Nat.le_of_ble_eq_true rfl⟩ ⟨rfl, rfl⟩ dX10_beside_89 (fun r37 L1 f36 H locs hp hH => ?_)
            obtain ⟨rfl, s38, h39⟩ := hp
            have hJ := hI
            have hI := hI.call s38 (by decide)
            refine lv_if_eq (tgt := 109) hx hb dX10_beside_92 (by decide) (fun c40 => ?_) (fun c40 => ?_)
            · skip
              have r41 : rg r37 0 0 := rf_eql (c_eq c40) h39.1 rl_0 (by decide)
              refine lv_iconst (v := (-1 : Int32)) hx hb dX10_beside_109 (by decide) ?_
              exact g_iret C hr hH (Nat.zero_le _) (Nat.zero_le _) dX10_beside_110 ⟨rfl, hI, (rg_w rl_m1 (by decide))⟩
            · skip
              have r42 : rg r37 1 1 := rf_nel (n_eq c40) h39.1 rl_0 (by decide)
              have r43 : rg z16 0 3 := in_rgy (la := 0) (h39.2 c40) r17 r35 (by decide) (by decide)
              refine lv_aload_n hx hb dX10_beside_95 rfl (lv_at hl 2 rfl) ?_
              refine t_getX C hH hI.1 mq tq td_40 iX10 rfl 17 (by decide) wd747 rfl (hI.rf kq_17) dX10_beside_96 ?_
              refine lv_iconst (v := (0 : Int32)) hx hb dX10_beside_99 (by decide) ?_
              refine t_ald C hH hI.1 mq_17 tq_17 td_47 (rg_in rl_0 (by decide)) dX10_beside_100 (fun z44v az44 pz44 => ?_)
              refine lv_topi (fun z44 ez44 => ?_)
              rw [arr_inj az44 ((hI.fr q_17 mq_17 (t_lim tq_17 rfl)).trans (hh q_17 mq_17 tq_17))] at ez44 pz44
              have r45 : rg z44 0 5 := has_rg pz44 (i := (0 : Int32)) 0 rfl (by decide) ez44
              have r46 : rg z44 1 5 := has_w pz44 hW (i := (0 : Int32)) rfl ez44
              refine lv_iload hx hb dX10_beside_101 (lv_at hl 0 rfl) ?_
              refine lv_imul hx hb dX10_beside_103 ?_
              refine lv_topi (fun z47 ez47 => ?_)
              have r48 : rg z47 0 15 := rg_mul ez47 r46 r43 (by decide)
              refine lv_iload_n hx hb dX10_beside_104 rfl (lv_at hl 1 rfl) ?_
              refine lv_iadd hx hb dX10_beside_105 ?_
              refine lv_topi (fun z49 ez49 => ?_)
              have r50 : rg z49 0 19 := rg_add ez49 r48 r31 (by decide)
              refine lv_goto (tgt := 110) hx hb dX10_beside_106 (by decide) ?_
              exact g_iret C hr hH (Nat.zero_le _) (Nat.zero_le _) dX10_beside_110 ⟨rfl, hI, (rg_w r50 (by decide))⟩
        · skip
          have r51 : rg p2 0 0 := rf_eql (c_eq c15) (rg_all _) rl_0 (by decide)
          refine lv_iconst (v := (-1 : Int32)) hx hb dX10_beside_50 (by decide) ?_
          refine lv_goto (tgt := 55) hx hb dX10_beside_51 (by decide) ?_
          refine lv_iadd hx hb dX10_beside_55 ?_
          refine lv_topi (fun z52 ez52 => ?_)
          refine lv_istore (lv' := [(4, .int z52), (3, .int z7), (0, .ref q), (1, .int p1), (2, .int p2)]) hx hb dX10_beside_56 hl (by decide) rfl (fun ls hl => ?_)
          refine lv_iload_n hx hb dX10_beside_58 rfl (lv_at hl 1 rfl) ?_
          refine lv_i2l (v := (z7).toInt64) hx hb dX10_beside_59 rfl ?_
          refine lv_lconst (v := (0 : Int64)) hx hb dX10_beside_60 (by decide) ?_
          refine lv_aload_n hx hb dX10_beside_61 rfl (lv_at hl 2 rfl) ?_
          refine t_getX C hH hI.1 mq tq td_40 iX10 rfl 17 (by decide) wd747 rfl (hI.rf kq_17) dX10_beside_62 ?_
          refine lv_iconst (v := (0 : Int32)) hx hb dX10_beside_65 (by decide) ?_
          refine t_ald C hH hI.1 mq_17 tq_17 td_47 (rg_in rl_0 (by decide)) dX10_beside_66 (fun z53v az53 pz53 => ?_)
          refine lv_topi (fun z53 ez53 => ?_)
          rw [arr_inj az53 ((hI.fr q_17 mq_17 (t_lim tq_17 rfl)).trans (hh q_17 mq_17 tq_17))] at ez53 pz53
          have r54 : rg z53 0 5 := has_rg pz53 (i := (0 : Int32)) 0 rfl (by decide) ez53
          have r55 : rg z53 1 5 := has_w pz53 hW (i := (0 : Int32)) rfl ez53
          refine lv_iconst (v := (1 : Int32)) hx hb dX10_beside_67 (by decide) ?_
          refine lv_isub hx hb dX10_beside_68 ?_
          refine lv_topi (fun z56 ez56 => ?_)
          have r57 : rg z56 0 4 := rg_sub ez56 r55 rl_1 (by decide)
          refine lv_i2l (v := (z56).toInt64) hx hb dX10_beside_69 rfl ?_
          refine t_Si C hO hl.1 hA hH (As := [.long (z7).toInt64, .long (0 : Int64), .long (z56).toInt64]) (rest := []) (t_X10_in l E J τ L f hI.1 ((z7).toInt64) ((0 : Int64)) ((z56).toInt64)) my_X10_in wd744 rfl rfl (Nat.le_of_ble_eq_true rfl) ⟨Nat.le_of_ble_eq_true rfl, Nat.le_of_ble_eq_true rfl⟩ ⟨rfl, rfl⟩ dX10_beside_70 (fun r59 L1 f58 H locs hp hH => ?_)
          obtain ⟨rfl, s60, h61⟩ := hp
          have hJ := hI
          have hI := hI.call s60 (by decide)
          refine lv_if_eq (tgt := 109) hx hb dX10_beside_73 (by decide) (fun c62 => ?_) (fun c62 => ?_)
          · skip
            have r63 : rg r59 0 0 := rf_eql (c_eq c62) h61.1 rl_0 (by decide)
            refine lv_iconst (v := (-1 : Int32)) hx hb dX10_beside_109 (by decide) ?_
            exact g_iret C hr hH (Nat.zero_le _) (Nat.zero_le _) dX10_beside_110 ⟨rfl, hI, (rg_w rl_m1 (by decide))⟩
          · skip
            have r64 : rg r59 1 1 := rf_nel (n_eq c62) h61.1 rl_0 (by decide)
            have r65 : rg z7 0 4 := in_rgy (la := 0) (h61.2 c62) r8 r57 (by decide) (by decide)
            refine lv_iload hx hb dX10_beside_76 (lv_at hl 0 rfl) ?_
            refine lv_i2l (v := (z52).toInt64) hx hb dX10_beside_78 rfl ?_
            refine lv_lconst (v := (0 : Int64)) hx hb dX10_beside_79 (by decide) ?_
            refine lv_aload_n hx hb dX10_beside_80 rfl (lv_at hl 2 rfl) ?_
            refine t_getX C hH hI.1 mq tq td_40 iX10 rfl 17 (by decide) wd747 rfl (hI.rf kq_17) dX10_beside_81 ?_
            refine lv_iconst (v := (1 : Int32)) hx hb dX10_beside_84 (by decide) ?_
            refine t_ald C hH hI.1 mq_17 tq_17 td_47 (rg_in rl_1 (by decide)) dX10_beside_85 (fun z66v az66 pz66 => ?_)
            refine lv_topi (fun z66 ez66 => ?_)
            rw [arr_inj az66 ((hI.fr q_17 mq_17 (t_lim tq_17 rfl)).trans (hh q_17 mq_17 tq_17))] at ez66 pz66
            have r67 : rg z66 0 4 := has_rg pz66 (i := (1 : Int32)) 1 rfl (by decide) ez66
            refine lv_iconst (v := (1 : Int32)) hx hb dX10_beside_86 (by decide) ?_
            refine lv_isub hx hb dX10_beside_87 ?_
            refine lv_topi (fun z68 ez68 => ?_)
            have r69 : rg z68 (-1) 3 := rg_sub ez68 r67 rl_1 (by decide)
            refine lv_i2l (v := (z68).toInt64) hx hb dX10_beside_88 rfl ?_
            refine t_Si C hO hl.1 hA hH (As := [.long (z52).toInt64, .long (0 : Int64), .long (z68).toInt64]) (rest := []) (t_X10_in l E J τ L f58 hI.1 ((z52).toInt64) ((0 : Int64)) ((z68).toInt64)) my_X10_in wd744 rfl rfl (Nat.le_of_ble_eq_true rfl) ⟨Nat.le_of_ble_eq_true rfl, Nat.le_of_ble_eq_true rfl⟩ ⟨rfl, rfl⟩ dX10_beside_89 (fun r71 L1 f70 H locs hp hH => ?_)
            obtain ⟨rfl, s72, h73⟩ := hp
            have hJ := hI
            have hI := hI.call s72 (by decide)
            refine lv_if_eq (tgt := 109) hx hb dX10_beside_92 (by decide) (fun c74 => ?_) (fun c74 => ?_)
            · skip
              have r75 : rg r71 0 0 := rf_eql (c_eq c74) h73.1 rl_0 (by decide)
              refine lv_iconst (v := (-1 : Int32)) hx hb dX10_beside_109 (by decide) ?_
              exact g_iret C hr hH (Nat.zero_le _) (Nat.zero_le _) dX10_beside_110 ⟨rfl, hI, (rg_w rl_m1 (by decide))⟩
            · skip
              have r76 : rg r71 1 1 := rf_nel (n_eq c74) h73.1 rl_0 (by decide)
              have r77 : rg z52 0 3 := in_rgy (la := 0) (h73.2 c74) (rg_all _) r69 (by decide) (by decide)
              refine lv_aload_n hx hb dX10_beside_95 rfl (lv_at hl 2 rfl) ?_
              refine t_getX C hH hI.1 mq tq td_40 iX10 rfl 17 (by decide) wd747 rfl (hI.rf kq_17) dX10_beside_96 ?_
              refine lv_iconst (v := (0 : Int32)) hx hb dX10_beside_99 (by decide) ?_
              refine t_ald C hH hI.1 mq_17 tq_17 td_47 (rg_in rl_0 (by decide)) dX10_beside_100 (fun z78v az78 pz78 => ?_)
              refine lv_topi (fun z78 ez78 => ?_)
              rw [arr_inj az78 ((hI.fr q_17 mq_17 (t_lim tq_17 rfl)).trans (hh q_17 mq_17 tq_17))] at ez78 pz78
              have r79 : rg z78 0 5 := has_rg pz78 (i := (0 : Int32)) 0 rfl (by decide) ez78
              have r80 : rg z78 1 5 := has_w pz78 hW (i := (0 : Int32)) rfl ez78
              refine lv_iload hx hb dX10_beside_101 (lv_at hl 0 rfl) ?_
              refine lv_imul hx hb dX10_beside_103 ?_
              refine lv_topi (fun z81 ez81 => ?_)
              have r82 : rg z81 0 15 := rg_mul ez81 r80 r77 (by decide)
              refine lv_iload_n hx hb dX10_beside_104 rfl (lv_at hl 1 rfl) ?_
              refine lv_iadd hx hb dX10_beside_105 ?_
              refine lv_topi (fun z83 ez83 => ?_)
              have r84 : rg z83 0 19 := rg_add ez83 r82 r65 (by decide)
              refine lv_goto (tgt := 110) hx hb dX10_beside_106 (by decide) ?_
              exact g_iret C hr hH (Nat.zero_le _) (Nat.zero_le _) dX10_beside_110 ⟨rfl, hI, (rg_w r84 (by decide))⟩
      · skip
        have r85 : rg p2 2 2 := rf_eql (c_eq c14) (rg_all _) rl_2 (by decide)
        refine lv_iconst (v := (1 : Int32)) hx hb dX10_beside_42 (by decide) ?_
        refine lv_goto (tgt := 55) hx hb dX10_beside_43 (by decide) ?_
        refine lv_iadd hx hb dX10_beside_55 ?_
        refine lv_topi (fun z86 ez86 => ?_)
        refine lv_istore (lv' := [(4, .int z86), (3, .int z7), (0, .ref q), (1, .int p1), (2, .int p2)]) hx hb dX10_beside_56 hl (by decide) rfl (fun ls hl => ?_)
        refine lv_iload_n hx hb dX10_beside_58 rfl (lv_at hl 1 rfl) ?_
        refine lv_i2l (v := (z7).toInt64) hx hb dX10_beside_59 rfl ?_
        refine lv_lconst (v := (0 : Int64)) hx hb dX10_beside_60 (by decide) ?_
        refine lv_aload_n hx hb dX10_beside_61 rfl (lv_at hl 2 rfl) ?_
        refine t_getX C hH hI.1 mq tq td_40 iX10 rfl 17 (by decide) wd747 rfl (hI.rf kq_17) dX10_beside_62 ?_
        refine lv_iconst (v := (0 : Int32)) hx hb dX10_beside_65 (by decide) ?_
        refine t_ald C hH hI.1 mq_17 tq_17 td_47 (rg_in rl_0 (by decide)) dX10_beside_66 (fun z87v az87 pz87 => ?_)
        refine lv_topi (fun z87 ez87 => ?_)
        rw [arr_inj az87 ((hI.fr q_17 mq_17 (t_lim tq_17 rfl)).trans (hh q_17 mq_17 tq_17))] at ez87 pz87
        have r88 : rg z87 0 5 := has_rg pz87 (i := (0 : Int32)) 0 rfl (by decide) ez87
        have r89 : rg z87 1 5 := has_w pz87 hW (i := (0 : Int32)) rfl ez87
        refine lv_iconst (v := (1 : Int32)) hx hb dX10_beside_67 (by decide) ?_
        refine lv_isub hx hb dX10_beside_68 ?_
        refine lv_topi (fun z90 ez90 => ?_)
        have r91 : rg z90 0 4 := rg_sub ez90 r89 rl_1 (by decide)
        refine lv_i2l (v := (z90).toInt64) hx hb dX10_beside_69 rfl ?_
        refine t_Si C hO hl.1 hA hH (As := [.long (z7).toInt64, .long (0 : Int64), .long (z90).toInt64]) (rest := []) (t_X10_in l E J τ L f hI.1 ((z7).toInt64) ((0 : Int64)) ((z90).toInt64)) my_X10_in wd744 rfl rfl (Nat.le_of_ble_eq_true rfl) ⟨Nat.le_of_ble_eq_true rfl, Nat.le_of_ble_eq_true rfl⟩ ⟨rfl, rfl⟩ dX10_beside_70 (fun r93 L1 f92 H locs hp hH => ?_)
        obtain ⟨rfl, s94, h95⟩ := hp
        have hJ := hI
        have hI := hI.call s94 (by decide)
        refine lv_if_eq (tgt := 109) hx hb dX10_beside_73 (by decide) (fun c96 => ?_) (fun c96 => ?_)
        · skip
          have r97 : rg r93 0 0 := rf_eql (c_eq c96) h95.1 rl_0 (by decide)
          refine lv_iconst (v := (-1 : Int32)) hx hb dX10_beside_109 (by decide) ?_
          exact g_iret C hr hH (Nat.zero_le _) (Nat.zero_le _) dX10_beside_110 ⟨rfl, hI, (rg_w rl_m1 (by decide))⟩
        · skip
          have r98 : rg r93 1 1 := rf_nel (n_eq c96) h95.1 rl_0 (by decide)
          have r99 : rg z7 0 4 := in_rgy (la := 0) (h95.2 c96) r8 r91 (by decide) (by decide)
          refine lv_iload hx hb dX10_beside_76 (lv_at hl 0 rfl) ?_
          refine lv_i2l (v := (z86).toInt64) hx hb dX10_beside_78 rfl ?_
          refine lv_lconst (v := (0 : Int64)) hx hb dX10_beside_79 (by decide) ?_
          refine lv_aload_n hx hb dX10_beside_80 rfl (lv_at hl 2 rfl) ?_
          refine t_getX C hH hI.1 mq tq td_40 iX10 rfl 17 (by decide) wd747 rfl (hI.rf kq_17) dX10_beside_81 ?_
          refine lv_iconst (v := (1 : Int32)) hx hb dX10_beside_84 (by decide) ?_
          refine t_ald C hH hI.1 mq_17 tq_17 td_47 (rg_in rl_1 (by decide)) dX10_beside_85 (fun z100v az100 pz100 => ?_)
          refine lv_topi (fun z100 ez100 => ?_)
          rw [arr_inj az100 ((hI.fr q_17 mq_17 (t_lim tq_17 rfl)).trans (hh q_17 mq_17 tq_17))] at ez100 pz100
          have r101 : rg z100 0 4 := has_rg pz100 (i := (1 : Int32)) 1 rfl (by decide) ez100
          refine lv_iconst (v := (1 : Int32)) hx hb dX10_beside_86 (by decide) ?_
          refine lv_isub hx hb dX10_beside_87 ?_
          refine lv_topi (fun z102 ez102 => ?_)
          have r103 : rg z102 (-1) 3 := rg_sub ez102 r101 rl_1 (by decide)
          refine lv_i2l (v := (z102).toInt64) hx hb dX10_beside_88 rfl ?_
          refine t_Si C hO hl.1 hA hH (As := [.long (z86).toInt64, .long (0 : Int64), .long (z102).toInt64]) (rest := []) (t_X10_in l E J τ L f92 hI.1 ((z86).toInt64) ((0 : Int64)) ((z102).toInt64)) my_X10_in wd744 rfl rfl (Nat.le_of_ble_eq_true rfl) ⟨Nat.le_of_ble_eq_true rfl, Nat.le_of_ble_eq_true rfl⟩ ⟨rfl, rfl⟩ dX10_beside_89 (fun r105 L1 f104 H locs hp hH => ?_)
          obtain ⟨rfl, s106, h107⟩ := hp
          have hJ := hI
          have hI := hI.call s106 (by decide)
          refine lv_if_eq (tgt := 109) hx hb dX10_beside_92 (by decide) (fun c108 => ?_) (fun c108 => ?_)
          · skip
            have r109 : rg r105 0 0 := rf_eql (c_eq c108) h107.1 rl_0 (by decide)
            refine lv_iconst (v := (-1 : Int32)) hx hb dX10_beside_109 (by decide) ?_
            exact g_iret C hr hH (Nat.zero_le _) (Nat.zero_le _) dX10_beside_110 ⟨rfl, hI, (rg_w rl_m1 (by decide))⟩
          · skip
            have r110 : rg r105 1 1 := rf_nel (n_eq c108) h107.1 rl_0 (by decide)
            have r111 : rg z86 0 3 := in_rgy (la := 0) (h107.2 c108) (rg_all _) r103 (by decide) (by decide)
            refine lv_aload_n hx hb dX10_beside_95 rfl (lv_at hl 2 rfl) ?_
            refine t_getX C hH hI.1 mq tq td_40 iX10 rfl 17 (by decide) wd747 rfl (hI.rf kq_17) dX10_beside_96 ?_
            refine lv_iconst (v := (0 : Int32)) hx hb dX10_beside_99 (by decide) ?_
            refine t_ald C hH hI.1 mq_17 tq_17 td_47 (rg_in rl_0 (by decide)) dX10_beside_100 (fun z112v az112 pz112 => ?_)
            refine lv_topi (fun z112 ez112 => ?_)
            rw [arr_inj az112 ((hI.fr q_17 mq_17 (t_lim tq_17 rfl)).trans (hh q_17 mq_17 tq_17))] at ez112 pz112
            have r113 : rg z112 0 5 := has_rg pz112 (i := (0 : Int32)) 0 rfl (by decide) ez112
            have r114 : rg z112 1 5 := has_w pz112 hW (i := (0 : Int32)) rfl ez112
            refine lv_iload hx hb dX10_beside_101 (lv_at hl 0 rfl) ?_
            refine lv_imul hx hb dX10_beside_103 ?_
            refine lv_topi (fun z115 ez115 => ?_)
            have r116 : rg z115 0 15 := rg_mul ez115 r114 r111 (by decide)
            refine lv_iload_n hx hb dX10_beside_104 rfl (lv_at hl 1 rfl) ?_
            refine lv_iadd hx hb dX10_beside_105 ?_
            refine lv_topi (fun z117 ez117 => ?_)
            have r118 : rg z117 0 19 := rg_add ez117 r116 r99 (by decide)
            refine lv_goto (tgt := 110) hx hb dX10_beside_106 (by decide) ?_
            exact g_iret C hr hH (Nat.zero_le _) (Nat.zero_le _) dX10_beside_110 ⟨rfl, hI, (rg_w r118 (by decide))⟩
    · skip
      have r119 : rg p2 3 3 := rf_eql (c_eq c6) (rg_all _) rl_3 (by decide)
      refine lv_iconst (v := (-1 : Int32)) hx hb dX10_beside_22 (by decide) ?_
      refine lv_goto (tgt := 27) hx hb dX10_beside_23 (by decide) ?_
      refine lv_iadd hx hb dX10_beside_27 ?_
      refine lv_topi (fun z120 ez120 => ?_)
      refine lv_istore_n (lv' := [(3, .int z120), (0, .ref q), (1, .int p1), (2, .int p2)]) hx hb dX10_beside_28 rfl hl (by decide) rfl (fun ls hl => ?_)
      refine lv_iload_n hx hb dX10_beside_29 rfl (lv_at hl 2 rfl) ?_
      refine lv_aload_n hx hb dX10_beside_30 rfl (lv_at hl 1 rfl) ?_
      refine t_getX C hH hI.1 mq tq td_40 iX10 rfl 17 (by decide) wd747 rfl (hI.rf kq_17) dX10_beside_31 ?_
      refine lv_iconst (v := (0 : Int32)) hx hb dX10_beside_34 (by decide) ?_
      refine t_ald C hH hI.1 mq_17 tq_17 td_47 (rg_in rl_0 (by decide)) dX10_beside_35 (fun z121v az121 pz121 => ?_)
      refine lv_topi (fun z121 ez121 => ?_)
      rw [arr_inj az121 ((hI.fr q_17 mq_17 (t_lim tq_17 rfl)).trans (hh q_17 mq_17 tq_17))] at ez121 pz121
      have r122 : rg z121 0 5 := has_rg pz121 (i := (0 : Int32)) 0 rfl (by decide) ez121
      have r123 : rg z121 1 5 := has_w pz121 hW (i := (0 : Int32)) rfl ez121
      refine lv_idiv hx hb dX10_beside_36 (rg_ne0 r123 (by decide)) ?_
      refine lv_topi (fun z124 ez124 => ?_)
      refine lv_iload_n hx hb dX10_beside_37 rfl (lv_at hl 3 rfl) ?_
      refine lv_iconst (v := (2 : Int32)) hx hb dX10_beside_38 (by decide) ?_
      refine lv_icmp_ne (tgt := 46) hx hb dX10_beside_39 (by decide) (fun c125 => ?_) (fun c125 => ?_)
      · skip
        refine lv_iload_n hx hb dX10_beside_46 rfl (lv_at hl 3 rfl) ?_
        refine lv_if_ne (tgt := 54) hx hb dX10_beside_47 (by decide) (fun c126 => ?_) (fun c126 => ?_)
        · skip
          refine lv_iconst (v := (0 : Int32)) hx hb dX10_beside_54 (by decide) ?_
          refine lv_iadd hx hb dX10_beside_55 ?_
          refine lv_topi (fun z127 ez127 => ?_)
          have r128 : rg z127 (-2147483648) 2147483647 := rg_add ez127 (rg_all _) rl_0 (by decide)
          have a129 : z127.toInt = z124.toInt + 0 := ai_add ez127 (rg_all _) tl_0 (by decide)
          refine lv_istore (lv' := [(4, .int z127), (3, .int z120), (0, .ref q), (1, .int p1), (2, .int p2)]) hx hb dX10_beside_56 hl (by decide) rfl (fun ls hl => ?_)
          refine lv_iload_n hx hb dX10_beside_58 rfl (lv_at hl 1 rfl) ?_
          refine lv_i2l (v := (z120).toInt64) hx hb dX10_beside_59 rfl ?_
          refine lv_lconst (v := (0 : Int64)) hx hb dX10_beside_60 (by decide) ?_
          refine lv_aload_n hx hb dX10_beside_61 rfl (lv_at hl 2 rfl) ?_
          refine t_getX C hH hI.1 mq tq td_40 iX10 rfl 17 (by decide) wd747 rfl (hI.rf kq_17) dX10_beside_62 ?_
          refine lv_iconst (v := (0 : Int32)) hx hb dX10_beside_65 (by decide) ?_
          refine t_ald C hH hI.1 mq_17 tq_17 td_47 (rg_in rl_0 (by decide)) dX10_beside_66 (fun z130v az130 pz130 => ?_)
          refine lv_topi (fun z130 ez130 => ?_)
          rw [arr_inj az130 ((hI.fr q_17 mq_17 (t_lim tq_17 rfl)).trans (hh q_17 mq_17 tq_17))] at ez130 pz130
          have r131 : rg z130 0 5 := has_rg pz130 (i := (0 : Int32)) 0 rfl (by decide) ez130
          have r132 : rg z130 1 5 := has_w pz130 hW (i := (0 : Int32)) rfl ez130
          refine lv_iconst (v := (1 : Int32)) hx hb dX10_beside_67 (by decide) ?_
          refine lv_isub hx hb dX10_beside_68 ?_
          refine lv_topi (fun z133 ez133 => ?_)
          have r134 : rg z133 0 4 := rg_sub ez133 r132 rl_1 (by decide)
          refine lv_i2l (v := (z133).toInt64) hx hb dX10_beside_69 rfl ?_
          refine t_Si C hO hl.1 hA hH (As := [.long (z120).toInt64, .long (0 : Int64), .long (z133).toInt64]) (rest := []) (t_X10_in l E J τ L f hI.1 ((z120).toInt64) ((0 : Int64)) ((z133).toInt64)) my_X10_in wd744 rfl rfl (Nat.le_of_ble_eq_true rfl) ⟨Nat.le_of_ble_eq_true rfl, Nat.le_of_ble_eq_true rfl⟩ ⟨rfl, rfl⟩ dX10_beside_70 (fun r136 L1 f135 H locs hp hH => ?_)
          obtain ⟨rfl, s137, h138⟩ := hp
          have hJ := hI
          have hI := hI.call s137 (by decide)
          refine lv_if_eq (tgt := 109) hx hb dX10_beside_73 (by decide) (fun c139 => ?_) (fun c139 => ?_)
          · skip
            have r140 : rg r136 0 0 := rf_eql (c_eq c139) h138.1 rl_0 (by decide)
            refine lv_iconst (v := (-1 : Int32)) hx hb dX10_beside_109 (by decide) ?_
            exact g_iret C hr hH (Nat.zero_le _) (Nat.zero_le _) dX10_beside_110 ⟨rfl, hI, (rg_w rl_m1 (by decide))⟩
          · skip
            have r141 : rg r136 1 1 := rf_nel (n_eq c139) h138.1 rl_0 (by decide)
            have r142 : rg z120 0 4 := in_rgy (la := 0) (h138.2 c139) (rg_all _) r134 (by decide) (by decide)
            refine lv_iload hx hb dX10_beside_76 (lv_at hl 0 rfl) ?_
            refine lv_i2l (v := (z127).toInt64) hx hb dX10_beside_78 rfl ?_
            refine lv_lconst (v := (0 : Int64)) hx hb dX10_beside_79 (by decide) ?_
            refine lv_aload_n hx hb dX10_beside_80 rfl (lv_at hl 2 rfl) ?_
            refine t_getX C hH hI.1 mq tq td_40 iX10 rfl 17 (by decide) wd747 rfl (hI.rf kq_17) dX10_beside_81 ?_
            refine lv_iconst (v := (1 : Int32)) hx hb dX10_beside_84 (by decide) ?_
            refine t_ald C hH hI.1 mq_17 tq_17 td_47 (rg_in rl_1 (by decide)) dX10_beside_85 (fun z143v az143 pz143 => ?_)
            refine lv_topi (fun z143 ez143 => ?_)
            rw [arr_inj az143 ((hI.fr q_17 mq_17 (t_lim tq_17 rfl)).trans (hh q_17 mq_17 tq_17))] at ez143 pz143
            have r144 : rg z143 0 4 := has_rg pz143 (i := (1 : Int32)) 1 rfl (by decide) ez143
            refine lv_iconst (v := (1 : Int32)) hx hb dX10_beside_86 (by decide) ?_
            refine lv_isub hx hb dX10_beside_87 ?_
            refine lv_topi (fun z145 ez145 => ?_)
            have r146 : rg z145 (-1) 3 := rg_sub ez145 r144 rl_1 (by decide)
            refine lv_i2l (v := (z145).toInt64) hx hb dX10_beside_88 rfl ?_
            refine t_Si C hO hl.1 hA hH (As := [.long (z127).toInt64, .long (0 : Int64), .long (z145).toInt64]) (rest := []) (t_X10_in l E J τ L f135 hI.1 ((z127).toInt64) ((0 : Int64)) ((z145).toInt64)) my_X10_in wd744 rfl rfl (Nat.le_of_ble_eq_true rfl) ⟨Nat.le_of_ble_eq_true rfl, Nat.le_of_ble_eq_true rfl⟩ ⟨rfl, rfl⟩ dX10_beside_89 (fun r148 L1 f147 H locs hp hH => ?_)
            obtain ⟨rfl, s149, h150⟩ := hp
            have hJ := hI
            have hI := hI.call s149 (by decide)
            refine lv_if_eq (tgt := 109) hx hb dX10_beside_92 (by decide) (fun c151 => ?_) (fun c151 => ?_)
            · skip
              have r152 : rg r148 0 0 := rf_eql (c_eq c151) h150.1 rl_0 (by decide)
              refine lv_iconst (v := (-1 : Int32)) hx hb dX10_beside_109 (by decide) ?_
              exact g_iret C hr hH (Nat.zero_le _) (Nat.zero_le _) dX10_beside_110 ⟨rfl, hI, (rg_w rl_m1 (by decide))⟩
            · skip
              have r153 : rg r148 1 1 := rf_nel (n_eq c151) h150.1 rl_0 (by decide)
              have r154 : rg z127 0 3 := in_rgy (la := 0) (h150.2 c151) r128 r146 (by decide) (by decide)
              refine lv_aload_n hx hb dX10_beside_95 rfl (lv_at hl 2 rfl) ?_
              refine t_getX C hH hI.1 mq tq td_40 iX10 rfl 17 (by decide) wd747 rfl (hI.rf kq_17) dX10_beside_96 ?_
              refine lv_iconst (v := (0 : Int32)) hx hb dX10_beside_99 (by decide) ?_
              refine t_ald C hH hI.1 mq_17 tq_17 td_47 (rg_in rl_0 (by decide)) dX10_beside_100 (fun z155v az155 pz155 => ?_)
              refine lv_topi (fun z155 ez155 => ?_)
              rw [arr_inj az155 ((hI.fr q_17 mq_17 (t_lim tq_17 rfl)).trans (hh q_17 mq_17 tq_17))] at ez155 pz155
              have r156 : rg z155 0 5 := has_rg pz155 (i := (0 : Int32)) 0 rfl (by decide) ez155
              have r157 : rg z155 1 5 := has_w pz155 hW (i := (0 : Int32)) rfl ez155
              refine lv_iload hx hb dX10_beside_101 (lv_at hl 0 rfl) ?_
              refine lv_imul hx hb dX10_beside_103 ?_
              refine lv_topi (fun z158 ez158 => ?_)
              have r159 : rg z158 0 15 := rg_mul ez158 r157 r154 (by decide)
              refine lv_iload_n hx hb dX10_beside_104 rfl (lv_at hl 1 rfl) ?_
              refine lv_iadd hx hb dX10_beside_105 ?_
              refine lv_topi (fun z160 ez160 => ?_)
              have r161 : rg z160 0 19 := rg_add ez160 r159 r142 (by decide)
              refine lv_goto (tgt := 110) hx hb dX10_beside_106 (by decide) ?_
              exact g_iret C hr hH (Nat.zero_le _) (Nat.zero_le _) dX10_beside_110 ⟨rfl, hI, (rg_w r161 (by decide))⟩
        · skip
          exact (rg_no (show rg p2 3 0 from rf_eql (c_eq c126) r119 rl_0 (by decide)) (by decide)).elim
      · skip
        exact (rg_no (show rg p2 3 2 from rf_eql (c_eq c125) r119 rl_2 (by decide)) (by decide)).elim
  · skip
    have r162 : rg p2 1 1 := rf_eql (c_eq c5) (rg_all _) rl_1 (by decide)
    refine lv_iconst (v := (1 : Int32)) hx hb dX10_beside_13 (by decide) ?_
    refine lv_goto (tgt := 27) hx hb dX10_beside_14 (by decide) ?_
    refine lv_iadd hx hb dX10_beside_27 ?_
    refine lv_topi (fun z163 ez163 => ?_)
    refine lv_istore_n (lv' := [(3, .int z163), (0, .ref q), (1, .int p1), (2, .int p2)]) hx hb dX10_beside_28 rfl hl (by decide) rfl (fun ls hl => ?_)
    refine lv_iload_n hx hb dX10_beside_29 rfl (lv_at hl 2 rfl) ?_
    refine lv_aload_n hx hb dX10_beside_30 rfl (lv_at hl 1 rfl) ?_
    refine t_getX C hH hI.1 mq tq td_40 iX10 rfl 17 (by decide) wd747 rfl (hI.rf kq_17) dX10_beside_31 ?_
    refine lv_iconst (v := (0 : Int32)) hx hb dX10_beside_34 (by decide) ?_
    refine t_ald C hH hI.1 mq_17 tq_17 td_47 (rg_in rl_0 (by decide)) dX10_beside_35 (fun z164v az164 pz164 => ?_)
    refine lv_topi (fun z164 ez164 => ?_)
    rw [arr_inj az164 ((hI.fr q_17 mq_17 (t_lim tq_17 rfl)).trans (hh q_17 mq_17 tq_17))] at ez164 pz164
    have r165 : rg z164 0 5 := has_rg pz164 (i := (0 : Int32)) 0 rfl (by decide) ez164
    have r166 : rg z164 1 5 := has_w pz164 hW (i := (0 : Int32)) rfl ez164
    refine lv_idiv hx hb dX10_beside_36 (rg_ne0 r166 (by decide)) ?_
    refine lv_topi (fun z167 ez167 => ?_)
    refine lv_iload_n hx hb dX10_beside_37 rfl (lv_at hl 3 rfl) ?_
    refine lv_iconst (v := (2 : Int32)) hx hb dX10_beside_38 (by decide) ?_
    refine lv_icmp_ne (tgt := 46) hx hb dX10_beside_39 (by decide) (fun c168 => ?_) (fun c168 => ?_)
    · skip
      refine lv_iload_n hx hb dX10_beside_46 rfl (lv_at hl 3 rfl) ?_
      refine lv_if_ne (tgt := 54) hx hb dX10_beside_47 (by decide) (fun c169 => ?_) (fun c169 => ?_)
      · skip
        refine lv_iconst (v := (0 : Int32)) hx hb dX10_beside_54 (by decide) ?_
        refine lv_iadd hx hb dX10_beside_55 ?_
        refine lv_topi (fun z170 ez170 => ?_)
        have r171 : rg z170 (-2147483648) 2147483647 := rg_add ez170 (rg_all _) rl_0 (by decide)
        have a172 : z170.toInt = z167.toInt + 0 := ai_add ez170 (rg_all _) tl_0 (by decide)
        refine lv_istore (lv' := [(4, .int z170), (3, .int z163), (0, .ref q), (1, .int p1), (2, .int p2)]) hx hb dX10_beside_56 hl (by decide) rfl (fun ls hl => ?_)
        refine lv_iload_n hx hb dX10_beside_58 rfl (lv_at hl 1 rfl) ?_
        refine lv_i2l (v := (z163).toInt64) hx hb dX10_beside_59 rfl ?_
        refine lv_lconst (v := (0 : Int64)) hx hb dX10_beside_60 (by decide) ?_
        refine lv_aload_n hx hb dX10_beside_61 rfl (lv_at hl 2 rfl) ?_
        refine t_getX C hH hI.1 mq tq td_40 iX10 rfl 17 (by decide) wd747 rfl (hI.rf kq_17) dX10_beside_62 ?_
        refine lv_iconst (v := (0 : Int32)) hx hb dX10_beside_65 (by decide) ?_
        refine t_ald C hH hI.1 mq_17 tq_17 td_47 (rg_in rl_0 (by decide)) dX10_beside_66 (fun z173v az173 pz173 => ?_)
        refine lv_topi (fun z173 ez173 => ?_)
        rw [arr_inj az173 ((hI.fr q_17 mq_17 (t_lim tq_17 rfl)).trans (hh q_17 mq_17 tq_17))] at ez173 pz173
        have r174 : rg z173 0 5 := has_rg pz173 (i := (0 : Int32)) 0 rfl (by decide) ez173
        have r175 : rg z173 1 5 := has_w pz173 hW (i := (0 : Int32)) rfl ez173
        refine lv_iconst (v := (1 : Int32)) hx hb dX10_beside_67 (by decide) ?_
        refine lv_isub hx hb dX10_beside_68 ?_
        refine lv_topi (fun z176 ez176 => ?_)
        have r177 : rg z176 0 4 := rg_sub ez176 r175 rl_1 (by decide)
        refine lv_i2l (v := (z176).toInt64) hx hb dX10_beside_69 rfl ?_
        refine t_Si C hO hl.1 hA hH (As := [.long (z163).toInt64, .long (0 : Int64), .long (z176).toInt64]) (rest := []) (t_X10_in l E J τ L f hI.1 ((z163).toInt64) ((0 : Int64)) ((z176).toInt64)) my_X10_in wd744 rfl rfl (Nat.le_of_ble_eq_true rfl) ⟨Nat.le_of_ble_eq_true rfl, Nat.le_of_ble_eq_true rfl⟩ ⟨rfl, rfl⟩ dX10_beside_70 (fun r179 L1 f178 H locs hp hH => ?_)
        obtain ⟨rfl, s180, h181⟩ := hp
        have hJ := hI
        have hI := hI.call s180 (by decide)
        refine lv_if_eq (tgt := 109) hx hb dX10_beside_73 (by decide) (fun c182 => ?_) (fun c182 => ?_)
        · skip
          have r183 : rg r179 0 0 := rf_eql (c_eq c182) h181.1 rl_0 (by decide)
          refine lv_iconst (v := (-1 : Int32)) hx hb dX10_beside_109 (by decide) ?_
          exact g_iret C hr hH (Nat.zero_le _) (Nat.zero_le _) dX10_beside_110 ⟨rfl, hI, (rg_w rl_m1 (by decide))⟩
        · skip
          have r184 : rg r179 1 1 := rf_nel (n_eq c182) h181.1 rl_0 (by decide)
          have r185 : rg z163 0 4 := in_rgy (la := 0) (h181.2 c182) (rg_all _) r177 (by decide) (by decide)
          refine lv_iload hx hb dX10_beside_76 (lv_at hl 0 rfl) ?_
          refine lv_i2l (v := (z170).toInt64) hx hb dX10_beside_78 rfl ?_
          refine lv_lconst (v := (0 : Int64)) hx hb dX10_beside_79 (by decide) ?_
          refine lv_aload_n hx hb dX10_beside_80 rfl (lv_at hl 2 rfl) ?_
          refine t_getX C hH hI.1 mq tq td_40 iX10 rfl 17 (by decide) wd747 rfl (hI.rf kq_17) dX10_beside_81 ?_
          refine lv_iconst (v := (1 : Int32)) hx hb dX10_beside_84 (by decide) ?_
          refine t_ald C hH hI.1 mq_17 tq_17 td_47 (rg_in rl_1 (by decide)) dX10_beside_85 (fun z186v az186 pz186 => ?_)
          refine lv_topi (fun z186 ez186 => ?_)
          rw [arr_inj az186 ((hI.fr q_17 mq_17 (t_lim tq_17 rfl)).trans (hh q_17 mq_17 tq_17))] at ez186 pz186
          have r187 : rg z186 0 4 := has_rg pz186 (i := (1 : Int32)) 1 rfl (by decide) ez186
          refine lv_iconst (v := (1 : Int32)) hx hb dX10_beside_86 (by decide) ?_
          refine lv_isub hx hb dX10_beside_87 ?_
          refine lv_topi (fun z188 ez188 => ?_)
          have r189 : rg z188 (-1) 3 := rg_sub ez188 r187 rl_1 (by decide)
          refine lv_i2l (v := (z188).toInt64) hx hb dX10_beside_88 rfl ?_
          refine t_Si C hO hl.1 hA hH (As := [.long (z170).toInt64, .long (0 : Int64), .long (z188).toInt64]) (rest := []) (t_X10_in l E J τ L f178 hI.1 ((z170).toInt64) ((0 : Int64)) ((z188).toInt64)) my_X10_in wd744 rfl rfl (Nat.le_of_ble_eq_true rfl) ⟨Nat.le_of_ble_eq_true rfl, Nat.le_of_ble_eq_true rfl⟩ ⟨rfl, rfl⟩ dX10_beside_89 (fun r191 L1 f190 H locs hp hH => ?_)
          obtain ⟨rfl, s192, h193⟩ := hp
          have hJ := hI
          have hI := hI.call s192 (by decide)
          refine lv_if_eq (tgt := 109) hx hb dX10_beside_92 (by decide) (fun c194 => ?_) (fun c194 => ?_)
          · skip
            have r195 : rg r191 0 0 := rf_eql (c_eq c194) h193.1 rl_0 (by decide)
            refine lv_iconst (v := (-1 : Int32)) hx hb dX10_beside_109 (by decide) ?_
            exact g_iret C hr hH (Nat.zero_le _) (Nat.zero_le _) dX10_beside_110 ⟨rfl, hI, (rg_w rl_m1 (by decide))⟩
          · skip
            have r196 : rg r191 1 1 := rf_nel (n_eq c194) h193.1 rl_0 (by decide)
            have r197 : rg z170 0 3 := in_rgy (la := 0) (h193.2 c194) r171 r189 (by decide) (by decide)
            refine lv_aload_n hx hb dX10_beside_95 rfl (lv_at hl 2 rfl) ?_
            refine t_getX C hH hI.1 mq tq td_40 iX10 rfl 17 (by decide) wd747 rfl (hI.rf kq_17) dX10_beside_96 ?_
            refine lv_iconst (v := (0 : Int32)) hx hb dX10_beside_99 (by decide) ?_
            refine t_ald C hH hI.1 mq_17 tq_17 td_47 (rg_in rl_0 (by decide)) dX10_beside_100 (fun z198v az198 pz198 => ?_)
            refine lv_topi (fun z198 ez198 => ?_)
            rw [arr_inj az198 ((hI.fr q_17 mq_17 (t_lim tq_17 rfl)).trans (hh q_17 mq_17 tq_17))] at ez198 pz198
            have r199 : rg z198 0 5 := has_rg pz198 (i := (0 : Int32)) 0 rfl (by decide) ez198
            have r200 : rg z198 1 5 := has_w pz198 hW (i := (0 : Int32)) rfl ez198
            refine lv_iload hx hb dX10_beside_101 (lv_at hl 0 rfl) ?_
            refine lv_imul hx hb dX10_beside_103 ?_
            refine lv_topi (fun z201 ez201 => ?_)
            have r202 : rg z201 0 15 := rg_mul ez201 r200 r197 (by decide)
            refine lv_iload_n hx hb dX10_beside_104 rfl (lv_at hl 1 rfl) ?_
            refine lv_iadd hx hb dX10_beside_105 ?_
            refine lv_topi (fun z203 ez203 => ?_)
            have r204 : rg z203 0 19 := rg_add ez203 r202 r185 (by decide)
            refine lv_goto (tgt := 110) hx hb dX10_beside_106 (by decide) ?_
            exact g_iret C hr hH (Nat.zero_le _) (Nat.zero_le _) dX10_beside_110 ⟨rfl, hI, (rg_w r204 (by decide))⟩
      · skip
        exact (rg_no (show rg p2 1 0 from rf_eql (c_eq c169) r162 rl_0 (by decide)) (by decide)).elim
    · skip
      exact (rg_no (show rg p2 2 1 from rf_eql (c_eq c168) r162 rl_2 (by decide)) (by decide)).elim
set_option maxHeartbeats 4000000 in
set_option maxRecDepth 100000 in
theorem t_X10_turned (l : Launch) (E : gE) (J : Nat → Nat) (τ : Nat → Nat) (L : List Nat) (f : gF) (hI : tI E L τ f) {q : Nat} (mq : q ∈ L) (tq : τ q = 40) (p1 : Int32) (p2 : Int32) : tMi l E J yX10_turned cX10_turned 4 .int (gRm (1) 0 0) [.ref q, .int p1, .int p2] L f (tPi E L τ [] f (fun r f1 => rg r (-2147483648) 2147483647)) := by
  refine tMi.intro (by decide) (Nat.le_of_ble_eq_true rfl) ?_
  intro p e s m below meth c A ls C hr hA hO hH hl
  have C : gC E cX10_turned 4 RX10 p s m _ meth c := C
  have hl : lv_has ls 4 [(0, .ref q), (1, .int p1), (2, .int p2)] := hl
  have hx := C.1
  have hb := C.2.1
  have hI := hI.S []
  refine lv_aload_n hx hb dX10_turned_0 rfl (lv_at hl 0 rfl) ?_
  refine t_geti C hH hI.1 mq tq td_40 iX10 rfl 23 (by decide) wd769 rfl rfl dX10_turned_1 (fun z1 rz1 => ?_)
  refine lv_if_ne (tgt := 11) hx hb dX10_turned_4 (by decide) (fun c2 => ?_) (fun c2 => ?_)
  · skip
    refine lv_aload_n hx hb dX10_turned_11 rfl (lv_at hl 0 rfl) ?_
    refine t_geti C hH hI.1 mq tq td_40 iX10 rfl 23 (by decide) wd769 rfl rfl dX10_turned_12 (fun z3 rz3 => ?_)
    refine lv_iconst (v := (1 : Int32)) hx hb dX10_turned_15 (by decide) ?_
    refine lv_icmp_ne (tgt := 23) hx hb dX10_turned_16 (by decide) (fun c4 => ?_) (fun c4 => ?_)
    · skip
      refine lv_aload_n hx hb dX10_turned_23 rfl (lv_at hl 0 rfl) ?_
      refine t_geti C hH hI.1 mq tq td_40 iX10 rfl 23 (by decide) wd769 rfl rfl dX10_turned_24 (fun z5 rz5 => ?_)
      refine lv_iconst (v := (2 : Int32)) hx hb dX10_turned_27 (by decide) ?_
      refine lv_icmp_ne (tgt := 35) hx hb dX10_turned_28 (by decide) (fun c6 => ?_) (fun c6 => ?_)
      · skip
        refine lv_iload_n hx hb dX10_turned_35 rfl (lv_at hl 2 rfl) ?_
        refine lv_iconst (v := (2 : Int32)) hx hb dX10_turned_36 (by decide) ?_
        refine lv_irem hx hb dX10_turned_37 (by decide) ?_
        refine lv_topi (fun z7 ez7 => ?_)
        refine lv_if_ne (tgt := 45) hx hb dX10_turned_38 (by decide) (fun c8 => ?_) (fun c8 => ?_)
        · skip
          refine lv_iconst (v := (3 : Int32)) hx hb dX10_turned_45 (by decide) ?_
          refine lv_istore_n (lv' := [(3, .int (3 : Int32)), (0, .ref q), (1, .int p1), (2, .int p2)]) hx hb dX10_turned_46 rfl hl (by decide) rfl (fun ls hl => ?_)
          refine lv_iload_n hx hb dX10_turned_47 rfl (lv_at hl 2 rfl) ?_
          refine lv_iload_n hx hb dX10_turned_48 rfl (lv_at hl 0 rfl) ?_
          refine lv_iadd hx hb dX10_turned_49 ?_
          refine lv_topi (fun z9 ez9 => ?_)
          refine lv_iconst (v := (4 : Int32)) hx hb dX10_turned_50 (by decide) ?_
          refine lv_irem hx hb dX10_turned_51 (by decide) ?_
          refine lv_topi (fun z10 ez10 => ?_)
          exact g_iret C hr hH (Nat.zero_le _) (Nat.zero_le _) dX10_turned_52 ⟨rfl, hI, (rg_all _)⟩
        · skip
          have r11 : rg z7 0 0 := rf_eql (c_eq c8) (rg_all _) rl_0 (by decide)
          refine lv_iconst (v := (1 : Int32)) hx hb dX10_turned_41 (by decide) ?_
          refine lv_goto (tgt := 46) hx hb dX10_turned_42 (by decide) ?_
          refine lv_istore_n (lv' := [(3, .int (1 : Int32)), (0, .ref q), (1, .int p1), (2, .int p2)]) hx hb dX10_turned_46 rfl hl (by decide) rfl (fun ls hl => ?_)
          refine lv_iload_n hx hb dX10_turned_47 rfl (lv_at hl 2 rfl) ?_
          refine lv_iload_n hx hb dX10_turned_48 rfl (lv_at hl 0 rfl) ?_
          refine lv_iadd hx hb dX10_turned_49 ?_
          refine lv_topi (fun z12 ez12 => ?_)
          refine lv_iconst (v := (4 : Int32)) hx hb dX10_turned_50 (by decide) ?_
          refine lv_irem hx hb dX10_turned_51 (by decide) ?_
          refine lv_topi (fun z13 ez13 => ?_)
          exact g_iret C hr hH (Nat.zero_le _) (Nat.zero_le _) dX10_turned_52 ⟨rfl, hI, (rg_all _)⟩
      · skip
        have r14 : rg z5 2 2 := rf_eql (c_eq c6) rz5 rl_2 (by decide)
        refine lv_iconst (v := (2 : Int32)) hx hb dX10_turned_31 (by decide) ?_
        refine lv_goto (tgt := 46) hx hb dX10_turned_32 (by decide) ?_
        refine lv_istore_n (lv' := [(3, .int (2 : Int32)), (0, .ref q), (1, .int p1), (2, .int p2)]) hx hb dX10_turned_46 rfl hl (by decide) rfl (fun ls hl => ?_)
        refine lv_iload_n hx hb dX10_turned_47 rfl (lv_at hl 2 rfl) ?_
        refine lv_iload_n hx hb dX10_turned_48 rfl (lv_at hl 0 rfl) ?_
        refine lv_iadd hx hb dX10_turned_49 ?_
        refine lv_topi (fun z15 ez15 => ?_)
        refine lv_iconst (v := (4 : Int32)) hx hb dX10_turned_50 (by decide) ?_
        refine lv_irem hx hb dX10_turned_51 (by decide) ?_
        refine lv_topi (fun z16 ez16 => ?_)
        exact g_iret C hr hH (Nat.zero_le _) (Nat.zero_le _) dX10_turned_52 ⟨rfl, hI, (rg_all _)⟩
    · skip
      have r17 : rg z3 1 1 := rf_eql (c_eq c4) rz3 rl_1 (by decide)
      refine lv_iconst (v := (3 : Int32)) hx hb dX10_turned_19 (by decide) ?_
      refine lv_goto (tgt := 46) hx hb dX10_turned_20 (by decide) ?_
      refine lv_istore_n (lv' := [(3, .int (3 : Int32)), (0, .ref q), (1, .int p1), (2, .int p2)]) hx hb dX10_turned_46 rfl hl (by decide) rfl (fun ls hl => ?_)
      refine lv_iload_n hx hb dX10_turned_47 rfl (lv_at hl 2 rfl) ?_
      refine lv_iload_n hx hb dX10_turned_48 rfl (lv_at hl 0 rfl) ?_
      refine lv_iadd hx hb dX10_turned_49 ?_
      refine lv_topi (fun z18 ez18 => ?_)
      refine lv_iconst (v := (4 : Int32)) hx hb dX10_turned_50 (by decide) ?_
      refine lv_irem hx hb dX10_turned_51 (by decide) ?_
      refine lv_topi (fun z19 ez19 => ?_)
      exact g_iret C hr hH (Nat.zero_le _) (Nat.zero_le _) dX10_turned_52 ⟨rfl, hI, (rg_all _)⟩
  · skip
    have r20 : rg z1 0 0 := rf_eql (c_eq c2) rz1 rl_0 (by decide)
    refine lv_iconst (v := (1 : Int32)) hx hb dX10_turned_7 (by decide) ?_
    refine lv_goto (tgt := 46) hx hb dX10_turned_8 (by decide) ?_
    refine lv_istore_n (lv' := [(3, .int (1 : Int32)), (0, .ref q), (1, .int p1), (2, .int p2)]) hx hb dX10_turned_46 rfl hl (by decide) rfl (fun ls hl => ?_)
    refine lv_iload_n hx hb dX10_turned_47 rfl (lv_at hl 2 rfl) ?_
    refine lv_iload_n hx hb dX10_turned_48 rfl (lv_at hl 0 rfl) ?_
    refine lv_iadd hx hb dX10_turned_49 ?_
    refine lv_topi (fun z21 ez21 => ?_)
    refine lv_iconst (v := (4 : Int32)) hx hb dX10_turned_50 (by decide) ?_
    refine lv_irem hx hb dX10_turned_51 (by decide) ?_
    refine lv_topi (fun z22 ez22 => ?_)
    exact g_iret C hr hH (Nat.zero_le _) (Nat.zero_le _) dX10_turned_52 ⟨rfl, hI, (rg_all _)⟩
set_option maxHeartbeats 4000000 in
set_option maxRecDepth 100000 in
theorem t_X10_lays (l : Launch) (E : gE) (J : Nat → Nat) (τ : Nat → Nat) (L : List Nat) (f : gF) (hI : tI E L τ f) {q : Nat} (mq : q ∈ L) (tq : τ q = 40) : tMv l E J yX10_lays cX10_lays 3 (gRm (2) 0 0) [.ref q] L f (tPv E L τ [40, 52] f (fun f1 => True)) := by
  refine tMv.intro (by decide) (Nat.le_of_ble_eq_true rfl) ?_
  intro p e s m below meth c A ls C hr hA hO hH hl
  have C : gC E cX10_lays 3 RX10 p s m _ meth c := C
  have hl : lv_has ls 3 [(0, .ref q)] := hl
  have hx := C.1
  have hb := C.2.1
  have hI := hI.S [40, 52]
  obtain ⟨q_17, mq_17, tq_17, kq_17⟩ := t_fldr hI.1 mq tq td_40 (k := 17) rfl
  obtain ⟨q_25, mq_25, tq_25, kq_25⟩ := t_fldr hI.1 mq tq td_40 (k := 25) rfl
  obtain ⟨q_18, mq_18, tq_18, kq_18⟩ := t_fldr hI.1 mq tq td_40 (k := 18) rfl
  obtain ⟨q_20, mq_20, tq_20, kq_20⟩ := t_fldr hI.1 mq tq td_40 (k := 20) rfl
  obtain ⟨va, hva, pva⟩ := t_arr hI.1 mq_20 tq_20 td_50
  have cut28 : ∀ (n : Nat) (fh28 : gF) (H : Heap) (locs : List Loc) (ls : Array Slot) (v28_1 : Int32), 4 - v28_1.toInt < (n : Int) → tS E L τ [40, 52] f fh28 → gH E A L fh28 s.heap H locs → rg v28_1 0 4 → lv_has ls 3 [(0, .ref q), (1, .int v28_1)] → W p l e (gRm (2) 0 0) s m [.ref q].toArray below meth c H locs 0 0 (MQ below (gQv E A (tPv E L τ [40, 52] f (fun f1 => True))) [.ref q].toArray s (gRm (2) 0 0).cells (gRm (2) 0 0).slots A) (F0 m 28 ls []) := by
    intro n
    induction n with
    | zero =>
      intro fh28 H locs ls v28_1 hfu28 hI hH r_v28_1 hl
      exact (fu_0 hfu28 r_v28_1).elim
    | succ n ih28 =>
      intro fh28 H locs ls v28_1 hfu28 hI hH r_v28_1 hl
      have cut60 : ∀ (n : Nat) (fh60 : gF) (H : Heap) (locs : List Loc) (ls : Array Slot) (v60_1 : Int32), 40 - v60_1.toInt < (n : Int) → tS E L τ [40, 52] f fh60 → gH E A L fh60 s.heap H locs → rg v60_1 0 40 → lv_has ls 3 [(0, .ref q), (1, .int v60_1)] → W p l e (gRm (2) 0 0) s m [.ref q].toArray below meth c H locs 0 0 (MQ below (gQv E A (tPv E L τ [40, 52] f (fun f1 => True))) [.ref q].toArray s (gRm (2) 0 0).cells (gRm (2) 0 0).slots A) (F0 m 60 ls []) := by
        intro n
        induction n with
        | zero =>
          intro fh60 H locs ls v60_1 hfu60 hI hH r_v60_1 hl
          exact (fu_0 hfu60 r_v60_1).elim
        | succ n ih60 =>
          intro fh60 H locs ls v60_1 hfu60 hI hH r_v60_1 hl
          refine lv_iload_n hx hb dX10_lays_60 rfl (lv_at hl 1 rfl) ?_
          refine lv_aload_n hx hb dX10_lays_61 rfl (lv_at hl 0 rfl) ?_
          refine t_getX C hH hI.1 mq tq td_40 iX10 rfl 17 (by decide) wd747 rfl (hI.rf kq_17) dX10_lays_62 ?_
          refine lv_bipush (v := (7 : Int32)) hx hb dX10_lays_65 (by decide) ?_
          refine t_ald C hH hI.1 mq_17 tq_17 td_47 (rg_in rl_7 (by decide)) dX10_lays_67 (fun z1v az1 pz1 => ?_)
          refine lv_topi (fun z1 ez1 => ?_)
          have r2 : rg z1 0 40 := has_rg pz1 (i := (7 : Int32)) 7 rfl (by decide) ez1
          refine lv_icmp_ge (tgt := 158) hx hb dX10_lays_68 (by decide) (fun c3 => ?_) (fun c3 => ?_)
          · skip
            exact g_vret C hr hH (Nat.zero_le _) (Nat.zero_le _) dX10_lays_158 ⟨rfl, hI, trivial⟩
          · skip
            have r4 : rg v60_1 0 39 := rf_ltl (n_le c3) r_v60_1 r2 (by decide)
            have r5 : rg z1 1 40 := rf_ltr (n_le c3) r_v60_1 r2 (by decide)
            refine lv_aload_n hx hb dX10_lays_71 rfl (lv_at hl 0 rfl) ?_
            refine t_getX C hH hI.1 mq tq td_40 iX10 rfl 20 (by decide) wd770 rfl (hI.rf kq_20) dX10_lays_72 ?_
            refine lv_iconst (v := (3 : Int32)) hx hb dX10_lays_75 (by decide) ?_
            refine lv_iload_n hx hb dX10_lays_76 rfl (lv_at hl 1 rfl) ?_
            refine lv_imul hx hb dX10_lays_77 ?_
            refine lv_topi (fun z6 ez6 => ?_)
            have r7 : rg z6 0 117 := rg_mul ez6 rl_3 r4 (by decide)
            have m8 := mul3 ez6 r4 (by decide)
            refine lv_iconst (v := (1 : Int32)) hx hb dX10_lays_78 (by decide) ?_
            refine lv_iadd hx hb dX10_lays_79 ?_
            refine lv_topi (fun z9 ez9 => ?_)
            have r10 : rg z9 1 118 := rg_add ez9 r7 rl_1 (by decide)
            have a11 : z9.toInt = z6.toInt + 1 := ai_add ez9 r7 tl_1 (by decide)
            refine t_ald C hH hI.1 mq_20 tq_20 td_50 (rg_in r10 (by decide)) dX10_lays_80 (fun z12v az12 pz12 => ?_)
            refine lv_topi (fun z12 ez12 => ?_)
            rw [arr_inj az12 ((hI.fr q_20 mq_20 (t_lim tq_20 rfl)).trans hva)] at ez12 pz12
            refine lv_istore_n (lv' := [(2, .int z12), (0, .ref q), (1, .int v60_1)]) hx hb dX10_lays_81 rfl hl (by decide) rfl (fun ls hl => ?_)
            refine lv_aload_n hx hb dX10_lays_82 rfl (lv_at hl 1 rfl) ?_
            refine t_getX C hH hI.1 mq tq td_40 iX10 rfl 20 (by decide) wd770 rfl (hI.rf kq_20) dX10_lays_83 ?_
            refine lv_iconst (v := (3 : Int32)) hx hb dX10_lays_86 (by decide) ?_
            refine lv_iload_n hx hb dX10_lays_87 rfl (lv_at hl 2 rfl) ?_
            refine lv_imul hx hb dX10_lays_88 ?_
            refine lv_topi (fun z13 ez13 => ?_)
            have r14 : rg z13 0 117 := rg_mul ez13 rl_3 r4 (by decide)
            have m15 := mul3 ez13 r4 (by decide)
            refine t_ald C hH hI.1 mq_20 tq_20 td_50 (rg_in r14 (by decide)) dX10_lays_89 (fun z16v az16 pz16 => ?_)
            refine lv_topi (fun z16 ez16 => ?_)
            rw [arr_inj az16 ((hI.fr q_20 mq_20 (t_lim tq_20 rfl)).trans hva)] at ez16 pz16
            refine lv_iconst (v := (1 : Int32)) hx hb dX10_lays_90 (by decide) ?_
            refine lv_icmp_ne (tgt := 113) hx hb dX10_lays_91 (by decide) (fun c17 => ?_) (fun c17 => ?_)
            · skip
              refine lv_aload_n hx hb dX10_lays_113 rfl (lv_at hl 1 rfl) ?_
              refine lv_aload_n hx hb dX10_lays_114 rfl (lv_at hl 1 rfl) ?_
              refine t_getX C hH hI.1 mq tq td_40 iX10 rfl 20 (by decide) wd770 rfl (hI.rf kq_20) dX10_lays_115 ?_
              refine lv_iconst (v := (3 : Int32)) hx hb dX10_lays_118 (by decide) ?_
              refine lv_iload_n hx hb dX10_lays_119 rfl (lv_at hl 2 rfl) ?_
              refine lv_imul hx hb dX10_lays_120 ?_
              refine lv_topi (fun z18 ez18 => ?_)
              have r19 : rg z18 0 117 := rg_mul ez18 rl_3 r4 (by decide)
              have m20 := mul3 ez18 r4 (by decide)
              refine lv_iconst (v := (2 : Int32)) hx hb dX10_lays_121 (by decide) ?_
              refine lv_iadd hx hb dX10_lays_122 ?_
              refine lv_topi (fun z21 ez21 => ?_)
              have r22 : rg z21 2 119 := rg_add ez21 r19 rl_2 (by decide)
              have a23 : z21.toInt = z18.toInt + 2 := ai_add ez21 r19 tl_2 (by decide)
              refine t_ald C hH hI.1 mq_20 tq_20 td_50 (rg_in r22 (by decide)) dX10_lays_123 (fun z24v az24 pz24 => ?_)
              refine lv_topi (fun z24 ez24 => ?_)
              rw [arr_inj az24 ((hI.fr q_20 mq_20 (t_lim tq_20 rfl)).trans hva)] at ez24 pz24
              refine lv_iconst (v := (1 : Int32)) hx hb dX10_lays_124 (by decide) ?_
              refine lv_icmp_ne (tgt := 139) hx hb dX10_lays_125 (by decide) (fun c25 => ?_) (fun c25 => ?_)
              · skip
                refine lv_aload_n hx hb dX10_lays_139 rfl (lv_at hl 1 rfl) ?_
                refine t_geti C hH hI.1 mq tq td_40 iX10 rfl 22 (by decide) wd771 rfl rfl dX10_lays_140 (fun z26 rz26 => ?_)
                refine lv_iconst (v := (1 : Int32)) hx hb dX10_lays_143 (by decide) ?_
                refine lv_iload_n hx hb dX10_lays_144 rfl (lv_at hl 0 rfl) ?_
                refine lv_ishl hx hb dX10_lays_145 ?_
                refine lv_topi (fun z27 ez27 => ?_)
                refine lv_iconst (v := (-1 : Int32)) hx hb dX10_lays_146 (by decide) ?_
                refine lv_ixor hx hb dX10_lays_147 ?_
                refine lv_topi (fun z28 ez28 => ?_)
                refine lv_iand hx hb dX10_lays_148 ?_
                refine lv_topi (fun z29 ez29 => ?_)
                refine t_put C hH hI mq tq (by decide) td_40 iX10 tyX10 tyX10_ok nmX10 rfl 22 (by decide) wd771 rfl rfl (v := .int z29) rfl rfl rfl ⟨_, rfl, (rg_all _)⟩ (fun _ h => nomatch h) dX10_lays_149 (fun f30 H locs hH hI nf30 of30 bf30 => ?_)
                obtain ⟨z31, ez31⟩ : ∃ y : Int32, y = v60_1 + (1 : Int32) := ⟨_, rfl⟩
                have r32 : rg z31 1 40 := rg_add ez31 r4 rl_1 (by decide)
                have a33 : z31.toInt = v60_1.toInt + 1 := ai_add ez31 r4 tl_1 (by decide)
                refine lv_iinc (v := z31) (lv' := [(1, .int z31), (2, .int z12), (0, .ref q)]) hx hb dX10_lays_152 hl (k := 2) rfl (by rw [ez31]; rfl) (by decide) rfl (fun ls hl => ?_)
                refine lv_goto (tgt := 60) hx hb dX10_lays_155 (by decide) ?_
                exact ih60 _ _ _ _ z31 (fu_s hfu60 a33 (by decide)) hI hH (rg_w r32 (by decide)) (lv_sub hl [2, 0] rfl)
              · skip
                have r34 : rg z24 1 1 := rf_eql (c_eq c25) (rg_all _) rl_1 (by decide)
                refine lv_aload_n hx hb dX10_lays_128 rfl (lv_at hl 1 rfl) ?_
                refine t_geti C hH hI.1 mq tq td_40 iX10 rfl 22 (by decide) wd771 rfl rfl dX10_lays_129 (fun z35 rz35 => ?_)
                refine lv_iconst (v := (1 : Int32)) hx hb dX10_lays_132 (by decide) ?_
                refine lv_iload_n hx hb dX10_lays_133 rfl (lv_at hl 0 rfl) ?_
                refine lv_ishl hx hb dX10_lays_134 ?_
                refine lv_topi (fun z36 ez36 => ?_)
                refine lv_ior hx hb dX10_lays_135 ?_
                refine lv_topi (fun z37 ez37 => ?_)
                refine lv_goto (tgt := 149) hx hb dX10_lays_136 (by decide) ?_
                refine t_put C hH hI mq tq (by decide) td_40 iX10 tyX10 tyX10_ok nmX10 rfl 22 (by decide) wd771 rfl rfl (v := .int z37) rfl rfl rfl ⟨_, rfl, (rg_all _)⟩ (fun _ h => nomatch h) dX10_lays_149 (fun f38 H locs hH hI nf38 of38 bf38 => ?_)
                obtain ⟨z39, ez39⟩ : ∃ y : Int32, y = v60_1 + (1 : Int32) := ⟨_, rfl⟩
                have r40 : rg z39 1 40 := rg_add ez39 r4 rl_1 (by decide)
                have a41 : z39.toInt = v60_1.toInt + 1 := ai_add ez39 r4 tl_1 (by decide)
                refine lv_iinc (v := z39) (lv' := [(1, .int z39), (2, .int z12), (0, .ref q)]) hx hb dX10_lays_152 hl (k := 2) rfl (by rw [ez39]; rfl) (by decide) rfl (fun ls hl => ?_)
                refine lv_goto (tgt := 60) hx hb dX10_lays_155 (by decide) ?_
                exact ih60 _ _ _ _ z39 (fu_s hfu60 a41 (by decide)) hI hH (rg_w r40 (by decide)) (lv_sub hl [2, 0] rfl)
            · skip
              have r42 : rg z16 1 1 := rf_eql (c_eq c17) (rg_all _) rl_1 (by decide)
              refine lv_aload_n hx hb dX10_lays_94 rfl (lv_at hl 1 rfl) ?_
              refine t_getX C hH hI.1 mq tq td_40 iX10 rfl 25 (by decide) wd772 rfl (hI.rf kq_25) dX10_lays_95 ?_
              refine lv_iload_n hx hb dX10_lays_98 rfl (lv_at hl 0 rfl) ?_
              refine lv_aload_n hx hb dX10_lays_99 rfl (lv_at hl 1 rfl) ?_
              refine t_getX C hH hI.1 mq tq td_40 iX10 rfl 20 (by decide) wd770 rfl (hI.rf kq_20) dX10_lays_100 ?_
              refine lv_iconst (v := (3 : Int32)) hx hb dX10_lays_103 (by decide) ?_
              refine lv_iload_n hx hb dX10_lays_104 rfl (lv_at hl 2 rfl) ?_
              refine lv_imul hx hb dX10_lays_105 ?_
              refine lv_topi (fun z43 ez43 => ?_)
              have r44 : rg z43 0 117 := rg_mul ez43 rl_3 r4 (by decide)
              have m45 := mul3 ez43 r4 (by decide)
              refine lv_iconst (v := (2 : Int32)) hx hb dX10_lays_106 (by decide) ?_
              refine lv_iadd hx hb dX10_lays_107 ?_
              refine lv_topi (fun z46 ez46 => ?_)
              have r47 : rg z46 2 119 := rg_add ez46 r44 rl_2 (by decide)
              have a48 : z46.toInt = z43.toInt + 2 := ai_add ez46 r44 tl_2 (by decide)
              refine t_ald C hH hI.1 mq_20 tq_20 td_50 (rg_in r47 (by decide)) dX10_lays_108 (fun z49v az49 pz49 => ?_)
              refine lv_topi (fun z49 ez49 => ?_)
              rw [arr_inj az49 ((hI.fr q_20 mq_20 (t_lim tq_20 rfl)).trans hva)] at ez49 pz49
              refine t_ast C hH hI mq_25 tq_25 (by decide) td_52 (rg_in (act_w pva (rg_w r4 (by decide)) ez13 ez6 ez9 ez16 ez12 (c_eq c17)) (by decide)) (fun _ _ _ => trivial) dX10_lays_109 (fun f50 H locs hH hI bf50 uf50 => ?_)
              refine lv_goto (tgt := 152) hx hb dX10_lays_110 (by decide) ?_
              obtain ⟨z51, ez51⟩ : ∃ y : Int32, y = v60_1 + (1 : Int32) := ⟨_, rfl⟩
              have r52 : rg z51 1 40 := rg_add ez51 r4 rl_1 (by decide)
              have a53 : z51.toInt = v60_1.toInt + 1 := ai_add ez51 r4 tl_1 (by decide)
              refine lv_iinc (v := z51) (lv' := [(1, .int z51), (2, .int z12), (0, .ref q)]) hx hb dX10_lays_152 hl (k := 2) rfl (by rw [ez51]; rfl) (by decide) rfl (fun ls hl => ?_)
              refine lv_goto (tgt := 60) hx hb dX10_lays_155 (by decide) ?_
              exact ih60 _ _ _ _ z51 (fu_s hfu60 a53 (by decide)) hI hH (rg_w r52 (by decide)) (lv_sub hl [2, 0] rfl)
      refine lv_iload_n hx hb dX10_lays_28 rfl (lv_at hl 1 rfl) ?_
      refine lv_aload_n hx hb dX10_lays_29 rfl (lv_at hl 0 rfl) ?_
      refine t_Vi C hO hl.1 hA hH hI.1 (As := []) (rest := [.int v28_1]) (t_X10_flights l E J τ L fh28 hI.1 mq tq) my_X10_flights wd752 mq tq td_40 rfl rfl rfl (Nat.le_of_ble_eq_true rfl) ⟨Nat.le_of_ble_eq_true rfl, Nat.le_of_ble_eq_true rfl⟩ ⟨rfl, rfl⟩ dX10_lays_30 (fun r55 L1 f54 H locs hp hH => ?_)
      obtain ⟨rfl, s56, h57⟩ := hp
      have hJ := hI
      have hI := hI.call s56 (by decide)
      refine lv_icmp_ge (tgt := 58) hx hb dX10_lays_33 (by decide) (fun c58 => ?_) (fun c58 => ?_)
      · skip
        refine lv_iconst (v := (0 : Int32)) hx hb dX10_lays_58 (by decide) ?_
        refine lv_istore_n (lv' := [(1, .int (0 : Int32)), (0, .ref q)]) hx hb dX10_lays_59 rfl hl (by decide) rfl (fun ls hl => ?_)
        exact cut60 41 _ _ _ _ (0 : Int32) (fu_i 41 rl_0 (by decide)) hI hH (rg_w rl_0 (by decide)) (lv_sub hl [1, 0] rfl)
      · skip
        have r59 : rg v28_1 0 3 := rf_ltl (n_le c58) r_v28_1 h57.1 (by decide)
        have r60 : rg r55 1 4 := rf_ltr (n_le c58) r_v28_1 h57.1 (by decide)
        refine lv_aload_n hx hb dX10_lays_36 rfl (lv_at hl 0 rfl) ?_
        refine t_getX C hH hI.1 mq tq td_40 iX10 rfl 25 (by decide) wd772 rfl (hI.rf kq_25) dX10_lays_37 ?_
        refine lv_iload_n hx hb dX10_lays_40 rfl (lv_at hl 1 rfl) ?_
        refine lv_aload_n hx hb dX10_lays_41 rfl (lv_at hl 0 rfl) ?_
        refine t_getX C hH hI.1 mq tq td_40 iX10 rfl 18 (by decide) wd773 rfl (hI.rf kq_18) dX10_lays_42 ?_
        refine lv_iconst (v := (3 : Int32)) hx hb dX10_lays_45 (by decide) ?_
        refine lv_iload_n hx hb dX10_lays_46 rfl (lv_at hl 1 rfl) ?_
        refine lv_imul hx hb dX10_lays_47 ?_
        refine lv_topi (fun z61 ez61 => ?_)
        have r62 : rg z61 0 9 := rg_mul ez61 rl_3 r59 (by decide)
        have m63 := mul3 ez61 r59 (by decide)
        refine lv_iconst (v := (1 : Int32)) hx hb dX10_lays_48 (by decide) ?_
        refine lv_iadd hx hb dX10_lays_49 ?_
        refine lv_topi (fun z64 ez64 => ?_)
        have r65 : rg z64 1 10 := rg_add ez64 r62 rl_1 (by decide)
        have a66 : z64.toInt = z61.toInt + 1 := ai_add ez64 r62 tl_1 (by decide)
        refine t_ald C hH hI.1 mq_18 tq_18 td_48 (rg_in r65 (by decide)) dX10_lays_50 (fun z67v az67 _ => ?_)
        refine lv_topi (fun z67 ez67 => ?_)
        refine t_ast C hH hI mq_25 tq_25 (by decide) td_52 (rg_in r59 (by decide)) (fun _ _ _ => trivial) dX10_lays_51 (fun f68 H locs hH hI bf68 uf68 => ?_)
        obtain ⟨z69, ez69⟩ : ∃ y : Int32, y = v28_1 + (1 : Int32) := ⟨_, rfl⟩
        have r70 : rg z69 1 4 := rg_add ez69 r59 rl_1 (by decide)
        have a71 : z69.toInt = v28_1.toInt + 1 := ai_add ez69 r59 tl_1 (by decide)
        refine lv_iinc (v := z69) (lv' := [(1, .int z69), (0, .ref q)]) hx hb dX10_lays_52 hl (k := 1) rfl (by rw [ez69]; rfl) (by decide) rfl (fun ls hl => ?_)
        refine lv_goto (tgt := 28) hx hb dX10_lays_55 (by decide) ?_
        exact ih28 _ _ _ _ z69 (fu_s hfu28 a71 (by decide)) hI hH (rg_w r70 (by decide)) (lv_sub hl [1, 0] rfl)
  refine lv_aload_n hx hb dX10_lays_0 rfl (lv_at hl 0 rfl) ?_
  refine lv_aload_n hx hb dX10_lays_1 rfl (lv_at hl 0 rfl) ?_
  refine t_getX C hH hI.1 mq tq td_40 iX10 rfl 17 (by decide) wd747 rfl (hI.rf kq_17) dX10_lays_2 ?_
  refine lv_bipush (v := (8 : Int32)) hx hb dX10_lays_5 (by decide) ?_
  refine t_ald C hH hI.1 mq_17 tq_17 td_47 (rg_in rl_8 (by decide)) dX10_lays_7 (fun z72v az72 pz72 => ?_)
  refine lv_topi (fun z72 ez72 => ?_)
  refine t_put C hH hI mq tq (by decide) td_40 iX10 tyX10 tyX10_ok nmX10 rfl 22 (by decide) wd771 rfl rfl (v := .int z72) rfl rfl rfl ⟨_, rfl, (rg_all _)⟩ (fun _ h => nomatch h) dX10_lays_8 (fun f73 H locs hH hI nf73 of73 bf73 => ?_)
  refine lv_aload_n hx hb dX10_lays_11 rfl (lv_at hl 0 rfl) ?_
  refine lv_aload_n hx hb dX10_lays_12 rfl (lv_at hl 0 rfl) ?_
  refine t_getX C hH hI.1 mq tq td_40 iX10 rfl 17 (by decide) wd747 rfl (hI.rf kq_17) dX10_lays_13 ?_
  refine lv_iconst (v := (2 : Int32)) hx hb dX10_lays_16 (by decide) ?_
  refine t_ald C hH hI.1 mq_17 tq_17 td_47 (rg_in rl_2 (by decide)) dX10_lays_17 (fun z74v az74 pz74 => ?_)
  refine lv_topi (fun z74 ez74 => ?_)
  refine t_put C hH hI mq tq (by decide) td_40 iX10 tyX10 tyX10_ok nmX10 rfl 23 (by decide) wd769 rfl rfl (v := .int z74) rfl rfl rfl ⟨_, rfl, (rg_all _)⟩ (fun _ h => nomatch h) dX10_lays_18 (fun f75 H locs hH hI nf75 of75 bf75 => ?_)
  refine lv_aload_n hx hb dX10_lays_21 rfl (lv_at hl 0 rfl) ?_
  refine lv_iconst (v := (0 : Int32)) hx hb dX10_lays_22 (by decide) ?_
  refine t_put C hH hI mq tq (by decide) td_40 iX10 tyX10 tyX10_ok nmX10 rfl 24 (by decide) wd774 rfl rfl (v := .int (0 : Int32)) rfl rfl rfl ⟨_, rfl, (rg_w rl_0 (by decide))⟩ (fun _ h => nomatch h) dX10_lays_23 (fun f76 H locs hH hI nf76 of76 bf76 => ?_)
  refine lv_iconst (v := (0 : Int32)) hx hb dX10_lays_26 (by decide) ?_
  refine lv_istore_n (lv' := [(1, .int (0 : Int32)), (0, .ref q)]) hx hb dX10_lays_27 rfl hl (by decide) rfl (fun ls hl => ?_)
  exact cut28 5 _ _ _ _ (0 : Int32) (fu_i 5 rl_0 (by decide)) hI hH (rg_w rl_0 (by decide)) (lv_sub hl [1, 0] rfl)
set_option maxHeartbeats 4000000 in
set_option maxRecDepth 100000 in
theorem t_X10_flies (l : Launch) (E : gE) (J : Nat → Nat) (τ : Nat → Nat) (L : List Nat) (f : gF) (hI : tI E L τ f) {q : Nat} (mq : q ∈ L) (tq : τ q = 40) (p1 : Int32) (rp1 : rg p1 0 4) (p2 : Int32) (p3 : Int32) {vh : Nat → Int32} (hh : isA E L τ f 47 45 vh) (hW : 1 ≤ (vh 0).toInt) : tMv l E J yX10_flies cX10_flies 7 (gRm (3) 0 0) [.ref q, .int p1, .int p2, .int p3] L f (tPv E L τ [53, 54, 55] f (fun f1 => True)) := by
  refine tMv.intro (by decide) (Nat.le_of_ble_eq_true rfl) ?_
  intro p e s m below meth c A ls C hr hA hO hH hl
  have C : gC E cX10_flies 7 RX10 p s m _ meth c := C
  have hl : lv_has ls 7 [(0, .ref q), (1, .int p1), (2, .int p2), (3, .int p3)] := hl
  have hx := C.1
  have hb := C.2.1
  have hI := hI.S [53, 54, 55]
  obtain ⟨q_28, mq_28, tq_28, kq_28⟩ := t_fldr hI.1 mq tq td_40 (k := 28) rfl
  obtain ⟨q_26, mq_26, tq_26, kq_26⟩ := t_fldr hI.1 mq tq td_40 (k := 26) rfl
  obtain ⟨q_27, mq_27, tq_27, kq_27⟩ := t_fldr hI.1 mq tq td_40 (k := 27) rfl
  have cut16 : ∀ (n : Nat) (fh16 : gF) (H : Heap) (locs : List Loc) (ls : Array Slot) (v16_4 : Int32) (v16_5 : Int32) (v16_6 : Int32), 41 - v16_6.toInt < (n : Int) → tS E L τ [53, 54, 55] f fh16 → gH E A L fh16 s.heap H locs → rg v16_6 0 41 → lv_has ls 7 [(0, .ref q), (1, .int p1), (2, .int p2), (3, .int p3), (4, .int v16_4), (5, .int v16_5), (6, .int v16_6)] → W p l e (gRm (3) 0 0) s m [.ref q, .int p1, .int p2, .int p3].toArray below meth c H locs 0 0 (MQ below (gQv E A (tPv E L τ [53, 54, 55] f (fun f1 => True))) [.ref q, .int p1, .int p2, .int p3].toArray s (gRm (3) 0 0).cells (gRm (3) 0 0).slots A) (F0 m 16 ls []) := by
    intro n
    induction n with
    | zero =>
      intro fh16 H locs ls v16_4 v16_5 v16_6 hfu16 hI hH r_v16_6 hl
      exact (fu_0 hfu16 r_v16_6).elim
    | succ n ih16 =>
      intro fh16 H locs ls v16_4 v16_5 v16_6 hfu16 hI hH r_v16_6 hl
      have cut91 : ∀ (fh91 : gF) (H : Heap) (locs : List Loc) (ls : Array Slot) (v91_5 : Int32), tS E L τ [53, 54, 55] f fh91 → gH E A L fh91 s.heap H locs → rg v16_6 0 40 → lv_has ls 7 [(0, .ref q), (1, .int p1), (2, .int p2), (3, .int p3), (4, .int v16_4), (5, .int v91_5), (6, .int v16_6)] → W p l e (gRm (3) 0 0) s m [.ref q, .int p1, .int p2, .int p3].toArray below meth c H locs 0 0 (MQ below (gQv E A (tPv E L τ [53, 54, 55] f (fun f1 => True))) [.ref q, .int p1, .int p2, .int p3].toArray s (gRm (3) 0 0).cells (gRm (3) 0 0).slots A) (F0 m 91 ls []) := by
        intro fh91 H locs ls v91_5 hI hH r91_v16_6 hl
        refine lv_aload_n hx hb dX10_flies_91 rfl (lv_at hl 0 rfl) ?_
        refine t_getX C hH hI.1 mq tq td_40 iX10 rfl 27 (by decide) wd775 rfl (hI.rf kq_27) dX10_flies_92 ?_
        refine lv_bipush (v := (41 : Int32)) hx hb dX10_flies_95 (by decide) ?_
        refine lv_iload_n hx hb dX10_flies_97 rfl (lv_at hl 1 rfl) ?_
        refine lv_imul hx hb dX10_flies_98 ?_
        refine lv_topi (fun z1 ez1 => ?_)
        have r2 : rg z1 0 164 := rg_mul ez1 rl_41 rp1 (by decide)
        refine lv_iload hx hb dX10_flies_99 (lv_at hl 6 rfl) ?_
        refine lv_iadd hx hb dX10_flies_101 ?_
        refine lv_topi (fun z3 ez3 => ?_)
        have r4 : rg z3 0 204 := rg_add ez3 r2 r91_v16_6 (by decide)
        refine lv_iload hx hb dX10_flies_102 (lv_at hl 5 rfl) ?_
        refine t_ast C hH hI mq_27 tq_27 (by decide) td_54 (rg_in r4 (by decide)) (fun _ _ _ => trivial) dX10_flies_104 (fun f5 H locs hH hI bf5 uf5 => ?_)
        refine lv_aload_n hx hb dX10_flies_105 rfl (lv_at hl 0 rfl) ?_
        refine lv_iload hx hb dX10_flies_106 (lv_at hl 4 rfl) ?_
        refine lv_iload hx hb dX10_flies_108 (lv_at hl 5 rfl) ?_
        refine t_Vi C hO hl.1 hA hH hI.1 (As := [.int v16_4, .int v91_5]) (rest := []) (t_X10_beside l E J τ L f5 hI.1 mq tq v16_4 v91_5 (hh.S hI rfl) hW) my_X10_beside wd779 mq tq td_40 rfl rfl rfl (Nat.le_of_ble_eq_true rfl) ⟨Nat.le_of_ble_eq_true rfl, Nat.le_of_ble_eq_true rfl⟩ ⟨rfl, rfl⟩ dX10_flies_110 (fun r7 L1 f6 H locs hp hH => ?_)
        obtain ⟨rfl, s8, h9⟩ := hp
        have hI := hI.call s8 (by decide)
        refine lv_istore (lv' := [(4, .int r7), (0, .ref q), (1, .int p1), (2, .int p2), (3, .int p3), (5, .int v91_5), (6, .int v16_6)]) hx hb dX10_flies_113 hl (by decide) rfl (fun ls hl => ?_)
        obtain ⟨z10, ez10⟩ : ∃ y : Int32, y = v16_6 + (1 : Int32) := ⟨_, rfl⟩
        have r11 : rg z10 1 41 := rg_add ez10 r91_v16_6 rl_1 (by decide)
        have a12 : z10.toInt = v16_6.toInt + 1 := ai_add ez10 r91_v16_6 tl_1 (by decide)
        refine lv_iinc (v := z10) (lv' := [(6, .int z10), (4, .int r7), (0, .ref q), (1, .int p1), (2, .int p2), (3, .int p3), (5, .int v91_5)]) hx hb dX10_flies_115 hl (k := 6) rfl (by rw [ez10]; rfl) (by decide) rfl (fun ls hl => ?_)
        refine lv_goto (tgt := 16) hx hb dX10_flies_118 (by decide) ?_
        exact ih16 _ _ _ _ r7 v91_5 z10 (fu_s hfu16 a12 (by decide)) hI hH (rg_w r11 (by decide)) (lv_sub hl [2, 3, 4, 5, 1, 6, 0] rfl)
      refine lv_iload hx hb dX10_flies_16 (lv_at hl 6 rfl) ?_
      refine lv_bipush (v := (40 : Int32)) hx hb dX10_flies_18 (by decide) ?_
      refine lv_icmp_gt (tgt := 121) hx hb dX10_flies_20 (by decide) (fun c13 => ?_) (fun c13 => ?_)
      · skip
        have r14 : rg v16_6 41 41 := rf_ltr (c_lt c13) rl_40 r_v16_6 (by decide)
        exact g_vret C hr hH (Nat.zero_le _) (Nat.zero_le _) dX10_flies_121 ⟨rfl, hI, trivial⟩
      · skip
        have r15 : rg v16_6 0 40 := rf_lel (n_lt c13) r_v16_6 rl_40 (by decide)
        refine lv_aload_n hx hb dX10_flies_23 rfl (lv_at hl 0 rfl) ?_
        refine t_getX C hH hI.1 mq tq td_40 iX10 rfl 26 (by decide) wd780 rfl (hI.rf kq_26) dX10_flies_24 ?_
        refine lv_bipush (v := (41 : Int32)) hx hb dX10_flies_27 (by decide) ?_
        refine lv_iload_n hx hb dX10_flies_29 rfl (lv_at hl 1 rfl) ?_
        refine lv_imul hx hb dX10_flies_30 ?_
        refine lv_topi (fun z16 ez16 => ?_)
        have r17 : rg z16 0 164 := rg_mul ez16 rl_41 rp1 (by decide)
        refine lv_iload hx hb dX10_flies_31 (lv_at hl 6 rfl) ?_
        refine lv_iadd hx hb dX10_flies_33 ?_
        refine lv_topi (fun z18 ez18 => ?_)
        have r19 : rg z18 0 204 := rg_add ez18 r17 r15 (by decide)
        refine lv_iload hx hb dX10_flies_34 (lv_at hl 4 rfl) ?_
        refine t_ast C hH hI mq_26 tq_26 (by decide) td_53 (rg_in r19 (by decide)) (fun _ _ _ => trivial) dX10_flies_36 (fun f20 H locs hH hI bf20 uf20 => ?_)
        refine lv_aload_n hx hb dX10_flies_37 rfl (lv_at hl 0 rfl) ?_
        refine t_getX C hH hI.1 mq tq td_40 iX10 rfl 27 (by decide) wd775 rfl (hI.rf kq_27) dX10_flies_38 ?_
        refine lv_bipush (v := (41 : Int32)) hx hb dX10_flies_41 (by decide) ?_
        refine lv_iload_n hx hb dX10_flies_43 rfl (lv_at hl 1 rfl) ?_
        refine lv_imul hx hb dX10_flies_44 ?_
        refine lv_topi (fun z21 ez21 => ?_)
        have r22 : rg z21 0 164 := rg_mul ez21 rl_41 rp1 (by decide)
        refine lv_iload hx hb dX10_flies_45 (lv_at hl 6 rfl) ?_
        refine lv_iadd hx hb dX10_flies_47 ?_
        refine lv_topi (fun z23 ez23 => ?_)
        have r24 : rg z23 0 204 := rg_add ez23 r22 r15 (by decide)
        refine lv_iconst (v := (-1 : Int32)) hx hb dX10_flies_48 (by decide) ?_
        refine t_ast C hH hI mq_27 tq_27 (by decide) td_54 (rg_in r24 (by decide)) (fun _ _ _ => trivial) dX10_flies_49 (fun f25 H locs hH hI bf25 uf25 => ?_)
        refine lv_iload hx hb dX10_flies_50 (lv_at hl 4 rfl) ?_
        refine lv_iconst (v := (-1 : Int32)) hx hb dX10_flies_52 (by decide) ?_
        refine lv_icmp_ne (tgt := 59) hx hb dX10_flies_53 (by decide) (fun c26 => ?_) (fun c26 => ?_)
        · skip
          refine lv_aload_n hx hb dX10_flies_59 rfl (lv_at hl 0 rfl) ?_
          refine t_geti C hH hI.1 mq tq td_40 iX10 rfl 22 (by decide) wd771 rfl rfl dX10_flies_60 (fun z27 rz27 => ?_)
          refine lv_iload hx hb dX10_flies_63 (lv_at hl 4 rfl) ?_
          refine t_Si C hO hl.1 hA hH (As := [.int z27, .int v16_4]) (rest := []) (t_X10_isBit l E J τ L f25 hI.1 z27 v16_4) my_X10_isBit wd783 rfl rfl (Nat.le_of_ble_eq_true rfl) ⟨Nat.le_of_ble_eq_true rfl, Nat.le_of_ble_eq_true rfl⟩ ⟨rfl, rfl⟩ dX10_flies_65 (fun r29 L1 f28 H locs hp hH => ?_)
          obtain ⟨rfl, s30, h31⟩ := hp
          have hI := hI.call s30 (by decide)
          refine lv_if_eq (tgt := 91) hx hb dX10_flies_68 (by decide) (fun c32 => ?_) (fun c32 => ?_)
          · skip
            have r33 : rg r29 0 0 := rf_eql (c_eq c32) h31 rl_0 (by decide)
            exact cut91 _ _ _ _ v16_5 hI hH r15 (lv_sub hl [0, 1, 2, 3, 4, 5, 6] rfl)
          · skip
            have r34 : rg r29 1 1 := rf_nel (n_eq c32) h31 rl_0 (by decide)
            refine lv_aload_n hx hb dX10_flies_71 rfl (lv_at hl 0 rfl) ?_
            refine lv_iload hx hb dX10_flies_72 (lv_at hl 5 rfl) ?_
            refine lv_iload hx hb dX10_flies_74 (lv_at hl 6 rfl) ?_
            refine t_Vi C hO hl.1 hA hH hI.1 (As := [.int v16_5, .int v16_6]) (rest := []) (t_X10_turned l E J τ L f28 hI.1 mq tq v16_5 v16_6) my_X10_turned wd787 mq tq td_40 rfl rfl rfl (Nat.le_of_ble_eq_true rfl) ⟨Nat.le_of_ble_eq_true rfl, Nat.le_of_ble_eq_true rfl⟩ ⟨rfl, rfl⟩ dX10_flies_76 (fun r36 L1 f35 H locs hp hH => ?_)
            obtain ⟨rfl, s37, h38⟩ := hp
            have hI := hI.call s37 (by decide)
            refine lv_istore (lv' := [(5, .int r36), (0, .ref q), (1, .int p1), (2, .int p2), (3, .int p3), (4, .int v16_4), (6, .int v16_6)]) hx hb dX10_flies_79 hl (by decide) rfl (fun ls hl => ?_)
            refine lv_aload_n hx hb dX10_flies_81 rfl (lv_at hl 1 rfl) ?_
            refine t_getX C hH hI.1 mq tq td_40 iX10 rfl 28 (by decide) wd788 rfl (hI.rf kq_28) dX10_flies_82 ?_
            refine lv_iload_n hx hb dX10_flies_85 rfl (lv_at hl 2 rfl) ?_
            refine lv_dup2_11 hx hb dX10_flies_86 rfl rfl ?_
            refine t_ald C hH hI.1 mq_28 tq_28 td_55 (rg_in rp1 (by decide)) dX10_flies_87 (fun z39v az39 _ => ?_)
            refine lv_topi (fun z39 ez39 => ?_)
            refine lv_iconst (v := (1 : Int32)) hx hb dX10_flies_88 (by decide) ?_
            refine lv_iadd hx hb dX10_flies_89 ?_
            refine lv_topi (fun z40 ez40 => ?_)
            refine t_ast C hH hI mq_28 tq_28 (by decide) td_55 (rg_in rp1 (by decide)) (fun _ _ _ => trivial) dX10_flies_90 (fun f41 H locs hH hI bf41 uf41 => ?_)
            exact cut91 _ _ _ _ r36 hI hH r15 (lv_sub hl [1, 2, 3, 4, 5, 0, 6] rfl)
        · skip
          have r42 : rg v16_4 (-1) (-1) := rf_eql (c_eq c26) (rg_all _) rl_m1 (by decide)
          refine lv_goto (tgt := 115) hx hb dX10_flies_56 (by decide) ?_
          obtain ⟨z43, ez43⟩ : ∃ y : Int32, y = v16_6 + (1 : Int32) := ⟨_, rfl⟩
          have r44 : rg z43 1 41 := rg_add ez43 r15 rl_1 (by decide)
          have a45 : z43.toInt = v16_6.toInt + 1 := ai_add ez43 r15 tl_1 (by decide)
          refine lv_iinc (v := z43) (lv' := [(6, .int z43), (0, .ref q), (1, .int p1), (2, .int p2), (3, .int p3), (4, .int v16_4), (5, .int v16_5)]) hx hb dX10_flies_115 hl (k := 6) rfl (by rw [ez43]; rfl) (by decide) rfl (fun ls hl => ?_)
          refine lv_goto (tgt := 16) hx hb dX10_flies_118 (by decide) ?_
          exact ih16 _ _ _ _ v16_4 v16_5 z43 (fu_s hfu16 a45 (by decide)) hI hH (rg_w r44 (by decide)) (lv_sub hl [1, 2, 3, 4, 5, 6, 0] rfl)
  refine lv_iload_n hx hb dX10_flies_0 rfl (lv_at hl 2 rfl) ?_
  refine lv_istore (lv' := [(4, .int p2), (0, .ref q), (1, .int p1), (2, .int p2), (3, .int p3)]) hx hb dX10_flies_1 hl (by decide) rfl (fun ls hl => ?_)
  refine lv_iload_n hx hb dX10_flies_3 rfl (lv_at hl 4 rfl) ?_
  refine lv_istore (lv' := [(5, .int p3), (4, .int p2), (0, .ref q), (1, .int p1), (2, .int p2), (3, .int p3)]) hx hb dX10_flies_4 hl (by decide) rfl (fun ls hl => ?_)
  refine lv_aload_n hx hb dX10_flies_6 rfl (lv_at hl 2 rfl) ?_
  refine t_getX C hH hI.1 mq tq td_40 iX10 rfl 28 (by decide) wd788 rfl (hI.rf kq_28) dX10_flies_7 ?_
  refine lv_iload_n hx hb dX10_flies_10 rfl (lv_at hl 3 rfl) ?_
  refine lv_iconst (v := (0 : Int32)) hx hb dX10_flies_11 (by decide) ?_
  refine t_ast C hH hI mq_28 tq_28 (by decide) td_55 (rg_in rp1 (by decide)) (fun _ _ _ => trivial) dX10_flies_12 (fun f46 H locs hH hI bf46 uf46 => ?_)
  refine lv_iconst (v := (0 : Int32)) hx hb dX10_flies_13 (by decide) ?_
  refine lv_istore (lv' := [(6, .int (0 : Int32)), (5, .int p3), (4, .int p2), (0, .ref q), (1, .int p1), (2, .int p2), (3, .int p3)]) hx hb dX10_flies_14 hl (by decide) rfl (fun ls hl => ?_)
  exact cut16 42 _ _ _ _ p2 p3 (0 : Int32) (fu_i 42 rl_0 (by decide)) hI hH (rg_w rl_0 (by decide)) (lv_sub hl [3, 4, 5, 6, 2, 1, 0] rfl)
set_option maxHeartbeats 4000000 in
set_option maxRecDepth 100000 in
theorem t_X10_isHeard (l : Launch) (E : gE) (J : Nat → Nat) (τ : Nat → Nat) (L : List Nat) (f : gF) (hI : tI E L τ f) {q : Nat} (mq : q ∈ L) (tq : τ q = 40) (p1 : Int32) (rp1 : rg p1 0 4) (p2 : Int32) (rp2 : rg p2 0 40) (p3 : Int32) {vh : Nat → Int32} (hh : isA E L τ f 47 45 vh) (hW : 1 ≤ (vh 0).toInt) : tMi l E J yX10_isHeard cX10_isHeard 4 .boolean (gRm (2) 0 0) [.ref q, .int p1, .int p2, .int p3] L f (tPi E L τ [] f (fun r f1 => rg r 0 1)) := by
  refine tMi.intro (by decide) (Nat.le_of_ble_eq_true rfl) ?_
  intro p e s m below meth c A ls C hr hA hO hH hl
  have C : gC E cX10_isHeard 4 RX10 p s m _ meth c := C
  have hl : lv_has ls 4 [(0, .ref q), (1, .int p1), (2, .int p2), (3, .int p3)] := hl
  have hx := C.1
  have hb := C.2.1
  have hI := hI.S []
  obtain ⟨q_26, mq_26, tq_26, kq_26⟩ := t_fldr hI.1 mq tq td_40 (k := 26) rfl
  obtain ⟨q_17, mq_17, tq_17, kq_17⟩ := t_fldr hI.1 mq tq td_40 (k := 17) rfl
  refine lv_aload_n hx hb dX10_isHeard_0 rfl (lv_at hl 0 rfl) ?_
  refine t_getX C hH hI.1 mq tq td_40 iX10 rfl 26 (by decide) wd780 rfl (hI.rf kq_26) dX10_isHeard_1 ?_
  refine lv_bipush (v := (41 : Int32)) hx hb dX10_isHeard_4 (by decide) ?_
  refine lv_iload_n hx hb dX10_isHeard_6 rfl (lv_at hl 1 rfl) ?_
  refine lv_imul hx hb dX10_isHeard_7 ?_
  refine lv_topi (fun z1 ez1 => ?_)
  have r2 : rg z1 0 164 := rg_mul ez1 rl_41 rp1 (by decide)
  refine lv_iload_n hx hb dX10_isHeard_8 rfl (lv_at hl 2 rfl) ?_
  refine lv_iadd hx hb dX10_isHeard_9 ?_
  refine lv_topi (fun z3 ez3 => ?_)
  have r4 : rg z3 0 204 := rg_add ez3 r2 rp2 (by decide)
  refine t_ald C hH hI.1 mq_26 tq_26 td_53 (rg_in r4 (by decide)) dX10_isHeard_10 (fun z5v az5 _ => ?_)
  refine lv_topi (fun z5 ez5 => ?_)
  refine lv_iconst (v := (-1 : Int32)) hx hb dX10_isHeard_11 (by decide) ?_
  refine lv_icmp_eq (tgt := 44) hx hb dX10_isHeard_12 (by decide) (fun c6 => ?_) (fun c6 => ?_)
  · skip
    have r7 : rg z5 (-1) (-1) := rf_eql (c_eq c6) (rg_all _) rl_m1 (by decide)
    refine lv_iconst (v := (0 : Int32)) hx hb dX10_isHeard_44 (by decide) ?_
    exact g_zret C hr (rg_z (rg_w rl_0 (by decide))) hH (Nat.zero_le _) (Nat.zero_le _) dX10_isHeard_45 ⟨rfl, hI, (rg_w rl_0 (by decide))⟩
  · skip
    refine lv_aload_n hx hb dX10_isHeard_15 rfl (lv_at hl 0 rfl) ?_
    refine lv_aload_n hx hb dX10_isHeard_16 rfl (lv_at hl 0 rfl) ?_
    refine t_getX C hH hI.1 mq tq td_40 iX10 rfl 26 (by decide) wd780 rfl (hI.rf kq_26) dX10_isHeard_17 ?_
    refine lv_bipush (v := (41 : Int32)) hx hb dX10_isHeard_20 (by decide) ?_
    refine lv_iload_n hx hb dX10_isHeard_22 rfl (lv_at hl 1 rfl) ?_
    refine lv_imul hx hb dX10_isHeard_23 ?_
    refine lv_topi (fun z8 ez8 => ?_)
    have r9 : rg z8 0 164 := rg_mul ez8 rl_41 rp1 (by decide)
    refine lv_iload_n hx hb dX10_isHeard_24 rfl (lv_at hl 2 rfl) ?_
    refine lv_iadd hx hb dX10_isHeard_25 ?_
    refine lv_topi (fun z10 ez10 => ?_)
    have r11 : rg z10 0 204 := rg_add ez10 r9 rp2 (by decide)
    refine t_ald C hH hI.1 mq_26 tq_26 td_53 (rg_in r11 (by decide)) dX10_isHeard_26 (fun z12v az12 _ => ?_)
    refine lv_topi (fun z12 ez12 => ?_)
    refine lv_iload_n hx hb dX10_isHeard_27 rfl (lv_at hl 3 rfl) ?_
    refine t_Vi C hO hl.1 hA hH hI.1 (As := [.int z12, .int p3]) (rest := []) (t_X10_far l E J τ L f hI.1 mq tq z12 p3 (hh.S hI rfl) hW) my_X10_far wd792 mq tq td_40 rfl rfl rfl (Nat.le_of_ble_eq_true rfl) ⟨Nat.le_of_ble_eq_true rfl, Nat.le_of_ble_eq_true rfl⟩ ⟨rfl, rfl⟩ dX10_isHeard_28 (fun r14 L1 f13 H locs hp hH => ?_)
    obtain ⟨rfl, s15, h16⟩ := hp
    have hI := hI.call s15 (by decide)
    refine lv_aload_n hx hb dX10_isHeard_31 rfl (lv_at hl 0 rfl) ?_
    refine t_getX C hH hI.1 mq tq td_40 iX10 rfl 17 (by decide) wd747 rfl (hI.rf kq_17) dX10_isHeard_32 ?_
    refine lv_iconst (v := (3 : Int32)) hx hb dX10_isHeard_35 (by decide) ?_
    refine t_ald C hH hI.1 mq_17 tq_17 td_47 (rg_in rl_3 (by decide)) dX10_isHeard_36 (fun z17v az17 pz17 => ?_)
    refine lv_topi (fun z17 ez17 => ?_)
    rw [arr_inj az17 ((hI.fr q_17 mq_17 (t_lim tq_17 rfl)).trans (hh q_17 mq_17 tq_17))] at ez17 pz17
    refine lv_icmp_gt (tgt := 44) hx hb dX10_isHeard_37 (by decide) (fun c18 => ?_) (fun c18 => ?_)
    · skip
      have r19 : rg z17 (-2147483648) 2147483646 := rf_ltl (c_lt c18) (rg_all _) h16 (by decide)
      have r20 : rg r14 (-2147483647) 2147483647 := rf_ltr (c_lt c18) (rg_all _) h16 (by decide)
      refine lv_iconst (v := (0 : Int32)) hx hb dX10_isHeard_44 (by decide) ?_
      exact g_zret C hr (rg_z (rg_w rl_0 (by decide))) hH (Nat.zero_le _) (Nat.zero_le _) dX10_isHeard_45 ⟨rfl, hI, (rg_w rl_0 (by decide))⟩
    · skip
      refine lv_iconst (v := (1 : Int32)) hx hb dX10_isHeard_40 (by decide) ?_
      refine lv_goto (tgt := 45) hx hb dX10_isHeard_41 (by decide) ?_
      exact g_zret C hr (rg_z (rg_w rl_1 (by decide))) hH (Nat.zero_le _) (Nat.zero_le _) dX10_isHeard_45 ⟨rfl, hI, (rg_w rl_1 (by decide))⟩
set_option maxHeartbeats 4000000 in
set_option maxRecDepth 100000 in
theorem t_X10_hearsOf (l : Launch) (E : gE) (J : Nat → Nat) (τ : Nat → Nat) (L : List Nat) (f : gF) (hI : tI E L τ f) {q : Nat} (mq : q ∈ L) (tq : τ q = 40) (p1 : Int32) (rp1 : rg p1 0 4) (p2 : Int32) {vh : Nat → Int32} (hh : isA E L τ f 47 45 vh) (hW : 1 ≤ (vh 0).toInt) : tMi l E J yX10_hearsOf cX10_hearsOf 5 .int (gRm (3) 0 0) [.ref q, .int p1, .int p2] L f (tPi E L τ [] f (fun r f1 => rg r (-2147483648) 2147483647)) := by
  refine tMi.intro (by decide) (Nat.le_of_ble_eq_true rfl) ?_
  intro p e s m below meth c A ls C hr hA hO hH hl
  have C : gC E cX10_hearsOf 5 RX10 p s m _ meth c := C
  have hl : lv_has ls 5 [(0, .ref q), (1, .int p1), (2, .int p2)] := hl
  have hx := C.1
  have hb := C.2.1
  have hI := hI.S []
  have cut5 : ∀ (n : Nat) (fh5 : gF) (H : Heap) (locs : List Loc) (ls : Array Slot) (v5_3 : Int32) (v5_4 : Int32), 41 - v5_4.toInt < (n : Int) → tS E L τ [] f fh5 → gH E A L fh5 s.heap H locs → rg v5_4 0 41 → lv_has ls 5 [(0, .ref q), (1, .int p1), (2, .int p2), (3, .int v5_3), (4, .int v5_4)] → W p l e (gRm (3) 0 0) s m [.ref q, .int p1, .int p2].toArray below meth c H locs 0 0 (MQ below (gQi E A (tPi E L τ [] f (fun r f1 => rg r (-2147483648) 2147483647))) [.ref q, .int p1, .int p2].toArray s (gRm (3) 0 0).cells (gRm (3) 0 0).slots A) (F0 m 5 ls []) := by
    intro n
    induction n with
    | zero =>
      intro fh5 H locs ls v5_3 v5_4 hfu5 hI hH r_v5_4 hl
      exact (fu_0 hfu5 r_v5_4).elim
    | succ n ih5 =>
      intro fh5 H locs ls v5_3 v5_4 hfu5 hI hH r_v5_4 hl
      refine lv_iload hx hb dX10_hearsOf_5 (lv_at hl 4 rfl) ?_
      refine lv_bipush (v := (40 : Int32)) hx hb dX10_hearsOf_7 (by decide) ?_
      refine lv_icmp_gt (tgt := 37) hx hb dX10_hearsOf_9 (by decide) (fun c1 => ?_) (fun c1 => ?_)
      · skip
        have r2 : rg v5_4 41 41 := rf_ltr (c_lt c1) rl_40 r_v5_4 (by decide)
        refine lv_iload_n hx hb dX10_hearsOf_37 rfl (lv_at hl 3 rfl) ?_
        exact g_iret C hr hH (Nat.zero_le _) (Nat.zero_le _) dX10_hearsOf_38 ⟨rfl, hI, (rg_all _)⟩
      · skip
        have r3 : rg v5_4 0 40 := rf_lel (n_lt c1) r_v5_4 rl_40 (by decide)
        refine lv_iload_n hx hb dX10_hearsOf_12 rfl (lv_at hl 3 rfl) ?_
        refine lv_aload_n hx hb dX10_hearsOf_13 rfl (lv_at hl 0 rfl) ?_
        refine lv_iload_n hx hb dX10_hearsOf_14 rfl (lv_at hl 1 rfl) ?_
        refine lv_iload hx hb dX10_hearsOf_15 (lv_at hl 4 rfl) ?_
        refine lv_iload_n hx hb dX10_hearsOf_17 rfl (lv_at hl 2 rfl) ?_
        refine t_Vi C hO hl.1 hA hH hI.1 (As := [.int p1, .int v5_4, .int p2]) (rest := [.int v5_3]) (t_X10_isHeard l E J τ L fh5 hI.1 mq tq p1 rp1 v5_4 r3 p2 (hh.S hI rfl) hW) my_X10_isHeard wd796 mq tq td_40 rfl rfl rfl (Nat.le_of_ble_eq_true rfl) ⟨Nat.le_of_ble_eq_true rfl, Nat.le_of_ble_eq_true rfl⟩ ⟨rfl, rfl⟩ dX10_hearsOf_18 (fun r5 L1 f4 H locs hp hH => ?_)
        obtain ⟨rfl, s6, h7⟩ := hp
        have hI := hI.call s6 (by decide)
        refine lv_if_eq (tgt := 28) hx hb dX10_hearsOf_21 (by decide) (fun c8 => ?_) (fun c8 => ?_)
        · skip
          have r9 : rg r5 0 0 := rf_eql (c_eq c8) h7 rl_0 (by decide)
          refine lv_iconst (v := (0 : Int32)) hx hb dX10_hearsOf_28 (by decide) ?_
          refine lv_iadd hx hb dX10_hearsOf_29 ?_
          refine lv_topi (fun z10 ez10 => ?_)
          have r11 : rg z10 (-2147483648) 2147483647 := rg_add ez10 (rg_all _) rl_0 (by decide)
          have a12 : z10.toInt = v5_3.toInt + 0 := ai_add ez10 (rg_all _) tl_0 (by decide)
          refine lv_istore_n (lv' := [(3, .int z10), (0, .ref q), (1, .int p1), (2, .int p2), (4, .int v5_4)]) hx hb dX10_hearsOf_30 rfl hl (by decide) rfl (fun ls hl => ?_)
          obtain ⟨z13, ez13⟩ : ∃ y : Int32, y = v5_4 + (1 : Int32) := ⟨_, rfl⟩
          have r14 : rg z13 1 41 := rg_add ez13 r3 rl_1 (by decide)
          have a15 : z13.toInt = v5_4.toInt + 1 := ai_add ez13 r3 tl_1 (by decide)
          refine lv_iinc (v := z13) (lv' := [(4, .int z13), (3, .int z10), (0, .ref q), (1, .int p1), (2, .int p2)]) hx hb dX10_hearsOf_31 hl (k := 4) rfl (by rw [ez13]; rfl) (by decide) rfl (fun ls hl => ?_)
          refine lv_goto (tgt := 5) hx hb dX10_hearsOf_34 (by decide) ?_
          exact ih5 _ _ _ _ z10 z13 (fu_s hfu5 a15 (by decide)) hI hH (rg_w r14 (by decide)) (lv_sub hl [2, 3, 4, 1, 0] rfl)
        · skip
          have r16 : rg r5 1 1 := rf_nel (n_eq c8) h7 rl_0 (by decide)
          refine lv_iconst (v := (1 : Int32)) hx hb dX10_hearsOf_24 (by decide) ?_
          refine lv_goto (tgt := 29) hx hb dX10_hearsOf_25 (by decide) ?_
          refine lv_iadd hx hb dX10_hearsOf_29 ?_
          refine lv_topi (fun z17 ez17 => ?_)
          refine lv_istore_n (lv' := [(3, .int z17), (0, .ref q), (1, .int p1), (2, .int p2), (4, .int v5_4)]) hx hb dX10_hearsOf_30 rfl hl (by decide) rfl (fun ls hl => ?_)
          obtain ⟨z18, ez18⟩ : ∃ y : Int32, y = v5_4 + (1 : Int32) := ⟨_, rfl⟩
          have r19 : rg z18 1 41 := rg_add ez18 r3 rl_1 (by decide)
          have a20 : z18.toInt = v5_4.toInt + 1 := ai_add ez18 r3 tl_1 (by decide)
          refine lv_iinc (v := z18) (lv' := [(4, .int z18), (3, .int z17), (0, .ref q), (1, .int p1), (2, .int p2)]) hx hb dX10_hearsOf_31 hl (k := 4) rfl (by rw [ez18]; rfl) (by decide) rfl (fun ls hl => ?_)
          refine lv_goto (tgt := 5) hx hb dX10_hearsOf_34 (by decide) ?_
          exact ih5 _ _ _ _ z17 z18 (fu_s hfu5 a20 (by decide)) hI hH (rg_w r19 (by decide)) (lv_sub hl [2, 3, 4, 1, 0] rfl)
  refine lv_iconst (v := (0 : Int32)) hx hb dX10_hearsOf_0 (by decide) ?_
  refine lv_istore_n (lv' := [(3, .int (0 : Int32)), (0, .ref q), (1, .int p1), (2, .int p2)]) hx hb dX10_hearsOf_1 rfl hl (by decide) rfl (fun ls hl => ?_)
  refine lv_iconst (v := (0 : Int32)) hx hb dX10_hearsOf_2 (by decide) ?_
  refine lv_istore (lv' := [(4, .int (0 : Int32)), (3, .int (0 : Int32)), (0, .ref q), (1, .int p1), (2, .int p2)]) hx hb dX10_hearsOf_3 hl (by decide) rfl (fun ls hl => ?_)
  exact cut5 42 _ _ _ _ (0 : Int32) (0 : Int32) (fu_i 42 rl_0 (by decide)) hI hH (rg_w rl_0 (by decide)) (lv_sub hl [2, 3, 4, 1, 0] rfl)
set_option maxHeartbeats 4000000 in
set_option maxRecDepth 100000 in
theorem t_X10_hearsAll (l : Launch) (E : gE) (J : Nat → Nat) (τ : Nat → Nat) (L : List Nat) (f : gF) (hI : tI E L τ f) {q : Nat} (mq : q ∈ L) (tq : τ q = 40) {vh : Nat → Int32} (hh : isA E L τ f 47 45 vh) (hW : 1 ≤ (vh 0).toInt) : tMv l E J yX10_hearsAll cX10_hearsAll 3 (gRm (4) 0 0) [.ref q] L f (tPv E L τ [56] f (fun f1 => True)) := by
  refine tMv.intro (by decide) (Nat.le_of_ble_eq_true rfl) ?_
  intro p e s m below meth c A ls C hr hA hO hH hl
  have C : gC E cX10_hearsAll 3 RX10 p s m _ meth c := C
  have hl : lv_has ls 3 [(0, .ref q)] := hl
  have hx := C.1
  have hb := C.2.1
  have hI := hI.S [56]
  obtain ⟨q_29, mq_29, tq_29, kq_29⟩ := t_fldr hI.1 mq tq td_40 (k := 29) rfl
  obtain ⟨q_18, mq_18, tq_18, kq_18⟩ := t_fldr hI.1 mq tq td_40 (k := 18) rfl
  have cut2 : ∀ (n : Nat) (fh2 : gF) (H : Heap) (locs : List Loc) (ls : Array Slot) (v2_1 : Int32), 20 - v2_1.toInt < (n : Int) → tS E L τ [56] f fh2 → gH E A L fh2 s.heap H locs → rg v2_1 0 20 → lv_has ls 3 [(0, .ref q), (1, .int v2_1)] → W p l e (gRm (4) 0 0) s m [.ref q].toArray below meth c H locs 0 0 (MQ below (gQv E A (tPv E L τ [56] f (fun f1 => True))) [.ref q].toArray s (gRm (4) 0 0).cells (gRm (4) 0 0).slots A) (F0 m 2 ls []) := by
    intro n
    induction n with
    | zero =>
      intro fh2 H locs ls v2_1 hfu2 hI hH r_v2_1 hl
      exact (fu_0 hfu2 r_v2_1).elim
    | succ n ih2 =>
      intro fh2 H locs ls v2_1 hfu2 hI hH r_v2_1 hl
      have cut19 : ∀ (n : Nat) (fh19 : gF) (H : Heap) (locs : List Loc) (ls : Array Slot) (v19_2 : Int32), 4 - v19_2.toInt < (n : Int) → tS E L τ [56] f fh19 → gH E A L fh19 s.heap H locs → rg v19_2 0 4 → rg v2_1 0 19 → lv_has ls 3 [(0, .ref q), (1, .int v2_1), (2, .int v19_2)] → W p l e (gRm (4) 0 0) s m [.ref q].toArray below meth c H locs 0 0 (MQ below (gQv E A (tPv E L τ [56] f (fun f1 => True))) [.ref q].toArray s (gRm (4) 0 0).cells (gRm (4) 0 0).slots A) (F0 m 19 ls []) := by
        intro n
        induction n with
        | zero =>
          intro fh19 H locs ls v19_2 hfu19 hI hH r_v19_2 r19_v2_1 hl
          exact (fu_0 hfu19 r_v19_2).elim
        | succ n ih19 =>
          intro fh19 H locs ls v19_2 hfu19 hI hH r_v19_2 r19_v2_1 hl
          refine lv_iload_n hx hb dX10_hearsAll_19 rfl (lv_at hl 2 rfl) ?_
          refine lv_aload_n hx hb dX10_hearsAll_20 rfl (lv_at hl 0 rfl) ?_
          refine t_Vi C hO hl.1 hA hH hI.1 (As := []) (rest := [.int v19_2]) (t_X10_flights l E J τ L fh19 hI.1 mq tq) my_X10_flights wd752 mq tq td_40 rfl rfl rfl (Nat.le_of_ble_eq_true rfl) ⟨Nat.le_of_ble_eq_true rfl, Nat.le_of_ble_eq_true rfl⟩ ⟨rfl, rfl⟩ dX10_hearsAll_21 (fun r2 L1 f1 H locs hp hH => ?_)
          obtain ⟨rfl, s3, h4⟩ := hp
          have hJ := hI
          have hI := hI.call s3 (by decide)
          refine lv_icmp_ge (tgt := 74) hx hb dX10_hearsAll_24 (by decide) (fun c5 => ?_) (fun c5 => ?_)
          · skip
            obtain ⟨z6, ez6⟩ : ∃ y : Int32, y = v2_1 + (1 : Int32) := ⟨_, rfl⟩
            have r7 : rg z6 1 20 := rg_add ez6 r19_v2_1 rl_1 (by decide)
            have a8 : z6.toInt = v2_1.toInt + 1 := ai_add ez6 r19_v2_1 tl_1 (by decide)
            refine lv_iinc (v := z6) (lv' := [(1, .int z6), (0, .ref q), (2, .int v19_2)]) hx hb dX10_hearsAll_74 hl (k := 1) rfl (by rw [ez6]; rfl) (by decide) rfl (fun ls hl => ?_)
            refine lv_goto (tgt := 2) hx hb dX10_hearsAll_77 (by decide) ?_
            exact ih2 _ _ _ _ z6 (fu_s hfu2 a8 (by decide)) hI hH (rg_w r7 (by decide)) (lv_sub hl [1, 0] rfl)
          · skip
            have r9 : rg v19_2 0 3 := rf_ltl (n_le c5) r_v19_2 h4.1 (by decide)
            have r10 : rg r2 1 4 := rf_ltr (n_le c5) r_v19_2 h4.1 (by decide)
            refine lv_aload_n hx hb dX10_hearsAll_27 rfl (lv_at hl 0 rfl) ?_
            refine t_getX C hH hI.1 mq tq td_40 iX10 rfl 29 (by decide) wd797 rfl (hI.rf kq_29) dX10_hearsAll_28 ?_
            refine lv_iload_n hx hb dX10_hearsAll_31 rfl (lv_at hl 1 rfl) ?_
            refine lv_dup2_11 hx hb dX10_hearsAll_32 rfl rfl ?_
            refine t_ald C hH hI.1 mq_29 tq_29 td_56 (rg_in r19_v2_1 (by decide)) dX10_hearsAll_33 (fun z11v az11 _ => ?_)
            refine lv_topi (fun z11 ez11 => ?_)
            refine lv_aload_n hx hb dX10_hearsAll_34 rfl (lv_at hl 0 rfl) ?_
            refine t_geti C hH hI.1 mq tq td_40 iX10 rfl 24 (by decide) wd774 rfl rfl dX10_hearsAll_35 (fun z12 rz12 => ?_)
            refine lv_iload_n hx hb dX10_hearsAll_38 rfl (lv_at hl 2 rfl) ?_
            refine t_Si C hO hl.1 hA hH (As := [.int z12, .int v19_2]) (rest := [.int z11, .int v2_1, .ref q_29]) (t_X10_isBit l E J τ L f1 hI.1 z12 v19_2) my_X10_isBit wd783 rfl rfl (Nat.le_of_ble_eq_true rfl) ⟨Nat.le_of_ble_eq_true rfl, Nat.le_of_ble_eq_true rfl⟩ ⟨rfl, rfl⟩ dX10_hearsAll_39 (fun r14 L1 f13 H locs hp hH => ?_)
            obtain ⟨rfl, s15, h16⟩ := hp
            have hI := hI.call s15 (by decide)
            refine lv_if_eq (tgt := 49) hx hb dX10_hearsAll_42 (by decide) (fun c17 => ?_) (fun c17 => ?_)
            · skip
              have r18 : rg r14 0 0 := rf_eql (c_eq c17) h16 rl_0 (by decide)
              refine lv_aload_n hx hb dX10_hearsAll_49 rfl (lv_at hl 0 rfl) ?_
              refine t_getX C hH hI.1 mq tq td_40 iX10 rfl 18 (by decide) wd773 rfl (hI.rf kq_18) dX10_hearsAll_50 ?_
              refine lv_iconst (v := (3 : Int32)) hx hb dX10_hearsAll_53 (by decide) ?_
              refine lv_iload_n hx hb dX10_hearsAll_54 rfl (lv_at hl 2 rfl) ?_
              refine lv_imul hx hb dX10_hearsAll_55 ?_
              refine lv_topi (fun z19 ez19 => ?_)
              have r20 : rg z19 0 9 := rg_mul ez19 rl_3 r9 (by decide)
              have m21 := mul3 ez19 r9 (by decide)
              refine lv_iconst (v := (2 : Int32)) hx hb dX10_hearsAll_56 (by decide) ?_
              refine lv_iadd hx hb dX10_hearsAll_57 ?_
              refine lv_topi (fun z22 ez22 => ?_)
              have r23 : rg z22 2 11 := rg_add ez22 r20 rl_2 (by decide)
              have a24 : z22.toInt = z19.toInt + 2 := ai_add ez22 r20 tl_2 (by decide)
              refine t_ald C hH hI.1 mq_18 tq_18 td_48 (rg_in r23 (by decide)) dX10_hearsAll_58 (fun z25v az25 _ => ?_)
              refine lv_topi (fun z25 ez25 => ?_)
              refine lv_aload_n hx hb dX10_hearsAll_59 rfl (lv_at hl 0 rfl) ?_
              refine lv_iload_n hx hb dX10_hearsAll_60 rfl (lv_at hl 2 rfl) ?_
              refine lv_iload_n hx hb dX10_hearsAll_61 rfl (lv_at hl 1 rfl) ?_
              refine t_Vi C hO hl.1 hA hH hI.1 (As := [.int v19_2, .int v2_1]) (rest := [.int z25, .int z11, .int v2_1, .ref q_29]) (t_X10_hearsOf l E J τ L f13 hI.1 mq tq v19_2 (rg_w r9 (by decide)) v2_1 (hh.S hI rfl) hW) my_X10_hearsOf wd801 mq tq td_40 rfl rfl rfl (Nat.le_of_ble_eq_true rfl) ⟨Nat.le_of_ble_eq_true rfl, Nat.le_of_ble_eq_true rfl⟩ ⟨rfl, rfl⟩ dX10_hearsAll_62 (fun r27 L1 f26 H locs hp hH => ?_)
              obtain ⟨rfl, s28, h29⟩ := hp
              have hI := hI.call s28 (by decide)
              refine lv_imul hx hb dX10_hearsAll_65 ?_
              refine lv_topi (fun z30 ez30 => ?_)
              refine lv_iadd hx hb dX10_hearsAll_66 ?_
              refine lv_topi (fun z31 ez31 => ?_)
              refine t_ast C hH hI mq_29 tq_29 (by decide) td_56 (rg_in r19_v2_1 (by decide)) (fun _ _ _ => trivial) dX10_hearsAll_67 (fun f32 H locs hH hI bf32 uf32 => ?_)
              obtain ⟨z33, ez33⟩ : ∃ y : Int32, y = v19_2 + (1 : Int32) := ⟨_, rfl⟩
              have r34 : rg z33 1 4 := rg_add ez33 r9 rl_1 (by decide)
              have a35 : z33.toInt = v19_2.toInt + 1 := ai_add ez33 r9 tl_1 (by decide)
              refine lv_iinc (v := z33) (lv' := [(2, .int z33), (0, .ref q), (1, .int v2_1)]) hx hb dX10_hearsAll_68 hl (k := 2) rfl (by rw [ez33]; rfl) (by decide) rfl (fun ls hl => ?_)
              refine lv_goto (tgt := 19) hx hb dX10_hearsAll_71 (by decide) ?_
              exact ih19 _ _ _ _ z33 (fu_s hfu19 a35 (by decide)) hI hH (rg_w r34 (by decide)) r19_v2_1 (lv_sub hl [1, 2, 0] rfl)
            · skip
              have r36 : rg r14 1 1 := rf_nel (n_eq c17) h16 rl_0 (by decide)
              refine lv_iconst (v := (0 : Int32)) hx hb dX10_hearsAll_45 (by decide) ?_
              refine lv_goto (tgt := 66) hx hb dX10_hearsAll_46 (by decide) ?_
              refine lv_iadd hx hb dX10_hearsAll_66 ?_
              refine lv_topi (fun z37 ez37 => ?_)
              have r38 : rg z37 (-2147483648) 2147483647 := rg_add ez37 (rg_all _) rl_0 (by decide)
              have a39 : z37.toInt = z11.toInt + 0 := ai_add ez37 (rg_all _) tl_0 (by decide)
              refine t_ast C hH hI mq_29 tq_29 (by decide) td_56 (rg_in r19_v2_1 (by decide)) (fun _ _ _ => trivial) dX10_hearsAll_67 (fun f40 H locs hH hI bf40 uf40 => ?_)
              obtain ⟨z41, ez41⟩ : ∃ y : Int32, y = v19_2 + (1 : Int32) := ⟨_, rfl⟩
              have r42 : rg z41 1 4 := rg_add ez41 r9 rl_1 (by decide)
              have a43 : z41.toInt = v19_2.toInt + 1 := ai_add ez41 r9 tl_1 (by decide)
              refine lv_iinc (v := z41) (lv' := [(2, .int z41), (0, .ref q), (1, .int v2_1)]) hx hb dX10_hearsAll_68 hl (k := 2) rfl (by rw [ez41]; rfl) (by decide) rfl (fun ls hl => ?_)
              refine lv_goto (tgt := 19) hx hb dX10_hearsAll_71 (by decide) ?_
              exact ih19 _ _ _ _ z41 (fu_s hfu19 a43 (by decide)) hI hH (rg_w r42 (by decide)) r19_v2_1 (lv_sub hl [1, 2, 0] rfl)
      refine lv_iload_n hx hb dX10_hearsAll_2 rfl (lv_at hl 1 rfl) ?_
      refine lv_aload_n hx hb dX10_hearsAll_3 rfl (lv_at hl 0 rfl) ?_
      refine t_Vi C hO hl.1 hA hH hI.1 (As := []) (rest := [.int v2_1]) (t_X10_cellsAll l E J τ L fh2 hI.1 mq tq) my_X10_cellsAll wd760 mq tq td_40 rfl rfl rfl (Nat.le_of_ble_eq_true rfl) ⟨Nat.le_of_ble_eq_true rfl, Nat.le_of_ble_eq_true rfl⟩ ⟨rfl, rfl⟩ dX10_hearsAll_4 (fun r45 L1 f44 H locs hp hH => ?_)
      obtain ⟨rfl, s46, h47⟩ := hp
      have hJ := hI
      have hI := hI.call s46 (by decide)
      refine lv_icmp_ge (tgt := 80) hx hb dX10_hearsAll_7 (by decide) (fun c48 => ?_) (fun c48 => ?_)
      · skip
        exact g_vret C hr hH (Nat.zero_le _) (Nat.zero_le _) dX10_hearsAll_80 ⟨rfl, hI, trivial⟩
      · skip
        have r49 : rg v2_1 0 19 := rf_ltl (n_le c48) r_v2_1 h47.1 (by decide)
        have r50 : rg r45 1 20 := rf_ltr (n_le c48) r_v2_1 h47.1 (by decide)
        refine lv_aload_n hx hb dX10_hearsAll_10 rfl (lv_at hl 0 rfl) ?_
        refine t_getX C hH hI.1 mq tq td_40 iX10 rfl 29 (by decide) wd797 rfl (hI.rf kq_29) dX10_hearsAll_11 ?_
        refine lv_iload_n hx hb dX10_hearsAll_14 rfl (lv_at hl 1 rfl) ?_
        refine lv_iconst (v := (0 : Int32)) hx hb dX10_hearsAll_15 (by decide) ?_
        refine t_ast C hH hI mq_29 tq_29 (by decide) td_56 (rg_in r49 (by decide)) (fun _ _ _ => trivial) dX10_hearsAll_16 (fun f51 H locs hH hI bf51 uf51 => ?_)
        refine lv_iconst (v := (0 : Int32)) hx hb dX10_hearsAll_17 (by decide) ?_
        refine lv_istore_n (lv' := [(2, .int (0 : Int32)), (0, .ref q), (1, .int v2_1)]) hx hb dX10_hearsAll_18 rfl hl (by decide) rfl (fun ls hl => ?_)
        exact cut19 5 _ _ _ _ (0 : Int32) (fu_i 5 rl_0 (by decide)) hI hH (rg_w rl_0 (by decide)) r49 (lv_sub hl [1, 2, 0] rfl)
  refine lv_iconst (v := (0 : Int32)) hx hb dX10_hearsAll_0 (by decide) ?_
  refine lv_istore_n (lv' := [(1, .int (0 : Int32)), (0, .ref q)]) hx hb dX10_hearsAll_1 rfl hl (by decide) rfl (fun ls hl => ?_)
  exact cut2 21 _ _ _ _ (0 : Int32) (fu_i 21 rl_0 (by decide)) hI hH (rg_w rl_0 (by decide)) (lv_sub hl [1, 0] rfl)
set_option maxHeartbeats 4000000 in
set_option maxRecDepth 100000 in
theorem t_X10_runs (l : Launch) (E : gE) (J : Nat → Nat) (τ : Nat → Nat) (L : List Nat) (f : gF) (hI : tI E L τ f) {q : Nat} (mq : q ∈ L) (tq : τ q = 40) {vh : Nat → Int32} (hh : isA E L τ f 47 45 vh) (hW : 1 ≤ (vh 0).toInt) : tMv l E J yX10_runs cX10_runs 2 (gRm (5) 0 0) [.ref q] L f (tPv E L τ [53, 54, 55, 56] f (fun f1 => True)) := by
  refine tMv.intro (by decide) (Nat.le_of_ble_eq_true rfl) ?_
  intro p e s m below meth c A ls C hr hA hO hH hl
  have C : gC E cX10_runs 2 RX10 p s m _ meth c := C
  have hl : lv_has ls 2 [(0, .ref q)] := hl
  have hx := C.1
  have hb := C.2.1
  have hI := hI.S [53, 54, 55, 56]
  obtain ⟨q_18, mq_18, tq_18, kq_18⟩ := t_fldr hI.1 mq tq td_40 (k := 18) rfl
  obtain ⟨q_25, mq_25, tq_25, kq_25⟩ := t_fldr hI.1 mq tq td_40 (k := 25) rfl
  have cut2 : ∀ (n : Nat) (fh2 : gF) (H : Heap) (locs : List Loc) (ls : Array Slot) (v2_1 : Int32), 4 - v2_1.toInt < (n : Int) → tS E L τ [53, 54, 55, 56] f fh2 → gH E A L fh2 s.heap H locs → rg v2_1 0 4 → lv_has ls 2 [(0, .ref q), (1, .int v2_1)] → W p l e (gRm (5) 0 0) s m [.ref q].toArray below meth c H locs 0 0 (MQ below (gQv E A (tPv E L τ [53, 54, 55, 56] f (fun f1 => True))) [.ref q].toArray s (gRm (5) 0 0).cells (gRm (5) 0 0).slots A) (F0 m 2 ls []) := by
    intro n
    induction n with
    | zero =>
      intro fh2 H locs ls v2_1 hfu2 hI hH r_v2_1 hl
      exact (fu_0 hfu2 r_v2_1).elim
    | succ n ih2 =>
      intro fh2 H locs ls v2_1 hfu2 hI hH r_v2_1 hl
      refine lv_iload_n hx hb dX10_runs_2 rfl (lv_at hl 1 rfl) ?_
      refine lv_aload_n hx hb dX10_runs_3 rfl (lv_at hl 0 rfl) ?_
      refine t_Vi C hO hl.1 hA hH hI.1 (As := []) (rest := [.int v2_1]) (t_X10_flights l E J τ L fh2 hI.1 mq tq) my_X10_flights wd752 mq tq td_40 rfl rfl rfl (Nat.le_of_ble_eq_true rfl) ⟨Nat.le_of_ble_eq_true rfl, Nat.le_of_ble_eq_true rfl⟩ ⟨rfl, rfl⟩ dX10_runs_4 (fun r2 L1 f1 H locs hp hH => ?_)
      obtain ⟨rfl, s3, h4⟩ := hp
      have hJ := hI
      have hI := hI.call s3 (by decide)
      refine lv_icmp_ge (tgt := 35) hx hb dX10_runs_7 (by decide) (fun c5 => ?_) (fun c5 => ?_)
      · skip
        refine lv_aload_n hx hb dX10_runs_35 rfl (lv_at hl 0 rfl) ?_
        refine t_Vv C hO hl.1 hA hH hI.1 (As := []) (rest := []) (t_X10_hearsAll l E J τ L f1 hI.1 mq tq (hh.S hI rfl) hW) my_X10_hearsAll wd805 mq tq td_40 rfl rfl rfl (Nat.le_of_ble_eq_true rfl) ⟨Nat.le_of_ble_eq_true rfl, Nat.le_of_ble_eq_true rfl⟩ ⟨rfl, rfl⟩ dX10_runs_36 (fun L1 f6 H locs hp hH => ?_)
        obtain ⟨rfl, s8, h9⟩ := hp
        have hI := hI.call s8 (by decide)
        exact g_vret C hr hH (Nat.zero_le _) (Nat.zero_le _) dX10_runs_39 ⟨rfl, hI, trivial⟩
      · skip
        have r10 : rg v2_1 0 3 := rf_ltl (n_le c5) r_v2_1 h4.1 (by decide)
        have r11 : rg r2 1 4 := rf_ltr (n_le c5) r_v2_1 h4.1 (by decide)
        refine lv_aload_n hx hb dX10_runs_10 rfl (lv_at hl 0 rfl) ?_
        refine lv_iload_n hx hb dX10_runs_11 rfl (lv_at hl 1 rfl) ?_
        refine lv_aload_n hx hb dX10_runs_12 rfl (lv_at hl 0 rfl) ?_
        refine t_getX C hH hI.1 mq tq td_40 iX10 rfl 18 (by decide) wd773 rfl (hI.rf kq_18) dX10_runs_13 ?_
        refine lv_iconst (v := (3 : Int32)) hx hb dX10_runs_16 (by decide) ?_
        refine lv_iload_n hx hb dX10_runs_17 rfl (lv_at hl 1 rfl) ?_
        refine lv_imul hx hb dX10_runs_18 ?_
        refine lv_topi (fun z12 ez12 => ?_)
        have r13 : rg z12 0 9 := rg_mul ez12 rl_3 r10 (by decide)
        have m14 := mul3 ez12 r10 (by decide)
        refine t_ald C hH hI.1 mq_18 tq_18 td_48 (rg_in r13 (by decide)) dX10_runs_19 (fun z15v az15 _ => ?_)
        refine lv_topi (fun z15 ez15 => ?_)
        refine lv_aload_n hx hb dX10_runs_20 rfl (lv_at hl 0 rfl) ?_
        refine t_getX C hH hI.1 mq tq td_40 iX10 rfl 25 (by decide) wd772 rfl (hI.rf kq_25) dX10_runs_21 ?_
        refine lv_iload_n hx hb dX10_runs_24 rfl (lv_at hl 1 rfl) ?_
        refine t_ald C hH hI.1 mq_25 tq_25 td_52 (rg_in r10 (by decide)) dX10_runs_25 (fun z16v az16 _ => ?_)
        refine lv_topi (fun z16 ez16 => ?_)
        refine t_Vv C hO hl.1 hA hH hI.1 (As := [.int v2_1, .int z15, .int z16]) (rest := []) (t_X10_flies l E J τ L f1 hI.1 mq tq v2_1 (rg_w r10 (by decide)) z15 z16 (hh.S hI rfl) hW) my_X10_flies wd809 mq tq td_40 rfl rfl rfl (Nat.le_of_ble_eq_true rfl) ⟨Nat.le_of_ble_eq_true rfl, Nat.le_of_ble_eq_true rfl⟩ ⟨rfl, rfl⟩ dX10_runs_26 (fun L1 f17 H locs hp hH => ?_)
        obtain ⟨rfl, s19, h20⟩ := hp
        have hI := hI.call s19 (by decide)
        obtain ⟨z21, ez21⟩ : ∃ y : Int32, y = v2_1 + (1 : Int32) := ⟨_, rfl⟩
        have r22 : rg z21 1 4 := rg_add ez21 r10 rl_1 (by decide)
        have a23 : z21.toInt = v2_1.toInt + 1 := ai_add ez21 r10 tl_1 (by decide)
        refine lv_iinc (v := z21) (lv' := [(1, .int z21), (0, .ref q)]) hx hb dX10_runs_29 hl (k := 1) rfl (by rw [ez21]; rfl) (by decide) rfl (fun ls hl => ?_)
        refine lv_goto (tgt := 2) hx hb dX10_runs_32 (by decide) ?_
        exact ih2 _ _ _ _ z21 (fu_s hfu2 a23 (by decide)) hI hH (rg_w r22 (by decide)) (lv_sub hl [1, 0] rfl)
  refine lv_iconst (v := (0 : Int32)) hx hb dX10_runs_0 (by decide) ?_
  refine lv_istore_n (lv' := [(1, .int (0 : Int32)), (0, .ref q)]) hx hb dX10_runs_1 rfl hl (by decide) rfl (fun ls hl => ?_)
  exact cut2 5 _ _ _ _ (0 : Int32) (fu_i 5 rl_0 (by decide)) hI hH (rg_w rl_0 (by decide)) (lv_sub hl [1, 0] rfl)
set_option maxHeartbeats 4000000 in
set_option maxRecDepth 100000 in
theorem t_X10_laysNow (l : Launch) (E : gE) (J : Nat → Nat) (τ : Nat → Nat) (L : List Nat) (f : gF) (hI : tI E L τ f) {q : Nat} (mq : q ∈ L) (tq : τ q = 40) {vh : Nat → Int32} (hh : isA E L τ f 47 45 vh) (hW : 1 ≤ (vh 0).toInt) : tMv l E J yX10_laysNow cX10_laysNow 1 (gRm (6) 0 0) [.ref q] L f (tPv E L τ [40, 52, 53, 54, 55, 56] f (fun f1 => True)) := by
  refine tMv.intro (by decide) (Nat.le_of_ble_eq_true rfl) ?_
  intro p e s m below meth c A ls C hr hA hO hH hl
  have C : gC E cX10_laysNow 1 RX10 p s m _ meth c := C
  have hl : lv_has ls 1 [(0, .ref q)] := hl
  have hx := C.1
  have hb := C.2.1
  have hI := hI.S [40, 52, 53, 54, 55, 56]
  refine lv_aload_n hx hb dX10_laysNow_0 rfl (lv_at hl 0 rfl) ?_
  refine t_Vv C hO hl.1 hA hH hI.1 (As := []) (rest := []) (t_X10_lays l E J τ L f hI.1 mq tq) my_X10_lays wd813 mq tq td_40 rfl rfl rfl (Nat.le_of_ble_eq_true rfl) ⟨Nat.le_of_ble_eq_true rfl, Nat.le_of_ble_eq_true rfl⟩ ⟨rfl, rfl⟩ dX10_laysNow_1 (fun L1 f1 H locs hp hH => ?_)
  obtain ⟨rfl, s3, h4⟩ := hp
  have hI := hI.call s3 (by decide)
  refine lv_aload_n hx hb dX10_laysNow_4 rfl (lv_at hl 0 rfl) ?_
  refine t_Vv C hO hl.1 hA hH hI.1 (As := []) (rest := []) (t_X10_runs l E J τ L f1 hI.1 mq tq (hh.S hI rfl) hW) my_X10_runs wd817 mq tq td_40 rfl rfl rfl (Nat.le_of_ble_eq_true rfl) ⟨Nat.le_of_ble_eq_true rfl, Nat.le_of_ble_eq_true rfl⟩ ⟨rfl, rfl⟩ dX10_laysNow_5 (fun L1 f5 H locs hp hH => ?_)
  obtain ⟨rfl, s7, h8⟩ := hp
  have hI := hI.call s7 (by decide)
  exact g_vret C hr hH (Nat.zero_le _) (Nat.zero_le _) dX10_laysNow_8 ⟨rfl, hI, trivial⟩
set_option maxHeartbeats 4000000 in
set_option maxRecDepth 100000 in
theorem t_X10_wantsOf (l : Launch) (E : gE) (J : Nat → Nat) (τ : Nat → Nat) (L : List Nat) (f : gF) (hI : tI E L τ f) {q : Nat} (mq : q ∈ L) (tq : τ q = 40) (p1 : Int32) (rp1 : rg p1 0 5) : tMi l E J yX10_wantsOf cX10_wantsOf 2 .int (gRm (1) 0 0) [.ref q, .int p1] L f (tPi E L τ [] f (fun r f1 => rg r 0 99)) := by
  refine tMi.intro (by decide) (Nat.le_of_ble_eq_true rfl) ?_
  intro p e s m below meth c A ls C hr hA hO hH hl
  have C : gC E cX10_wantsOf 2 RX10 p s m _ meth c := C
  have hl : lv_has ls 2 [(0, .ref q), (1, .int p1)] := hl
  have hx := C.1
  have hb := C.2.1
  have hI := hI.S []
  obtain ⟨q_19, mq_19, tq_19, kq_19⟩ := t_fldr hI.1 mq tq td_40 (k := 19) rfl
  refine lv_aload_n hx hb dX10_wantsOf_0 rfl (lv_at hl 0 rfl) ?_
  refine t_getX C hH hI.1 mq tq td_40 iX10 rfl 19 (by decide) wd818 rfl (hI.rf kq_19) dX10_wantsOf_1 ?_
  refine lv_iconst (v := (3 : Int32)) hx hb dX10_wantsOf_4 (by decide) ?_
  refine lv_iload_n hx hb dX10_wantsOf_5 rfl (lv_at hl 1 rfl) ?_
  refine lv_imul hx hb dX10_wantsOf_6 ?_
  refine lv_topi (fun z1 ez1 => ?_)
  have r2 : rg z1 0 15 := rg_mul ez1 rl_3 rp1 (by decide)
  have m3 := mul3 ez1 rp1 (by decide)
  refine lv_iconst (v := (1 : Int32)) hx hb dX10_wantsOf_7 (by decide) ?_
  refine lv_iadd hx hb dX10_wantsOf_8 ?_
  refine lv_topi (fun z4 ez4 => ?_)
  have r5 : rg z4 1 16 := rg_add ez4 r2 rl_1 (by decide)
  have a6 : z4.toInt = z1.toInt + 1 := ai_add ez4 r2 tl_1 (by decide)
  refine t_ald C hH hI.1 mq_19 tq_19 td_49 (rg_in r5 (by decide)) dX10_wantsOf_9 (fun z7v az7 pz7 => ?_)
  refine lv_topi (fun z7 ez7 => ?_)
  have r8 : rg z7 0 99 := mem_any pz7 (rg_in r5 (by decide)) ez7
  exact g_iret C hr hH (Nat.zero_le _) (Nat.zero_le _) dX10_wantsOf_10 ⟨rfl, hI, r8⟩
set_option maxHeartbeats 4000000 in
set_option maxRecDepth 100000 in
theorem t_X10_paysOf (l : Launch) (E : gE) (J : Nat → Nat) (τ : Nat → Nat) (L : List Nat) (f : gF) (hI : tI E L τ f) {q : Nat} (mq : q ∈ L) (tq : τ q = 40) (p1 : Int32) (rp1 : rg p1 0 5) : tMi l E J yX10_paysOf cX10_paysOf 2 .int (gRm (1) 0 0) [.ref q, .int p1] L f (tPi E L τ [] f (fun r f1 => rg r 0 99)) := by
  refine tMi.intro (by decide) (Nat.le_of_ble_eq_true rfl) ?_
  intro p e s m below meth c A ls C hr hA hO hH hl
  have C : gC E cX10_paysOf 2 RX10 p s m _ meth c := C
  have hl : lv_has ls 2 [(0, .ref q), (1, .int p1)] := hl
  have hx := C.1
  have hb := C.2.1
  have hI := hI.S []
  obtain ⟨q_19, mq_19, tq_19, kq_19⟩ := t_fldr hI.1 mq tq td_40 (k := 19) rfl
  refine lv_aload_n hx hb dX10_paysOf_0 rfl (lv_at hl 0 rfl) ?_
  refine t_getX C hH hI.1 mq tq td_40 iX10 rfl 19 (by decide) wd818 rfl (hI.rf kq_19) dX10_paysOf_1 ?_
  refine lv_iconst (v := (3 : Int32)) hx hb dX10_paysOf_4 (by decide) ?_
  refine lv_iload_n hx hb dX10_paysOf_5 rfl (lv_at hl 1 rfl) ?_
  refine lv_imul hx hb dX10_paysOf_6 ?_
  refine lv_topi (fun z1 ez1 => ?_)
  have r2 : rg z1 0 15 := rg_mul ez1 rl_3 rp1 (by decide)
  have m3 := mul3 ez1 rp1 (by decide)
  refine lv_iconst (v := (2 : Int32)) hx hb dX10_paysOf_7 (by decide) ?_
  refine lv_iadd hx hb dX10_paysOf_8 ?_
  refine lv_topi (fun z4 ez4 => ?_)
  have r5 : rg z4 2 17 := rg_add ez4 r2 rl_2 (by decide)
  have a6 : z4.toInt = z1.toInt + 2 := ai_add ez4 r2 tl_2 (by decide)
  refine t_ald C hH hI.1 mq_19 tq_19 td_49 (rg_in r5 (by decide)) dX10_paysOf_9 (fun z7v az7 pz7 => ?_)
  refine lv_topi (fun z7 ez7 => ?_)
  have r8 : rg z7 0 99 := mem_any pz7 (rg_in r5 (by decide)) ez7
  exact g_iret C hr hH (Nat.zero_le _) (Nat.zero_le _) dX10_paysOf_10 ⟨rfl, hI, r8⟩
set_option maxHeartbeats 4000000 in
set_option maxRecDepth 100000 in
theorem t_X10_heardOf (l : Launch) (E : gE) (J : Nat → Nat) (τ : Nat → Nat) (L : List Nat) (f : gF) (hI : tI E L τ f) {q : Nat} (mq : q ∈ L) (tq : τ q = 40) (p1 : Int32) (rp1 : rg p1 0 5) : tMi l E J yX10_heardOf cX10_heardOf 2 .int (gRm (1) 0 0) [.ref q, .int p1] L f (tPi E L τ [] f (fun r f1 => rg r (-2147483648) 2147483647)) := by
  refine tMi.intro (by decide) (Nat.le_of_ble_eq_true rfl) ?_
  intro p e s m below meth c A ls C hr hA hO hH hl
  have C : gC E cX10_heardOf 2 RX10 p s m _ meth c := C
  have hl : lv_has ls 2 [(0, .ref q), (1, .int p1)] := hl
  have hx := C.1
  have hb := C.2.1
  have hI := hI.S []
  obtain ⟨q_29, mq_29, tq_29, kq_29⟩ := t_fldr hI.1 mq tq td_40 (k := 29) rfl
  obtain ⟨q_19, mq_19, tq_19, kq_19⟩ := t_fldr hI.1 mq tq td_40 (k := 19) rfl
  refine lv_aload_n hx hb dX10_heardOf_0 rfl (lv_at hl 0 rfl) ?_
  refine t_getX C hH hI.1 mq tq td_40 iX10 rfl 29 (by decide) wd797 rfl (hI.rf kq_29) dX10_heardOf_1 ?_
  refine lv_aload_n hx hb dX10_heardOf_4 rfl (lv_at hl 0 rfl) ?_
  refine t_getX C hH hI.1 mq tq td_40 iX10 rfl 19 (by decide) wd818 rfl (hI.rf kq_19) dX10_heardOf_5 ?_
  refine lv_iconst (v := (3 : Int32)) hx hb dX10_heardOf_8 (by decide) ?_
  refine lv_iload_n hx hb dX10_heardOf_9 rfl (lv_at hl 1 rfl) ?_
  refine lv_imul hx hb dX10_heardOf_10 ?_
  refine lv_topi (fun z1 ez1 => ?_)
  have r2 : rg z1 0 15 := rg_mul ez1 rl_3 rp1 (by decide)
  have m3 := mul3 ez1 rp1 (by decide)
  refine t_ald C hH hI.1 mq_19 tq_19 td_49 (rg_in r2 (by decide)) dX10_heardOf_11 (fun z4v az4 pz4 => ?_)
  refine lv_topi (fun z4 ez4 => ?_)
  have r5 : rg z4 0 19 := mem_c pz4 (rg_in r2 (by decide)) m3 ez4
  refine t_ald C hH hI.1 mq_29 tq_29 td_56 (rg_in r5 (by decide)) dX10_heardOf_12 (fun z6v az6 _ => ?_)
  refine lv_topi (fun z6 ez6 => ?_)
  exact g_iret C hr hH (Nat.zero_le _) (Nat.zero_le _) dX10_heardOf_13 ⟨rfl, hI, (rg_all _)⟩
set_option maxHeartbeats 4000000 in
set_option maxRecDepth 100000 in
theorem t_X10_isServedIn (l : Launch) (E : gE) (J : Nat → Nat) (τ : Nat → Nat) (L : List Nat) (f : gF) (hI : tI E L τ f) {q : Nat} (mq : q ∈ L) (tq : τ q = 40) (p1 : Int32) (rp1 : rg p1 0 5) (p2 : Int32) (rp2 : rg p2 0 19) : tMi l E J yX10_isServedIn cX10_isServedIn 3 .boolean (gRm (2) 0 0) [.ref q, .int p1, .int p2] L f (tPi E L τ [] f (fun r f1 => rg r 0 1)) := by
  refine tMi.intro (by decide) (Nat.le_of_ble_eq_true rfl) ?_
  intro p e s m below meth c A ls C hr hA hO hH hl
  have C : gC E cX10_isServedIn 3 RX10 p s m _ meth c := C
  have hl : lv_has ls 3 [(0, .ref q), (1, .int p1), (2, .int p2)] := hl
  have hx := C.1
  have hb := C.2.1
  have hI := hI.S []
  obtain ⟨q_29, mq_29, tq_29, kq_29⟩ := t_fldr hI.1 mq tq td_40 (k := 29) rfl
  refine lv_aload_n hx hb dX10_isServedIn_0 rfl (lv_at hl 0 rfl) ?_
  refine lv_iload_n hx hb dX10_isServedIn_1 rfl (lv_at hl 1 rfl) ?_
  refine t_Vi C hO hl.1 hA hH hI.1 (As := [.int p1]) (rest := []) (t_X10_wantsOf l E J τ L f hI.1 mq tq p1 rp1) my_X10_wantsOf wd822 mq tq td_40 rfl rfl rfl (Nat.le_of_ble_eq_true rfl) ⟨Nat.le_of_ble_eq_true rfl, Nat.le_of_ble_eq_true rfl⟩ ⟨rfl, rfl⟩ dX10_isServedIn_2 (fun r2 L1 f1 H locs hp hH => ?_)
  obtain ⟨rfl, s3, h4⟩ := hp
  have hI := hI.call s3 (by decide)
  refine lv_if_le (tgt := 26) hx hb dX10_isServedIn_5 (by decide) (fun c5 => ?_) (fun c5 => ?_)
  · skip
    have r6 : rg r2 0 0 := rf_lel (c_le c5) h4 rl_0 (by decide)
    refine lv_iconst (v := (0 : Int32)) hx hb dX10_isServedIn_26 (by decide) ?_
    exact g_zret C hr (rg_z (rg_w rl_0 (by decide))) hH (Nat.zero_le _) (Nat.zero_le _) dX10_isServedIn_27 ⟨rfl, hI, (rg_w rl_0 (by decide))⟩
  · skip
    have r7 : rg r2 1 99 := rf_ltr (n_le c5) rl_0 h4 (by decide)
    refine lv_aload_n hx hb dX10_isServedIn_8 rfl (lv_at hl 0 rfl) ?_
    refine t_getX C hH hI.1 mq tq td_40 iX10 rfl 29 (by decide) wd797 rfl (hI.rf kq_29) dX10_isServedIn_9 ?_
    refine lv_iload_n hx hb dX10_isServedIn_12 rfl (lv_at hl 2 rfl) ?_
    refine t_ald C hH hI.1 mq_29 tq_29 td_56 (rg_in rp2 (by decide)) dX10_isServedIn_13 (fun z8v az8 _ => ?_)
    refine lv_topi (fun z8 ez8 => ?_)
    refine lv_aload_n hx hb dX10_isServedIn_14 rfl (lv_at hl 0 rfl) ?_
    refine lv_iload_n hx hb dX10_isServedIn_15 rfl (lv_at hl 1 rfl) ?_
    refine t_Vi C hO hl.1 hA hH hI.1 (As := [.int p1]) (rest := [.int z8]) (t_X10_wantsOf l E J τ L f1 hI.1 mq tq p1 rp1) my_X10_wantsOf wd822 mq tq td_40 rfl rfl rfl (Nat.le_of_ble_eq_true rfl) ⟨Nat.le_of_ble_eq_true rfl, Nat.le_of_ble_eq_true rfl⟩ ⟨rfl, rfl⟩ dX10_isServedIn_16 (fun r10 L1 f9 H locs hp hH => ?_)
    obtain ⟨rfl, s11, h12⟩ := hp
    have hI := hI.call s11 (by decide)
    refine lv_icmp_lt (tgt := 26) hx hb dX10_isServedIn_19 (by decide) (fun c13 => ?_) (fun c13 => ?_)
    · skip
      have r14 : rg z8 (-2147483648) 98 := rf_ltl (c_lt c13) (rg_all _) h12 (by decide)
      refine lv_iconst (v := (0 : Int32)) hx hb dX10_isServedIn_26 (by decide) ?_
      exact g_zret C hr (rg_z (rg_w rl_0 (by decide))) hH (Nat.zero_le _) (Nat.zero_le _) dX10_isServedIn_27 ⟨rfl, hI, (rg_w rl_0 (by decide))⟩
    · skip
      have r15 : rg z8 0 2147483647 := rf_ler (n_lt c13) h12 (rg_all _) (by decide)
      refine lv_iconst (v := (1 : Int32)) hx hb dX10_isServedIn_22 (by decide) ?_
      refine lv_goto (tgt := 27) hx hb dX10_isServedIn_23 (by decide) ?_
      exact g_zret C hr (rg_z (rg_w rl_1 (by decide))) hH (Nat.zero_le _) (Nat.zero_le _) dX10_isServedIn_27 ⟨rfl, hI, (rg_w rl_1 (by decide))⟩
set_option maxHeartbeats 4000000 in
set_option maxRecDepth 100000 in
theorem t_X10_servedNow (l : Launch) (E : gE) (J : Nat → Nat) (τ : Nat → Nat) (L : List Nat) (f : gF) (hI : tI E L τ f) {q : Nat} (mq : q ∈ L) (tq : τ q = 40) : tMi l E J yX10_servedNow cX10_servedNow 3 .int (gRm (3) 0 0) [.ref q] L f (tPi E L τ [] f (fun r f1 => rg r 0 63)) := by
  refine tMi.intro (by decide) (Nat.le_of_ble_eq_true rfl) ?_
  intro p e s m below meth c A ls C hr hA hO hH hl
  have C : gC E cX10_servedNow 3 RX10 p s m _ meth c := C
  have hl : lv_has ls 3 [(0, .ref q)] := hl
  have hx := C.1
  have hb := C.2.1
  have hI := hI.S []
  obtain ⟨q_19, mq_19, tq_19, kq_19⟩ := t_fldr hI.1 mq tq td_40 (k := 19) rfl
  have cut4 : ∀ (n : Nat) (fh4 : gF) (H : Heap) (locs : List Loc) (ls : Array Slot) (v4_1 : Int32) (v4_2 : Int32), 6 - v4_2.toInt < (n : Int) → tS E L τ [] f fh4 → gH E A L fh4 s.heap H locs → rg v4_1 0 63 → rg v4_2 0 6 → lv_has ls 3 [(0, .ref q), (1, .int v4_1), (2, .int v4_2)] → W p l e (gRm (3) 0 0) s m [.ref q].toArray below meth c H locs 0 0 (MQ below (gQi E A (tPi E L τ [] f (fun r f1 => rg r 0 63))) [.ref q].toArray s (gRm (3) 0 0).cells (gRm (3) 0 0).slots A) (F0 m 4 ls []) := by
    intro n
    induction n with
    | zero =>
      intro fh4 H locs ls v4_1 v4_2 hfu4 hI hH r_v4_1 r_v4_2 hl
      exact (fu_0 hfu4 r_v4_2).elim
    | succ n ih4 =>
      intro fh4 H locs ls v4_1 v4_2 hfu4 hI hH r_v4_1 r_v4_2 hl
      refine lv_iload_n hx hb dX10_servedNow_4 rfl (lv_at hl 2 rfl) ?_
      refine lv_aload_n hx hb dX10_servedNow_5 rfl (lv_at hl 0 rfl) ?_
      refine t_Vi C hO hl.1 hA hH hI.1 (As := []) (rest := [.int v4_2]) (t_X10_members l E J τ L fh4 hI.1 mq tq) my_X10_members wd756 mq tq td_40 rfl rfl rfl (Nat.le_of_ble_eq_true rfl) ⟨Nat.le_of_ble_eq_true rfl, Nat.le_of_ble_eq_true rfl⟩ ⟨rfl, rfl⟩ dX10_servedNow_6 (fun r2 L1 f1 H locs hp hH => ?_)
      obtain ⟨rfl, s3, h4⟩ := hp
      have hJ := hI
      have hI := hI.call s3 (by decide)
      refine lv_icmp_ge (tgt := 44) hx hb dX10_servedNow_9 (by decide) (fun c5 => ?_) (fun c5 => ?_)
      · skip
        refine lv_iload_n hx hb dX10_servedNow_44 rfl (lv_at hl 1 rfl) ?_
        exact g_iret C hr hH (Nat.zero_le _) (Nat.zero_le _) dX10_servedNow_45 ⟨rfl, hI, r_v4_1⟩
      · skip
        have r6 : rg v4_2 0 5 := rf_ltl (n_le c5) r_v4_2 h4.1 (by decide)
        have r7 : rg r2 1 6 := rf_ltr (n_le c5) r_v4_2 h4.1 (by decide)
        refine lv_iload_n hx hb dX10_servedNow_12 rfl (lv_at hl 1 rfl) ?_
        refine lv_aload_n hx hb dX10_servedNow_13 rfl (lv_at hl 0 rfl) ?_
        refine lv_iload_n hx hb dX10_servedNow_14 rfl (lv_at hl 2 rfl) ?_
        refine lv_aload_n hx hb dX10_servedNow_15 rfl (lv_at hl 0 rfl) ?_
        refine t_getX C hH hI.1 mq tq td_40 iX10 rfl 19 (by decide) wd818 rfl (hI.rf kq_19) dX10_servedNow_16 ?_
        refine lv_iconst (v := (3 : Int32)) hx hb dX10_servedNow_19 (by decide) ?_
        refine lv_iload_n hx hb dX10_servedNow_20 rfl (lv_at hl 2 rfl) ?_
        refine lv_imul hx hb dX10_servedNow_21 ?_
        refine lv_topi (fun z8 ez8 => ?_)
        have r9 : rg z8 0 15 := rg_mul ez8 rl_3 r6 (by decide)
        have m10 := mul3 ez8 r6 (by decide)
        refine t_ald C hH hI.1 mq_19 tq_19 td_49 (rg_in r9 (by decide)) dX10_servedNow_22 (fun z11v az11 pz11 => ?_)
        refine lv_topi (fun z11 ez11 => ?_)
        have r12 : rg z11 0 19 := mem_c pz11 (rg_in r9 (by decide)) m10 ez11
        refine t_Vi C hO hl.1 hA hH hI.1 (As := [.int v4_2, .int z11]) (rest := [.int v4_1]) (t_X10_isServedIn l E J τ L f1 hI.1 mq tq v4_2 r6 z11 r12) my_X10_isServedIn wd826 mq tq td_40 rfl rfl rfl (Nat.le_of_ble_eq_true rfl) ⟨Nat.le_of_ble_eq_true rfl, Nat.le_of_ble_eq_true rfl⟩ ⟨rfl, rfl⟩ dX10_servedNow_23 (fun r14 L1 f13 H locs hp hH => ?_)
        obtain ⟨rfl, s15, h16⟩ := hp
        have hI := hI.call s15 (by decide)
        refine lv_if_eq (tgt := 35) hx hb dX10_servedNow_26 (by decide) (fun c17 => ?_) (fun c17 => ?_)
        · skip
          have r18 : rg r14 0 0 := rf_eql (c_eq c17) h16 rl_0 (by decide)
          refine lv_iconst (v := (0 : Int32)) hx hb dX10_servedNow_35 (by decide) ?_
          refine lv_ior hx hb dX10_servedNow_36 ?_
          refine lv_topi (fun z19 ez19 => ?_)
          have r20 : rg z19 0 63 := rg_or 6 ez19 r_v4_1 rl_0 (by decide)
          refine lv_istore_n (lv' := [(1, .int z19), (0, .ref q), (2, .int v4_2)]) hx hb dX10_servedNow_37 rfl hl (by decide) rfl (fun ls hl => ?_)
          obtain ⟨z21, ez21⟩ : ∃ y : Int32, y = v4_2 + (1 : Int32) := ⟨_, rfl⟩
          have r22 : rg z21 1 6 := rg_add ez21 r6 rl_1 (by decide)
          have a23 : z21.toInt = v4_2.toInt + 1 := ai_add ez21 r6 tl_1 (by decide)
          refine lv_iinc (v := z21) (lv' := [(2, .int z21), (1, .int z19), (0, .ref q)]) hx hb dX10_servedNow_38 hl (k := 2) rfl (by rw [ez21]; rfl) (by decide) rfl (fun ls hl => ?_)
          refine lv_goto (tgt := 4) hx hb dX10_servedNow_41 (by decide) ?_
          exact ih4 _ _ _ _ z19 z21 (fu_s hfu4 a23 (by decide)) hI hH r20 (rg_w r22 (by decide)) (lv_sub hl [2, 1, 0] rfl)
        · skip
          have r24 : rg r14 1 1 := rf_nel (n_eq c17) h16 rl_0 (by decide)
          refine lv_iconst (v := (1 : Int32)) hx hb dX10_servedNow_29 (by decide) ?_
          refine lv_iload_n hx hb dX10_servedNow_30 rfl (lv_at hl 2 rfl) ?_
          refine lv_ishl hx hb dX10_servedNow_31 ?_
          refine lv_topi (fun z25 ez25 => ?_)
          have r26 : rg z25 1 32 := rg_shl 0 5 ez25 r6 (by decide)
          refine lv_goto (tgt := 36) hx hb dX10_servedNow_32 (by decide) ?_
          refine lv_ior hx hb dX10_servedNow_36 ?_
          refine lv_topi (fun z27 ez27 => ?_)
          have r28 : rg z27 0 63 := rg_or 6 ez27 r_v4_1 r26 (by decide)
          refine lv_istore_n (lv' := [(1, .int z27), (0, .ref q), (2, .int v4_2)]) hx hb dX10_servedNow_37 rfl hl (by decide) rfl (fun ls hl => ?_)
          obtain ⟨z29, ez29⟩ : ∃ y : Int32, y = v4_2 + (1 : Int32) := ⟨_, rfl⟩
          have r30 : rg z29 1 6 := rg_add ez29 r6 rl_1 (by decide)
          have a31 : z29.toInt = v4_2.toInt + 1 := ai_add ez29 r6 tl_1 (by decide)
          refine lv_iinc (v := z29) (lv' := [(2, .int z29), (1, .int z27), (0, .ref q)]) hx hb dX10_servedNow_38 hl (k := 2) rfl (by rw [ez29]; rfl) (by decide) rfl (fun ls hl => ?_)
          refine lv_goto (tgt := 4) hx hb dX10_servedNow_41 (by decide) ?_
          exact ih4 _ _ _ _ z27 z29 (fu_s hfu4 a31 (by decide)) hI hH r28 (rg_w r30 (by decide)) (lv_sub hl [2, 1, 0] rfl)
  refine lv_iconst (v := (0 : Int32)) hx hb dX10_servedNow_0 (by decide) ?_
  refine lv_istore_n (lv' := [(1, .int (0 : Int32)), (0, .ref q)]) hx hb dX10_servedNow_1 rfl hl (by decide) rfl (fun ls hl => ?_)
  refine lv_iconst (v := (0 : Int32)) hx hb dX10_servedNow_2 (by decide) ?_
  refine lv_istore_n (lv' := [(2, .int (0 : Int32)), (1, .int (0 : Int32)), (0, .ref q)]) hx hb dX10_servedNow_3 rfl hl (by decide) rfl (fun ls hl => ?_)
  exact cut4 7 _ _ _ _ (0 : Int32) (0 : Int32) (fu_i 7 rl_0 (by decide)) hI hH (rg_w rl_0 (by decide)) (rg_w rl_0 (by decide)) (lv_sub hl [2, 1, 0] rfl)
set_option maxHeartbeats 4000000 in
set_option maxRecDepth 100000 in
theorem t_X10_incomeNow (l : Launch) (E : gE) (J : Nat → Nat) (τ : Nat → Nat) (L : List Nat) (f : gF) (hI : tI E L τ f) {q : Nat} (mq : q ∈ L) (tq : τ q = 40) : tMi l E J yX10_incomeNow cX10_incomeNow 3 .int (gRm (3) 0 0) [.ref q] L f (tPi E L τ [] f (fun r f1 => rg r (-2147483648) 2147483647)) := by
  refine tMi.intro (by decide) (Nat.le_of_ble_eq_true rfl) ?_
  intro p e s m below meth c A ls C hr hA hO hH hl
  have C : gC E cX10_incomeNow 3 RX10 p s m _ meth c := C
  have hl : lv_has ls 3 [(0, .ref q)] := hl
  have hx := C.1
  have hb := C.2.1
  have hI := hI.S []
  obtain ⟨q_19, mq_19, tq_19, kq_19⟩ := t_fldr hI.1 mq tq td_40 (k := 19) rfl
  have cut4 : ∀ (n : Nat) (fh4 : gF) (H : Heap) (locs : List Loc) (ls : Array Slot) (v4_1 : Int32) (v4_2 : Int32), 6 - v4_2.toInt < (n : Int) → tS E L τ [] f fh4 → gH E A L fh4 s.heap H locs → rg v4_2 0 6 → lv_has ls 3 [(0, .ref q), (1, .int v4_1), (2, .int v4_2)] → W p l e (gRm (3) 0 0) s m [.ref q].toArray below meth c H locs 0 0 (MQ below (gQi E A (tPi E L τ [] f (fun r f1 => rg r (-2147483648) 2147483647))) [.ref q].toArray s (gRm (3) 0 0).cells (gRm (3) 0 0).slots A) (F0 m 4 ls []) := by
    intro n
    induction n with
    | zero =>
      intro fh4 H locs ls v4_1 v4_2 hfu4 hI hH r_v4_2 hl
      exact (fu_0 hfu4 r_v4_2).elim
    | succ n ih4 =>
      intro fh4 H locs ls v4_1 v4_2 hfu4 hI hH r_v4_2 hl
      refine lv_iload_n hx hb dX10_incomeNow_4 rfl (lv_at hl 2 rfl) ?_
      refine lv_aload_n hx hb dX10_incomeNow_5 rfl (lv_at hl 0 rfl) ?_
      refine t_Vi C hO hl.1 hA hH hI.1 (As := []) (rest := [.int v4_2]) (t_X10_members l E J τ L fh4 hI.1 mq tq) my_X10_members wd756 mq tq td_40 rfl rfl rfl (Nat.le_of_ble_eq_true rfl) ⟨Nat.le_of_ble_eq_true rfl, Nat.le_of_ble_eq_true rfl⟩ ⟨rfl, rfl⟩ dX10_incomeNow_6 (fun r2 L1 f1 H locs hp hH => ?_)
      obtain ⟨rfl, s3, h4⟩ := hp
      have hJ := hI
      have hI := hI.call s3 (by decide)
      refine lv_icmp_ge (tgt := 46) hx hb dX10_incomeNow_9 (by decide) (fun c5 => ?_) (fun c5 => ?_)
      · skip
        refine lv_iload_n hx hb dX10_incomeNow_46 rfl (lv_at hl 1 rfl) ?_
        exact g_iret C hr hH (Nat.zero_le _) (Nat.zero_le _) dX10_incomeNow_47 ⟨rfl, hI, (rg_all _)⟩
      · skip
        have r6 : rg v4_2 0 5 := rf_ltl (n_le c5) r_v4_2 h4.1 (by decide)
        have r7 : rg r2 1 6 := rf_ltr (n_le c5) r_v4_2 h4.1 (by decide)
        refine lv_iload_n hx hb dX10_incomeNow_12 rfl (lv_at hl 1 rfl) ?_
        refine lv_aload_n hx hb dX10_incomeNow_13 rfl (lv_at hl 0 rfl) ?_
        refine lv_iload_n hx hb dX10_incomeNow_14 rfl (lv_at hl 2 rfl) ?_
        refine lv_aload_n hx hb dX10_incomeNow_15 rfl (lv_at hl 0 rfl) ?_
        refine t_getX C hH hI.1 mq tq td_40 iX10 rfl 19 (by decide) wd818 rfl (hI.rf kq_19) dX10_incomeNow_16 ?_
        refine lv_iconst (v := (3 : Int32)) hx hb dX10_incomeNow_19 (by decide) ?_
        refine lv_iload_n hx hb dX10_incomeNow_20 rfl (lv_at hl 2 rfl) ?_
        refine lv_imul hx hb dX10_incomeNow_21 ?_
        refine lv_topi (fun z8 ez8 => ?_)
        have r9 : rg z8 0 15 := rg_mul ez8 rl_3 r6 (by decide)
        have m10 := mul3 ez8 r6 (by decide)
        refine t_ald C hH hI.1 mq_19 tq_19 td_49 (rg_in r9 (by decide)) dX10_incomeNow_22 (fun z11v az11 pz11 => ?_)
        refine lv_topi (fun z11 ez11 => ?_)
        have r12 : rg z11 0 19 := mem_c pz11 (rg_in r9 (by decide)) m10 ez11
        refine t_Vi C hO hl.1 hA hH hI.1 (As := [.int v4_2, .int z11]) (rest := [.int v4_1]) (t_X10_isServedIn l E J τ L f1 hI.1 mq tq v4_2 r6 z11 r12) my_X10_isServedIn wd826 mq tq td_40 rfl rfl rfl (Nat.le_of_ble_eq_true rfl) ⟨Nat.le_of_ble_eq_true rfl, Nat.le_of_ble_eq_true rfl⟩ ⟨rfl, rfl⟩ dX10_incomeNow_23 (fun r14 L1 f13 H locs hp hH => ?_)
        obtain ⟨rfl, s15, h16⟩ := hp
        have hI := hI.call s15 (by decide)
        refine lv_if_eq (tgt := 37) hx hb dX10_incomeNow_26 (by decide) (fun c17 => ?_) (fun c17 => ?_)
        · skip
          have r18 : rg r14 0 0 := rf_eql (c_eq c17) h16 rl_0 (by decide)
          refine lv_iconst (v := (0 : Int32)) hx hb dX10_incomeNow_37 (by decide) ?_
          refine lv_iadd hx hb dX10_incomeNow_38 ?_
          refine lv_topi (fun z19 ez19 => ?_)
          have r20 : rg z19 (-2147483648) 2147483647 := rg_add ez19 (rg_all _) rl_0 (by decide)
          have a21 : z19.toInt = v4_1.toInt + 0 := ai_add ez19 (rg_all _) tl_0 (by decide)
          refine lv_istore_n (lv' := [(1, .int z19), (0, .ref q), (2, .int v4_2)]) hx hb dX10_incomeNow_39 rfl hl (by decide) rfl (fun ls hl => ?_)
          obtain ⟨z22, ez22⟩ : ∃ y : Int32, y = v4_2 + (1 : Int32) := ⟨_, rfl⟩
          have r23 : rg z22 1 6 := rg_add ez22 r6 rl_1 (by decide)
          have a24 : z22.toInt = v4_2.toInt + 1 := ai_add ez22 r6 tl_1 (by decide)
          refine lv_iinc (v := z22) (lv' := [(2, .int z22), (1, .int z19), (0, .ref q)]) hx hb dX10_incomeNow_40 hl (k := 2) rfl (by rw [ez22]; rfl) (by decide) rfl (fun ls hl => ?_)
          refine lv_goto (tgt := 4) hx hb dX10_incomeNow_43 (by decide) ?_
          exact ih4 _ _ _ _ z19 z22 (fu_s hfu4 a24 (by decide)) hI hH (rg_w r23 (by decide)) (lv_sub hl [2, 1, 0] rfl)
        · skip
          have r25 : rg r14 1 1 := rf_nel (n_eq c17) h16 rl_0 (by decide)
          refine lv_aload_n hx hb dX10_incomeNow_29 rfl (lv_at hl 0 rfl) ?_
          refine lv_iload_n hx hb dX10_incomeNow_30 rfl (lv_at hl 2 rfl) ?_
          refine t_Vi C hO hl.1 hA hH hI.1 (As := [.int v4_2]) (rest := [.int v4_1]) (t_X10_paysOf l E J τ L f13 hI.1 mq tq v4_2 r6) my_X10_paysOf wd830 mq tq td_40 rfl rfl rfl (Nat.le_of_ble_eq_true rfl) ⟨Nat.le_of_ble_eq_true rfl, Nat.le_of_ble_eq_true rfl⟩ ⟨rfl, rfl⟩ dX10_incomeNow_31 (fun r27 L1 f26 H locs hp hH => ?_)
          obtain ⟨rfl, s28, h29⟩ := hp
          have hI := hI.call s28 (by decide)
          refine lv_goto (tgt := 38) hx hb dX10_incomeNow_34 (by decide) ?_
          refine lv_iadd hx hb dX10_incomeNow_38 ?_
          refine lv_topi (fun z30 ez30 => ?_)
          refine lv_istore_n (lv' := [(1, .int z30), (0, .ref q), (2, .int v4_2)]) hx hb dX10_incomeNow_39 rfl hl (by decide) rfl (fun ls hl => ?_)
          obtain ⟨z31, ez31⟩ : ∃ y : Int32, y = v4_2 + (1 : Int32) := ⟨_, rfl⟩
          have r32 : rg z31 1 6 := rg_add ez31 r6 rl_1 (by decide)
          have a33 : z31.toInt = v4_2.toInt + 1 := ai_add ez31 r6 tl_1 (by decide)
          refine lv_iinc (v := z31) (lv' := [(2, .int z31), (1, .int z30), (0, .ref q)]) hx hb dX10_incomeNow_40 hl (k := 2) rfl (by rw [ez31]; rfl) (by decide) rfl (fun ls hl => ?_)
          refine lv_goto (tgt := 4) hx hb dX10_incomeNow_43 (by decide) ?_
          exact ih4 _ _ _ _ z30 z31 (fu_s hfu4 a33 (by decide)) hI hH (rg_w r32 (by decide)) (lv_sub hl [2, 1, 0] rfl)
  refine lv_iconst (v := (0 : Int32)) hx hb dX10_incomeNow_0 (by decide) ?_
  refine lv_istore_n (lv' := [(1, .int (0 : Int32)), (0, .ref q)]) hx hb dX10_incomeNow_1 rfl hl (by decide) rfl (fun ls hl => ?_)
  refine lv_iconst (v := (0 : Int32)) hx hb dX10_incomeNow_2 (by decide) ?_
  refine lv_istore_n (lv' := [(2, .int (0 : Int32)), (1, .int (0 : Int32)), (0, .ref q)]) hx hb dX10_incomeNow_3 rfl hl (by decide) rfl (fun ls hl => ?_)
  exact cut4 7 _ _ _ _ (0 : Int32) (0 : Int32) (fu_i 7 rl_0 (by decide)) hI hH (rg_w rl_0 (by decide)) (lv_sub hl [2, 1, 0] rfl)
set_option maxHeartbeats 4000000 in
set_option maxRecDepth 100000 in
theorem t_X10_outOf (l : Launch) (E : gE) (J : Nat → Nat) (τ : Nat → Nat) (L : List Nat) (f : gF) (hI : tI E L τ f) {q : Nat} (mq : q ∈ L) (tq : τ q = 40) (p1 : Int32) (rp1 : rg p1 0 3) : tMi l E J yX10_outOf cX10_outOf 3 .int (gRm (1) 0 0) [.ref q, .int p1] L f (tPi E L τ [] f (fun r f1 => rg r (-1) 40)) := by
  refine tMi.intro (by decide) (Nat.le_of_ble_eq_true rfl) ?_
  intro p e s m below meth c A ls C hr hA hO hH hl
  have C : gC E cX10_outOf 3 RX10 p s m _ meth c := C
  have hl : lv_has ls 3 [(0, .ref q), (1, .int p1)] := hl
  have hx := C.1
  have hb := C.2.1
  have hI := hI.S []
  obtain ⟨q_26, mq_26, tq_26, kq_26⟩ := t_fldr hI.1 mq tq td_40 (k := 26) rfl
  have cut2 : ∀ (n : Nat) (fh2 : gF) (H : Heap) (locs : List Loc) (ls : Array Slot) (v2_2 : Int32), 41 - v2_2.toInt < (n : Int) → tS E L τ [] f fh2 → gH E A L fh2 s.heap H locs → rg v2_2 0 41 → lv_has ls 3 [(0, .ref q), (1, .int p1), (2, .int v2_2)] → W p l e (gRm (1) 0 0) s m [.ref q, .int p1].toArray below meth c H locs 0 0 (MQ below (gQi E A (tPi E L τ [] f (fun r f1 => rg r (-1) 40))) [.ref q, .int p1].toArray s (gRm (1) 0 0).cells (gRm (1) 0 0).slots A) (F0 m 2 ls []) := by
    intro n
    induction n with
    | zero =>
      intro fh2 H locs ls v2_2 hfu2 hI hH r_v2_2 hl
      exact (fu_0 hfu2 r_v2_2).elim
    | succ n ih2 =>
      intro fh2 H locs ls v2_2 hfu2 hI hH r_v2_2 hl
      refine lv_iload_n hx hb dX10_outOf_2 rfl (lv_at hl 2 rfl) ?_
      refine lv_bipush (v := (40 : Int32)) hx hb dX10_outOf_3 (by decide) ?_
      refine lv_icmp_gt (tgt := 31) hx hb dX10_outOf_5 (by decide) (fun c1 => ?_) (fun c1 => ?_)
      · skip
        have r2 : rg v2_2 41 41 := rf_ltr (c_lt c1) rl_40 r_v2_2 (by decide)
        refine lv_iconst (v := (-1 : Int32)) hx hb dX10_outOf_31 (by decide) ?_
        exact g_iret C hr hH (Nat.zero_le _) (Nat.zero_le _) dX10_outOf_32 ⟨rfl, hI, (rg_w rl_m1 (by decide))⟩
      · skip
        have r3 : rg v2_2 0 40 := rf_lel (n_lt c1) r_v2_2 rl_40 (by decide)
        refine lv_aload_n hx hb dX10_outOf_8 rfl (lv_at hl 0 rfl) ?_
        refine t_getX C hH hI.1 mq tq td_40 iX10 rfl 26 (by decide) wd780 rfl (hI.rf kq_26) dX10_outOf_9 ?_
        refine lv_bipush (v := (41 : Int32)) hx hb dX10_outOf_12 (by decide) ?_
        refine lv_iload_n hx hb dX10_outOf_14 rfl (lv_at hl 1 rfl) ?_
        refine lv_imul hx hb dX10_outOf_15 ?_
        refine lv_topi (fun z4 ez4 => ?_)
        have r5 : rg z4 0 123 := rg_mul ez4 rl_41 rp1 (by decide)
        refine lv_iload_n hx hb dX10_outOf_16 rfl (lv_at hl 2 rfl) ?_
        refine lv_iadd hx hb dX10_outOf_17 ?_
        refine lv_topi (fun z6 ez6 => ?_)
        have r7 : rg z6 0 163 := rg_add ez6 r5 r3 (by decide)
        refine t_ald C hH hI.1 mq_26 tq_26 td_53 (rg_in r7 (by decide)) dX10_outOf_18 (fun z8v az8 _ => ?_)
        refine lv_topi (fun z8 ez8 => ?_)
        refine lv_iconst (v := (-1 : Int32)) hx hb dX10_outOf_19 (by decide) ?_
        refine lv_icmp_ne (tgt := 25) hx hb dX10_outOf_20 (by decide) (fun c9 => ?_) (fun c9 => ?_)
        · skip
          obtain ⟨z10, ez10⟩ : ∃ y : Int32, y = v2_2 + (1 : Int32) := ⟨_, rfl⟩
          have r11 : rg z10 1 41 := rg_add ez10 r3 rl_1 (by decide)
          have a12 : z10.toInt = v2_2.toInt + 1 := ai_add ez10 r3 tl_1 (by decide)
          refine lv_iinc (v := z10) (lv' := [(2, .int z10), (0, .ref q), (1, .int p1)]) hx hb dX10_outOf_25 hl (k := 2) rfl (by rw [ez10]; rfl) (by decide) rfl (fun ls hl => ?_)
          refine lv_goto (tgt := 2) hx hb dX10_outOf_28 (by decide) ?_
          exact ih2 _ _ _ _ z10 (fu_s hfu2 a12 (by decide)) hI hH (rg_w r11 (by decide)) (lv_sub hl [1, 2, 0] rfl)
        · skip
          have r13 : rg z8 (-1) (-1) := rf_eql (c_eq c9) (rg_all _) rl_m1 (by decide)
          refine lv_iload_n hx hb dX10_outOf_23 rfl (lv_at hl 2 rfl) ?_
          exact g_iret C hr hH (Nat.zero_le _) (Nat.zero_le _) dX10_outOf_24 ⟨rfl, hI, (rg_w r3 (by decide))⟩
  refine lv_iconst (v := (0 : Int32)) hx hb dX10_outOf_0 (by decide) ?_
  refine lv_istore_n (lv' := [(2, .int (0 : Int32)), (0, .ref q), (1, .int p1)]) hx hb dX10_outOf_1 rfl hl (by decide) rfl (fun ls hl => ?_)
  exact cut2 42 _ _ _ _ (0 : Int32) (fu_i 42 rl_0 (by decide)) hI hH (rg_w rl_0 (by decide)) (lv_sub hl [1, 2, 0] rfl)
set_option maxHeartbeats 4000000 in
set_option maxRecDepth 100000 in
theorem t_X10_wayOf (l : Launch) (E : gE) (J : Nat → Nat) (τ : Nat → Nat) (L : List Nat) (f : gF) (hI : tI E L τ f) {q : Nat} (mq : q ∈ L) (tq : τ q = 40) (p1 : Int32) (rp1 : rg p1 0 3) : tMi l E J yX10_wayOf cX10_wayOf 4 .int (gRm (1) 0 0) [.ref q, .int p1] L f (tPi E L τ [] f (fun r f1 => rg r (-2147483648) 2147483647)) := by
  refine tMi.intro (by decide) (Nat.le_of_ble_eq_true rfl) ?_
  intro p e s m below meth c A ls C hr hA hO hH hl
  have C : gC E cX10_wayOf 4 RX10 p s m _ meth c := C
  have hl : lv_has ls 4 [(0, .ref q), (1, .int p1)] := hl
  have hx := C.1
  have hb := C.2.1
  have hI := hI.S []
  obtain ⟨q_26, mq_26, tq_26, kq_26⟩ := t_fldr hI.1 mq tq td_40 (k := 26) rfl
  have cut4 : ∀ (n : Nat) (fh4 : gF) (H : Heap) (locs : List Loc) (ls : Array Slot) (v4_2 : Int32) (v4_3 : Int32), 41 - v4_3.toInt < (n : Int) → tS E L τ [] f fh4 → gH E A L fh4 s.heap H locs → rg v4_3 0 41 → lv_has ls 4 [(0, .ref q), (1, .int p1), (2, .int v4_2), (3, .int v4_3)] → W p l e (gRm (1) 0 0) s m [.ref q, .int p1].toArray below meth c H locs 0 0 (MQ below (gQi E A (tPi E L τ [] f (fun r f1 => rg r (-2147483648) 2147483647))) [.ref q, .int p1].toArray s (gRm (1) 0 0).cells (gRm (1) 0 0).slots A) (F0 m 4 ls []) := by
    intro n
    induction n with
    | zero =>
      intro fh4 H locs ls v4_2 v4_3 hfu4 hI hH r_v4_3 hl
      exact (fu_0 hfu4 r_v4_3).elim
    | succ n ih4 =>
      intro fh4 H locs ls v4_2 v4_3 hfu4 hI hH r_v4_3 hl
      refine lv_iload_n hx hb dX10_wayOf_4 rfl (lv_at hl 3 rfl) ?_
      refine lv_bipush (v := (40 : Int32)) hx hb dX10_wayOf_5 (by decide) ?_
      refine lv_icmp_gt (tgt := 51) hx hb dX10_wayOf_7 (by decide) (fun c1 => ?_) (fun c1 => ?_)
      · skip
        have r2 : rg v4_3 41 41 := rf_ltr (c_lt c1) rl_40 r_v4_3 (by decide)
        refine lv_iload_n hx hb dX10_wayOf_51 rfl (lv_at hl 2 rfl) ?_
        exact g_iret C hr hH (Nat.zero_le _) (Nat.zero_le _) dX10_wayOf_52 ⟨rfl, hI, (rg_all _)⟩
      · skip
        have r3 : rg v4_3 0 40 := rf_lel (n_lt c1) r_v4_3 rl_40 (by decide)
        refine lv_iload_n hx hb dX10_wayOf_10 rfl (lv_at hl 2 rfl) ?_
        refine lv_aload_n hx hb dX10_wayOf_11 rfl (lv_at hl 0 rfl) ?_
        refine t_getX C hH hI.1 mq tq td_40 iX10 rfl 26 (by decide) wd780 rfl (hI.rf kq_26) dX10_wayOf_12 ?_
        refine lv_bipush (v := (41 : Int32)) hx hb dX10_wayOf_15 (by decide) ?_
        refine lv_iload_n hx hb dX10_wayOf_17 rfl (lv_at hl 1 rfl) ?_
        refine lv_imul hx hb dX10_wayOf_18 ?_
        refine lv_topi (fun z4 ez4 => ?_)
        have r5 : rg z4 0 123 := rg_mul ez4 rl_41 rp1 (by decide)
        refine lv_iload_n hx hb dX10_wayOf_19 rfl (lv_at hl 3 rfl) ?_
        refine lv_iadd hx hb dX10_wayOf_20 ?_
        refine lv_topi (fun z6 ez6 => ?_)
        have r7 : rg z6 0 163 := rg_add ez6 r5 r3 (by decide)
        refine t_ald C hH hI.1 mq_26 tq_26 td_53 (rg_in r7 (by decide)) dX10_wayOf_21 (fun z8v az8 _ => ?_)
        refine lv_topi (fun z8 ez8 => ?_)
        refine lv_iconst (v := (-1 : Int32)) hx hb dX10_wayOf_22 (by decide) ?_
        refine lv_icmp_ne (tgt := 30) hx hb dX10_wayOf_23 (by decide) (fun c9 => ?_) (fun c9 => ?_)
        · skip
          refine lv_iconst (v := (1 : Int32)) hx hb dX10_wayOf_30 (by decide) ?_
          refine lv_aload_n hx hb dX10_wayOf_31 rfl (lv_at hl 0 rfl) ?_
          refine t_getX C hH hI.1 mq tq td_40 iX10 rfl 26 (by decide) wd780 rfl (hI.rf kq_26) dX10_wayOf_32 ?_
          refine lv_bipush (v := (41 : Int32)) hx hb dX10_wayOf_35 (by decide) ?_
          refine lv_iload_n hx hb dX10_wayOf_37 rfl (lv_at hl 1 rfl) ?_
          refine lv_imul hx hb dX10_wayOf_38 ?_
          refine lv_topi (fun z10 ez10 => ?_)
          have r11 : rg z10 0 123 := rg_mul ez10 rl_41 rp1 (by decide)
          refine lv_iload_n hx hb dX10_wayOf_39 rfl (lv_at hl 3 rfl) ?_
          refine lv_iadd hx hb dX10_wayOf_40 ?_
          refine lv_topi (fun z12 ez12 => ?_)
          have r13 : rg z12 0 163 := rg_add ez12 r11 r3 (by decide)
          refine t_ald C hH hI.1 mq_26 tq_26 td_53 (rg_in r13 (by decide)) dX10_wayOf_41 (fun z14v az14 _ => ?_)
          refine lv_topi (fun z14 ez14 => ?_)
          refine lv_ishl hx hb dX10_wayOf_42 ?_
          refine lv_topi (fun z15 ez15 => ?_)
          refine lv_ior hx hb dX10_wayOf_43 ?_
          refine lv_topi (fun z16 ez16 => ?_)
          refine lv_istore_n (lv' := [(2, .int z16), (0, .ref q), (1, .int p1), (3, .int v4_3)]) hx hb dX10_wayOf_44 rfl hl (by decide) rfl (fun ls hl => ?_)
          obtain ⟨z17, ez17⟩ : ∃ y : Int32, y = v4_3 + (1 : Int32) := ⟨_, rfl⟩
          have r18 : rg z17 1 41 := rg_add ez17 r3 rl_1 (by decide)
          have a19 : z17.toInt = v4_3.toInt + 1 := ai_add ez17 r3 tl_1 (by decide)
          refine lv_iinc (v := z17) (lv' := [(3, .int z17), (2, .int z16), (0, .ref q), (1, .int p1)]) hx hb dX10_wayOf_45 hl (k := 3) rfl (by rw [ez17]; rfl) (by decide) rfl (fun ls hl => ?_)
          refine lv_goto (tgt := 4) hx hb dX10_wayOf_48 (by decide) ?_
          exact ih4 _ _ _ _ z16 z17 (fu_s hfu4 a19 (by decide)) hI hH (rg_w r18 (by decide)) (lv_sub hl [2, 3, 1, 0] rfl)
        · skip
          have r20 : rg z8 (-1) (-1) := rf_eql (c_eq c9) (rg_all _) rl_m1 (by decide)
          refine lv_iconst (v := (0 : Int32)) hx hb dX10_wayOf_26 (by decide) ?_
          refine lv_goto (tgt := 43) hx hb dX10_wayOf_27 (by decide) ?_
          refine lv_ior hx hb dX10_wayOf_43 ?_
          refine lv_topi (fun z21 ez21 => ?_)
          refine lv_istore_n (lv' := [(2, .int z21), (0, .ref q), (1, .int p1), (3, .int v4_3)]) hx hb dX10_wayOf_44 rfl hl (by decide) rfl (fun ls hl => ?_)
          obtain ⟨z22, ez22⟩ : ∃ y : Int32, y = v4_3 + (1 : Int32) := ⟨_, rfl⟩
          have r23 : rg z22 1 41 := rg_add ez22 r3 rl_1 (by decide)
          have a24 : z22.toInt = v4_3.toInt + 1 := ai_add ez22 r3 tl_1 (by decide)
          refine lv_iinc (v := z22) (lv' := [(3, .int z22), (2, .int z21), (0, .ref q), (1, .int p1)]) hx hb dX10_wayOf_45 hl (k := 3) rfl (by rw [ez22]; rfl) (by decide) rfl (fun ls hl => ?_)
          refine lv_goto (tgt := 4) hx hb dX10_wayOf_48 (by decide) ?_
          exact ih4 _ _ _ _ z21 z22 (fu_s hfu4 a24 (by decide)) hI hH (rg_w r23 (by decide)) (lv_sub hl [2, 3, 1, 0] rfl)
  refine lv_iconst (v := (0 : Int32)) hx hb dX10_wayOf_0 (by decide) ?_
  refine lv_istore_n (lv' := [(2, .int (0 : Int32)), (0, .ref q), (1, .int p1)]) hx hb dX10_wayOf_1 rfl hl (by decide) rfl (fun ls hl => ?_)
  refine lv_iconst (v := (0 : Int32)) hx hb dX10_wayOf_2 (by decide) ?_
  refine lv_istore_n (lv' := [(3, .int (0 : Int32)), (2, .int (0 : Int32)), (0, .ref q), (1, .int p1)]) hx hb dX10_wayOf_3 rfl hl (by decide) rfl (fun ls hl => ?_)
  exact cut4 42 _ _ _ _ (0 : Int32) (0 : Int32) (fu_i 42 rl_0 (by decide)) hI hH (rg_w rl_0 (by decide)) (lv_sub hl [2, 3, 1, 0] rfl)
set_option maxHeartbeats 4000000 in
set_option maxRecDepth 100000 in
theorem t_X10_unpaidNow (l : Launch) (E : gE) (J : Nat → Nat) (τ : Nat → Nat) (L : List Nat) (f : gF) (hI : tI E L τ f) {q : Nat} (mq : q ∈ L) (tq : τ q = 40) : tMi l E J yX10_unpaidNow cX10_unpaidNow 3 .int (gRm (2) 0 0) [.ref q] L f (tPi E L τ [] f (fun r f1 => rg r (-2147483648) 2147483647)) := by
  refine tMi.intro (by decide) (Nat.le_of_ble_eq_true rfl) ?_
  intro p e s m below meth c A ls C hr hA hO hH hl
  have C : gC E cX10_unpaidNow 3 RX10 p s m _ meth c := C
  have hl : lv_has ls 3 [(0, .ref q)] := hl
  have hx := C.1
  have hb := C.2.1
  have hI := hI.S []
  have cut4 : ∀ (n : Nat) (fh4 : gF) (H : Heap) (locs : List Loc) (ls : Array Slot) (v4_1 : Int32) (v4_2 : Int32), 6 - v4_2.toInt < (n : Int) → tS E L τ [] f fh4 → gH E A L fh4 s.heap H locs → rg v4_1 0 63 → rg v4_2 0 6 → lv_has ls 3 [(0, .ref q), (1, .int v4_1), (2, .int v4_2)] → W p l e (gRm (2) 0 0) s m [.ref q].toArray below meth c H locs 0 0 (MQ below (gQi E A (tPi E L τ [] f (fun r f1 => rg r (-2147483648) 2147483647))) [.ref q].toArray s (gRm (2) 0 0).cells (gRm (2) 0 0).slots A) (F0 m 4 ls []) := by
    intro n
    induction n with
    | zero =>
      intro fh4 H locs ls v4_1 v4_2 hfu4 hI hH r_v4_1 r_v4_2 hl
      exact (fu_0 hfu4 r_v4_2).elim
    | succ n ih4 =>
      intro fh4 H locs ls v4_1 v4_2 hfu4 hI hH r_v4_1 r_v4_2 hl
      refine lv_iload_n hx hb dX10_unpaidNow_4 rfl (lv_at hl 2 rfl) ?_
      refine lv_aload_n hx hb dX10_unpaidNow_5 rfl (lv_at hl 0 rfl) ?_
      refine t_Vi C hO hl.1 hA hH hI.1 (As := []) (rest := [.int v4_2]) (t_X10_members l E J τ L fh4 hI.1 mq tq) my_X10_members wd756 mq tq td_40 rfl rfl rfl (Nat.le_of_ble_eq_true rfl) ⟨Nat.le_of_ble_eq_true rfl, Nat.le_of_ble_eq_true rfl⟩ ⟨rfl, rfl⟩ dX10_unpaidNow_6 (fun r2 L1 f1 H locs hp hH => ?_)
      obtain ⟨rfl, s3, h4⟩ := hp
      have hJ := hI
      have hI := hI.call s3 (by decide)
      refine lv_icmp_ge (tgt := 44) hx hb dX10_unpaidNow_9 (by decide) (fun c5 => ?_) (fun c5 => ?_)
      · skip
        refine lv_iload_n hx hb dX10_unpaidNow_44 rfl (lv_at hl 1 rfl) ?_
        exact g_iret C hr hH (Nat.zero_le _) (Nat.zero_le _) dX10_unpaidNow_45 ⟨rfl, hI, (rg_w r_v4_1 (by decide))⟩
      · skip
        have r6 : rg v4_2 0 5 := rf_ltl (n_le c5) r_v4_2 h4.1 (by decide)
        have r7 : rg r2 1 6 := rf_ltr (n_le c5) r_v4_2 h4.1 (by decide)
        refine lv_iload_n hx hb dX10_unpaidNow_12 rfl (lv_at hl 1 rfl) ?_
        refine lv_aload_n hx hb dX10_unpaidNow_13 rfl (lv_at hl 0 rfl) ?_
        refine lv_iload_n hx hb dX10_unpaidNow_14 rfl (lv_at hl 2 rfl) ?_
        refine t_Vi C hO hl.1 hA hH hI.1 (As := [.int v4_2]) (rest := [.int v4_1]) (t_X10_wantsOf l E J τ L f1 hI.1 mq tq v4_2 r6) my_X10_wantsOf wd822 mq tq td_40 rfl rfl rfl (Nat.le_of_ble_eq_true rfl) ⟨Nat.le_of_ble_eq_true rfl, Nat.le_of_ble_eq_true rfl⟩ ⟨rfl, rfl⟩ dX10_unpaidNow_15 (fun r9 L1 f8 H locs hp hH => ?_)
        obtain ⟨rfl, s10, h11⟩ := hp
        have hI := hI.call s10 (by decide)
        refine lv_if_ne (tgt := 35) hx hb dX10_unpaidNow_18 (by decide) (fun c12 => ?_) (fun c12 => ?_)
        · skip
          have r13 : rg r9 1 99 := rf_nel (n_eq c12) h11 rl_0 (by decide)
          refine lv_iconst (v := (0 : Int32)) hx hb dX10_unpaidNow_35 (by decide) ?_
          refine lv_ior hx hb dX10_unpaidNow_36 ?_
          refine lv_topi (fun z14 ez14 => ?_)
          have r15 : rg z14 0 63 := rg_or 6 ez14 r_v4_1 rl_0 (by decide)
          refine lv_istore_n (lv' := [(1, .int z14), (0, .ref q), (2, .int v4_2)]) hx hb dX10_unpaidNow_37 rfl hl (by decide) rfl (fun ls hl => ?_)
          obtain ⟨z16, ez16⟩ : ∃ y : Int32, y = v4_2 + (1 : Int32) := ⟨_, rfl⟩
          have r17 : rg z16 1 6 := rg_add ez16 r6 rl_1 (by decide)
          have a18 : z16.toInt = v4_2.toInt + 1 := ai_add ez16 r6 tl_1 (by decide)
          refine lv_iinc (v := z16) (lv' := [(2, .int z16), (1, .int z14), (0, .ref q)]) hx hb dX10_unpaidNow_38 hl (k := 2) rfl (by rw [ez16]; rfl) (by decide) rfl (fun ls hl => ?_)
          refine lv_goto (tgt := 4) hx hb dX10_unpaidNow_41 (by decide) ?_
          exact ih4 _ _ _ _ z14 z16 (fu_s hfu4 a18 (by decide)) hI hH r15 (rg_w r17 (by decide)) (lv_sub hl [2, 1, 0] rfl)
        · skip
          have r19 : rg r9 0 0 := rf_eql (c_eq c12) h11 rl_0 (by decide)
          refine lv_aload_n hx hb dX10_unpaidNow_21 rfl (lv_at hl 0 rfl) ?_
          refine lv_iload_n hx hb dX10_unpaidNow_22 rfl (lv_at hl 2 rfl) ?_
          refine t_Vi C hO hl.1 hA hH hI.1 (As := [.int v4_2]) (rest := [.int v4_1]) (t_X10_heardOf l E J τ L f8 hI.1 mq tq v4_2 r6) my_X10_heardOf wd834 mq tq td_40 rfl rfl rfl (Nat.le_of_ble_eq_true rfl) ⟨Nat.le_of_ble_eq_true rfl, Nat.le_of_ble_eq_true rfl⟩ ⟨rfl, rfl⟩ dX10_unpaidNow_23 (fun r21 L1 f20 H locs hp hH => ?_)
          obtain ⟨rfl, s22, h23⟩ := hp
          have hI := hI.call s22 (by decide)
          refine lv_if_le (tgt := 35) hx hb dX10_unpaidNow_26 (by decide) (fun c24 => ?_) (fun c24 => ?_)
          · skip
            have r25 : rg r21 (-2147483648) 0 := rf_lel (c_le c24) h23 rl_0 (by decide)
            refine lv_iconst (v := (0 : Int32)) hx hb dX10_unpaidNow_35 (by decide) ?_
            refine lv_ior hx hb dX10_unpaidNow_36 ?_
            refine lv_topi (fun z26 ez26 => ?_)
            have r27 : rg z26 0 63 := rg_or 6 ez26 r_v4_1 rl_0 (by decide)
            refine lv_istore_n (lv' := [(1, .int z26), (0, .ref q), (2, .int v4_2)]) hx hb dX10_unpaidNow_37 rfl hl (by decide) rfl (fun ls hl => ?_)
            obtain ⟨z28, ez28⟩ : ∃ y : Int32, y = v4_2 + (1 : Int32) := ⟨_, rfl⟩
            have r29 : rg z28 1 6 := rg_add ez28 r6 rl_1 (by decide)
            have a30 : z28.toInt = v4_2.toInt + 1 := ai_add ez28 r6 tl_1 (by decide)
            refine lv_iinc (v := z28) (lv' := [(2, .int z28), (1, .int z26), (0, .ref q)]) hx hb dX10_unpaidNow_38 hl (k := 2) rfl (by rw [ez28]; rfl) (by decide) rfl (fun ls hl => ?_)
            refine lv_goto (tgt := 4) hx hb dX10_unpaidNow_41 (by decide) ?_
            exact ih4 _ _ _ _ z26 z28 (fu_s hfu4 a30 (by decide)) hI hH r27 (rg_w r29 (by decide)) (lv_sub hl [2, 1, 0] rfl)
          · skip
            have r31 : rg r21 1 2147483647 := rf_ltr (n_le c24) rl_0 h23 (by decide)
            refine lv_iconst (v := (1 : Int32)) hx hb dX10_unpaidNow_29 (by decide) ?_
            refine lv_iload_n hx hb dX10_unpaidNow_30 rfl (lv_at hl 2 rfl) ?_
            refine lv_ishl hx hb dX10_unpaidNow_31 ?_
            refine lv_topi (fun z32 ez32 => ?_)
            have r33 : rg z32 1 32 := rg_shl 0 5 ez32 r6 (by decide)
            refine lv_goto (tgt := 36) hx hb dX10_unpaidNow_32 (by decide) ?_
            refine lv_ior hx hb dX10_unpaidNow_36 ?_
            refine lv_topi (fun z34 ez34 => ?_)
            have r35 : rg z34 0 63 := rg_or 6 ez34 r_v4_1 r33 (by decide)
            refine lv_istore_n (lv' := [(1, .int z34), (0, .ref q), (2, .int v4_2)]) hx hb dX10_unpaidNow_37 rfl hl (by decide) rfl (fun ls hl => ?_)
            obtain ⟨z36, ez36⟩ : ∃ y : Int32, y = v4_2 + (1 : Int32) := ⟨_, rfl⟩
            have r37 : rg z36 1 6 := rg_add ez36 r6 rl_1 (by decide)
            have a38 : z36.toInt = v4_2.toInt + 1 := ai_add ez36 r6 tl_1 (by decide)
            refine lv_iinc (v := z36) (lv' := [(2, .int z36), (1, .int z34), (0, .ref q)]) hx hb dX10_unpaidNow_38 hl (k := 2) rfl (by rw [ez36]; rfl) (by decide) rfl (fun ls hl => ?_)
            refine lv_goto (tgt := 4) hx hb dX10_unpaidNow_41 (by decide) ?_
            exact ih4 _ _ _ _ z34 z36 (fu_s hfu4 a38 (by decide)) hI hH r35 (rg_w r37 (by decide)) (lv_sub hl [2, 1, 0] rfl)
  refine lv_iconst (v := (0 : Int32)) hx hb dX10_unpaidNow_0 (by decide) ?_
  refine lv_istore_n (lv' := [(1, .int (0 : Int32)), (0, .ref q)]) hx hb dX10_unpaidNow_1 rfl hl (by decide) rfl (fun ls hl => ?_)
  refine lv_iconst (v := (0 : Int32)) hx hb dX10_unpaidNow_2 (by decide) ?_
  refine lv_istore_n (lv' := [(2, .int (0 : Int32)), (1, .int (0 : Int32)), (0, .ref q)]) hx hb dX10_unpaidNow_3 rfl hl (by decide) rfl (fun ls hl => ?_)
  exact cut4 7 _ _ _ _ (0 : Int32) (0 : Int32) (fu_i 7 rl_0 (by decide)) hI hH (rg_w rl_0 (by decide)) (rg_w rl_0 (by decide)) (lv_sub hl [2, 1, 0] rfl)
set_option maxHeartbeats 4000000 in
set_option maxRecDepth 100000 in
theorem t_X10_incomeBy (l : Launch) (E : gE) (J : Nat → Nat) (τ : Nat → Nat) (L : List Nat) (f : gF) (hI : tI E L τ f) {q : Nat} (mq : q ∈ L) (tq : τ q = 40) (p1 : Int32) {vh : Nat → Int32} (hh : isA E L τ f 47 45 vh) (hW : 1 ≤ (vh 0).toInt) : tMi l E J yX10_incomeBy cX10_incomeBy 2 .int (gRm (6) 0 0) [.ref q, .int p1] L f (tPi E L τ [40, 52, 53, 54, 55, 56] f (fun r f1 => rg r (-2147483648) 2147483647)) := by
  refine tMi.intro (by decide) (Nat.le_of_ble_eq_true rfl) ?_
  intro p e s m below meth c A ls C hr hA hO hH hl
  have C : gC E cX10_incomeBy 2 RX10 p s m _ meth c := C
  have hl : lv_has ls 2 [(0, .ref q), (1, .int p1)] := hl
  have hx := C.1
  have hb := C.2.1
  have hI := hI.S [40, 52, 53, 54, 55, 56]
  refine lv_aload_n hx hb dX10_incomeBy_0 rfl (lv_at hl 0 rfl) ?_
  refine t_Vv C hO hl.1 hA hH hI.1 (As := []) (rest := []) (t_X10_lays l E J τ L f hI.1 mq tq) my_X10_lays wd813 mq tq td_40 rfl rfl rfl (Nat.le_of_ble_eq_true rfl) ⟨Nat.le_of_ble_eq_true rfl, Nat.le_of_ble_eq_true rfl⟩ ⟨rfl, rfl⟩ dX10_incomeBy_1 (fun L1 f1 H locs hp hH => ?_)
  obtain ⟨rfl, s3, h4⟩ := hp
  have hI := hI.call s3 (by decide)
  refine lv_aload_n hx hb dX10_incomeBy_4 rfl (lv_at hl 0 rfl) ?_
  refine lv_iload_n hx hb dX10_incomeBy_5 rfl (lv_at hl 1 rfl) ?_
  refine t_put C hH hI mq tq (by decide) td_40 iX10 tyX10 tyX10_ok nmX10 rfl 23 (by decide) wd769 rfl rfl (v := .int p1) rfl rfl rfl ⟨_, rfl, (rg_all _)⟩ (fun _ h => nomatch h) dX10_incomeBy_6 (fun f5 H locs hH hI nf5 of5 bf5 => ?_)
  refine lv_aload_n hx hb dX10_incomeBy_9 rfl (lv_at hl 0 rfl) ?_
  refine t_Vv C hO hl.1 hA hH hI.1 (As := []) (rest := []) (t_X10_runs l E J τ L f5 hI.1 mq tq (hh.S hI rfl) hW) my_X10_runs wd817 mq tq td_40 rfl rfl rfl (Nat.le_of_ble_eq_true rfl) ⟨Nat.le_of_ble_eq_true rfl, Nat.le_of_ble_eq_true rfl⟩ ⟨rfl, rfl⟩ dX10_incomeBy_10 (fun L1 f6 H locs hp hH => ?_)
  obtain ⟨rfl, s8, h9⟩ := hp
  have hI := hI.call s8 (by decide)
  refine lv_aload_n hx hb dX10_incomeBy_13 rfl (lv_at hl 0 rfl) ?_
  refine t_Vi C hO hl.1 hA hH hI.1 (As := []) (rest := []) (t_X10_incomeNow l E J τ L f6 hI.1 mq tq) my_X10_incomeNow wd838 mq tq td_40 rfl rfl rfl (Nat.le_of_ble_eq_true rfl) ⟨Nat.le_of_ble_eq_true rfl, Nat.le_of_ble_eq_true rfl⟩ ⟨rfl, rfl⟩ dX10_incomeBy_14 (fun r11 L1 f10 H locs hp hH => ?_)
  obtain ⟨rfl, s12, h13⟩ := hp
  have hI := hI.call s12 (by decide)
  exact g_iret C hr hH (Nat.zero_le _) (Nat.zero_le _) dX10_incomeBy_17 ⟨rfl, hI, h13⟩
set_option maxHeartbeats 4000000 in
set_option maxRecDepth 100000 in
theorem t_X10_otherwise (l : Launch) (E : gE) (J : Nat → Nat) (τ : Nat → Nat) (L : List Nat) (f : gF) (hI : tI E L τ f) {q : Nat} (mq : q ∈ L) (tq : τ q = 40) (p1 : Int32) (rp1 : rg p1 0 1) {vh : Nat → Int32} (hh : isA E L τ f 47 45 vh) (hW : 1 ≤ (vh 0).toInt) : tMi l E J yX10_otherwise cX10_otherwise 6 .int (gRm (7) 0 0) [.ref q, .int p1] L f (tPi E L τ [40, 52, 53, 54, 55, 56] f (fun r f1 => rg r (-2147483648) 2147483647)) := by
  refine tMi.intro (by decide) (Nat.le_of_ble_eq_true rfl) ?_
  intro p e s m below meth c A ls C hr hA hO hH hl
  have C : gC E cX10_otherwise 6 RX10 p s m _ meth c := C
  have hl : lv_has ls 6 [(0, .ref q), (1, .int p1)] := hl
  have hx := C.1
  have hb := C.2.1
  have hI := hI.S [40, 52, 53, 54, 55, 56]
  have cut20 : ∀ (n : Nat) (fh20 : gF) (H : Heap) (locs : List Loc) (ls : Array Slot) (v20_2 : Int32) (v20_3 : Int32) (v20_4 : Int32) (v20_5 : Int32), 20 - v20_5.toInt < (n : Int) → tS E L τ [40, 52, 53, 54, 55, 56] f fh20 → gH E A L fh20 s.heap H locs → rg v20_3 (-1) 19 → rg v20_5 0 20 → lv_has ls 6 [(0, .ref q), (1, .int p1), (2, .int v20_2), (3, .int v20_3), (4, .int v20_4), (5, .int v20_5)] → W p l e (gRm (7) 0 0) s m [.ref q, .int p1].toArray below meth c H locs 0 0 (MQ below (gQi E A (tPi E L τ [40, 52, 53, 54, 55, 56] f (fun r f1 => rg r (-2147483648) 2147483647))) [.ref q, .int p1].toArray s (gRm (7) 0 0).cells (gRm (7) 0 0).slots A) (F0 m 20 ls []) := by
    intro n
    induction n with
    | zero =>
      intro fh20 H locs ls v20_2 v20_3 v20_4 v20_5 hfu20 hI hH r_v20_3 r_v20_5 hl
      exact (fu_0 hfu20 r_v20_5).elim
    | succ n ih20 =>
      intro fh20 H locs ls v20_2 v20_3 v20_4 v20_5 hfu20 hI hH r_v20_3 r_v20_5 hl
      refine lv_iload hx hb dX10_otherwise_20 (lv_at hl 5 rfl) ?_
      refine lv_aload_n hx hb dX10_otherwise_22 rfl (lv_at hl 0 rfl) ?_
      refine t_Vi C hO hl.1 hA hH hI.1 (As := []) (rest := [.int v20_5]) (t_X10_cellsAll l E J τ L fh20 hI.1 mq tq) my_X10_cellsAll wd760 mq tq td_40 rfl rfl rfl (Nat.le_of_ble_eq_true rfl) ⟨Nat.le_of_ble_eq_true rfl, Nat.le_of_ble_eq_true rfl⟩ ⟨rfl, rfl⟩ dX10_otherwise_23 (fun r2 L1 f1 H locs hp hH => ?_)
      obtain ⟨rfl, s3, h4⟩ := hp
      have hJ := hI
      have hI := hI.call s3 (by decide)
      refine lv_icmp_ge (tgt := 83) hx hb dX10_otherwise_26 (by decide) (fun c5 => ?_) (fun c5 => ?_)
      · skip
        refine lv_iload_n hx hb dX10_otherwise_83 rfl (lv_at hl 3 rfl) ?_
        exact g_iret C hr hH (Nat.zero_le _) (Nat.zero_le _) dX10_otherwise_84 ⟨rfl, hI, (rg_w r_v20_3 (by decide))⟩
      · skip
        have r6 : rg v20_5 0 19 := rf_ltl (n_le c5) r_v20_5 h4.1 (by decide)
        have r7 : rg r2 1 20 := rf_ltr (n_le c5) r_v20_5 h4.1 (by decide)
        refine lv_iload_n hx hb dX10_otherwise_29 rfl (lv_at hl 2 rfl) ?_
        refine lv_iload hx hb dX10_otherwise_30 (lv_at hl 5 rfl) ?_
        refine t_Si C hO hl.1 hA hH (As := [.int v20_2, .int v20_5]) (rest := []) (t_X10_isBit l E J τ L f1 hI.1 v20_2 v20_5) my_X10_isBit wd783 rfl rfl (Nat.le_of_ble_eq_true rfl) ⟨Nat.le_of_ble_eq_true rfl, Nat.le_of_ble_eq_true rfl⟩ ⟨rfl, rfl⟩ dX10_otherwise_32 (fun r9 L1 f8 H locs hp hH => ?_)
        obtain ⟨rfl, s10, h11⟩ := hp
        have hI := hI.call s10 (by decide)
        refine lv_iload_n hx hb dX10_otherwise_35 rfl (lv_at hl 1 rfl) ?_
        refine lv_icmp_ne (tgt := 42) hx hb dX10_otherwise_36 (by decide) (fun c12 => ?_) (fun c12 => ?_)
        · skip
          refine lv_aload_n hx hb dX10_otherwise_42 rfl (lv_at hl 0 rfl) ?_
          refine lv_iload_n hx hb dX10_otherwise_43 rfl (lv_at hl 2 rfl) ?_
          refine lv_iconst (v := (1 : Int32)) hx hb dX10_otherwise_44 (by decide) ?_
          refine lv_iload hx hb dX10_otherwise_45 (lv_at hl 5 rfl) ?_
          refine lv_ishl hx hb dX10_otherwise_47 ?_
          refine lv_topi (fun z13 ez13 => ?_)
          have r14 : rg z13 1 524288 := rg_shl 0 19 ez13 r6 (by decide)
          refine lv_ixor hx hb dX10_otherwise_48 ?_
          refine lv_topi (fun z15 ez15 => ?_)
          refine t_put C hH hI mq tq (by decide) td_40 iX10 tyX10 tyX10_ok nmX10 rfl 22 (by decide) wd771 rfl rfl (v := .int z15) rfl rfl rfl ⟨_, rfl, (rg_all _)⟩ (fun _ h => nomatch h) dX10_otherwise_49 (fun f16 H locs hH hI nf16 of16 bf16 => ?_)
          refine lv_aload_n hx hb dX10_otherwise_52 rfl (lv_at hl 0 rfl) ?_
          refine t_Vv C hO hl.1 hA hH hI.1 (As := []) (rest := []) (t_X10_runs l E J τ L f16 hI.1 mq tq (hh.S hI rfl) hW) my_X10_runs wd817 mq tq td_40 rfl rfl rfl (Nat.le_of_ble_eq_true rfl) ⟨Nat.le_of_ble_eq_true rfl, Nat.le_of_ble_eq_true rfl⟩ ⟨rfl, rfl⟩ dX10_otherwise_53 (fun L1 f17 H locs hp hH => ?_)
          obtain ⟨rfl, s19, h20⟩ := hp
          have hI := hI.call s19 (by decide)
          refine lv_aload_n hx hb dX10_otherwise_56 rfl (lv_at hl 0 rfl) ?_
          refine t_Vi C hO hl.1 hA hH hI.1 (As := []) (rest := []) (t_X10_incomeNow l E J τ L f17 hI.1 mq tq) my_X10_incomeNow wd838 mq tq td_40 rfl rfl rfl (Nat.le_of_ble_eq_true rfl) ⟨Nat.le_of_ble_eq_true rfl, Nat.le_of_ble_eq_true rfl⟩ ⟨rfl, rfl⟩ dX10_otherwise_57 (fun r22 L1 f21 H locs hp hH => ?_)
          obtain ⟨rfl, s23, h24⟩ := hp
          have hI := hI.call s23 (by decide)
          refine lv_iload hx hb dX10_otherwise_60 (lv_at hl 4 rfl) ?_
          refine lv_icmp_gt (tgt := 68) hx hb dX10_otherwise_62 (by decide) (fun c25 => ?_) (fun c25 => ?_)
          · skip
            have r26 : rg v20_4 (-2147483648) 2147483646 := rf_ltl (c_lt c25) (rg_all _) h24 (by decide)
            have r27 : rg r22 (-2147483647) 2147483647 := rf_ltr (c_lt c25) (rg_all _) h24 (by decide)
            refine lv_iload hx hb dX10_otherwise_68 (lv_at hl 5 rfl) ?_
            refine lv_istore_n (lv' := [(3, .int v20_5), (0, .ref q), (1, .int p1), (2, .int v20_2), (4, .int v20_4), (5, .int v20_5)]) hx hb dX10_otherwise_70 rfl hl (by decide) rfl (fun ls hl => ?_)
            refine lv_aload_n hx hb dX10_otherwise_71 rfl (lv_at hl 1 rfl) ?_
            refine t_Vi C hO hl.1 hA hH hI.1 (As := []) (rest := []) (t_X10_incomeNow l E J τ L f21 hI.1 mq tq) my_X10_incomeNow wd838 mq tq td_40 rfl rfl rfl (Nat.le_of_ble_eq_true rfl) ⟨Nat.le_of_ble_eq_true rfl, Nat.le_of_ble_eq_true rfl⟩ ⟨rfl, rfl⟩ dX10_otherwise_72 (fun r29 L1 f28 H locs hp hH => ?_)
            obtain ⟨rfl, s30, h31⟩ := hp
            have hI := hI.call s30 (by decide)
            refine lv_istore (lv' := [(4, .int r29), (3, .int v20_5), (0, .ref q), (1, .int p1), (2, .int v20_2), (5, .int v20_5)]) hx hb dX10_otherwise_75 hl (by decide) rfl (fun ls hl => ?_)
            obtain ⟨z32, ez32⟩ : ∃ y : Int32, y = v20_5 + (1 : Int32) := ⟨_, rfl⟩
            have r33 : rg z32 1 20 := rg_add ez32 r6 rl_1 (by decide)
            have a34 : z32.toInt = v20_5.toInt + 1 := ai_add ez32 r6 tl_1 (by decide)
            refine lv_iinc (v := z32) (lv' := [(5, .int z32), (4, .int r29), (3, .int v20_5), (0, .ref q), (1, .int p1), (2, .int v20_2)]) hx hb dX10_otherwise_77 hl (k := 5) rfl (by rw [ez32]; rfl) (by decide) rfl (fun ls hl => ?_)
            refine lv_goto (tgt := 20) hx hb dX10_otherwise_80 (by decide) ?_
            exact ih20 _ _ _ _ v20_2 v20_5 r29 z32 (fu_s hfu20 a34 (by decide)) hI hH (rg_w r6 (by decide)) (rg_w r33 (by decide)) (lv_sub hl [3, 4, 5, 2, 1, 0] rfl)
          · skip
            refine lv_goto (tgt := 77) hx hb dX10_otherwise_65 (by decide) ?_
            obtain ⟨z35, ez35⟩ : ∃ y : Int32, y = v20_5 + (1 : Int32) := ⟨_, rfl⟩
            have r36 : rg z35 1 20 := rg_add ez35 r6 rl_1 (by decide)
            have a37 : z35.toInt = v20_5.toInt + 1 := ai_add ez35 r6 tl_1 (by decide)
            refine lv_iinc (v := z35) (lv' := [(5, .int z35), (0, .ref q), (1, .int p1), (2, .int v20_2), (3, .int v20_3), (4, .int v20_4)]) hx hb dX10_otherwise_77 hl (k := 5) rfl (by rw [ez35]; rfl) (by decide) rfl (fun ls hl => ?_)
            refine lv_goto (tgt := 20) hx hb dX10_otherwise_80 (by decide) ?_
            exact ih20 _ _ _ _ v20_2 v20_3 v20_4 z35 (fu_s hfu20 a37 (by decide)) hI hH r_v20_3 (rg_w r36 (by decide)) (lv_sub hl [1, 2, 3, 4, 5, 0] rfl)
        · skip
          refine lv_goto (tgt := 77) hx hb dX10_otherwise_39 (by decide) ?_
          obtain ⟨z38, ez38⟩ : ∃ y : Int32, y = v20_5 + (1 : Int32) := ⟨_, rfl⟩
          have r39 : rg z38 1 20 := rg_add ez38 r6 rl_1 (by decide)
          have a40 : z38.toInt = v20_5.toInt + 1 := ai_add ez38 r6 tl_1 (by decide)
          refine lv_iinc (v := z38) (lv' := [(5, .int z38), (0, .ref q), (1, .int p1), (2, .int v20_2), (3, .int v20_3), (4, .int v20_4)]) hx hb dX10_otherwise_77 hl (k := 5) rfl (by rw [ez38]; rfl) (by decide) rfl (fun ls hl => ?_)
          refine lv_goto (tgt := 20) hx hb dX10_otherwise_80 (by decide) ?_
          exact ih20 _ _ _ _ v20_2 v20_3 v20_4 z38 (fu_s hfu20 a40 (by decide)) hI hH r_v20_3 (rg_w r39 (by decide)) (lv_sub hl [1, 2, 3, 4, 5, 0] rfl)
  refine lv_aload_n hx hb dX10_otherwise_0 rfl (lv_at hl 0 rfl) ?_
  refine t_Vv C hO hl.1 hA hH hI.1 (As := []) (rest := []) (t_X10_laysNow l E J τ L f hI.1 mq tq (hh.S hI rfl) hW) my_X10_laysNow wd842 mq tq td_40 rfl rfl rfl (Nat.le_of_ble_eq_true rfl) ⟨Nat.le_of_ble_eq_true rfl, Nat.le_of_ble_eq_true rfl⟩ ⟨rfl, rfl⟩ dX10_otherwise_1 (fun L1 f41 H locs hp hH => ?_)
  obtain ⟨rfl, s43, h44⟩ := hp
  have hI := hI.call s43 (by decide)
  refine lv_aload_n hx hb dX10_otherwise_4 rfl (lv_at hl 0 rfl) ?_
  refine t_geti C hH hI.1 mq tq td_40 iX10 rfl 22 (by decide) wd771 rfl rfl dX10_otherwise_5 (fun z45 rz45 => ?_)
  refine lv_istore_n (lv' := [(2, .int z45), (0, .ref q), (1, .int p1)]) hx hb dX10_otherwise_8 rfl hl (by decide) rfl (fun ls hl => ?_)
  refine lv_iconst (v := (-1 : Int32)) hx hb dX10_otherwise_9 (by decide) ?_
  refine lv_istore_n (lv' := [(3, .int (-1 : Int32)), (2, .int z45), (0, .ref q), (1, .int p1)]) hx hb dX10_otherwise_10 rfl hl (by decide) rfl (fun ls hl => ?_)
  refine lv_aload_n hx hb dX10_otherwise_11 rfl (lv_at hl 2 rfl) ?_
  refine t_Vi C hO hl.1 hA hH hI.1 (As := []) (rest := []) (t_X10_incomeNow l E J τ L f41 hI.1 mq tq) my_X10_incomeNow wd838 mq tq td_40 rfl rfl rfl (Nat.le_of_ble_eq_true rfl) ⟨Nat.le_of_ble_eq_true rfl, Nat.le_of_ble_eq_true rfl⟩ ⟨rfl, rfl⟩ dX10_otherwise_12 (fun r47 L1 f46 H locs hp hH => ?_)
  obtain ⟨rfl, s48, h49⟩ := hp
  have hI := hI.call s48 (by decide)
  refine lv_istore (lv' := [(4, .int r47), (3, .int (-1 : Int32)), (2, .int z45), (0, .ref q), (1, .int p1)]) hx hb dX10_otherwise_15 hl (by decide) rfl (fun ls hl => ?_)
  refine lv_iconst (v := (0 : Int32)) hx hb dX10_otherwise_17 (by decide) ?_
  refine lv_istore (lv' := [(5, .int (0 : Int32)), (4, .int r47), (3, .int (-1 : Int32)), (2, .int z45), (0, .ref q), (1, .int p1)]) hx hb dX10_otherwise_18 hl (by decide) rfl (fun ls hl => ?_)
  exact cut20 21 _ _ _ _ z45 (-1 : Int32) r47 (0 : Int32) (fu_i 21 rl_0 (by decide)) hI hH (rg_w rl_m1 (by decide)) (rg_w rl_0 (by decide)) (lv_sub hl [4, 5, 3, 2, 1, 0] rfl)
set_option maxHeartbeats 4000000 in
set_option maxRecDepth 100000 in
theorem t_X10_swapsOf (l : Launch) (E : gE) (J : Nat → Nat) (τ : Nat → Nat) (L : List Nat) (f : gF) (hI : tI E L τ f) {q : Nat} (mq : q ∈ L) (tq : τ q = 40) {vh : Nat → Int32} (hh : isA E L τ f 47 45 vh) (hW : 1 ≤ (vh 0).toInt) : tMi l E J yX10_swapsOf cX10_swapsOf 5 .int (gRm (7) 0 0) [.ref q] L f (tPi E L τ [40, 52, 53, 54, 55, 56] f (fun r f1 => rg r (-2147483648) 2147483647)) := by
  refine tMi.intro (by decide) (Nat.le_of_ble_eq_true rfl) ?_
  intro p e s m below meth c A ls C hr hA hO hH hl
  have C : gC E cX10_swapsOf 5 RX10 p s m _ meth c := C
  have hl : lv_has ls 5 [(0, .ref q)] := hl
  have hx := C.1
  have hb := C.2.1
  have hI := hI.S [40, 52, 53, 54, 55, 56]
  obtain ⟨q_19, mq_19, tq_19, kq_19⟩ := t_fldr hI.1 mq tq td_40 (k := 19) rfl
  have cut13 : ∀ (n : Nat) (fh13 : gF) (H : Heap) (locs : List Loc) (ls : Array Slot) (v13_1 : Int32) (v13_2 : Int32), 6 - v13_2.toInt < (n : Int) → tS E L τ [40, 52, 53, 54, 55, 56] f fh13 → gH E A L fh13 s.heap H locs → rg v13_2 0 6 → lv_has ls 5 [(0, .ref q), (1, .int v13_1), (2, .int v13_2)] → W p l e (gRm (7) 0 0) s m [.ref q].toArray below meth c H locs 0 0 (MQ below (gQi E A (tPi E L τ [40, 52, 53, 54, 55, 56] f (fun r f1 => rg r (-2147483648) 2147483647))) [.ref q].toArray s (gRm (7) 0 0).cells (gRm (7) 0 0).slots A) (F0 m 13 ls []) := by
    intro n
    induction n with
    | zero =>
      intro fh13 H locs ls v13_1 v13_2 hfu13 hI hH r_v13_2 hl
      exact (fu_0 hfu13 r_v13_2).elim
    | succ n ih13 =>
      intro fh13 H locs ls v13_1 v13_2 hfu13 hI hH r_v13_2 hl
      have cut25 : ∀ (n : Nat) (fh25 : gF) (H : Heap) (locs : List Loc) (ls : Array Slot) (v25_1 : Int32) (v25_3 : Int32), 6 - v25_3.toInt < (n : Int) → tS E L τ [40, 52, 53, 54, 55, 56] f fh25 → gH E A L fh25 s.heap H locs → rg v25_3 1 6 → rg v13_2 0 5 → lv_has ls 5 [(0, .ref q), (1, .int v25_1), (2, .int v13_2), (3, .int v25_3)] → W p l e (gRm (7) 0 0) s m [.ref q].toArray below meth c H locs 0 0 (MQ below (gQi E A (tPi E L τ [40, 52, 53, 54, 55, 56] f (fun r f1 => rg r (-2147483648) 2147483647))) [.ref q].toArray s (gRm (7) 0 0).cells (gRm (7) 0 0).slots A) (F0 m 25 ls []) := by
        intro n
        induction n with
        | zero =>
          intro fh25 H locs ls v25_1 v25_3 hfu25 hI hH r_v25_3 r25_v13_2 hl
          exact (fu_0 hfu25 r_v25_3).elim
        | succ n ih25 =>
          intro fh25 H locs ls v25_1 v25_3 hfu25 hI hH r_v25_3 r25_v13_2 hl
          have cut69 : ∀ (fh69 : gF) (H : Heap) (locs : List Loc) (ls : Array Slot) , tS E L τ [40, 52, 53, 54, 55, 56] f fh69 → gH E A L fh69 s.heap H locs → rg v25_3 1 5 → lv_has ls 5 [(0, .ref q), (1, .int v25_1), (2, .int v13_2), (3, .int v25_3)] → W p l e (gRm (7) 0 0) s m [.ref q].toArray below meth c H locs 0 0 (MQ below (gQi E A (tPi E L τ [40, 52, 53, 54, 55, 56] f (fun r f1 => rg r (-2147483648) 2147483647))) [.ref q].toArray s (gRm (7) 0 0).cells (gRm (7) 0 0).slots A) (F0 m 69 ls []) := by
            intro fh69 H locs ls hI hH r69_v25_3 hl
            refine lv_iconst (v := (0 : Int32)) hx hb dX10_swapsOf_69 (by decide) ?_
            refine lv_istore (lv' := [(4, .int (0 : Int32)), (0, .ref q), (1, .int v25_1), (2, .int v13_2), (3, .int v25_3)]) hx hb dX10_swapsOf_70 hl (by decide) rfl (fun ls hl => ?_)
            refine lv_iload hx hb dX10_swapsOf_72 (lv_at hl 0 rfl) ?_
            refine lv_if_ne (tgt := 129) hx hb dX10_swapsOf_74 (by decide) (fun h => absurd (by decide) h) (fun _ => ?_)
            refine lv_aload_n hx hb dX10_swapsOf_77 rfl (lv_at hl 1 rfl) ?_
            refine lv_iload_n hx hb dX10_swapsOf_78 rfl (lv_at hl 3 rfl) ?_
            refine lv_aload_n hx hb dX10_swapsOf_79 rfl (lv_at hl 1 rfl) ?_
            refine t_getX C hH hI.1 mq tq td_40 iX10 rfl 19 (by decide) wd818 rfl (hI.rf kq_19) dX10_swapsOf_80 ?_
            refine lv_iconst (v := (3 : Int32)) hx hb dX10_swapsOf_83 (by decide) ?_
            refine lv_iload_n hx hb dX10_swapsOf_84 rfl (lv_at hl 4 rfl) ?_
            refine lv_imul hx hb dX10_swapsOf_85 ?_
            refine lv_topi (fun z1 ez1 => ?_)
            have r2 : rg z1 3 15 := rg_mul ez1 rl_3 r69_v25_3 (by decide)
            have m3 := mul3 ez1 r69_v25_3 (by decide)
            refine t_ald C hH hI.1 mq_19 tq_19 td_49 (rg_in r2 (by decide)) dX10_swapsOf_86 (fun z4v az4 pz4 => ?_)
            refine lv_topi (fun z4 ez4 => ?_)
            have r5 : rg z4 0 19 := mem_c pz4 (rg_in r2 (by decide)) m3 ez4
            refine t_Vi C hO hl.1 hA hH hI.1 (As := [.int v13_2, .int z4]) (rest := []) (t_X10_isServedIn l E J τ L fh69 hI.1 mq tq v13_2 r25_v13_2 z4 r5) my_X10_isServedIn wd826 mq tq td_40 rfl rfl rfl (Nat.le_of_ble_eq_true rfl) ⟨Nat.le_of_ble_eq_true rfl, Nat.le_of_ble_eq_true rfl⟩ ⟨rfl, rfl⟩ dX10_swapsOf_87 (fun r7 L1 f6 H locs hp hH => ?_)
            obtain ⟨rfl, s8, h9⟩ := hp
            have hI := hI.call s8 (by decide)
            refine lv_if_eq (tgt := 129) hx hb dX10_swapsOf_90 (by decide) (fun c10 => ?_) (fun c10 => ?_)
            · skip
              have r11 : rg r7 0 0 := rf_eql (c_eq c10) h9 rl_0 (by decide)
              obtain ⟨z12, ez12⟩ : ∃ y : Int32, y = v25_3 + (1 : Int32) := ⟨_, rfl⟩
              have r13 : rg z12 2 6 := rg_add ez12 r69_v25_3 rl_1 (by decide)
              have a14 : z12.toInt = v25_3.toInt + 1 := ai_add ez12 r69_v25_3 tl_1 (by decide)
              refine lv_iinc (v := z12) (lv' := [(3, .int z12), (4, .int (0 : Int32)), (0, .ref q), (1, .int v25_1), (2, .int v13_2)]) hx hb dX10_swapsOf_129 hl (k := 4) rfl (by rw [ez12]; rfl) (by decide) rfl (fun ls hl => ?_)
              refine lv_goto (tgt := 25) hx hb dX10_swapsOf_132 (by decide) ?_
              exact ih25 _ _ _ _ v25_1 z12 (fu_s hfu25 a14 (by decide)) hI hH (rg_w r13 (by decide)) r25_v13_2 (lv_sub hl [2, 3, 4, 0] rfl)
            · skip
              have r15 : rg r7 1 1 := rf_nel (n_eq c10) h9 rl_0 (by decide)
              refine lv_aload_n hx hb dX10_swapsOf_93 rfl (lv_at hl 1 rfl) ?_
              refine lv_iload_n hx hb dX10_swapsOf_94 rfl (lv_at hl 4 rfl) ?_
              refine lv_aload_n hx hb dX10_swapsOf_95 rfl (lv_at hl 1 rfl) ?_
              refine t_getX C hH hI.1 mq tq td_40 iX10 rfl 19 (by decide) wd818 rfl (hI.rf kq_19) dX10_swapsOf_96 ?_
              refine lv_iconst (v := (3 : Int32)) hx hb dX10_swapsOf_99 (by decide) ?_
              refine lv_iload_n hx hb dX10_swapsOf_100 rfl (lv_at hl 3 rfl) ?_
              refine lv_imul hx hb dX10_swapsOf_101 ?_
              refine lv_topi (fun z16 ez16 => ?_)
              have r17 : rg z16 0 15 := rg_mul ez16 rl_3 r25_v13_2 (by decide)
              have m18 := mul3 ez16 r25_v13_2 (by decide)
              refine t_ald C hH hI.1 mq_19 tq_19 td_49 (rg_in r17 (by decide)) dX10_swapsOf_102 (fun z19v az19 pz19 => ?_)
              refine lv_topi (fun z19 ez19 => ?_)
              have r20 : rg z19 0 19 := mem_c pz19 (rg_in r17 (by decide)) m18 ez19
              refine t_Vi C hO hl.1 hA hH hI.1 (As := [.int v25_3, .int z19]) (rest := []) (t_X10_isServedIn l E J τ L f6 hI.1 mq tq v25_3 (rg_w r69_v25_3 (by decide)) z19 r20) my_X10_isServedIn wd826 mq tq td_40 rfl rfl rfl (Nat.le_of_ble_eq_true rfl) ⟨Nat.le_of_ble_eq_true rfl, Nat.le_of_ble_eq_true rfl⟩ ⟨rfl, rfl⟩ dX10_swapsOf_103 (fun r22 L1 f21 H locs hp hH => ?_)
              obtain ⟨rfl, s23, h24⟩ := hp
              have hI := hI.call s23 (by decide)
              refine lv_if_ne (tgt := 112) hx hb dX10_swapsOf_106 (by decide) (fun c25 => ?_) (fun c25 => ?_)
              · skip
                have r26 : rg r22 1 1 := rf_nel (n_eq c25) h24 rl_0 (by decide)
                refine lv_iload_n hx hb dX10_swapsOf_112 rfl (lv_at hl 2 rfl) ?_
                refine lv_if_ne (tgt := 126) hx hb dX10_swapsOf_113 (by decide) (fun c27 => ?_) (fun c27 => ?_)
                · skip
                  obtain ⟨z28, ez28⟩ : ∃ y : Int32, y = v25_1 + (1 : Int32) := ⟨_, rfl⟩
                  refine lv_iinc (v := z28) (lv' := [(1, .int z28), (4, .int (0 : Int32)), (0, .ref q), (2, .int v13_2), (3, .int v25_3)]) hx hb dX10_swapsOf_126 hl (k := 2) rfl (by rw [ez28]; rfl) (by decide) rfl (fun ls hl => ?_)
                  obtain ⟨z29, ez29⟩ : ∃ y : Int32, y = v25_3 + (1 : Int32) := ⟨_, rfl⟩
                  have r30 : rg z29 2 6 := rg_add ez29 r69_v25_3 rl_1 (by decide)
                  have a31 : z29.toInt = v25_3.toInt + 1 := ai_add ez29 r69_v25_3 tl_1 (by decide)
                  refine lv_iinc (v := z29) (lv' := [(3, .int z29), (1, .int z28), (4, .int (0 : Int32)), (0, .ref q), (2, .int v13_2)]) hx hb dX10_swapsOf_129 hl (k := 4) rfl (by rw [ez29]; rfl) (by decide) rfl (fun ls hl => ?_)
                  refine lv_goto (tgt := 25) hx hb dX10_swapsOf_132 (by decide) ?_
                  exact ih25 _ _ _ _ z28 z29 (fu_s hfu25 a31 (by decide)) hI hH (rg_w r30 (by decide)) r25_v13_2 (lv_sub hl [3, 1, 4, 0] rfl)
                · skip
                  have r32 : rg v25_1 0 0 := rf_eql (c_eq c27) (rg_all _) rl_0 (by decide)
                  refine lv_aload_n hx hb dX10_swapsOf_116 rfl (lv_at hl 1 rfl) ?_
                  refine lv_bipush (v := (10 : Int32)) hx hb dX10_swapsOf_117 (by decide) ?_
                  refine lv_iload_n hx hb dX10_swapsOf_119 rfl (lv_at hl 3 rfl) ?_
                  refine lv_imul hx hb dX10_swapsOf_120 ?_
                  refine lv_topi (fun z33 ez33 => ?_)
                  have r34 : rg z33 0 50 := rg_mul ez33 rl_10 r25_v13_2 (by decide)
                  refine lv_iload_n hx hb dX10_swapsOf_121 rfl (lv_at hl 4 rfl) ?_
                  refine lv_iadd hx hb dX10_swapsOf_122 ?_
                  refine lv_topi (fun z35 ez35 => ?_)
                  have r36 : rg z35 1 55 := rg_add ez35 r34 r69_v25_3 (by decide)
                  refine t_put C hH hI mq tq (by decide) td_40 iX10 tyX10 tyX10_ok nmX10 rfl 44 (by decide) wd843 rfl rfl (v := .int z35) rfl rfl rfl ⟨_, rfl, (rg_w r36 (by decide))⟩ (fun _ h => nomatch h) dX10_swapsOf_123 (fun f37 H locs hH hI nf37 of37 bf37 => ?_)
                  obtain ⟨z38, ez38⟩ : ∃ y : Int32, y = v25_1 + (1 : Int32) := ⟨_, rfl⟩
                  have r39 : rg z38 1 1 := rg_add ez38 r32 rl_1 (by decide)
                  have a40 : z38.toInt = v25_1.toInt + 1 := ai_add ez38 r32 tl_1 (by decide)
                  refine lv_iinc (v := z38) (lv' := [(1, .int z38), (4, .int (0 : Int32)), (0, .ref q), (2, .int v13_2), (3, .int v25_3)]) hx hb dX10_swapsOf_126 hl (k := 2) rfl (by rw [ez38]; rfl) (by decide) rfl (fun ls hl => ?_)
                  obtain ⟨z41, ez41⟩ : ∃ y : Int32, y = v25_3 + (1 : Int32) := ⟨_, rfl⟩
                  have r42 : rg z41 2 6 := rg_add ez41 r69_v25_3 rl_1 (by decide)
                  have a43 : z41.toInt = v25_3.toInt + 1 := ai_add ez41 r69_v25_3 tl_1 (by decide)
                  refine lv_iinc (v := z41) (lv' := [(3, .int z41), (1, .int z38), (4, .int (0 : Int32)), (0, .ref q), (2, .int v13_2)]) hx hb dX10_swapsOf_129 hl (k := 4) rfl (by rw [ez41]; rfl) (by decide) rfl (fun ls hl => ?_)
                  refine lv_goto (tgt := 25) hx hb dX10_swapsOf_132 (by decide) ?_
                  exact ih25 _ _ _ _ z38 z41 (fu_s hfu25 a43 (by decide)) hI hH (rg_w r42 (by decide)) r25_v13_2 (lv_sub hl [3, 1, 4, 0] rfl)
              · skip
                have r44 : rg r22 0 0 := rf_eql (c_eq c25) h24 rl_0 (by decide)
                refine lv_goto (tgt := 129) hx hb dX10_swapsOf_109 (by decide) ?_
                obtain ⟨z45, ez45⟩ : ∃ y : Int32, y = v25_3 + (1 : Int32) := ⟨_, rfl⟩
                have r46 : rg z45 2 6 := rg_add ez45 r69_v25_3 rl_1 (by decide)
                have a47 : z45.toInt = v25_3.toInt + 1 := ai_add ez45 r69_v25_3 tl_1 (by decide)
                refine lv_iinc (v := z45) (lv' := [(3, .int z45), (4, .int (0 : Int32)), (0, .ref q), (1, .int v25_1), (2, .int v13_2)]) hx hb dX10_swapsOf_129 hl (k := 4) rfl (by rw [ez45]; rfl) (by decide) rfl (fun ls hl => ?_)
                refine lv_goto (tgt := 25) hx hb dX10_swapsOf_132 (by decide) ?_
                exact ih25 _ _ _ _ v25_1 z45 (fu_s hfu25 a47 (by decide)) hI hH (rg_w r46 (by decide)) r25_v13_2 (lv_sub hl [2, 3, 4, 0] rfl)
          refine lv_iload_n hx hb dX10_swapsOf_25 rfl (lv_at hl 3 rfl) ?_
          refine lv_aload_n hx hb dX10_swapsOf_26 rfl (lv_at hl 0 rfl) ?_
          refine t_Vi C hO hl.1 hA hH hI.1 (As := []) (rest := [.int v25_3]) (t_X10_members l E J τ L fh25 hI.1 mq tq) my_X10_members wd756 mq tq td_40 rfl rfl rfl (Nat.le_of_ble_eq_true rfl) ⟨Nat.le_of_ble_eq_true rfl, Nat.le_of_ble_eq_true rfl⟩ ⟨rfl, rfl⟩ dX10_swapsOf_27 (fun r49 L1 f48 H locs hp hH => ?_)
          obtain ⟨rfl, s50, h51⟩ := hp
          have hJ := hI
          have hI := hI.call s50 (by decide)
          refine lv_icmp_ge (tgt := 135) hx hb dX10_swapsOf_30 (by decide) (fun c52 => ?_) (fun c52 => ?_)
          · skip
            obtain ⟨z53, ez53⟩ : ∃ y : Int32, y = v13_2 + (1 : Int32) := ⟨_, rfl⟩
            have r54 : rg z53 1 6 := rg_add ez53 r25_v13_2 rl_1 (by decide)
            have a55 : z53.toInt = v13_2.toInt + 1 := ai_add ez53 r25_v13_2 tl_1 (by decide)
            refine lv_iinc (v := z53) (lv' := [(2, .int z53), (0, .ref q), (1, .int v25_1), (3, .int v25_3)]) hx hb dX10_swapsOf_135 hl (k := 2) rfl (by rw [ez53]; rfl) (by decide) rfl (fun ls hl => ?_)
            refine lv_goto (tgt := 13) hx hb dX10_swapsOf_138 (by decide) ?_
            exact ih13 _ _ _ _ v25_1 z53 (fu_s hfu13 a55 (by decide)) hI hH (rg_w r54 (by decide)) (lv_sub hl [1, 2, 0] rfl)
          · skip
            have r56 : rg v25_3 1 5 := rf_ltl (n_le c52) r_v25_3 h51.1 (by decide)
            have r57 : rg r49 2 6 := rf_ltr (n_le c52) r_v25_3 h51.1 (by decide)
            refine lv_aload_n hx hb dX10_swapsOf_33 rfl (lv_at hl 0 rfl) ?_
            refine lv_iload_n hx hb dX10_swapsOf_34 rfl (lv_at hl 2 rfl) ?_
            refine lv_aload_n hx hb dX10_swapsOf_35 rfl (lv_at hl 0 rfl) ?_
            refine t_getX C hH hI.1 mq tq td_40 iX10 rfl 19 (by decide) wd818 rfl (hI.rf kq_19) dX10_swapsOf_36 ?_
            refine lv_iconst (v := (3 : Int32)) hx hb dX10_swapsOf_39 (by decide) ?_
            refine lv_iload_n hx hb dX10_swapsOf_40 rfl (lv_at hl 2 rfl) ?_
            refine lv_imul hx hb dX10_swapsOf_41 ?_
            refine lv_topi (fun z58 ez58 => ?_)
            have r59 : rg z58 0 15 := rg_mul ez58 rl_3 r25_v13_2 (by decide)
            have m60 := mul3 ez58 r25_v13_2 (by decide)
            refine t_ald C hH hI.1 mq_19 tq_19 td_49 (rg_in r59 (by decide)) dX10_swapsOf_42 (fun z61v az61 pz61 => ?_)
            refine lv_topi (fun z61 ez61 => ?_)
            have r62 : rg z61 0 19 := mem_c pz61 (rg_in r59 (by decide)) m60 ez61
            refine t_Vi C hO hl.1 hA hH hI.1 (As := [.int v13_2, .int z61]) (rest := []) (t_X10_isServedIn l E J τ L f48 hI.1 mq tq v13_2 r25_v13_2 z61 r62) my_X10_isServedIn wd826 mq tq td_40 rfl rfl rfl (Nat.le_of_ble_eq_true rfl) ⟨Nat.le_of_ble_eq_true rfl, Nat.le_of_ble_eq_true rfl⟩ ⟨rfl, rfl⟩ dX10_swapsOf_43 (fun r64 L1 f63 H locs hp hH => ?_)
            obtain ⟨rfl, s65, h66⟩ := hp
            have hI := hI.call s65 (by decide)
            refine lv_if_eq (tgt := 69) hx hb dX10_swapsOf_46 (by decide) (fun c67 => ?_) (fun c67 => ?_)
            · skip
              have r68 : rg r64 0 0 := rf_eql (c_eq c67) h66 rl_0 (by decide)
              exact cut69 _ _ _ _ hI hH r56 (lv_sub hl [0, 1, 2, 3] rfl)
            · skip
              have r69 : rg r64 1 1 := rf_nel (n_eq c67) h66 rl_0 (by decide)
              refine lv_aload_n hx hb dX10_swapsOf_49 rfl (lv_at hl 0 rfl) ?_
              refine lv_iload_n hx hb dX10_swapsOf_50 rfl (lv_at hl 3 rfl) ?_
              refine lv_aload_n hx hb dX10_swapsOf_51 rfl (lv_at hl 0 rfl) ?_
              refine t_getX C hH hI.1 mq tq td_40 iX10 rfl 19 (by decide) wd818 rfl (hI.rf kq_19) dX10_swapsOf_52 ?_
              refine lv_iconst (v := (3 : Int32)) hx hb dX10_swapsOf_55 (by decide) ?_
              refine lv_iload_n hx hb dX10_swapsOf_56 rfl (lv_at hl 3 rfl) ?_
              refine lv_imul hx hb dX10_swapsOf_57 ?_
              refine lv_topi (fun z70 ez70 => ?_)
              have r71 : rg z70 3 15 := rg_mul ez70 rl_3 r56 (by decide)
              have m72 := mul3 ez70 r56 (by decide)
              refine t_ald C hH hI.1 mq_19 tq_19 td_49 (rg_in r71 (by decide)) dX10_swapsOf_58 (fun z73v az73 pz73 => ?_)
              refine lv_topi (fun z73 ez73 => ?_)
              have r74 : rg z73 0 19 := mem_c pz73 (rg_in r71 (by decide)) m72 ez73
              refine t_Vi C hO hl.1 hA hH hI.1 (As := [.int v25_3, .int z73]) (rest := []) (t_X10_isServedIn l E J τ L f63 hI.1 mq tq v25_3 (rg_w r56 (by decide)) z73 r74) my_X10_isServedIn wd826 mq tq td_40 rfl rfl rfl (Nat.le_of_ble_eq_true rfl) ⟨Nat.le_of_ble_eq_true rfl, Nat.le_of_ble_eq_true rfl⟩ ⟨rfl, rfl⟩ dX10_swapsOf_59 (fun r76 L1 f75 H locs hp hH => ?_)
              obtain ⟨rfl, s77, h78⟩ := hp
              have hI := hI.call s77 (by decide)
              refine lv_if_eq (tgt := 69) hx hb dX10_swapsOf_62 (by decide) (fun c79 => ?_) (fun c79 => ?_)
              · skip
                have r80 : rg r76 0 0 := rf_eql (c_eq c79) h78 rl_0 (by decide)
                exact cut69 _ _ _ _ hI hH r56 (lv_sub hl [0, 1, 2, 3] rfl)
              · skip
                have r81 : rg r76 1 1 := rf_nel (n_eq c79) h78 rl_0 (by decide)
                refine lv_iconst (v := (1 : Int32)) hx hb dX10_swapsOf_65 (by decide) ?_
                refine lv_goto (tgt := 70) hx hb dX10_swapsOf_66 (by decide) ?_
                refine lv_istore (lv' := [(4, .int (1 : Int32)), (0, .ref q), (1, .int v25_1), (2, .int v13_2), (3, .int v25_3)]) hx hb dX10_swapsOf_70 hl (by decide) rfl (fun ls hl => ?_)
                refine lv_iload hx hb dX10_swapsOf_72 (lv_at hl 0 rfl) ?_
                refine lv_if_ne (tgt := 129) hx hb dX10_swapsOf_74 (by decide) (fun _ => ?_) (fun h => absurd h (by decide))
                obtain ⟨z82, ez82⟩ : ∃ y : Int32, y = v25_3 + (1 : Int32) := ⟨_, rfl⟩
                have r83 : rg z82 2 6 := rg_add ez82 r56 rl_1 (by decide)
                have a84 : z82.toInt = v25_3.toInt + 1 := ai_add ez82 r56 tl_1 (by decide)
                refine lv_iinc (v := z82) (lv' := [(3, .int z82), (4, .int (1 : Int32)), (0, .ref q), (1, .int v25_1), (2, .int v13_2)]) hx hb dX10_swapsOf_129 hl (k := 4) rfl (by rw [ez82]; rfl) (by decide) rfl (fun ls hl => ?_)
                refine lv_goto (tgt := 25) hx hb dX10_swapsOf_132 (by decide) ?_
                exact ih25 _ _ _ _ v25_1 z82 (fu_s hfu25 a84 (by decide)) hI hH (rg_w r83 (by decide)) r25_v13_2 (lv_sub hl [2, 3, 4, 0] rfl)
      refine lv_iload_n hx hb dX10_swapsOf_13 rfl (lv_at hl 2 rfl) ?_
      refine lv_aload_n hx hb dX10_swapsOf_14 rfl (lv_at hl 0 rfl) ?_
      refine t_Vi C hO hl.1 hA hH hI.1 (As := []) (rest := [.int v13_2]) (t_X10_members l E J τ L fh13 hI.1 mq tq) my_X10_members wd756 mq tq td_40 rfl rfl rfl (Nat.le_of_ble_eq_true rfl) ⟨Nat.le_of_ble_eq_true rfl, Nat.le_of_ble_eq_true rfl⟩ ⟨rfl, rfl⟩ dX10_swapsOf_15 (fun r86 L1 f85 H locs hp hH => ?_)
      obtain ⟨rfl, s87, h88⟩ := hp
      have hJ := hI
      have hI := hI.call s87 (by decide)
      refine lv_icmp_ge (tgt := 141) hx hb dX10_swapsOf_18 (by decide) (fun c89 => ?_) (fun c89 => ?_)
      · skip
        refine lv_iload_n hx hb dX10_swapsOf_141 rfl (lv_at hl 1 rfl) ?_
        exact g_iret C hr hH (Nat.zero_le _) (Nat.zero_le _) dX10_swapsOf_142 ⟨rfl, hI, (rg_all _)⟩
      · skip
        have r90 : rg v13_2 0 5 := rf_ltl (n_le c89) r_v13_2 h88.1 (by decide)
        have r91 : rg r86 1 6 := rf_ltr (n_le c89) r_v13_2 h88.1 (by decide)
        refine lv_iload_n hx hb dX10_swapsOf_21 rfl (lv_at hl 2 rfl) ?_
        refine lv_iconst (v := (1 : Int32)) hx hb dX10_swapsOf_22 (by decide) ?_
        refine lv_iadd hx hb dX10_swapsOf_23 ?_
        refine lv_topi (fun z92 ez92 => ?_)
        have r93 : rg z92 1 6 := rg_add ez92 r90 rl_1 (by decide)
        have a94 : z92.toInt = v13_2.toInt + 1 := ai_add ez92 r90 tl_1 (by decide)
        refine lv_istore_n (lv' := [(3, .int z92), (0, .ref q), (1, .int v13_1), (2, .int v13_2)]) hx hb dX10_swapsOf_24 rfl hl (by decide) rfl (fun ls hl => ?_)
        exact cut25 6 _ _ _ _ v13_1 z92 (fu_i 6 r93 (by decide)) hI hH r93 r90 (lv_sub hl [1, 2, 3, 0] rfl)
  refine lv_aload_n hx hb dX10_swapsOf_0 rfl (lv_at hl 0 rfl) ?_
  refine t_Vv C hO hl.1 hA hH hI.1 (As := []) (rest := []) (t_X10_laysNow l E J τ L f hI.1 mq tq (hh.S hI rfl) hW) my_X10_laysNow wd842 mq tq td_40 rfl rfl rfl (Nat.le_of_ble_eq_true rfl) ⟨Nat.le_of_ble_eq_true rfl, Nat.le_of_ble_eq_true rfl⟩ ⟨rfl, rfl⟩ dX10_swapsOf_1 (fun L1 f95 H locs hp hH => ?_)
  obtain ⟨rfl, s97, h98⟩ := hp
  have hI := hI.call s97 (by decide)
  refine lv_iconst (v := (0 : Int32)) hx hb dX10_swapsOf_4 (by decide) ?_
  refine lv_istore_n (lv' := [(1, .int (0 : Int32)), (0, .ref q)]) hx hb dX10_swapsOf_5 rfl hl (by decide) rfl (fun ls hl => ?_)
  refine lv_aload_n hx hb dX10_swapsOf_6 rfl (lv_at hl 1 rfl) ?_
  refine lv_iconst (v := (-1 : Int32)) hx hb dX10_swapsOf_7 (by decide) ?_
  refine t_put C hH hI mq tq (by decide) td_40 iX10 tyX10 tyX10_ok nmX10 rfl 44 (by decide) wd843 rfl rfl (v := .int (-1 : Int32)) rfl rfl rfl ⟨_, rfl, (rg_w rl_m1 (by decide))⟩ (fun _ h => nomatch h) dX10_swapsOf_8 (fun f99 H locs hH hI nf99 of99 bf99 => ?_)
  refine lv_iconst (v := (0 : Int32)) hx hb dX10_swapsOf_11 (by decide) ?_
  refine lv_istore_n (lv' := [(2, .int (0 : Int32)), (1, .int (0 : Int32)), (0, .ref q)]) hx hb dX10_swapsOf_12 rfl hl (by decide) rfl (fun ls hl => ?_)
  exact cut13 7 _ _ _ _ (0 : Int32) (0 : Int32) (fu_i 7 rl_0 (by decide)) hI hH (rg_w rl_0 (by decide)) (lv_sub hl [2, 1, 0] rfl)
set_option maxHeartbeats 4000000 in
set_option maxRecDepth 100000 in
theorem t_X10_hasBy (l : Launch) (E : gE) (J : Nat → Nat) (τ : Nat → Nat) (L : List Nat) (f : gF) (hI : tI E L τ f) {q : Nat} (mq : q ∈ L) (tq : τ q = 40) (p1 : Int32) (rp1 : rg p1 0 5) (p2 : Int32) (rp2 : rg p2 0 5) (p3 : Int32) (rp3 : rg p3 0 5) (p4 : Int32) (p5 : Int32) {vh : Nat → Int32} (hh : isA E L τ f 47 45 vh) (hW : 1 ≤ (vh 0).toInt) : tMi l E J yX10_hasBy cX10_hasBy 6 .int (gRm (6) 0 0) [.ref q, .int p1, .int p2, .int p3, .int p4, .int p5] L f (tPi E L τ [40, 52, 53, 54, 55, 56] f (fun r f1 => rg r (-2147483648) 2147483647)) := by
  refine tMi.intro (by decide) (Nat.le_of_ble_eq_true rfl) ?_
  intro p e s m below meth c A ls C hr hA hO hH hl
  have C : gC E cX10_hasBy 6 RX10 p s m _ meth c := C
  have hl : lv_has ls 6 [(0, .ref q), (1, .int p1), (2, .int p2), (3, .int p3), (4, .int p4), (5, .int p5)] := hl
  have hx := C.1
  have hb := C.2.1
  have hI := hI.S [40, 52, 53, 54, 55, 56]
  obtain ⟨q_19, mq_19, tq_19, kq_19⟩ := t_fldr hI.1 mq tq td_40 (k := 19) rfl
  refine lv_aload_n hx hb dX10_hasBy_0 rfl (lv_at hl 0 rfl) ?_
  refine t_Vv C hO hl.1 hA hH hI.1 (As := []) (rest := []) (t_X10_lays l E J τ L f hI.1 mq tq) my_X10_lays wd813 mq tq td_40 rfl rfl rfl (Nat.le_of_ble_eq_true rfl) ⟨Nat.le_of_ble_eq_true rfl, Nat.le_of_ble_eq_true rfl⟩ ⟨rfl, rfl⟩ dX10_hasBy_1 (fun L1 f1 H locs hp hH => ?_)
  obtain ⟨rfl, s3, h4⟩ := hp
  have hI := hI.call s3 (by decide)
  refine lv_aload_n hx hb dX10_hasBy_4 rfl (lv_at hl 0 rfl) ?_
  refine lv_dup hx hb dX10_hasBy_5 rfl ?_
  refine t_geti C hH hI.1 mq tq td_40 iX10 rfl 22 (by decide) wd771 rfl rfl dX10_hasBy_6 (fun z5 rz5 => ?_)
  refine lv_iconst (v := (1 : Int32)) hx hb dX10_hasBy_9 (by decide) ?_
  refine lv_aload_n hx hb dX10_hasBy_10 rfl (lv_at hl 0 rfl) ?_
  refine t_getX C hH hI.1 mq tq td_40 iX10 rfl 19 (by decide) wd818 rfl (hI.rf kq_19) dX10_hasBy_11 ?_
  refine lv_iconst (v := (3 : Int32)) hx hb dX10_hasBy_14 (by decide) ?_
  refine lv_iload_n hx hb dX10_hasBy_15 rfl (lv_at hl 2 rfl) ?_
  refine lv_imul hx hb dX10_hasBy_16 ?_
  refine lv_topi (fun z6 ez6 => ?_)
  have r7 : rg z6 0 15 := rg_mul ez6 rl_3 rp2 (by decide)
  have m8 := mul3 ez6 rp2 (by decide)
  refine t_ald C hH hI.1 mq_19 tq_19 td_49 (rg_in r7 (by decide)) dX10_hasBy_17 (fun z9v az9 pz9 => ?_)
  refine lv_topi (fun z9 ez9 => ?_)
  have r10 : rg z9 0 19 := mem_c pz9 (rg_in r7 (by decide)) m8 ez9
  refine lv_ishl hx hb dX10_hasBy_18 ?_
  refine lv_topi (fun z11 ez11 => ?_)
  have r12 : rg z11 1 524288 := rg_shl 0 19 ez11 r10 (by decide)
  refine lv_iconst (v := (1 : Int32)) hx hb dX10_hasBy_19 (by decide) ?_
  refine lv_aload_n hx hb dX10_hasBy_20 rfl (lv_at hl 0 rfl) ?_
  refine t_getX C hH hI.1 mq tq td_40 iX10 rfl 19 (by decide) wd818 rfl (hI.rf kq_19) dX10_hasBy_21 ?_
  refine lv_iconst (v := (3 : Int32)) hx hb dX10_hasBy_24 (by decide) ?_
  refine lv_iload_n hx hb dX10_hasBy_25 rfl (lv_at hl 3 rfl) ?_
  refine lv_imul hx hb dX10_hasBy_26 ?_
  refine lv_topi (fun z13 ez13 => ?_)
  have r14 : rg z13 0 15 := rg_mul ez13 rl_3 rp3 (by decide)
  have m15 := mul3 ez13 rp3 (by decide)
  refine t_ald C hH hI.1 mq_19 tq_19 td_49 (rg_in r14 (by decide)) dX10_hasBy_27 (fun z16v az16 pz16 => ?_)
  refine lv_topi (fun z16 ez16 => ?_)
  have r17 : rg z16 0 19 := mem_c pz16 (rg_in r14 (by decide)) m15 ez16
  refine lv_ishl hx hb dX10_hasBy_28 ?_
  refine lv_topi (fun z18 ez18 => ?_)
  have r19 : rg z18 1 524288 := rg_shl 0 19 ez18 r17 (by decide)
  refine lv_ior hx hb dX10_hasBy_29 ?_
  refine lv_topi (fun z20 ez20 => ?_)
  have r21 : rg z20 0 1048575 := rg_or 20 ez20 r12 r19 (by decide)
  refine lv_iconst (v := (-1 : Int32)) hx hb dX10_hasBy_30 (by decide) ?_
  refine lv_ixor hx hb dX10_hasBy_31 ?_
  refine lv_topi (fun z22 ez22 => ?_)
  refine lv_iand hx hb dX10_hasBy_32 ?_
  refine lv_topi (fun z23 ez23 => ?_)
  refine t_put C hH hI mq tq (by decide) td_40 iX10 tyX10 tyX10_ok nmX10 rfl 22 (by decide) wd771 rfl rfl (v := .int z23) rfl rfl rfl ⟨_, rfl, (rg_all _)⟩ (fun _ h => nomatch h) dX10_hasBy_33 (fun f24 H locs hH hI nf24 of24 bf24 => ?_)
  refine lv_aload_n hx hb dX10_hasBy_36 rfl (lv_at hl 0 rfl) ?_
  refine lv_dup hx hb dX10_hasBy_37 rfl ?_
  refine t_geti C hH hI.1 mq tq td_40 iX10 rfl 22 (by decide) wd771 rfl rfl dX10_hasBy_38 (fun z25 rz25 => ?_)
  refine lv_iload hx hb dX10_hasBy_41 (lv_at hl 4 rfl) ?_
  refine lv_aload_n hx hb dX10_hasBy_43 rfl (lv_at hl 0 rfl) ?_
  refine t_getX C hH hI.1 mq tq td_40 iX10 rfl 19 (by decide) wd818 rfl (hI.rf kq_19) dX10_hasBy_44 ?_
  refine lv_iconst (v := (3 : Int32)) hx hb dX10_hasBy_47 (by decide) ?_
  refine lv_iload_n hx hb dX10_hasBy_48 rfl (lv_at hl 2 rfl) ?_
  refine lv_imul hx hb dX10_hasBy_49 ?_
  refine lv_topi (fun z26 ez26 => ?_)
  have r27 : rg z26 0 15 := rg_mul ez26 rl_3 rp2 (by decide)
  have m28 := mul3 ez26 rp2 (by decide)
  refine t_ald C hH hI.1 mq_19 tq_19 td_49 (rg_in r27 (by decide)) dX10_hasBy_50 (fun z29v az29 pz29 => ?_)
  refine lv_topi (fun z29 ez29 => ?_)
  have r30 : rg z29 0 19 := mem_c pz29 (rg_in r27 (by decide)) m28 ez29
  refine lv_ishl hx hb dX10_hasBy_51 ?_
  refine lv_topi (fun z31 ez31 => ?_)
  refine lv_iload hx hb dX10_hasBy_52 (lv_at hl 5 rfl) ?_
  refine lv_aload_n hx hb dX10_hasBy_54 rfl (lv_at hl 0 rfl) ?_
  refine t_getX C hH hI.1 mq tq td_40 iX10 rfl 19 (by decide) wd818 rfl (hI.rf kq_19) dX10_hasBy_55 ?_
  refine lv_iconst (v := (3 : Int32)) hx hb dX10_hasBy_58 (by decide) ?_
  refine lv_iload_n hx hb dX10_hasBy_59 rfl (lv_at hl 3 rfl) ?_
  refine lv_imul hx hb dX10_hasBy_60 ?_
  refine lv_topi (fun z32 ez32 => ?_)
  have r33 : rg z32 0 15 := rg_mul ez32 rl_3 rp3 (by decide)
  have m34 := mul3 ez32 rp3 (by decide)
  refine t_ald C hH hI.1 mq_19 tq_19 td_49 (rg_in r33 (by decide)) dX10_hasBy_61 (fun z35v az35 pz35 => ?_)
  refine lv_topi (fun z35 ez35 => ?_)
  have r36 : rg z35 0 19 := mem_c pz35 (rg_in r33 (by decide)) m34 ez35
  refine lv_ishl hx hb dX10_hasBy_62 ?_
  refine lv_topi (fun z37 ez37 => ?_)
  refine lv_ior hx hb dX10_hasBy_63 ?_
  refine lv_topi (fun z38 ez38 => ?_)
  refine lv_ior hx hb dX10_hasBy_64 ?_
  refine lv_topi (fun z39 ez39 => ?_)
  refine t_put C hH hI mq tq (by decide) td_40 iX10 tyX10 tyX10_ok nmX10 rfl 22 (by decide) wd771 rfl rfl (v := .int z39) rfl rfl rfl ⟨_, rfl, (rg_all _)⟩ (fun _ h => nomatch h) dX10_hasBy_65 (fun f40 H locs hH hI nf40 of40 bf40 => ?_)
  refine lv_aload_n hx hb dX10_hasBy_68 rfl (lv_at hl 0 rfl) ?_
  refine t_Vv C hO hl.1 hA hH hI.1 (As := []) (rest := []) (t_X10_runs l E J τ L f40 hI.1 mq tq (hh.S hI rfl) hW) my_X10_runs wd817 mq tq td_40 rfl rfl rfl (Nat.le_of_ble_eq_true rfl) ⟨Nat.le_of_ble_eq_true rfl, Nat.le_of_ble_eq_true rfl⟩ ⟨rfl, rfl⟩ dX10_hasBy_69 (fun L1 f41 H locs hp hH => ?_)
  obtain ⟨rfl, s43, h44⟩ := hp
  have hI := hI.call s43 (by decide)
  refine lv_aload_n hx hb dX10_hasBy_72 rfl (lv_at hl 0 rfl) ?_
  refine lv_iload_n hx hb dX10_hasBy_73 rfl (lv_at hl 1 rfl) ?_
  refine lv_aload_n hx hb dX10_hasBy_74 rfl (lv_at hl 0 rfl) ?_
  refine t_getX C hH hI.1 mq tq td_40 iX10 rfl 19 (by decide) wd818 rfl (hI.rf kq_19) dX10_hasBy_75 ?_
  refine lv_iconst (v := (3 : Int32)) hx hb dX10_hasBy_78 (by decide) ?_
  refine lv_iload_n hx hb dX10_hasBy_79 rfl (lv_at hl 1 rfl) ?_
  refine lv_imul hx hb dX10_hasBy_80 ?_
  refine lv_topi (fun z45 ez45 => ?_)
  have r46 : rg z45 0 15 := rg_mul ez45 rl_3 rp1 (by decide)
  have m47 := mul3 ez45 rp1 (by decide)
  refine t_ald C hH hI.1 mq_19 tq_19 td_49 (rg_in r46 (by decide)) dX10_hasBy_81 (fun z48v az48 pz48 => ?_)
  refine lv_topi (fun z48 ez48 => ?_)
  have r49 : rg z48 0 19 := mem_c pz48 (rg_in r46 (by decide)) m47 ez48
  refine t_Vi C hO hl.1 hA hH hI.1 (As := [.int p1, .int z48]) (rest := []) (t_X10_isServedIn l E J τ L f41 hI.1 mq tq p1 rp1 z48 r49) my_X10_isServedIn wd826 mq tq td_40 rfl rfl rfl (Nat.le_of_ble_eq_true rfl) ⟨Nat.le_of_ble_eq_true rfl, Nat.le_of_ble_eq_true rfl⟩ ⟨rfl, rfl⟩ dX10_hasBy_82 (fun r51 L1 f50 H locs hp hH => ?_)
  obtain ⟨rfl, s52, h53⟩ := hp
  have hI := hI.call s52 (by decide)
  refine lv_if_eq (tgt := 96) hx hb dX10_hasBy_85 (by decide) (fun c54 => ?_) (fun c54 => ?_)
  · skip
    have r55 : rg r51 0 0 := rf_eql (c_eq c54) h53 rl_0 (by decide)
    refine lv_iconst (v := (0 : Int32)) hx hb dX10_hasBy_96 (by decide) ?_
    refine lv_iconst (v := (5 : Int32)) hx hb dX10_hasBy_97 (by decide) ?_
    refine lv_iload_n hx hb dX10_hasBy_98 rfl (lv_at hl 1 rfl) ?_
    refine lv_iload_n hx hb dX10_hasBy_99 rfl (lv_at hl 2 rfl) ?_
    refine lv_icmp_ne (tgt := 108) hx hb dX10_hasBy_100 (by decide) (fun c56 => ?_) (fun c56 => ?_)
    · skip
      refine lv_iload hx hb dX10_hasBy_108 (lv_at hl 5 rfl) ?_
      refine lv_imul hx hb dX10_hasBy_110 ?_
      refine lv_topi (fun z57 ez57 => ?_)
      refine lv_isub hx hb dX10_hasBy_111 ?_
      refine lv_topi (fun z58 ez58 => ?_)
      exact g_iret C hr hH (Nat.zero_le _) (Nat.zero_le _) dX10_hasBy_112 ⟨rfl, hI, (rg_all _)⟩
    · skip
      refine lv_iload hx hb dX10_hasBy_103 (lv_at hl 4 rfl) ?_
      refine lv_goto (tgt := 110) hx hb dX10_hasBy_105 (by decide) ?_
      refine lv_imul hx hb dX10_hasBy_110 ?_
      refine lv_topi (fun z59 ez59 => ?_)
      refine lv_isub hx hb dX10_hasBy_111 ?_
      refine lv_topi (fun z60 ez60 => ?_)
      exact g_iret C hr hH (Nat.zero_le _) (Nat.zero_le _) dX10_hasBy_112 ⟨rfl, hI, (rg_all _)⟩
  · skip
    have r61 : rg r51 1 1 := rf_nel (n_eq c54) h53 rl_0 (by decide)
    refine lv_aload_n hx hb dX10_hasBy_88 rfl (lv_at hl 0 rfl) ?_
    refine lv_iload_n hx hb dX10_hasBy_89 rfl (lv_at hl 1 rfl) ?_
    refine t_Vi C hO hl.1 hA hH hI.1 (As := [.int p1]) (rest := []) (t_X10_paysOf l E J τ L f50 hI.1 mq tq p1 rp1) my_X10_paysOf wd830 mq tq td_40 rfl rfl rfl (Nat.le_of_ble_eq_true rfl) ⟨Nat.le_of_ble_eq_true rfl, Nat.le_of_ble_eq_true rfl⟩ ⟨rfl, rfl⟩ dX10_hasBy_90 (fun r63 L1 f62 H locs hp hH => ?_)
    obtain ⟨rfl, s64, h65⟩ := hp
    have hI := hI.call s64 (by decide)
    refine lv_goto (tgt := 97) hx hb dX10_hasBy_93 (by decide) ?_
    refine lv_iconst (v := (5 : Int32)) hx hb dX10_hasBy_97 (by decide) ?_
    refine lv_iload_n hx hb dX10_hasBy_98 rfl (lv_at hl 1 rfl) ?_
    refine lv_iload_n hx hb dX10_hasBy_99 rfl (lv_at hl 2 rfl) ?_
    refine lv_icmp_ne (tgt := 108) hx hb dX10_hasBy_100 (by decide) (fun c66 => ?_) (fun c66 => ?_)
    · skip
      refine lv_iload hx hb dX10_hasBy_108 (lv_at hl 5 rfl) ?_
      refine lv_imul hx hb dX10_hasBy_110 ?_
      refine lv_topi (fun z67 ez67 => ?_)
      refine lv_isub hx hb dX10_hasBy_111 ?_
      refine lv_topi (fun z68 ez68 => ?_)
      exact g_iret C hr hH (Nat.zero_le _) (Nat.zero_le _) dX10_hasBy_112 ⟨rfl, hI, (rg_all _)⟩
    · skip
      refine lv_iload hx hb dX10_hasBy_103 (lv_at hl 4 rfl) ?_
      refine lv_goto (tgt := 110) hx hb dX10_hasBy_105 (by decide) ?_
      refine lv_imul hx hb dX10_hasBy_110 ?_
      refine lv_topi (fun z69 ez69 => ?_)
      refine lv_isub hx hb dX10_hasBy_111 ?_
      refine lv_topi (fun z70 ez70 => ?_)
      exact g_iret C hr hH (Nat.zero_le _) (Nat.zero_le _) dX10_hasBy_112 ⟨rfl, hI, (rg_all _)⟩
set_option maxHeartbeats 4000000 in
set_option maxRecDepth 100000 in
theorem t_X10_fogWeight (l : Launch) (E : gE) (J : Nat → Nat) (τ : Nat → Nat) (L : List Nat) (f : gF) (hI : tI E L τ f) {q : Nat} (mq : q ∈ L) (tq : τ q = 40) (p1 : Int32) : tMi l E J yX10_fogWeight cX10_fogWeight 4 .int (gRm (2) 0 0) [.ref q, .int p1] L f (tPi E L τ [] f (fun r f1 => rg r (-2147483648) 2147483647)) := by
  refine tMi.intro (by decide) (Nat.le_of_ble_eq_true rfl) ?_
  intro p e s m below meth c A ls C hr hA hO hH hl
  have C : gC E cX10_fogWeight 4 RX10 p s m _ meth c := C
  have hl : lv_has ls 4 [(0, .ref q), (1, .int p1)] := hl
  have hx := C.1
  have hb := C.2.1
  have hI := hI.S []
  obtain ⟨q_17, mq_17, tq_17, kq_17⟩ := t_fldr hI.1 mq tq td_40 (k := 17) rfl
  have cut4 : ∀ (n : Nat) (fh4 : gF) (H : Heap) (locs : List Loc) (ls : Array Slot) (v4_2 : Int32) (v4_3 : Int32), 4 - v4_3.toInt < (n : Int) → tS E L τ [] f fh4 → gH E A L fh4 s.heap H locs → rg v4_3 0 4 → lv_has ls 4 [(0, .ref q), (1, .int p1), (2, .int v4_2), (3, .int v4_3)] → W p l e (gRm (2) 0 0) s m [.ref q, .int p1].toArray below meth c H locs 0 0 (MQ below (gQi E A (tPi E L τ [] f (fun r f1 => rg r (-2147483648) 2147483647))) [.ref q, .int p1].toArray s (gRm (2) 0 0).cells (gRm (2) 0 0).slots A) (F0 m 4 ls []) := by
    intro n
    induction n with
    | zero =>
      intro fh4 H locs ls v4_2 v4_3 hfu4 hI hH r_v4_3 hl
      exact (fu_0 hfu4 r_v4_3).elim
    | succ n ih4 =>
      intro fh4 H locs ls v4_2 v4_3 hfu4 hI hH r_v4_3 hl
      refine lv_iload_n hx hb dX10_fogWeight_4 rfl (lv_at hl 3 rfl) ?_
      refine lv_aload_n hx hb dX10_fogWeight_5 rfl (lv_at hl 0 rfl) ?_
      refine t_Vi C hO hl.1 hA hH hI.1 (As := []) (rest := [.int v4_3]) (t_X10_flights l E J τ L fh4 hI.1 mq tq) my_X10_flights wd752 mq tq td_40 rfl rfl rfl (Nat.le_of_ble_eq_true rfl) ⟨Nat.le_of_ble_eq_true rfl, Nat.le_of_ble_eq_true rfl⟩ ⟨rfl, rfl⟩ dX10_fogWeight_6 (fun r2 L1 f1 H locs hp hH => ?_)
      obtain ⟨rfl, s3, h4⟩ := hp
      have hJ := hI
      have hI := hI.call s3 (by decide)
      refine lv_icmp_ge (tgt := 47) hx hb dX10_fogWeight_9 (by decide) (fun c5 => ?_) (fun c5 => ?_)
      · skip
        refine lv_iload_n hx hb dX10_fogWeight_47 rfl (lv_at hl 2 rfl) ?_
        exact g_iret C hr hH (Nat.zero_le _) (Nat.zero_le _) dX10_fogWeight_48 ⟨rfl, hI, (rg_all _)⟩
      · skip
        have r6 : rg v4_3 0 3 := rf_ltl (n_le c5) r_v4_3 h4.1 (by decide)
        have r7 : rg r2 1 4 := rf_ltr (n_le c5) r_v4_3 h4.1 (by decide)
        refine lv_iload_n hx hb dX10_fogWeight_12 rfl (lv_at hl 2 rfl) ?_
        refine lv_iload_n hx hb dX10_fogWeight_13 rfl (lv_at hl 1 rfl) ?_
        refine lv_iload_n hx hb dX10_fogWeight_14 rfl (lv_at hl 3 rfl) ?_
        refine t_Si C hO hl.1 hA hH (As := [.int p1, .int v4_3]) (rest := [.int v4_2]) (t_X10_isBit l E J τ L f1 hI.1 p1 v4_3) my_X10_isBit wd783 rfl rfl (Nat.le_of_ble_eq_true rfl) ⟨Nat.le_of_ble_eq_true rfl, Nat.le_of_ble_eq_true rfl⟩ ⟨rfl, rfl⟩ dX10_fogWeight_15 (fun r9 L1 f8 H locs hp hH => ?_)
        obtain ⟨rfl, s10, h11⟩ := hp
        have hI := hI.call s10 (by decide)
        refine lv_if_eq (tgt := 30) hx hb dX10_fogWeight_18 (by decide) (fun c12 => ?_) (fun c12 => ?_)
        · skip
          have r13 : rg r9 0 0 := rf_eql (c_eq c12) h11 rl_0 (by decide)
          refine lv_bipush (v := (10 : Int32)) hx hb dX10_fogWeight_30 (by decide) ?_
          refine lv_aload_n hx hb dX10_fogWeight_32 rfl (lv_at hl 0 rfl) ?_
          refine t_getX C hH hI.1 mq tq td_40 iX10 rfl 17 (by decide) wd747 rfl (hI.rf kq_17) dX10_fogWeight_33 ?_
          refine lv_iconst (v := (4 : Int32)) hx hb dX10_fogWeight_36 (by decide) ?_
          refine t_ald C hH hI.1 mq_17 tq_17 td_47 (rg_in rl_4 (by decide)) dX10_fogWeight_37 (fun z14v az14 pz14 => ?_)
          refine lv_topi (fun z14 ez14 => ?_)
          refine lv_isub hx hb dX10_fogWeight_38 ?_
          refine lv_topi (fun z15 ez15 => ?_)
          refine lv_imul hx hb dX10_fogWeight_39 ?_
          refine lv_topi (fun z16 ez16 => ?_)
          refine lv_istore_n (lv' := [(2, .int z16), (0, .ref q), (1, .int p1), (3, .int v4_3)]) hx hb dX10_fogWeight_40 rfl hl (by decide) rfl (fun ls hl => ?_)
          obtain ⟨z17, ez17⟩ : ∃ y : Int32, y = v4_3 + (1 : Int32) := ⟨_, rfl⟩
          have r18 : rg z17 1 4 := rg_add ez17 r6 rl_1 (by decide)
          have a19 : z17.toInt = v4_3.toInt + 1 := ai_add ez17 r6 tl_1 (by decide)
          refine lv_iinc (v := z17) (lv' := [(3, .int z17), (2, .int z16), (0, .ref q), (1, .int p1)]) hx hb dX10_fogWeight_41 hl (k := 3) rfl (by rw [ez17]; rfl) (by decide) rfl (fun ls hl => ?_)
          refine lv_goto (tgt := 4) hx hb dX10_fogWeight_44 (by decide) ?_
          exact ih4 _ _ _ _ z16 z17 (fu_s hfu4 a19 (by decide)) hI hH (rg_w r18 (by decide)) (lv_sub hl [2, 3, 1, 0] rfl)
        · skip
          have r20 : rg r9 1 1 := rf_nel (n_eq c12) h11 rl_0 (by decide)
          refine lv_aload_n hx hb dX10_fogWeight_21 rfl (lv_at hl 0 rfl) ?_
          refine t_getX C hH hI.1 mq tq td_40 iX10 rfl 17 (by decide) wd747 rfl (hI.rf kq_17) dX10_fogWeight_22 ?_
          refine lv_iconst (v := (4 : Int32)) hx hb dX10_fogWeight_25 (by decide) ?_
          refine t_ald C hH hI.1 mq_17 tq_17 td_47 (rg_in rl_4 (by decide)) dX10_fogWeight_26 (fun z21v az21 pz21 => ?_)
          refine lv_topi (fun z21 ez21 => ?_)
          refine lv_goto (tgt := 39) hx hb dX10_fogWeight_27 (by decide) ?_
          refine lv_imul hx hb dX10_fogWeight_39 ?_
          refine lv_topi (fun z22 ez22 => ?_)
          refine lv_istore_n (lv' := [(2, .int z22), (0, .ref q), (1, .int p1), (3, .int v4_3)]) hx hb dX10_fogWeight_40 rfl hl (by decide) rfl (fun ls hl => ?_)
          obtain ⟨z23, ez23⟩ : ∃ y : Int32, y = v4_3 + (1 : Int32) := ⟨_, rfl⟩
          have r24 : rg z23 1 4 := rg_add ez23 r6 rl_1 (by decide)
          have a25 : z23.toInt = v4_3.toInt + 1 := ai_add ez23 r6 tl_1 (by decide)
          refine lv_iinc (v := z23) (lv' := [(3, .int z23), (2, .int z22), (0, .ref q), (1, .int p1)]) hx hb dX10_fogWeight_41 hl (k := 3) rfl (by rw [ez23]; rfl) (by decide) rfl (fun ls hl => ?_)
          refine lv_goto (tgt := 4) hx hb dX10_fogWeight_44 (by decide) ?_
          exact ih4 _ _ _ _ z22 z23 (fu_s hfu4 a25 (by decide)) hI hH (rg_w r24 (by decide)) (lv_sub hl [2, 3, 1, 0] rfl)
  refine lv_iconst (v := (1 : Int32)) hx hb dX10_fogWeight_0 (by decide) ?_
  refine lv_istore_n (lv' := [(2, .int (1 : Int32)), (0, .ref q), (1, .int p1)]) hx hb dX10_fogWeight_1 rfl hl (by decide) rfl (fun ls hl => ?_)
  refine lv_iconst (v := (0 : Int32)) hx hb dX10_fogWeight_2 (by decide) ?_
  refine lv_istore_n (lv' := [(3, .int (0 : Int32)), (2, .int (1 : Int32)), (0, .ref q), (1, .int p1)]) hx hb dX10_fogWeight_3 rfl hl (by decide) rfl (fun ls hl => ?_)
  exact cut4 5 _ _ _ _ (1 : Int32) (0 : Int32) (fu_i 5 rl_0 (by decide)) hI hH (rg_w rl_0 (by decide)) (lv_sub hl [2, 3, 1, 0] rfl)
set_option maxHeartbeats 4000000 in
set_option maxRecDepth 100000 in
theorem t_X10_drawnFog (l : Launch) (E : gE) (J : Nat → Nat) (τ : Nat → Nat) (L : List Nat) (f : gF) (hI : tI E L τ f) {q : Nat} (mq : q ∈ L) (tq : τ q = 40) (p1 : Int64) : tMi l E J yX10_drawnFog cX10_drawnFog 7 .int (gRm (2) 0 0) [.ref q, .long p1] L f (tPi E L τ [] f (fun r f1 => rg r (-2147483648) 2147483647)) := by
  refine tMi.intro (by decide) (Nat.le_of_ble_eq_true rfl) ?_
  intro p e s m below meth c A ls C hr hA hO hH hl
  have C : gC E cX10_drawnFog 7 RX10 p s m _ meth c := C
  have hl : lv_has ls 7 [(0, .ref q), (1, .long p1)] := hl
  have hx := C.1
  have hb := C.2.1
  have hI := hI.S []
  obtain ⟨q_17, mq_17, tq_17, kq_17⟩ := t_fldr hI.1 mq tq td_40 (k := 17) rfl
  have cut8 : ∀ (n : Nat) (fh8 : gF) (H : Heap) (locs : List Loc) (ls : Array Slot) (v8_3 : Int64) (v8_5 : Int32) (v8_6 : Int32), 4 - v8_6.toInt < (n : Int) → tS E L τ [] f fh8 → gH E A L fh8 s.heap H locs → rg v8_5 0 15 → rg v8_6 0 4 → lv_has ls 7 [(0, .ref q), (1, .long p1), (3, .long v8_3), (5, .int v8_5), (6, .int v8_6)] → W p l e (gRm (2) 0 0) s m [.ref q, .long p1].toArray below meth c H locs 0 0 (MQ below (gQi E A (tPi E L τ [] f (fun r f1 => rg r (-2147483648) 2147483647))) [.ref q, .long p1].toArray s (gRm (2) 0 0).cells (gRm (2) 0 0).slots A) (F0 m 8 ls []) := by
    intro n
    induction n with
    | zero =>
      intro fh8 H locs ls v8_3 v8_5 v8_6 hfu8 hI hH r_v8_5 r_v8_6 hl
      exact (fu_0 hfu8 r_v8_6).elim
    | succ n ih8 =>
      intro fh8 H locs ls v8_3 v8_5 v8_6 hfu8 hI hH r_v8_5 r_v8_6 hl
      refine lv_iload hx hb dX10_drawnFog_8 (lv_at hl 4 rfl) ?_
      refine lv_aload_n hx hb dX10_drawnFog_10 rfl (lv_at hl 0 rfl) ?_
      refine t_Vi C hO hl.1 hA hH hI.1 (As := []) (rest := [.int v8_6]) (t_X10_flights l E J τ L fh8 hI.1 mq tq) my_X10_flights wd752 mq tq td_40 rfl rfl rfl (Nat.le_of_ble_eq_true rfl) ⟨Nat.le_of_ble_eq_true rfl, Nat.le_of_ble_eq_true rfl⟩ ⟨rfl, rfl⟩ dX10_drawnFog_11 (fun r2 L1 f1 H locs hp hH => ?_)
      obtain ⟨rfl, s3, h4⟩ := hp
      have hJ := hI
      have hI := hI.call s3 (by decide)
      refine lv_icmp_ge (tgt := 70) hx hb dX10_drawnFog_14 (by decide) (fun c5 => ?_) (fun c5 => ?_)
      · skip
        refine lv_iload hx hb dX10_drawnFog_70 (lv_at hl 3 rfl) ?_
        exact g_iret C hr hH (Nat.zero_le _) (Nat.zero_le _) dX10_drawnFog_72 ⟨rfl, hI, (rg_w r_v8_5 (by decide))⟩
      · skip
        have r6 : rg v8_6 0 3 := rf_ltl (n_le c5) r_v8_6 h4.1 (by decide)
        have r7 : rg r2 1 4 := rf_ltr (n_le c5) r_v8_6 h4.1 (by decide)
        refine lv_ldc2 hx hb C.2.2.2.1 (C.2.2.2.2.1 _ wd844) dX10_drawnFog_17 ?_
        refine lv_lload_n hx hb dX10_drawnFog_20 rfl (lv_at hl 2 rfl) ?_
        refine lv_lmul hx hb dX10_drawnFog_21 ?_
        refine lv_topl (fun z8 ez8 => ?_)
        refine lv_ldc2 hx hb C.2.2.2.1 (C.2.2.2.2.1 _ wd845) dX10_drawnFog_22 ?_
        refine lv_ladd hx hb dX10_drawnFog_25 ?_
        refine lv_topl (fun z9 ez9 => ?_)
        refine lv_ldc2 hx hb C.2.2.2.1 (C.2.2.2.2.1 _ wd846) dX10_drawnFog_26 ?_
        refine lv_lrem hx hb dX10_drawnFog_29 (by decide) ?_
        refine lv_topl (fun z10 ez10 => ?_)
        refine lv_lstore_n (lv' := [(3, .long z10), (0, .ref q), (1, .long p1), (5, .int v8_5), (6, .int v8_6)]) hx hb dX10_drawnFog_30 rfl hl (by decide) rfl (fun ls hl => ?_)
        refine lv_iload hx hb dX10_drawnFog_31 (lv_at hl 3 rfl) ?_
        refine lv_lload_n hx hb dX10_drawnFog_33 rfl (lv_at hl 0 rfl) ?_
        refine lv_ldc2 hx hb C.2.2.2.1 (C.2.2.2.2.1 _ wd847) dX10_drawnFog_34 ?_
        refine lv_ldiv hx hb dX10_drawnFog_37 (by decide) ?_
        refine lv_topl (fun z11 ez11 => ?_)
        refine lv_ldc2 hx hb C.2.2.2.1 (C.2.2.2.2.1 _ wd848) dX10_drawnFog_38 ?_
        refine lv_lrem hx hb dX10_drawnFog_41 (by decide) ?_
        refine lv_topl (fun z12 ez12 => ?_)
        refine lv_aload_n hx hb dX10_drawnFog_42 rfl (lv_at hl 1 rfl) ?_
        refine t_getX C hH hI.1 mq tq td_40 iX10 rfl 17 (by decide) wd747 rfl (hI.rf kq_17) dX10_drawnFog_43 ?_
        refine lv_iconst (v := (4 : Int32)) hx hb dX10_drawnFog_46 (by decide) ?_
        refine t_ald C hH hI.1 mq_17 tq_17 td_47 (rg_in rl_4 (by decide)) dX10_drawnFog_47 (fun z13v az13 pz13 => ?_)
        refine lv_topi (fun z13 ez13 => ?_)
        refine lv_i2l (v := (z13).toInt64) hx hb dX10_drawnFog_48 rfl ?_
        refine W.lcmp hx hb dX10_drawnFog_49 ?_
        refine lv_topi (fun z14 ez14 => ?_)
        refine lv_if_ge (tgt := 60) hx hb dX10_drawnFog_50 (by decide) (fun c15 => ?_) (fun c15 => ?_)
        · skip
          have r16 : rg z14 0 2147483647 := rf_ler (c_le c15) rl_0 (rg_all _) (by decide)
          refine lv_iconst (v := (0 : Int32)) hx hb dX10_drawnFog_60 (by decide) ?_
          refine lv_ior hx hb dX10_drawnFog_61 ?_
          refine lv_topi (fun z17 ez17 => ?_)
          have r18 : rg z17 0 15 := rg_or 4 ez17 r_v8_5 rl_0 (by decide)
          refine lv_istore (lv' := [(5, .int z17), (3, .long z10), (0, .ref q), (1, .long p1), (6, .int v8_6)]) hx hb dX10_drawnFog_62 hl (by decide) rfl (fun ls hl => ?_)
          obtain ⟨z19, ez19⟩ : ∃ y : Int32, y = v8_6 + (1 : Int32) := ⟨_, rfl⟩
          have r20 : rg z19 1 4 := rg_add ez19 r6 rl_1 (by decide)
          have a21 : z19.toInt = v8_6.toInt + 1 := ai_add ez19 r6 tl_1 (by decide)
          refine lv_iinc (v := z19) (lv' := [(6, .int z19), (5, .int z17), (3, .long z10), (0, .ref q), (1, .long p1)]) hx hb dX10_drawnFog_64 hl (k := 4) rfl (by rw [ez19]; rfl) (by decide) rfl (fun ls hl => ?_)
          refine lv_goto (tgt := 8) hx hb dX10_drawnFog_67 (by decide) ?_
          exact ih8 _ _ _ _ z10 z17 z19 (fu_s hfu8 a21 (by decide)) hI hH r18 (rg_w r20 (by decide)) (lv_sub hl [3, 4, 2, 1, 0] rfl)
        · skip
          have r22 : rg z14 (-2147483648) (-1) := rf_ltl (n_le c15) (rg_all _) rl_0 (by decide)
          refine lv_iconst (v := (1 : Int32)) hx hb dX10_drawnFog_53 (by decide) ?_
          refine lv_iload hx hb dX10_drawnFog_54 (lv_at hl 4 rfl) ?_
          refine lv_ishl hx hb dX10_drawnFog_56 ?_
          refine lv_topi (fun z23 ez23 => ?_)
          have r24 : rg z23 1 8 := rg_shl 0 3 ez23 r6 (by decide)
          refine lv_goto (tgt := 61) hx hb dX10_drawnFog_57 (by decide) ?_
          refine lv_ior hx hb dX10_drawnFog_61 ?_
          refine lv_topi (fun z25 ez25 => ?_)
          have r26 : rg z25 0 15 := rg_or 4 ez25 r_v8_5 r24 (by decide)
          refine lv_istore (lv' := [(5, .int z25), (3, .long z10), (0, .ref q), (1, .long p1), (6, .int v8_6)]) hx hb dX10_drawnFog_62 hl (by decide) rfl (fun ls hl => ?_)
          obtain ⟨z27, ez27⟩ : ∃ y : Int32, y = v8_6 + (1 : Int32) := ⟨_, rfl⟩
          have r28 : rg z27 1 4 := rg_add ez27 r6 rl_1 (by decide)
          have a29 : z27.toInt = v8_6.toInt + 1 := ai_add ez27 r6 tl_1 (by decide)
          refine lv_iinc (v := z27) (lv' := [(6, .int z27), (5, .int z25), (3, .long z10), (0, .ref q), (1, .long p1)]) hx hb dX10_drawnFog_64 hl (k := 4) rfl (by rw [ez27]; rfl) (by decide) rfl (fun ls hl => ?_)
          refine lv_goto (tgt := 8) hx hb dX10_drawnFog_67 (by decide) ?_
          exact ih8 _ _ _ _ z10 z25 z27 (fu_s hfu8 a29 (by decide)) hI hH r26 (rg_w r28 (by decide)) (lv_sub hl [3, 4, 2, 1, 0] rfl)
  refine lv_lload_n hx hb dX10_drawnFog_0 rfl (lv_at hl 1 rfl) ?_
  refine lv_lstore_n (lv' := [(3, .long p1), (0, .ref q), (1, .long p1)]) hx hb dX10_drawnFog_1 rfl hl (by decide) rfl (fun ls hl => ?_)
  refine lv_iconst (v := (0 : Int32)) hx hb dX10_drawnFog_2 (by decide) ?_
  refine lv_istore (lv' := [(5, .int (0 : Int32)), (3, .long p1), (0, .ref q), (1, .long p1)]) hx hb dX10_drawnFog_3 hl (by decide) rfl (fun ls hl => ?_)
  refine lv_iconst (v := (0 : Int32)) hx hb dX10_drawnFog_5 (by decide) ?_
  refine lv_istore (lv' := [(6, .int (0 : Int32)), (5, .int (0 : Int32)), (3, .long p1), (0, .ref q), (1, .long p1)]) hx hb dX10_drawnFog_6 hl (by decide) rfl (fun ls hl => ?_)
  exact cut8 5 _ _ _ _ p1 (0 : Int32) (0 : Int32) (fu_i 5 rl_0 (by decide)) hI hH (rg_w rl_0 (by decide)) (rg_w rl_0 (by decide)) (lv_sub hl [3, 4, 2, 1, 0] rfl)
set_option maxHeartbeats 4000000 in
set_option maxRecDepth 100000 in
theorem t_X10_laysDrawn (l : Launch) (E : gE) (J : Nat → Nat) (τ : Nat → Nat) (L : List Nat) (f : gF) (hI : tI E L τ f) {q : Nat} (mq : q ∈ L) (tq : τ q = 40) (p1 : Int64) {vh : Nat → Int32} (hh : isA E L τ f 47 45 vh) (hW : 1 ≤ (vh 0).toInt) : tMv l E J yX10_laysDrawn cX10_laysDrawn 3 (gRm (6) 0 0) [.ref q, .long p1] L f (tPv E L τ [40, 52, 53, 54, 55, 56] f (fun f1 => True)) := by
  refine tMv.intro (by decide) (Nat.le_of_ble_eq_true rfl) ?_
  intro p e s m below meth c A ls C hr hA hO hH hl
  have C : gC E cX10_laysDrawn 3 RX10 p s m _ meth c := C
  have hl : lv_has ls 3 [(0, .ref q), (1, .long p1)] := hl
  have hx := C.1
  have hb := C.2.1
  have hI := hI.S [40, 52, 53, 54, 55, 56]
  refine lv_aload_n hx hb dX10_laysDrawn_0 rfl (lv_at hl 0 rfl) ?_
  refine t_Vv C hO hl.1 hA hH hI.1 (As := []) (rest := []) (t_X10_lays l E J τ L f hI.1 mq tq) my_X10_lays wd813 mq tq td_40 rfl rfl rfl (Nat.le_of_ble_eq_true rfl) ⟨Nat.le_of_ble_eq_true rfl, Nat.le_of_ble_eq_true rfl⟩ ⟨rfl, rfl⟩ dX10_laysDrawn_1 (fun L1 f1 H locs hp hH => ?_)
  obtain ⟨rfl, s3, h4⟩ := hp
  have hI := hI.call s3 (by decide)
  refine lv_aload_n hx hb dX10_laysDrawn_4 rfl (lv_at hl 0 rfl) ?_
  refine lv_aload_n hx hb dX10_laysDrawn_5 rfl (lv_at hl 0 rfl) ?_
  refine lv_lload_n hx hb dX10_laysDrawn_6 rfl (lv_at hl 1 rfl) ?_
  refine t_Vi C hO hl.1 hA hH hI.1 (As := [.long p1]) (rest := [.ref q]) (t_X10_drawnFog l E J τ L f1 hI.1 mq tq p1) my_X10_drawnFog wd852 mq tq td_40 rfl rfl rfl (Nat.le_of_ble_eq_true rfl) ⟨Nat.le_of_ble_eq_true rfl, Nat.le_of_ble_eq_true rfl⟩ ⟨rfl, rfl⟩ dX10_laysDrawn_7 (fun r6 L1 f5 H locs hp hH => ?_)
  obtain ⟨rfl, s7, h8⟩ := hp
  have hI := hI.call s7 (by decide)
  refine t_put C hH hI mq tq (by decide) td_40 iX10 tyX10 tyX10_ok nmX10 rfl 24 (by decide) wd774 rfl rfl (v := .int r6) rfl rfl rfl ⟨_, rfl, h8⟩ (fun _ h => nomatch h) dX10_laysDrawn_10 (fun f9 H locs hH hI nf9 of9 bf9 => ?_)
  refine lv_aload_n hx hb dX10_laysDrawn_13 rfl (lv_at hl 0 rfl) ?_
  refine t_Vv C hO hl.1 hA hH hI.1 (As := []) (rest := []) (t_X10_runs l E J τ L f9 hI.1 mq tq (hh.S hI rfl) hW) my_X10_runs wd817 mq tq td_40 rfl rfl rfl (Nat.le_of_ble_eq_true rfl) ⟨Nat.le_of_ble_eq_true rfl, Nat.le_of_ble_eq_true rfl⟩ ⟨rfl, rfl⟩ dX10_laysDrawn_14 (fun L1 f10 H locs hp hH => ?_)
  obtain ⟨rfl, s12, h13⟩ := hp
  have hI := hI.call s12 (by decide)
  exact g_vret C hr hH (Nat.zero_le _) (Nat.zero_le _) dX10_laysDrawn_17 ⟨rfl, hI, trivial⟩
set_option maxHeartbeats 4000000 in
set_option maxRecDepth 100000 in
theorem t_X10_hasHeard (l : Launch) (E : gE) (J : Nat → Nat) (τ : Nat → Nat) (L : List Nat) (f : gF) (hI : tI E L τ f) {q : Nat} (mq : q ∈ L) (tq : τ q = 40) (p1 : Int32) (rp1 : rg p1 0 5) {vh : Nat → Int32} (hh : isA E L τ f 47 45 vh) (hW : 1 ≤ (vh 0).toInt) : tMi l E J yX10_hasHeard cX10_hasHeard 2 .boolean (gRm (4) 0 0) [.ref q, .int p1] L f (tPi E L τ [] f (fun r f1 => rg r 0 1)) := by
  refine tMi.intro (by decide) (Nat.le_of_ble_eq_true rfl) ?_
  intro p e s m below meth c A ls C hr hA hO hH hl
  have C : gC E cX10_hasHeard 2 RX10 p s m _ meth c := C
  have hl : lv_has ls 2 [(0, .ref q), (1, .int p1)] := hl
  have hx := C.1
  have hb := C.2.1
  have hI := hI.S []
  obtain ⟨q_19, mq_19, tq_19, kq_19⟩ := t_fldr hI.1 mq tq td_40 (k := 19) rfl
  refine lv_aload_n hx hb dX10_hasHeard_0 rfl (lv_at hl 0 rfl) ?_
  refine lv_iconst (v := (4 : Int32)) hx hb dX10_hasHeard_1 (by decide) ?_
  refine lv_aload_n hx hb dX10_hasHeard_2 rfl (lv_at hl 0 rfl) ?_
  refine t_getX C hH hI.1 mq tq td_40 iX10 rfl 19 (by decide) wd818 rfl (hI.rf kq_19) dX10_hasHeard_3 ?_
  refine lv_iconst (v := (3 : Int32)) hx hb dX10_hasHeard_6 (by decide) ?_
  refine lv_iload_n hx hb dX10_hasHeard_7 rfl (lv_at hl 1 rfl) ?_
  refine lv_imul hx hb dX10_hasHeard_8 ?_
  refine lv_topi (fun z1 ez1 => ?_)
  have r2 : rg z1 0 15 := rg_mul ez1 rl_3 rp1 (by decide)
  have m3 := mul3 ez1 rp1 (by decide)
  refine t_ald C hH hI.1 mq_19 tq_19 td_49 (rg_in r2 (by decide)) dX10_hasHeard_9 (fun z4v az4 pz4 => ?_)
  refine lv_topi (fun z4 ez4 => ?_)
  have r5 : rg z4 0 19 := mem_c pz4 (rg_in r2 (by decide)) m3 ez4
  refine t_Vi C hO hl.1 hA hH hI.1 (As := [.int (4 : Int32), .int z4]) (rest := []) (t_X10_hearsOf l E J τ L f hI.1 mq tq (4 : Int32) (rg_w rl_4 (by decide)) z4 (hh.S hI rfl) hW) my_X10_hearsOf wd801 mq tq td_40 rfl rfl rfl (Nat.le_of_ble_eq_true rfl) ⟨Nat.le_of_ble_eq_true rfl, Nat.le_of_ble_eq_true rfl⟩ ⟨rfl, rfl⟩ dX10_hasHeard_10 (fun r7 L1 f6 H locs hp hH => ?_)
  obtain ⟨rfl, s8, h9⟩ := hp
  have hI := hI.call s8 (by decide)
  refine lv_if_le (tgt := 20) hx hb dX10_hasHeard_13 (by decide) (fun c10 => ?_) (fun c10 => ?_)
  · skip
    have r11 : rg r7 (-2147483648) 0 := rf_lel (c_le c10) h9 rl_0 (by decide)
    refine lv_iconst (v := (0 : Int32)) hx hb dX10_hasHeard_20 (by decide) ?_
    exact g_zret C hr (rg_z (rg_w rl_0 (by decide))) hH (Nat.zero_le _) (Nat.zero_le _) dX10_hasHeard_21 ⟨rfl, hI, (rg_w rl_0 (by decide))⟩
  · skip
    have r12 : rg r7 1 2147483647 := rf_ltr (n_le c10) rl_0 h9 (by decide)
    refine lv_iconst (v := (1 : Int32)) hx hb dX10_hasHeard_16 (by decide) ?_
    refine lv_goto (tgt := 21) hx hb dX10_hasHeard_17 (by decide) ?_
    exact g_zret C hr (rg_z (rg_w rl_1 (by decide))) hH (Nat.zero_le _) (Nat.zero_le _) dX10_hasHeard_21 ⟨rfl, hI, (rg_w rl_1 (by decide))⟩
set_option maxHeartbeats 4000000 in
set_option maxRecDepth 100000 in
theorem t_X10_isLess (l : Launch) (E : gE) (J : Nat → Nat) (τ : Nat → Nat) (L : List Nat) (f : gF) (hI : tI E L τ f) {q : Nat} (mq : q ∈ L) (tq : τ q = 40) : tMi l E J yX10_isLess cX10_isLess 2 .boolean (gRm (2) 0 0) [.ref q] L f (tPi E L τ [] f (fun r f1 => rg r 0 1)) := by
  refine tMi.intro (by decide) (Nat.le_of_ble_eq_true rfl) ?_
  intro p e s m below meth c A ls C hr hA hO hH hl
  have C : gC E cX10_isLess 2 RX10 p s m _ meth c := C
  have hl : lv_has ls 2 [(0, .ref q)] := hl
  have hx := C.1
  have hb := C.2.1
  have hI := hI.S []
  obtain ⟨q_41, mq_41, tq_41, kq_41⟩ := t_fldr hI.1 mq tq td_40 (k := 41) rfl
  obtain ⟨q_42, mq_42, tq_42, kq_42⟩ := t_fldr hI.1 mq tq td_40 (k := 42) rfl
  have cut2 : ∀ (n : Nat) (fh2 : gF) (H : Heap) (locs : List Loc) (ls : Array Slot) (v2_1 : Int32), 6 - v2_1.toInt < (n : Int) → tS E L τ [] f fh2 → gH E A L fh2 s.heap H locs → rg v2_1 0 6 → lv_has ls 2 [(0, .ref q), (1, .int v2_1)] → W p l e (gRm (2) 0 0) s m [.ref q].toArray below meth c H locs 0 0 (MQ below (gQi E A (tPi E L τ [] f (fun r f1 => rg r 0 1))) [.ref q].toArray s (gRm (2) 0 0).cells (gRm (2) 0 0).slots A) (F0 m 2 ls []) := by
    intro n
    induction n with
    | zero =>
      intro fh2 H locs ls v2_1 hfu2 hI hH r_v2_1 hl
      exact (fu_0 hfu2 r_v2_1).elim
    | succ n ih2 =>
      intro fh2 H locs ls v2_1 hfu2 hI hH r_v2_1 hl
      refine lv_iload_n hx hb dX10_isLess_2 rfl (lv_at hl 1 rfl) ?_
      refine lv_aload_n hx hb dX10_isLess_3 rfl (lv_at hl 0 rfl) ?_
      refine t_Vi C hO hl.1 hA hH hI.1 (As := []) (rest := [.int v2_1]) (t_X10_members l E J τ L fh2 hI.1 mq tq) my_X10_members wd756 mq tq td_40 rfl rfl rfl (Nat.le_of_ble_eq_true rfl) ⟨Nat.le_of_ble_eq_true rfl, Nat.le_of_ble_eq_true rfl⟩ ⟨rfl, rfl⟩ dX10_isLess_4 (fun r2 L1 f1 H locs hp hH => ?_)
      obtain ⟨rfl, s3, h4⟩ := hp
      have hJ := hI
      have hI := hI.call s3 (by decide)
      refine lv_icmp_ge (tgt := 52) hx hb dX10_isLess_7 (by decide) (fun c5 => ?_) (fun c5 => ?_)
      · skip
        refine lv_iconst (v := (0 : Int32)) hx hb dX10_isLess_52 (by decide) ?_
        exact g_zret C hr (rg_z (rg_w rl_0 (by decide))) hH (Nat.zero_le _) (Nat.zero_le _) dX10_isLess_53 ⟨rfl, hI, (rg_w rl_0 (by decide))⟩
      · skip
        have r6 : rg v2_1 0 5 := rf_ltl (n_le c5) r_v2_1 h4.1 (by decide)
        have r7 : rg r2 1 6 := rf_ltr (n_le c5) r_v2_1 h4.1 (by decide)
        refine lv_aload_n hx hb dX10_isLess_10 rfl (lv_at hl 0 rfl) ?_
        refine t_getX C hH hI.1 mq tq td_40 iX10 rfl 41 (by decide) wd853 rfl (hI.rf kq_41) dX10_isLess_11 ?_
        refine lv_iload_n hx hb dX10_isLess_14 rfl (lv_at hl 1 rfl) ?_
        refine t_aldR C hH hI.1 mq_41 tq_41 td_64 (rg_in r6 (by decide)) dX10_isLess_15 (fun z8 rz8 => ?_)
        refine lv_aload_n hx hb dX10_isLess_16 rfl (lv_at hl 0 rfl) ?_
        refine t_getX C hH hI.1 mq tq td_40 iX10 rfl 42 (by decide) wd854 rfl (hI.rf kq_42) dX10_isLess_17 ?_
        refine lv_iload_n hx hb dX10_isLess_20 rfl (lv_at hl 1 rfl) ?_
        refine t_ald C hH hI.1 mq_42 tq_42 td_65 (rg_in r6 (by decide)) dX10_isLess_21 (fun z9v az9 _ => ?_)
        refine lv_topi (fun z9 ez9 => ?_)
        refine lv_icmp_eq (tgt := 46) hx hb dX10_isLess_22 (by decide) (fun c10 => ?_) (fun c10 => ?_)
        · skip
          have r11 : rg z9 0 19 := rf_eqr (c_eq c10) rz8 (rg_all _) (by decide)
          obtain ⟨z12, ez12⟩ : ∃ y : Int32, y = v2_1 + (1 : Int32) := ⟨_, rfl⟩
          have r13 : rg z12 1 6 := rg_add ez12 r6 rl_1 (by decide)
          have a14 : z12.toInt = v2_1.toInt + 1 := ai_add ez12 r6 tl_1 (by decide)
          refine lv_iinc (v := z12) (lv' := [(1, .int z12), (0, .ref q)]) hx hb dX10_isLess_46 hl (k := 1) rfl (by rw [ez12]; rfl) (by decide) rfl (fun ls hl => ?_)
          refine lv_goto (tgt := 2) hx hb dX10_isLess_49 (by decide) ?_
          exact ih2 _ _ _ _ z12 (fu_s hfu2 a14 (by decide)) hI hH (rg_w r13 (by decide)) (lv_sub hl [1, 0] rfl)
        · skip
          refine lv_aload_n hx hb dX10_isLess_25 rfl (lv_at hl 0 rfl) ?_
          refine t_getX C hH hI.1 mq tq td_40 iX10 rfl 41 (by decide) wd853 rfl (hI.rf kq_41) dX10_isLess_26 ?_
          refine lv_iload_n hx hb dX10_isLess_29 rfl (lv_at hl 1 rfl) ?_
          refine t_aldR C hH hI.1 mq_41 tq_41 td_64 (rg_in r6 (by decide)) dX10_isLess_30 (fun z15 rz15 => ?_)
          refine lv_aload_n hx hb dX10_isLess_31 rfl (lv_at hl 0 rfl) ?_
          refine t_getX C hH hI.1 mq tq td_40 iX10 rfl 42 (by decide) wd854 rfl (hI.rf kq_42) dX10_isLess_32 ?_
          refine lv_iload_n hx hb dX10_isLess_35 rfl (lv_at hl 1 rfl) ?_
          refine t_ald C hH hI.1 mq_42 tq_42 td_65 (rg_in r6 (by decide)) dX10_isLess_36 (fun z16v az16 _ => ?_)
          refine lv_topi (fun z16 ez16 => ?_)
          refine lv_icmp_ge (tgt := 44) hx hb dX10_isLess_37 (by decide) (fun c17 => ?_) (fun c17 => ?_)
          · skip
            have r18 : rg z16 (-2147483648) 19 := rf_lel (c_le c17) (rg_all _) rz15 (by decide)
            refine lv_iconst (v := (0 : Int32)) hx hb dX10_isLess_44 (by decide) ?_
            exact g_zret C hr (rg_z (rg_w rl_0 (by decide))) hH (Nat.zero_le _) (Nat.zero_le _) dX10_isLess_45 ⟨rfl, hI, (rg_w rl_0 (by decide))⟩
          · skip
            have r19 : rg z16 1 2147483647 := rf_ltr (n_le c17) rz15 (rg_all _) (by decide)
            refine lv_iconst (v := (1 : Int32)) hx hb dX10_isLess_40 (by decide) ?_
            refine lv_goto (tgt := 45) hx hb dX10_isLess_41 (by decide) ?_
            exact g_zret C hr (rg_z (rg_w rl_1 (by decide))) hH (Nat.zero_le _) (Nat.zero_le _) dX10_isLess_45 ⟨rfl, hI, (rg_w rl_1 (by decide))⟩
  refine lv_iconst (v := (0 : Int32)) hx hb dX10_isLess_0 (by decide) ?_
  refine lv_istore_n (lv' := [(1, .int (0 : Int32)), (0, .ref q)]) hx hb dX10_isLess_1 rfl hl (by decide) rfl (fun ls hl => ?_)
  exact cut2 7 _ _ _ _ (0 : Int32) (fu_i 7 rl_0 (by decide)) hI hH (rg_w rl_0 (by decide)) (lv_sub hl [1, 0] rfl)
set_option maxHeartbeats 4000000 in
set_option maxRecDepth 100000 in
theorem t_X10_flight (l : Launch) (E : gE) (J : Nat → Nat) (τ : Nat → Nat) (L : List Nat) (f : gF) (hI : tI E L τ f) {q : Nat} (mq : q ∈ L) (tq : τ q = 40) (p1 : Int32) (p2 : Int32) {vl vh : Nat → Int32} (hl0 : isA E L τ f 46 5 vl) (hh : isA E L τ f 47 45 vh) (hR : rowOK vl vh 0) : tMi l E J yX10_flight cX10_flight 3 .int (gRm (3) 0 0) [.ref q, .int p1, .int p2] L f (tPi E L τ [40, 52] f (fun r f1 => rg r (-2147483648) 2147483647)) := by
  refine tMi.intro (by decide) (Nat.le_of_ble_eq_true rfl) ?_
  intro p e s m below meth c A ls C hr hA hO hH hl
  have C : gC E cX10_flight 3 RX10 p s m _ meth c := C
  have hl : lv_has ls 3 [(0, .ref q), (1, .int p1), (2, .int p2)] := hl
  have hx := C.1
  have hb := C.2.1
  have hI := hI.S [40, 52]
  obtain ⟨q_18, mq_18, tq_18, kq_18⟩ := t_fldr hI.1 mq tq td_40 (k := 18) rfl
  obtain ⟨q_25, mq_25, tq_25, kq_25⟩ := t_fldr hI.1 mq tq td_40 (k := 25) rfl
  refine lv_aload_n hx hb dX10_flight_0 rfl (lv_at hl 0 rfl) ?_
  refine lv_iconst (v := (0 : Int32)) hx hb dX10_flight_1 (by decide) ?_
  refine t_put C hH hI mq tq (by decide) td_40 iX10 tyX10 tyX10_ok nmX10 rfl 0 (by decide) wd855 rfl rfl (v := .int (0 : Int32)) rfl rfl rfl ⟨_, rfl, (rg_w rl_0 (by decide))⟩ (fun _ h => nomatch h) dX10_flight_2 (fun f1 H locs hH hI nf1 of1 bf1 => ?_)
  refine lv_aload_n hx hb dX10_flight_5 rfl (lv_at hl 0 rfl) ?_
  refine lv_iload_n hx hb dX10_flight_6 rfl (lv_at hl 1 rfl) ?_
  refine lv_i2l (v := (p1).toInt64) hx hb dX10_flight_7 rfl ?_
  refine t_Vi C hO hl.1 hA hH hI.1 (As := [.long (p1).toInt64]) (rest := []) (t_X10_isFlight l E J τ L f1 hI.1 mq tq ((p1).toInt64)) my_X10_isFlight wd859 mq tq td_40 rfl rfl rfl (Nat.le_of_ble_eq_true rfl) ⟨Nat.le_of_ble_eq_true rfl, Nat.le_of_ble_eq_true rfl⟩ ⟨rfl, rfl⟩ dX10_flight_8 (fun r3 L1 f2 H locs hp hH => ?_)
  obtain ⟨rfl, s4, h5⟩ := hp
  have hJ := hI
  have hI := hI.call s4 (by decide)
  have w6 := h5.2.2 vl vh (hl0.S hJ rfl) (hh.S hJ rfl) hR
  refine lv_if_eq (tgt := 26) hx hb dX10_flight_11 (by decide) (fun c7 => ?_) (fun c7 => ?_)
  · skip
    have r8 : rg r3 0 0 := rf_eql (c_eq c7) h5.1 rl_0 (by decide)
    refine lv_bipush (v := (-2 : Int32)) hx hb dX10_flight_26 (by decide) ?_
    exact g_iret C hr hH (Nat.zero_le _) (Nat.zero_le _) dX10_flight_28 ⟨rfl, hI, (rg_w rl_m2 (by decide))⟩
  · skip
    have r9 : rg r3 1 1 := rf_nel (n_eq c7) h5.1 rl_0 (by decide)
    have r10 : rg p1 0 3 := is_rg (h5.2.1 c7) (rg_all _) (by decide)
    have F11 : 1 ≤ (vh 0).toInt := w6 c7
    refine lv_iload_n hx hb dX10_flight_14 rfl (lv_at hl 2 rfl) ?_
    refine lv_i2l (v := (p2).toInt64) hx hb dX10_flight_15 rfl ?_
    refine lv_lconst (v := (0 : Int64)) hx hb dX10_flight_16 (by decide) ?_
    refine lv_ldc2 hx hb C.2.2.2.1 (C.2.2.2.2.1 _ wd860) dX10_flight_17 ?_
    refine t_Si C hO hl.1 hA hH (As := [.long (p2).toInt64, .long (0 : Int64), .long (2 : Int64)]) (rest := []) (t_X10_in l E J τ L f2 hI.1 ((p2).toInt64) ((0 : Int64)) ((2 : Int64))) my_X10_in wd744 rfl rfl (Nat.le_of_ble_eq_true rfl) ⟨Nat.le_of_ble_eq_true rfl, Nat.le_of_ble_eq_true rfl⟩ ⟨rfl, rfl⟩ dX10_flight_20 (fun r13 L1 f12 H locs hp hH => ?_)
    obtain ⟨rfl, s14, h15⟩ := hp
    have hJ := hI
    have hI := hI.call s14 (by decide)
    refine lv_if_ne (tgt := 29) hx hb dX10_flight_23 (by decide) (fun c16 => ?_) (fun c16 => ?_)
    · skip
      have r17 : rg r13 1 1 := rf_nel (n_eq c16) h15.1 rl_0 (by decide)
      have r18 : rg p2 0 2 := in_rg (la := 0) (lb := 2) (h15.2 c16) (rg_all _) (by decide) (by decide) (by decide)
      refine lv_aload_n hx hb dX10_flight_29 rfl (lv_at hl 0 rfl) ?_
      refine t_Vv C hO hl.1 hA hH hI.1 (As := []) (rest := []) (t_X10_lays l E J τ L f12 hI.1 mq tq) my_X10_lays wd813 mq tq td_40 rfl rfl rfl (Nat.le_of_ble_eq_true rfl) ⟨Nat.le_of_ble_eq_true rfl, Nat.le_of_ble_eq_true rfl⟩ ⟨rfl, rfl⟩ dX10_flight_30 (fun L1 f19 H locs hp hH => ?_)
      obtain ⟨rfl, s21, h22⟩ := hp
      have hI := hI.call s21 (by decide)
      refine lv_iload_n hx hb dX10_flight_33 rfl (lv_at hl 2 rfl) ?_
      refine lv_iconst (v := (1 : Int32)) hx hb dX10_flight_34 (by decide) ?_
      refine lv_icmp_ne (tgt := 47) hx hb dX10_flight_35 (by decide) (fun c23 => ?_) (fun c23 => ?_)
      · skip
        refine lv_aload_n hx hb dX10_flight_47 rfl (lv_at hl 0 rfl) ?_
        refine t_getX C hH hI.1 mq tq td_40 iX10 rfl 18 (by decide) wd773 rfl (hI.rf kq_18) dX10_flight_48 ?_
        refine lv_iconst (v := (3 : Int32)) hx hb dX10_flight_51 (by decide) ?_
        refine lv_iload_n hx hb dX10_flight_52 rfl (lv_at hl 1 rfl) ?_
        refine lv_imul hx hb dX10_flight_53 ?_
        refine lv_topi (fun z24 ez24 => ?_)
        have r25 : rg z24 0 9 := rg_mul ez24 rl_3 r10 (by decide)
        have m26 := mul3 ez24 r10 (by decide)
        refine lv_iload_n hx hb dX10_flight_54 rfl (lv_at hl 2 rfl) ?_
        refine lv_iadd hx hb dX10_flight_55 ?_
        refine lv_topi (fun z27 ez27 => ?_)
        have r28 : rg z27 0 11 := rg_add ez27 r25 r18 (by decide)
        refine t_ald C hH hI.1 mq_18 tq_18 td_48 (rg_in r28 (by decide)) dX10_flight_56 (fun z29v az29 _ => ?_)
        refine lv_topi (fun z29 ez29 => ?_)
        exact g_iret C hr hH (Nat.zero_le _) (Nat.zero_le _) dX10_flight_57 ⟨rfl, hI, (rg_all _)⟩
      · skip
        have r30 : rg p2 1 1 := rf_eql (c_eq c23) r18 rl_1 (by decide)
        refine lv_aload_n hx hb dX10_flight_38 rfl (lv_at hl 0 rfl) ?_
        refine t_getX C hH hI.1 mq tq td_40 iX10 rfl 25 (by decide) wd772 rfl (hI.rf kq_25) dX10_flight_39 ?_
        refine lv_iload_n hx hb dX10_flight_42 rfl (lv_at hl 1 rfl) ?_
        refine t_ald C hH hI.1 mq_25 tq_25 td_52 (rg_in r10 (by decide)) dX10_flight_43 (fun z31v az31 _ => ?_)
        refine lv_topi (fun z31 ez31 => ?_)
        refine lv_goto (tgt := 57) hx hb dX10_flight_44 (by decide) ?_
        exact g_iret C hr hH (Nat.zero_le _) (Nat.zero_le _) dX10_flight_57 ⟨rfl, hI, (rg_all _)⟩
    · skip
      have r32 : rg r13 0 0 := rf_eql (c_eq c16) h15.1 rl_0 (by decide)
      refine lv_bipush (v := (-2 : Int32)) hx hb dX10_flight_26 (by decide) ?_
      exact g_iret C hr hH (Nat.zero_le _) (Nat.zero_le _) dX10_flight_28 ⟨rfl, hI, (rg_w rl_m2 (by decide))⟩
set_option maxHeartbeats 4000000 in
set_option maxRecDepth 100000 in
theorem t_X10_member (l : Launch) (E : gE) (J : Nat → Nat) (τ : Nat → Nat) (L : List Nat) (f : gF) (hI : tI E L τ f) {q : Nat} (mq : q ∈ L) (tq : τ q = 40) (p1 : Int32) (p2 : Int32) {vl vh : Nat → Int32} (hl0 : isA E L τ f 46 5 vl) (hh : isA E L τ f 47 45 vh) (hR : rowOK vl vh 0) : tMi l E J yX10_member cX10_member 3 .int (gRm (3) 0 0) [.ref q, .int p1, .int p2] L f (tPi E L τ [40] f (fun r f1 => rg r (-2147483648) 2147483647)) := by
  refine tMi.intro (by decide) (Nat.le_of_ble_eq_true rfl) ?_
  intro p e s m below meth c A ls C hr hA hO hH hl
  have C : gC E cX10_member 3 RX10 p s m _ meth c := C
  have hl : lv_has ls 3 [(0, .ref q), (1, .int p1), (2, .int p2)] := hl
  have hx := C.1
  have hb := C.2.1
  have hI := hI.S [40]
  obtain ⟨q_19, mq_19, tq_19, kq_19⟩ := t_fldr hI.1 mq tq td_40 (k := 19) rfl
  refine lv_aload_n hx hb dX10_member_0 rfl (lv_at hl 0 rfl) ?_
  refine lv_iconst (v := (0 : Int32)) hx hb dX10_member_1 (by decide) ?_
  refine t_put C hH hI mq tq (by decide) td_40 iX10 tyX10 tyX10_ok nmX10 rfl 0 (by decide) wd855 rfl rfl (v := .int (0 : Int32)) rfl rfl rfl ⟨_, rfl, (rg_w rl_0 (by decide))⟩ (fun _ h => nomatch h) dX10_member_2 (fun f1 H locs hH hI nf1 of1 bf1 => ?_)
  refine lv_aload_n hx hb dX10_member_5 rfl (lv_at hl 0 rfl) ?_
  refine lv_iload_n hx hb dX10_member_6 rfl (lv_at hl 1 rfl) ?_
  refine lv_i2l (v := (p1).toInt64) hx hb dX10_member_7 rfl ?_
  refine t_Vi C hO hl.1 hA hH hI.1 (As := [.long (p1).toInt64]) (rest := []) (t_X10_isMember l E J τ L f1 hI.1 mq tq ((p1).toInt64)) my_X10_isMember wd764 mq tq td_40 rfl rfl rfl (Nat.le_of_ble_eq_true rfl) ⟨Nat.le_of_ble_eq_true rfl, Nat.le_of_ble_eq_true rfl⟩ ⟨rfl, rfl⟩ dX10_member_8 (fun r3 L1 f2 H locs hp hH => ?_)
  obtain ⟨rfl, s4, h5⟩ := hp
  have hJ := hI
  have hI := hI.call s4 (by decide)
  have w6 := h5.2.2 vl vh (hl0.S hJ rfl) (hh.S hJ rfl) hR
  refine lv_if_eq (tgt := 39) hx hb dX10_member_11 (by decide) (fun c7 => ?_) (fun c7 => ?_)
  · skip
    have r8 : rg r3 0 0 := rf_eql (c_eq c7) h5.1 rl_0 (by decide)
    refine lv_bipush (v := (-2 : Int32)) hx hb dX10_member_39 (by decide) ?_
    exact g_iret C hr hH (Nat.zero_le _) (Nat.zero_le _) dX10_member_41 ⟨rfl, hI, (rg_w rl_m2 (by decide))⟩
  · skip
    have r9 : rg r3 1 1 := rf_nel (n_eq c7) h5.1 rl_0 (by decide)
    have r10 : rg p1 0 5 := is_rg (h5.2.1 c7) (rg_all _) (by decide)
    have F11 : 1 ≤ (vh 0).toInt := w6 c7
    refine lv_iload_n hx hb dX10_member_14 rfl (lv_at hl 2 rfl) ?_
    refine lv_i2l (v := (p2).toInt64) hx hb dX10_member_15 rfl ?_
    refine lv_lconst (v := (0 : Int64)) hx hb dX10_member_16 (by decide) ?_
    refine lv_ldc2 hx hb C.2.2.2.1 (C.2.2.2.2.1 _ wd860) dX10_member_17 ?_
    refine t_Si C hO hl.1 hA hH (As := [.long (p2).toInt64, .long (0 : Int64), .long (2 : Int64)]) (rest := []) (t_X10_in l E J τ L f2 hI.1 ((p2).toInt64) ((0 : Int64)) ((2 : Int64))) my_X10_in wd744 rfl rfl (Nat.le_of_ble_eq_true rfl) ⟨Nat.le_of_ble_eq_true rfl, Nat.le_of_ble_eq_true rfl⟩ ⟨rfl, rfl⟩ dX10_member_20 (fun r13 L1 f12 H locs hp hH => ?_)
    obtain ⟨rfl, s14, h15⟩ := hp
    have hJ := hI
    have hI := hI.call s14 (by decide)
    refine lv_if_eq (tgt := 39) hx hb dX10_member_23 (by decide) (fun c16 => ?_) (fun c16 => ?_)
    · skip
      have r17 : rg r13 0 0 := rf_eql (c_eq c16) h15.1 rl_0 (by decide)
      refine lv_bipush (v := (-2 : Int32)) hx hb dX10_member_39 (by decide) ?_
      exact g_iret C hr hH (Nat.zero_le _) (Nat.zero_le _) dX10_member_41 ⟨rfl, hI, (rg_w rl_m2 (by decide))⟩
    · skip
      have r18 : rg r13 1 1 := rf_nel (n_eq c16) h15.1 rl_0 (by decide)
      have r19 : rg p2 0 2 := in_rg (la := 0) (lb := 2) (h15.2 c16) (rg_all _) (by decide) (by decide) (by decide)
      refine lv_aload_n hx hb dX10_member_26 rfl (lv_at hl 0 rfl) ?_
      refine t_getX C hH hI.1 mq tq td_40 iX10 rfl 19 (by decide) wd818 rfl (hI.rf kq_19) dX10_member_27 ?_
      refine lv_iconst (v := (3 : Int32)) hx hb dX10_member_30 (by decide) ?_
      refine lv_iload_n hx hb dX10_member_31 rfl (lv_at hl 1 rfl) ?_
      refine lv_imul hx hb dX10_member_32 ?_
      refine lv_topi (fun z20 ez20 => ?_)
      have r21 : rg z20 0 15 := rg_mul ez20 rl_3 r10 (by decide)
      have m22 := mul3 ez20 r10 (by decide)
      refine lv_iload_n hx hb dX10_member_33 rfl (lv_at hl 2 rfl) ?_
      refine lv_iadd hx hb dX10_member_34 ?_
      refine lv_topi (fun z23 ez23 => ?_)
      have r24 : rg z23 0 17 := rg_add ez23 r21 r19 (by decide)
      refine t_ald C hH hI.1 mq_19 tq_19 td_49 (rg_in r24 (by decide)) dX10_member_35 (fun z25v az25 pz25 => ?_)
      refine lv_topi (fun z25 ez25 => ?_)
      have r26 : rg z25 0 99 := mem_any pz25 (rg_in r24 (by decide)) ez25
      refine lv_goto (tgt := 41) hx hb dX10_member_36 (by decide) ?_
      exact g_iret C hr hH (Nat.zero_le _) (Nat.zero_le _) dX10_member_41 ⟨rfl, hI, (rg_w r26 (by decide))⟩
set_option maxHeartbeats 4000000 in
set_option maxRecDepth 100000 in
theorem t_X10_lamps (l : Launch) (E : gE) (J : Nat → Nat) (τ : Nat → Nat) (L : List Nat) (f : gF) (hI : tI E L τ f) {q : Nat} (mq : q ∈ L) (tq : τ q = 40) {vl vh : Nat → Int32} (hl0 : isA E L τ f 46 5 vl) (hh : isA E L τ f 47 45 vh) (hR : rowOK vl vh 0) : tMi l E J yX10_lamps cX10_lamps 1 .int (gRm (3) 0 0) [.ref q] L f (tPi E L τ [40, 52] f (fun r f1 => rg r (-2147483648) 2147483647)) := by
  refine tMi.intro (by decide) (Nat.le_of_ble_eq_true rfl) ?_
  intro p e s m below meth c A ls C hr hA hO hH hl
  have C : gC E cX10_lamps 1 RX10 p s m _ meth c := C
  have hl : lv_has ls 1 [(0, .ref q)] := hl
  have hx := C.1
  have hb := C.2.1
  have hI := hI.S [40, 52]
  refine lv_aload_n hx hb dX10_lamps_0 rfl (lv_at hl 0 rfl) ?_
  refine lv_iconst (v := (0 : Int32)) hx hb dX10_lamps_1 (by decide) ?_
  refine t_put C hH hI mq tq (by decide) td_40 iX10 tyX10 tyX10_ok nmX10 rfl 0 (by decide) wd855 rfl rfl (v := .int (0 : Int32)) rfl rfl rfl ⟨_, rfl, (rg_w rl_0 (by decide))⟩ (fun _ h => nomatch h) dX10_lamps_2 (fun f1 H locs hH hI nf1 of1 bf1 => ?_)
  refine lv_aload_n hx hb dX10_lamps_5 rfl (lv_at hl 0 rfl) ?_
  refine t_Vi C hO hl.1 hA hH hI.1 (As := []) (rest := []) (t_X10_isLand l E J τ L f1 hI.1 mq tq) my_X10_isLand wd768 mq tq td_40 rfl rfl rfl (Nat.le_of_ble_eq_true rfl) ⟨Nat.le_of_ble_eq_true rfl, Nat.le_of_ble_eq_true rfl⟩ ⟨rfl, rfl⟩ dX10_lamps_6 (fun r3 L1 f2 H locs hp hH => ?_)
  obtain ⟨rfl, s4, h5⟩ := hp
  have hJ := hI
  have hI := hI.call s4 (by decide)
  have w6 := h5.2 vl vh (hl0.S hJ rfl) (hh.S hJ rfl) hR
  refine lv_if_ne (tgt := 15) hx hb dX10_lamps_9 (by decide) (fun c7 => ?_) (fun c7 => ?_)
  · skip
    have r8 : rg r3 1 1 := rf_nel (n_eq c7) h5.1 rl_0 (by decide)
    have F9 : 1 ≤ (vh 0).toInt := w6 c7
    refine lv_aload_n hx hb dX10_lamps_15 rfl (lv_at hl 0 rfl) ?_
    refine t_Vv C hO hl.1 hA hH hI.1 (As := []) (rest := []) (t_X10_lays l E J τ L f2 hI.1 mq tq) my_X10_lays wd813 mq tq td_40 rfl rfl rfl (Nat.le_of_ble_eq_true rfl) ⟨Nat.le_of_ble_eq_true rfl, Nat.le_of_ble_eq_true rfl⟩ ⟨rfl, rfl⟩ dX10_lamps_16 (fun L1 f10 H locs hp hH => ?_)
    obtain ⟨rfl, s12, h13⟩ := hp
    have hI := hI.call s12 (by decide)
    refine lv_aload_n hx hb dX10_lamps_19 rfl (lv_at hl 0 rfl) ?_
    refine t_geti C hH hI.1 mq tq td_40 iX10 rfl 22 (by decide) wd771 rfl rfl dX10_lamps_20 (fun z14 rz14 => ?_)
    exact g_iret C hr hH (Nat.zero_le _) (Nat.zero_le _) dX10_lamps_23 ⟨rfl, hI, rz14⟩
  · skip
    have r15 : rg r3 0 0 := rf_eql (c_eq c7) h5.1 rl_0 (by decide)
    refine lv_bipush (v := (-2 : Int32)) hx hb dX10_lamps_12 (by decide) ?_
    exact g_iret C hr hH (Nat.zero_le _) (Nat.zero_le _) dX10_lamps_14 ⟨rfl, hI, (rg_w rl_m2 (by decide))⟩
set_option maxHeartbeats 4000000 in
set_option maxRecDepth 100000 in
theorem t_X10_at (l : Launch) (E : gE) (J : Nat → Nat) (τ : Nat → Nat) (L : List Nat) (f : gF) (hI : tI E L τ f) {q : Nat} (mq : q ∈ L) (tq : τ q = 40) (p1 : Int32) (p2 : Int32) {vl vh : Nat → Int32} (hl0 : isA E L τ f 46 5 vl) (hh : isA E L τ f 47 45 vh) (hR : rowOK vl vh 0) : tMi l E J yX10_at cX10_at 3 .int (gRm (7) 0 0) [.ref q, .int p1, .int p2] L f (tPi E L τ [40, 52, 53, 54, 55, 56] f (fun r f1 => rg r (-2147483648) 2147483647)) := by
  refine tMi.intro (by decide) (Nat.le_of_ble_eq_true rfl) ?_
  intro p e s m below meth c A ls C hr hA hO hH hl
  have C : gC E cX10_at 3 RX10 p s m _ meth c := C
  have hl : lv_has ls 3 [(0, .ref q), (1, .int p1), (2, .int p2)] := hl
  have hx := C.1
  have hb := C.2.1
  have hI := hI.S [40, 52, 53, 54, 55, 56]
  obtain ⟨q_26, mq_26, tq_26, kq_26⟩ := t_fldr hI.1 mq tq td_40 (k := 26) rfl
  refine lv_aload_n hx hb dX10_at_0 rfl (lv_at hl 0 rfl) ?_
  refine lv_iconst (v := (0 : Int32)) hx hb dX10_at_1 (by decide) ?_
  refine t_put C hH hI mq tq (by decide) td_40 iX10 tyX10 tyX10_ok nmX10 rfl 0 (by decide) wd855 rfl rfl (v := .int (0 : Int32)) rfl rfl rfl ⟨_, rfl, (rg_w rl_0 (by decide))⟩ (fun _ h => nomatch h) dX10_at_2 (fun f1 H locs hH hI nf1 of1 bf1 => ?_)
  refine lv_aload_n hx hb dX10_at_5 rfl (lv_at hl 0 rfl) ?_
  refine lv_iload_n hx hb dX10_at_6 rfl (lv_at hl 1 rfl) ?_
  refine lv_i2l (v := (p1).toInt64) hx hb dX10_at_7 rfl ?_
  refine t_Vi C hO hl.1 hA hH hI.1 (As := [.long (p1).toInt64]) (rest := []) (t_X10_isFlight l E J τ L f1 hI.1 mq tq ((p1).toInt64)) my_X10_isFlight wd859 mq tq td_40 rfl rfl rfl (Nat.le_of_ble_eq_true rfl) ⟨Nat.le_of_ble_eq_true rfl, Nat.le_of_ble_eq_true rfl⟩ ⟨rfl, rfl⟩ dX10_at_8 (fun r3 L1 f2 H locs hp hH => ?_)
  obtain ⟨rfl, s4, h5⟩ := hp
  have hJ := hI
  have hI := hI.call s4 (by decide)
  have w6 := h5.2.2 vl vh (hl0.S hJ rfl) (hh.S hJ rfl) hR
  refine lv_if_eq (tgt := 21) hx hb dX10_at_11 (by decide) (fun c7 => ?_) (fun c7 => ?_)
  · skip
    have r8 : rg r3 0 0 := rf_eql (c_eq c7) h5.1 rl_0 (by decide)
    refine lv_bipush (v := (-2 : Int32)) hx hb dX10_at_21 (by decide) ?_
    exact g_iret C hr hH (Nat.zero_le _) (Nat.zero_le _) dX10_at_23 ⟨rfl, hI, (rg_w rl_m2 (by decide))⟩
  · skip
    have r9 : rg r3 1 1 := rf_nel (n_eq c7) h5.1 rl_0 (by decide)
    have r10 : rg p1 0 3 := is_rg (h5.2.1 c7) (rg_all _) (by decide)
    have F11 : 1 ≤ (vh 0).toInt := w6 c7
    refine lv_iload_n hx hb dX10_at_14 rfl (lv_at hl 2 rfl) ?_
    refine t_Si C hO hl.1 hA hH (As := [.int p2]) (rest := []) (t_X10_isStep l E J τ L f2 hI.1 p2) my_X10_isStep wd863 rfl rfl (Nat.le_of_ble_eq_true rfl) ⟨Nat.le_of_ble_eq_true rfl, Nat.le_of_ble_eq_true rfl⟩ ⟨rfl, rfl⟩ dX10_at_15 (fun r13 L1 f12 H locs hp hH => ?_)
    obtain ⟨rfl, s14, h15⟩ := hp
    have hI := hI.call s14 (by decide)
    refine lv_if_ne (tgt := 24) hx hb dX10_at_18 (by decide) (fun c16 => ?_) (fun c16 => ?_)
    · skip
      have r17 : rg r13 1 1 := rf_nel (n_eq c16) h15.1 rl_0 (by decide)
      have r18 : rg p2 0 40 := h15.2 c16
      refine lv_aload_n hx hb dX10_at_24 rfl (lv_at hl 0 rfl) ?_
      refine t_Vv C hO hl.1 hA hH hI.1 (As := []) (rest := []) (t_X10_laysNow l E J τ L f12 hI.1 mq tq (hh.S hI rfl) F11) my_X10_laysNow wd842 mq tq td_40 rfl rfl rfl (Nat.le_of_ble_eq_true rfl) ⟨Nat.le_of_ble_eq_true rfl, Nat.le_of_ble_eq_true rfl⟩ ⟨rfl, rfl⟩ dX10_at_25 (fun L1 f19 H locs hp hH => ?_)
      obtain ⟨rfl, s21, h22⟩ := hp
      have hI := hI.call s21 (by decide)
      refine lv_aload_n hx hb dX10_at_28 rfl (lv_at hl 0 rfl) ?_
      refine t_getX C hH hI.1 mq tq td_40 iX10 rfl 26 (by decide) wd780 rfl (hI.rf kq_26) dX10_at_29 ?_
      refine lv_bipush (v := (41 : Int32)) hx hb dX10_at_32 (by decide) ?_
      refine lv_iload_n hx hb dX10_at_34 rfl (lv_at hl 1 rfl) ?_
      refine lv_imul hx hb dX10_at_35 ?_
      refine lv_topi (fun z23 ez23 => ?_)
      have r24 : rg z23 0 123 := rg_mul ez23 rl_41 r10 (by decide)
      refine lv_iload_n hx hb dX10_at_36 rfl (lv_at hl 2 rfl) ?_
      refine lv_iadd hx hb dX10_at_37 ?_
      refine lv_topi (fun z25 ez25 => ?_)
      have r26 : rg z25 0 163 := rg_add ez25 r24 r18 (by decide)
      refine t_ald C hH hI.1 mq_26 tq_26 td_53 (rg_in r26 (by decide)) dX10_at_38 (fun z27v az27 _ => ?_)
      refine lv_topi (fun z27 ez27 => ?_)
      exact g_iret C hr hH (Nat.zero_le _) (Nat.zero_le _) dX10_at_39 ⟨rfl, hI, (rg_all _)⟩
    · skip
      have r28 : rg r13 0 0 := rf_eql (c_eq c16) h15.1 rl_0 (by decide)
      refine lv_bipush (v := (-2 : Int32)) hx hb dX10_at_21 (by decide) ?_
      exact g_iret C hr hH (Nat.zero_le _) (Nat.zero_le _) dX10_at_23 ⟨rfl, hI, (rg_w rl_m2 (by decide))⟩
set_option maxHeartbeats 4000000 in
set_option maxRecDepth 100000 in
theorem t_X10_heads (l : Launch) (E : gE) (J : Nat → Nat) (τ : Nat → Nat) (L : List Nat) (f : gF) (hI : tI E L τ f) {q : Nat} (mq : q ∈ L) (tq : τ q = 40) (p1 : Int32) (p2 : Int32) {vl vh : Nat → Int32} (hl0 : isA E L τ f 46 5 vl) (hh : isA E L τ f 47 45 vh) (hR : rowOK vl vh 0) : tMi l E J yX10_heads cX10_heads 3 .int (gRm (7) 0 0) [.ref q, .int p1, .int p2] L f (tPi E L τ [40, 52, 53, 54, 55, 56] f (fun r f1 => rg r (-2147483648) 2147483647)) := by
  refine tMi.intro (by decide) (Nat.le_of_ble_eq_true rfl) ?_
  intro p e s m below meth c A ls C hr hA hO hH hl
  have C : gC E cX10_heads 3 RX10 p s m _ meth c := C
  have hl : lv_has ls 3 [(0, .ref q), (1, .int p1), (2, .int p2)] := hl
  have hx := C.1
  have hb := C.2.1
  have hI := hI.S [40, 52, 53, 54, 55, 56]
  obtain ⟨q_27, mq_27, tq_27, kq_27⟩ := t_fldr hI.1 mq tq td_40 (k := 27) rfl
  refine lv_aload_n hx hb dX10_heads_0 rfl (lv_at hl 0 rfl) ?_
  refine lv_iconst (v := (0 : Int32)) hx hb dX10_heads_1 (by decide) ?_
  refine t_put C hH hI mq tq (by decide) td_40 iX10 tyX10 tyX10_ok nmX10 rfl 0 (by decide) wd855 rfl rfl (v := .int (0 : Int32)) rfl rfl rfl ⟨_, rfl, (rg_w rl_0 (by decide))⟩ (fun _ h => nomatch h) dX10_heads_2 (fun f1 H locs hH hI nf1 of1 bf1 => ?_)
  refine lv_aload_n hx hb dX10_heads_5 rfl (lv_at hl 0 rfl) ?_
  refine lv_iload_n hx hb dX10_heads_6 rfl (lv_at hl 1 rfl) ?_
  refine lv_i2l (v := (p1).toInt64) hx hb dX10_heads_7 rfl ?_
  refine t_Vi C hO hl.1 hA hH hI.1 (As := [.long (p1).toInt64]) (rest := []) (t_X10_isFlight l E J τ L f1 hI.1 mq tq ((p1).toInt64)) my_X10_isFlight wd859 mq tq td_40 rfl rfl rfl (Nat.le_of_ble_eq_true rfl) ⟨Nat.le_of_ble_eq_true rfl, Nat.le_of_ble_eq_true rfl⟩ ⟨rfl, rfl⟩ dX10_heads_8 (fun r3 L1 f2 H locs hp hH => ?_)
  obtain ⟨rfl, s4, h5⟩ := hp
  have hJ := hI
  have hI := hI.call s4 (by decide)
  have w6 := h5.2.2 vl vh (hl0.S hJ rfl) (hh.S hJ rfl) hR
  refine lv_if_eq (tgt := 21) hx hb dX10_heads_11 (by decide) (fun c7 => ?_) (fun c7 => ?_)
  · skip
    have r8 : rg r3 0 0 := rf_eql (c_eq c7) h5.1 rl_0 (by decide)
    refine lv_bipush (v := (-2 : Int32)) hx hb dX10_heads_21 (by decide) ?_
    exact g_iret C hr hH (Nat.zero_le _) (Nat.zero_le _) dX10_heads_23 ⟨rfl, hI, (rg_w rl_m2 (by decide))⟩
  · skip
    have r9 : rg r3 1 1 := rf_nel (n_eq c7) h5.1 rl_0 (by decide)
    have r10 : rg p1 0 3 := is_rg (h5.2.1 c7) (rg_all _) (by decide)
    have F11 : 1 ≤ (vh 0).toInt := w6 c7
    refine lv_iload_n hx hb dX10_heads_14 rfl (lv_at hl 2 rfl) ?_
    refine t_Si C hO hl.1 hA hH (As := [.int p2]) (rest := []) (t_X10_isStep l E J τ L f2 hI.1 p2) my_X10_isStep wd863 rfl rfl (Nat.le_of_ble_eq_true rfl) ⟨Nat.le_of_ble_eq_true rfl, Nat.le_of_ble_eq_true rfl⟩ ⟨rfl, rfl⟩ dX10_heads_15 (fun r13 L1 f12 H locs hp hH => ?_)
    obtain ⟨rfl, s14, h15⟩ := hp
    have hI := hI.call s14 (by decide)
    refine lv_if_ne (tgt := 24) hx hb dX10_heads_18 (by decide) (fun c16 => ?_) (fun c16 => ?_)
    · skip
      have r17 : rg r13 1 1 := rf_nel (n_eq c16) h15.1 rl_0 (by decide)
      have r18 : rg p2 0 40 := h15.2 c16
      refine lv_aload_n hx hb dX10_heads_24 rfl (lv_at hl 0 rfl) ?_
      refine t_Vv C hO hl.1 hA hH hI.1 (As := []) (rest := []) (t_X10_laysNow l E J τ L f12 hI.1 mq tq (hh.S hI rfl) F11) my_X10_laysNow wd842 mq tq td_40 rfl rfl rfl (Nat.le_of_ble_eq_true rfl) ⟨Nat.le_of_ble_eq_true rfl, Nat.le_of_ble_eq_true rfl⟩ ⟨rfl, rfl⟩ dX10_heads_25 (fun L1 f19 H locs hp hH => ?_)
      obtain ⟨rfl, s21, h22⟩ := hp
      have hI := hI.call s21 (by decide)
      refine lv_aload_n hx hb dX10_heads_28 rfl (lv_at hl 0 rfl) ?_
      refine t_getX C hH hI.1 mq tq td_40 iX10 rfl 27 (by decide) wd775 rfl (hI.rf kq_27) dX10_heads_29 ?_
      refine lv_bipush (v := (41 : Int32)) hx hb dX10_heads_32 (by decide) ?_
      refine lv_iload_n hx hb dX10_heads_34 rfl (lv_at hl 1 rfl) ?_
      refine lv_imul hx hb dX10_heads_35 ?_
      refine lv_topi (fun z23 ez23 => ?_)
      have r24 : rg z23 0 123 := rg_mul ez23 rl_41 r10 (by decide)
      refine lv_iload_n hx hb dX10_heads_36 rfl (lv_at hl 2 rfl) ?_
      refine lv_iadd hx hb dX10_heads_37 ?_
      refine lv_topi (fun z25 ez25 => ?_)
      have r26 : rg z25 0 163 := rg_add ez25 r24 r18 (by decide)
      refine t_ald C hH hI.1 mq_27 tq_27 td_54 (rg_in r26 (by decide)) dX10_heads_38 (fun z27v az27 _ => ?_)
      refine lv_topi (fun z27 ez27 => ?_)
      exact g_iret C hr hH (Nat.zero_le _) (Nat.zero_le _) dX10_heads_39 ⟨rfl, hI, (rg_all _)⟩
    · skip
      have r28 : rg r13 0 0 := rf_eql (c_eq c16) h15.1 rl_0 (by decide)
      refine lv_bipush (v := (-2 : Int32)) hx hb dX10_heads_21 (by decide) ?_
      exact g_iret C hr hH (Nat.zero_le _) (Nat.zero_le _) dX10_heads_23 ⟨rfl, hI, (rg_w rl_m2 (by decide))⟩
set_option maxHeartbeats 4000000 in
set_option maxRecDepth 100000 in
theorem t_X10_out (l : Launch) (E : gE) (J : Nat → Nat) (τ : Nat → Nat) (L : List Nat) (f : gF) (hI : tI E L τ f) {q : Nat} (mq : q ∈ L) (tq : τ q = 40) (p1 : Int32) {vl vh : Nat → Int32} (hl0 : isA E L τ f 46 5 vl) (hh : isA E L τ f 47 45 vh) (hR : rowOK vl vh 0) : tMi l E J yX10_out cX10_out 2 .int (gRm (7) 0 0) [.ref q, .int p1] L f (tPi E L τ [40, 52, 53, 54, 55, 56] f (fun r f1 => rg r (-2147483648) 2147483647)) := by
  refine tMi.intro (by decide) (Nat.le_of_ble_eq_true rfl) ?_
  intro p e s m below meth c A ls C hr hA hO hH hl
  have C : gC E cX10_out 2 RX10 p s m _ meth c := C
  have hl : lv_has ls 2 [(0, .ref q), (1, .int p1)] := hl
  have hx := C.1
  have hb := C.2.1
  have hI := hI.S [40, 52, 53, 54, 55, 56]
  refine lv_aload_n hx hb dX10_out_0 rfl (lv_at hl 0 rfl) ?_
  refine lv_iconst (v := (0 : Int32)) hx hb dX10_out_1 (by decide) ?_
  refine t_put C hH hI mq tq (by decide) td_40 iX10 tyX10 tyX10_ok nmX10 rfl 0 (by decide) wd855 rfl rfl (v := .int (0 : Int32)) rfl rfl rfl ⟨_, rfl, (rg_w rl_0 (by decide))⟩ (fun _ h => nomatch h) dX10_out_2 (fun f1 H locs hH hI nf1 of1 bf1 => ?_)
  refine lv_aload_n hx hb dX10_out_5 rfl (lv_at hl 0 rfl) ?_
  refine lv_iload_n hx hb dX10_out_6 rfl (lv_at hl 1 rfl) ?_
  refine lv_i2l (v := (p1).toInt64) hx hb dX10_out_7 rfl ?_
  refine t_Vi C hO hl.1 hA hH hI.1 (As := [.long (p1).toInt64]) (rest := []) (t_X10_isFlight l E J τ L f1 hI.1 mq tq ((p1).toInt64)) my_X10_isFlight wd859 mq tq td_40 rfl rfl rfl (Nat.le_of_ble_eq_true rfl) ⟨Nat.le_of_ble_eq_true rfl, Nat.le_of_ble_eq_true rfl⟩ ⟨rfl, rfl⟩ dX10_out_8 (fun r3 L1 f2 H locs hp hH => ?_)
  obtain ⟨rfl, s4, h5⟩ := hp
  have hJ := hI
  have hI := hI.call s4 (by decide)
  have w6 := h5.2.2 vl vh (hl0.S hJ rfl) (hh.S hJ rfl) hR
  refine lv_if_ne (tgt := 17) hx hb dX10_out_11 (by decide) (fun c7 => ?_) (fun c7 => ?_)
  · skip
    have r8 : rg r3 1 1 := rf_nel (n_eq c7) h5.1 rl_0 (by decide)
    have r9 : rg p1 0 3 := is_rg (h5.2.1 c7) (rg_all _) (by decide)
    have F10 : 1 ≤ (vh 0).toInt := w6 c7
    refine lv_aload_n hx hb dX10_out_17 rfl (lv_at hl 0 rfl) ?_
    refine t_Vv C hO hl.1 hA hH hI.1 (As := []) (rest := []) (t_X10_laysNow l E J τ L f2 hI.1 mq tq (hh.S hI rfl) F10) my_X10_laysNow wd842 mq tq td_40 rfl rfl rfl (Nat.le_of_ble_eq_true rfl) ⟨Nat.le_of_ble_eq_true rfl, Nat.le_of_ble_eq_true rfl⟩ ⟨rfl, rfl⟩ dX10_out_18 (fun L1 f11 H locs hp hH => ?_)
    obtain ⟨rfl, s13, h14⟩ := hp
    have hI := hI.call s13 (by decide)
    refine lv_aload_n hx hb dX10_out_21 rfl (lv_at hl 0 rfl) ?_
    refine lv_iload_n hx hb dX10_out_22 rfl (lv_at hl 1 rfl) ?_
    refine t_Vi C hO hl.1 hA hH hI.1 (As := [.int p1]) (rest := []) (t_X10_outOf l E J τ L f11 hI.1 mq tq p1 r9) my_X10_outOf wd867 mq tq td_40 rfl rfl rfl (Nat.le_of_ble_eq_true rfl) ⟨Nat.le_of_ble_eq_true rfl, Nat.le_of_ble_eq_true rfl⟩ ⟨rfl, rfl⟩ dX10_out_23 (fun r16 L1 f15 H locs hp hH => ?_)
    obtain ⟨rfl, s17, h18⟩ := hp
    have hI := hI.call s17 (by decide)
    exact g_iret C hr hH (Nat.zero_le _) (Nat.zero_le _) dX10_out_26 ⟨rfl, hI, (rg_w h18 (by decide))⟩
  · skip
    have r19 : rg r3 0 0 := rf_eql (c_eq c7) h5.1 rl_0 (by decide)
    refine lv_bipush (v := (-2 : Int32)) hx hb dX10_out_14 (by decide) ?_
    exact g_iret C hr hH (Nat.zero_le _) (Nat.zero_le _) dX10_out_16 ⟨rfl, hI, (rg_w rl_m2 (by decide))⟩
set_option maxHeartbeats 4000000 in
set_option maxRecDepth 100000 in
theorem t_X10_bends (l : Launch) (E : gE) (J : Nat → Nat) (τ : Nat → Nat) (L : List Nat) (f : gF) (hI : tI E L τ f) {q : Nat} (mq : q ∈ L) (tq : τ q = 40) (p1 : Int32) {vl vh : Nat → Int32} (hl0 : isA E L τ f 46 5 vl) (hh : isA E L τ f 47 45 vh) (hR : rowOK vl vh 0) : tMi l E J yX10_bends cX10_bends 2 .int (gRm (7) 0 0) [.ref q, .int p1] L f (tPi E L τ [40, 52, 53, 54, 55, 56] f (fun r f1 => rg r (-2147483648) 2147483647)) := by
  refine tMi.intro (by decide) (Nat.le_of_ble_eq_true rfl) ?_
  intro p e s m below meth c A ls C hr hA hO hH hl
  have C : gC E cX10_bends 2 RX10 p s m _ meth c := C
  have hl : lv_has ls 2 [(0, .ref q), (1, .int p1)] := hl
  have hx := C.1
  have hb := C.2.1
  have hI := hI.S [40, 52, 53, 54, 55, 56]
  obtain ⟨q_28, mq_28, tq_28, kq_28⟩ := t_fldr hI.1 mq tq td_40 (k := 28) rfl
  refine lv_aload_n hx hb dX10_bends_0 rfl (lv_at hl 0 rfl) ?_
  refine lv_iconst (v := (0 : Int32)) hx hb dX10_bends_1 (by decide) ?_
  refine t_put C hH hI mq tq (by decide) td_40 iX10 tyX10 tyX10_ok nmX10 rfl 0 (by decide) wd855 rfl rfl (v := .int (0 : Int32)) rfl rfl rfl ⟨_, rfl, (rg_w rl_0 (by decide))⟩ (fun _ h => nomatch h) dX10_bends_2 (fun f1 H locs hH hI nf1 of1 bf1 => ?_)
  refine lv_aload_n hx hb dX10_bends_5 rfl (lv_at hl 0 rfl) ?_
  refine lv_iload_n hx hb dX10_bends_6 rfl (lv_at hl 1 rfl) ?_
  refine lv_i2l (v := (p1).toInt64) hx hb dX10_bends_7 rfl ?_
  refine t_Vi C hO hl.1 hA hH hI.1 (As := [.long (p1).toInt64]) (rest := []) (t_X10_isFlight l E J τ L f1 hI.1 mq tq ((p1).toInt64)) my_X10_isFlight wd859 mq tq td_40 rfl rfl rfl (Nat.le_of_ble_eq_true rfl) ⟨Nat.le_of_ble_eq_true rfl, Nat.le_of_ble_eq_true rfl⟩ ⟨rfl, rfl⟩ dX10_bends_8 (fun r3 L1 f2 H locs hp hH => ?_)
  obtain ⟨rfl, s4, h5⟩ := hp
  have hJ := hI
  have hI := hI.call s4 (by decide)
  have w6 := h5.2.2 vl vh (hl0.S hJ rfl) (hh.S hJ rfl) hR
  refine lv_if_ne (tgt := 17) hx hb dX10_bends_11 (by decide) (fun c7 => ?_) (fun c7 => ?_)
  · skip
    have r8 : rg r3 1 1 := rf_nel (n_eq c7) h5.1 rl_0 (by decide)
    have r9 : rg p1 0 3 := is_rg (h5.2.1 c7) (rg_all _) (by decide)
    have F10 : 1 ≤ (vh 0).toInt := w6 c7
    refine lv_aload_n hx hb dX10_bends_17 rfl (lv_at hl 0 rfl) ?_
    refine t_Vv C hO hl.1 hA hH hI.1 (As := []) (rest := []) (t_X10_laysNow l E J τ L f2 hI.1 mq tq (hh.S hI rfl) F10) my_X10_laysNow wd842 mq tq td_40 rfl rfl rfl (Nat.le_of_ble_eq_true rfl) ⟨Nat.le_of_ble_eq_true rfl, Nat.le_of_ble_eq_true rfl⟩ ⟨rfl, rfl⟩ dX10_bends_18 (fun L1 f11 H locs hp hH => ?_)
    obtain ⟨rfl, s13, h14⟩ := hp
    have hI := hI.call s13 (by decide)
    refine lv_aload_n hx hb dX10_bends_21 rfl (lv_at hl 0 rfl) ?_
    refine t_getX C hH hI.1 mq tq td_40 iX10 rfl 28 (by decide) wd788 rfl (hI.rf kq_28) dX10_bends_22 ?_
    refine lv_iload_n hx hb dX10_bends_25 rfl (lv_at hl 1 rfl) ?_
    refine t_ald C hH hI.1 mq_28 tq_28 td_55 (rg_in r9 (by decide)) dX10_bends_26 (fun z15v az15 _ => ?_)
    refine lv_topi (fun z15 ez15 => ?_)
    exact g_iret C hr hH (Nat.zero_le _) (Nat.zero_le _) dX10_bends_27 ⟨rfl, hI, (rg_all _)⟩
  · skip
    have r16 : rg r3 0 0 := rf_eql (c_eq c7) h5.1 rl_0 (by decide)
    refine lv_bipush (v := (-2 : Int32)) hx hb dX10_bends_14 (by decide) ?_
    exact g_iret C hr hH (Nat.zero_le _) (Nat.zero_le _) dX10_bends_16 ⟨rfl, hI, (rg_w rl_m2 (by decide))⟩
set_option maxHeartbeats 4000000 in
set_option maxRecDepth 100000 in
theorem t_X10_way (l : Launch) (E : gE) (J : Nat → Nat) (τ : Nat → Nat) (L : List Nat) (f : gF) (hI : tI E L τ f) {q : Nat} (mq : q ∈ L) (tq : τ q = 40) (p1 : Int32) {vl vh : Nat → Int32} (hl0 : isA E L τ f 46 5 vl) (hh : isA E L τ f 47 45 vh) (hR : rowOK vl vh 0) : tMi l E J yX10_way cX10_way 2 .int (gRm (7) 0 0) [.ref q, .int p1] L f (tPi E L τ [40, 52, 53, 54, 55, 56] f (fun r f1 => rg r (-2147483648) 2147483647)) := by
  refine tMi.intro (by decide) (Nat.le_of_ble_eq_true rfl) ?_
  intro p e s m below meth c A ls C hr hA hO hH hl
  have C : gC E cX10_way 2 RX10 p s m _ meth c := C
  have hl : lv_has ls 2 [(0, .ref q), (1, .int p1)] := hl
  have hx := C.1
  have hb := C.2.1
  have hI := hI.S [40, 52, 53, 54, 55, 56]
  refine lv_aload_n hx hb dX10_way_0 rfl (lv_at hl 0 rfl) ?_
  refine lv_iconst (v := (0 : Int32)) hx hb dX10_way_1 (by decide) ?_
  refine t_put C hH hI mq tq (by decide) td_40 iX10 tyX10 tyX10_ok nmX10 rfl 0 (by decide) wd855 rfl rfl (v := .int (0 : Int32)) rfl rfl rfl ⟨_, rfl, (rg_w rl_0 (by decide))⟩ (fun _ h => nomatch h) dX10_way_2 (fun f1 H locs hH hI nf1 of1 bf1 => ?_)
  refine lv_aload_n hx hb dX10_way_5 rfl (lv_at hl 0 rfl) ?_
  refine lv_iload_n hx hb dX10_way_6 rfl (lv_at hl 1 rfl) ?_
  refine lv_i2l (v := (p1).toInt64) hx hb dX10_way_7 rfl ?_
  refine t_Vi C hO hl.1 hA hH hI.1 (As := [.long (p1).toInt64]) (rest := []) (t_X10_isFlight l E J τ L f1 hI.1 mq tq ((p1).toInt64)) my_X10_isFlight wd859 mq tq td_40 rfl rfl rfl (Nat.le_of_ble_eq_true rfl) ⟨Nat.le_of_ble_eq_true rfl, Nat.le_of_ble_eq_true rfl⟩ ⟨rfl, rfl⟩ dX10_way_8 (fun r3 L1 f2 H locs hp hH => ?_)
  obtain ⟨rfl, s4, h5⟩ := hp
  have hJ := hI
  have hI := hI.call s4 (by decide)
  have w6 := h5.2.2 vl vh (hl0.S hJ rfl) (hh.S hJ rfl) hR
  refine lv_if_ne (tgt := 17) hx hb dX10_way_11 (by decide) (fun c7 => ?_) (fun c7 => ?_)
  · skip
    have r8 : rg r3 1 1 := rf_nel (n_eq c7) h5.1 rl_0 (by decide)
    have r9 : rg p1 0 3 := is_rg (h5.2.1 c7) (rg_all _) (by decide)
    have F10 : 1 ≤ (vh 0).toInt := w6 c7
    refine lv_aload_n hx hb dX10_way_17 rfl (lv_at hl 0 rfl) ?_
    refine t_Vv C hO hl.1 hA hH hI.1 (As := []) (rest := []) (t_X10_laysNow l E J τ L f2 hI.1 mq tq (hh.S hI rfl) F10) my_X10_laysNow wd842 mq tq td_40 rfl rfl rfl (Nat.le_of_ble_eq_true rfl) ⟨Nat.le_of_ble_eq_true rfl, Nat.le_of_ble_eq_true rfl⟩ ⟨rfl, rfl⟩ dX10_way_18 (fun L1 f11 H locs hp hH => ?_)
    obtain ⟨rfl, s13, h14⟩ := hp
    have hI := hI.call s13 (by decide)
    refine lv_aload_n hx hb dX10_way_21 rfl (lv_at hl 0 rfl) ?_
    refine lv_iload_n hx hb dX10_way_22 rfl (lv_at hl 1 rfl) ?_
    refine t_Vi C hO hl.1 hA hH hI.1 (As := [.int p1]) (rest := []) (t_X10_wayOf l E J τ L f11 hI.1 mq tq p1 r9) my_X10_wayOf wd871 mq tq td_40 rfl rfl rfl (Nat.le_of_ble_eq_true rfl) ⟨Nat.le_of_ble_eq_true rfl, Nat.le_of_ble_eq_true rfl⟩ ⟨rfl, rfl⟩ dX10_way_23 (fun r16 L1 f15 H locs hp hH => ?_)
    obtain ⟨rfl, s17, h18⟩ := hp
    have hI := hI.call s17 (by decide)
    exact g_iret C hr hH (Nat.zero_le _) (Nat.zero_le _) dX10_way_26 ⟨rfl, hI, h18⟩
  · skip
    have r19 : rg r3 0 0 := rf_eql (c_eq c7) h5.1 rl_0 (by decide)
    refine lv_bipush (v := (-2 : Int32)) hx hb dX10_way_14 (by decide) ?_
    exact g_iret C hr hH (Nat.zero_le _) (Nat.zero_le _) dX10_way_16 ⟨rfl, hI, (rg_w rl_m2 (by decide))⟩
set_option maxHeartbeats 4000000 in
set_option maxRecDepth 100000 in
theorem t_X10_over (l : Launch) (E : gE) (J : Nat → Nat) (τ : Nat → Nat) (L : List Nat) (f : gF) (hI : tI E L τ f) {q : Nat} (mq : q ∈ L) (tq : τ q = 40) (p1 : Int32) {vl vh : Nat → Int32} (hl0 : isA E L τ f 46 5 vl) (hh : isA E L τ f 47 45 vh) (hR : rowOK vl vh 0) : tMi l E J yX10_over cX10_over 4 .int (gRm (7) 0 0) [.ref q, .int p1] L f (tPi E L τ [40, 52, 53, 54, 55, 56] f (fun r f1 => rg r (-2147483648) 2147483647)) := by
  refine tMi.intro (by decide) (Nat.le_of_ble_eq_true rfl) ?_
  intro p e s m below meth c A ls C hr hA hO hH hl
  have C : gC E cX10_over 4 RX10 p s m _ meth c := C
  have hl : lv_has ls 4 [(0, .ref q), (1, .int p1)] := hl
  have hx := C.1
  have hb := C.2.1
  have hI := hI.S [40, 52, 53, 54, 55, 56]
  have cut25 : ∀ (n : Nat) (fh25 : gF) (H : Heap) (locs : List Loc) (ls : Array Slot) (v25_2 : Int32) (v25_3 : Int32), 4 - v25_3.toInt < (n : Int) → tS E L τ [40, 52, 53, 54, 55, 56] f fh25 → gH E A L fh25 s.heap H locs → rg v25_2 0 15 → rg v25_3 0 4 → rg p1 0 19 → 1 ≤ (vh 0).toInt → lv_has ls 4 [(0, .ref q), (1, .int p1), (2, .int v25_2), (3, .int v25_3)] → W p l e (gRm (7) 0 0) s m [.ref q, .int p1].toArray below meth c H locs 0 0 (MQ below (gQi E A (tPi E L τ [40, 52, 53, 54, 55, 56] f (fun r f1 => rg r (-2147483648) 2147483647))) [.ref q, .int p1].toArray s (gRm (7) 0 0).cells (gRm (7) 0 0).slots A) (F0 m 25 ls []) := by
    intro n
    induction n with
    | zero =>
      intro fh25 H locs ls v25_2 v25_3 hfu25 hI hH r_v25_2 r_v25_3 r25_p1 F25_W hl
      exact (fu_0 hfu25 r_v25_3).elim
    | succ n ih25 =>
      intro fh25 H locs ls v25_2 v25_3 hfu25 hI hH r_v25_2 r_v25_3 r25_p1 F25_W hl
      refine lv_iload_n hx hb dX10_over_25 rfl (lv_at hl 3 rfl) ?_
      refine lv_aload_n hx hb dX10_over_26 rfl (lv_at hl 0 rfl) ?_
      refine t_Vi C hO hl.1 hA hH hI.1 (As := []) (rest := [.int v25_3]) (t_X10_flights l E J τ L fh25 hI.1 mq tq) my_X10_flights wd752 mq tq td_40 rfl rfl rfl (Nat.le_of_ble_eq_true rfl) ⟨Nat.le_of_ble_eq_true rfl, Nat.le_of_ble_eq_true rfl⟩ ⟨rfl, rfl⟩ dX10_over_27 (fun r2 L1 f1 H locs hp hH => ?_)
      obtain ⟨rfl, s3, h4⟩ := hp
      have hJ := hI
      have hI := hI.call s3 (by decide)
      refine lv_icmp_ge (tgt := 61) hx hb dX10_over_30 (by decide) (fun c5 => ?_) (fun c5 => ?_)
      · skip
        refine lv_iload_n hx hb dX10_over_61 rfl (lv_at hl 2 rfl) ?_
        exact g_iret C hr hH (Nat.zero_le _) (Nat.zero_le _) dX10_over_62 ⟨rfl, hI, (rg_w r_v25_2 (by decide))⟩
      · skip
        have r6 : rg v25_3 0 3 := rf_ltl (n_le c5) r_v25_3 h4.1 (by decide)
        have r7 : rg r2 1 4 := rf_ltr (n_le c5) r_v25_3 h4.1 (by decide)
        refine lv_iload_n hx hb dX10_over_33 rfl (lv_at hl 2 rfl) ?_
        refine lv_aload_n hx hb dX10_over_34 rfl (lv_at hl 0 rfl) ?_
        refine lv_iload_n hx hb dX10_over_35 rfl (lv_at hl 3 rfl) ?_
        refine t_Vi C hO hl.1 hA hH hI.1 (As := [.int v25_3]) (rest := [.int v25_2]) (t_X10_wayOf l E J τ L f1 hI.1 mq tq v25_3 r6) my_X10_wayOf wd871 mq tq td_40 rfl rfl rfl (Nat.le_of_ble_eq_true rfl) ⟨Nat.le_of_ble_eq_true rfl, Nat.le_of_ble_eq_true rfl⟩ ⟨rfl, rfl⟩ dX10_over_36 (fun r9 L1 f8 H locs hp hH => ?_)
        obtain ⟨rfl, s10, h11⟩ := hp
        have hI := hI.call s10 (by decide)
        refine lv_iload_n hx hb dX10_over_39 rfl (lv_at hl 1 rfl) ?_
        refine t_Si C hO hl.1 hA hH (As := [.int r9, .int p1]) (rest := [.int v25_2]) (t_X10_isBit l E J τ L f8 hI.1 r9 p1) my_X10_isBit wd783 rfl rfl (Nat.le_of_ble_eq_true rfl) ⟨Nat.le_of_ble_eq_true rfl, Nat.le_of_ble_eq_true rfl⟩ ⟨rfl, rfl⟩ dX10_over_40 (fun r13 L1 f12 H locs hp hH => ?_)
        obtain ⟨rfl, s14, h15⟩ := hp
        have hI := hI.call s14 (by decide)
        refine lv_if_eq (tgt := 52) hx hb dX10_over_43 (by decide) (fun c16 => ?_) (fun c16 => ?_)
        · skip
          have r17 : rg r13 0 0 := rf_eql (c_eq c16) h15 rl_0 (by decide)
          refine lv_iconst (v := (0 : Int32)) hx hb dX10_over_52 (by decide) ?_
          refine lv_ior hx hb dX10_over_53 ?_
          refine lv_topi (fun z18 ez18 => ?_)
          have r19 : rg z18 0 15 := rg_or 4 ez18 r_v25_2 rl_0 (by decide)
          refine lv_istore_n (lv' := [(2, .int z18), (0, .ref q), (1, .int p1), (3, .int v25_3)]) hx hb dX10_over_54 rfl hl (by decide) rfl (fun ls hl => ?_)
          obtain ⟨z20, ez20⟩ : ∃ y : Int32, y = v25_3 + (1 : Int32) := ⟨_, rfl⟩
          have r21 : rg z20 1 4 := rg_add ez20 r6 rl_1 (by decide)
          have a22 : z20.toInt = v25_3.toInt + 1 := ai_add ez20 r6 tl_1 (by decide)
          refine lv_iinc (v := z20) (lv' := [(3, .int z20), (2, .int z18), (0, .ref q), (1, .int p1)]) hx hb dX10_over_55 hl (k := 3) rfl (by rw [ez20]; rfl) (by decide) rfl (fun ls hl => ?_)
          refine lv_goto (tgt := 25) hx hb dX10_over_58 (by decide) ?_
          exact ih25 _ _ _ _ z18 z20 (fu_s hfu25 a22 (by decide)) hI hH r19 (rg_w r21 (by decide)) r25_p1 F25_W (lv_sub hl [2, 3, 1, 0] rfl)
        · skip
          have r23 : rg r13 1 1 := rf_nel (n_eq c16) h15 rl_0 (by decide)
          refine lv_iconst (v := (1 : Int32)) hx hb dX10_over_46 (by decide) ?_
          refine lv_iload_n hx hb dX10_over_47 rfl (lv_at hl 3 rfl) ?_
          refine lv_ishl hx hb dX10_over_48 ?_
          refine lv_topi (fun z24 ez24 => ?_)
          have r25 : rg z24 1 8 := rg_shl 0 3 ez24 r6 (by decide)
          refine lv_goto (tgt := 53) hx hb dX10_over_49 (by decide) ?_
          refine lv_ior hx hb dX10_over_53 ?_
          refine lv_topi (fun z26 ez26 => ?_)
          have r27 : rg z26 0 15 := rg_or 4 ez26 r_v25_2 r25 (by decide)
          refine lv_istore_n (lv' := [(2, .int z26), (0, .ref q), (1, .int p1), (3, .int v25_3)]) hx hb dX10_over_54 rfl hl (by decide) rfl (fun ls hl => ?_)
          obtain ⟨z28, ez28⟩ : ∃ y : Int32, y = v25_3 + (1 : Int32) := ⟨_, rfl⟩
          have r29 : rg z28 1 4 := rg_add ez28 r6 rl_1 (by decide)
          have a30 : z28.toInt = v25_3.toInt + 1 := ai_add ez28 r6 tl_1 (by decide)
          refine lv_iinc (v := z28) (lv' := [(3, .int z28), (2, .int z26), (0, .ref q), (1, .int p1)]) hx hb dX10_over_55 hl (k := 3) rfl (by rw [ez28]; rfl) (by decide) rfl (fun ls hl => ?_)
          refine lv_goto (tgt := 25) hx hb dX10_over_58 (by decide) ?_
          exact ih25 _ _ _ _ z26 z28 (fu_s hfu25 a30 (by decide)) hI hH r27 (rg_w r29 (by decide)) r25_p1 F25_W (lv_sub hl [2, 3, 1, 0] rfl)
  refine lv_aload_n hx hb dX10_over_0 rfl (lv_at hl 0 rfl) ?_
  refine lv_iconst (v := (0 : Int32)) hx hb dX10_over_1 (by decide) ?_
  refine t_put C hH hI mq tq (by decide) td_40 iX10 tyX10 tyX10_ok nmX10 rfl 0 (by decide) wd855 rfl rfl (v := .int (0 : Int32)) rfl rfl rfl ⟨_, rfl, (rg_w rl_0 (by decide))⟩ (fun _ h => nomatch h) dX10_over_2 (fun f31 H locs hH hI nf31 of31 bf31 => ?_)
  refine lv_aload_n hx hb dX10_over_5 rfl (lv_at hl 0 rfl) ?_
  refine lv_iload_n hx hb dX10_over_6 rfl (lv_at hl 1 rfl) ?_
  refine lv_i2l (v := (p1).toInt64) hx hb dX10_over_7 rfl ?_
  refine t_Vi C hO hl.1 hA hH hI.1 (As := [.long (p1).toInt64]) (rest := []) (t_X10_isCell l E J τ L f31 hI.1 mq tq ((p1).toInt64)) my_X10_isCell wd875 mq tq td_40 rfl rfl rfl (Nat.le_of_ble_eq_true rfl) ⟨Nat.le_of_ble_eq_true rfl, Nat.le_of_ble_eq_true rfl⟩ ⟨rfl, rfl⟩ dX10_over_8 (fun r33 L1 f32 H locs hp hH => ?_)
  obtain ⟨rfl, s34, h35⟩ := hp
  have hJ := hI
  have hI := hI.call s34 (by decide)
  have w36 := h35.2.2 vl vh (hl0.S hJ rfl) (hh.S hJ rfl) hR
  refine lv_if_ne (tgt := 17) hx hb dX10_over_11 (by decide) (fun c37 => ?_) (fun c37 => ?_)
  · skip
    have r38 : rg r33 1 1 := rf_nel (n_eq c37) h35.1 rl_0 (by decide)
    have r39 : rg p1 0 19 := is_rg (h35.2.1 c37) (rg_all _) (by decide)
    have F40 : 1 ≤ (vh 0).toInt := w36 c37
    refine lv_aload_n hx hb dX10_over_17 rfl (lv_at hl 0 rfl) ?_
    refine t_Vv C hO hl.1 hA hH hI.1 (As := []) (rest := []) (t_X10_laysNow l E J τ L f32 hI.1 mq tq (hh.S hI rfl) F40) my_X10_laysNow wd842 mq tq td_40 rfl rfl rfl (Nat.le_of_ble_eq_true rfl) ⟨Nat.le_of_ble_eq_true rfl, Nat.le_of_ble_eq_true rfl⟩ ⟨rfl, rfl⟩ dX10_over_18 (fun L1 f41 H locs hp hH => ?_)
    obtain ⟨rfl, s43, h44⟩ := hp
    have hI := hI.call s43 (by decide)
    refine lv_iconst (v := (0 : Int32)) hx hb dX10_over_21 (by decide) ?_
    refine lv_istore_n (lv' := [(2, .int (0 : Int32)), (0, .ref q), (1, .int p1)]) hx hb dX10_over_22 rfl hl (by decide) rfl (fun ls hl => ?_)
    refine lv_iconst (v := (0 : Int32)) hx hb dX10_over_23 (by decide) ?_
    refine lv_istore_n (lv' := [(3, .int (0 : Int32)), (2, .int (0 : Int32)), (0, .ref q), (1, .int p1)]) hx hb dX10_over_24 rfl hl (by decide) rfl (fun ls hl => ?_)
    exact cut25 5 _ _ _ _ (0 : Int32) (0 : Int32) (fu_i 5 rl_0 (by decide)) hI hH (rg_w rl_0 (by decide)) (rg_w rl_0 (by decide)) r39 F40 (lv_sub hl [2, 3, 1, 0] rfl)
  · skip
    have r45 : rg r33 0 0 := rf_eql (c_eq c37) h35.1 rl_0 (by decide)
    refine lv_bipush (v := (-2 : Int32)) hx hb dX10_over_14 (by decide) ?_
    exact g_iret C hr hH (Nat.zero_le _) (Nat.zero_le _) dX10_over_16 ⟨rfl, hI, (rg_w rl_m2 (by decide))⟩
set_option maxHeartbeats 4000000 in
set_option maxRecDepth 100000 in
theorem t_X10_geese (l : Launch) (E : gE) (J : Nat → Nat) (τ : Nat → Nat) (L : List Nat) (f : gF) (hI : tI E L τ f) {q : Nat} (mq : q ∈ L) (tq : τ q = 40) (p1 : Int32) (p2 : Int32) {vl vh : Nat → Int32} (hl0 : isA E L τ f 46 5 vl) (hh : isA E L τ f 47 45 vh) (hR : rowOK vl vh 0) : tMi l E J yX10_geese cX10_geese 5 .int (gRm (7) 0 0) [.ref q, .int p1, .int p2] L f (tPi E L τ [40, 52, 53, 54, 55, 56] f (fun r f1 => rg r (-2147483648) 2147483647)) := by
  refine tMi.intro (by decide) (Nat.le_of_ble_eq_true rfl) ?_
  intro p e s m below meth c A ls C hr hA hO hH hl
  have C : gC E cX10_geese 5 RX10 p s m _ meth c := C
  have hl : lv_has ls 5 [(0, .ref q), (1, .int p1), (2, .int p2)] := hl
  have hx := C.1
  have hb := C.2.1
  have hI := hI.S [40, 52, 53, 54, 55, 56]
  obtain ⟨q_26, mq_26, tq_26, kq_26⟩ := t_fldr hI.1 mq tq td_40 (k := 26) rfl
  obtain ⟨q_18, mq_18, tq_18, kq_18⟩ := t_fldr hI.1 mq tq td_40 (k := 18) rfl
  have cut33 : ∀ (n : Nat) (fh33 : gF) (H : Heap) (locs : List Loc) (ls : Array Slot) (v33_3 : Int32) (v33_4 : Int32), 4 - v33_4.toInt < (n : Int) → tS E L τ [40, 52, 53, 54, 55, 56] f fh33 → gH E A L fh33 s.heap H locs → rg v33_4 0 4 → rg p1 0 19 → rg p2 0 40 → 1 ≤ (vh 0).toInt → lv_has ls 5 [(0, .ref q), (1, .int p1), (2, .int p2), (3, .int v33_3), (4, .int v33_4)] → W p l e (gRm (7) 0 0) s m [.ref q, .int p1, .int p2].toArray below meth c H locs 0 0 (MQ below (gQi E A (tPi E L τ [40, 52, 53, 54, 55, 56] f (fun r f1 => rg r (-2147483648) 2147483647))) [.ref q, .int p1, .int p2].toArray s (gRm (7) 0 0).cells (gRm (7) 0 0).slots A) (F0 m 33 ls []) := by
    intro n
    induction n with
    | zero =>
      intro fh33 H locs ls v33_3 v33_4 hfu33 hI hH r_v33_4 r33_p1 r33_p2 F33_W hl
      exact (fu_0 hfu33 r_v33_4).elim
    | succ n ih33 =>
      intro fh33 H locs ls v33_3 v33_4 hfu33 hI hH r_v33_4 r33_p1 r33_p2 F33_W hl
      refine lv_iload hx hb dX10_geese_33 (lv_at hl 4 rfl) ?_
      refine lv_aload_n hx hb dX10_geese_35 rfl (lv_at hl 0 rfl) ?_
      refine t_Vi C hO hl.1 hA hH hI.1 (As := []) (rest := [.int v33_4]) (t_X10_flights l E J τ L fh33 hI.1 mq tq) my_X10_flights wd752 mq tq td_40 rfl rfl rfl (Nat.le_of_ble_eq_true rfl) ⟨Nat.le_of_ble_eq_true rfl, Nat.le_of_ble_eq_true rfl⟩ ⟨rfl, rfl⟩ dX10_geese_36 (fun r2 L1 f1 H locs hp hH => ?_)
      obtain ⟨rfl, s3, h4⟩ := hp
      have hJ := hI
      have hI := hI.call s3 (by decide)
      refine lv_icmp_ge (tgt := 82) hx hb dX10_geese_39 (by decide) (fun c5 => ?_) (fun c5 => ?_)
      · skip
        refine lv_iload_n hx hb dX10_geese_82 rfl (lv_at hl 3 rfl) ?_
        exact g_iret C hr hH (Nat.zero_le _) (Nat.zero_le _) dX10_geese_83 ⟨rfl, hI, (rg_all _)⟩
      · skip
        have r6 : rg v33_4 0 3 := rf_ltl (n_le c5) r_v33_4 h4.1 (by decide)
        have r7 : rg r2 1 4 := rf_ltr (n_le c5) r_v33_4 h4.1 (by decide)
        refine lv_iload_n hx hb dX10_geese_42 rfl (lv_at hl 3 rfl) ?_
        refine lv_aload_n hx hb dX10_geese_43 rfl (lv_at hl 0 rfl) ?_
        refine t_getX C hH hI.1 mq tq td_40 iX10 rfl 26 (by decide) wd780 rfl (hI.rf kq_26) dX10_geese_44 ?_
        refine lv_bipush (v := (41 : Int32)) hx hb dX10_geese_47 (by decide) ?_
        refine lv_iload hx hb dX10_geese_49 (lv_at hl 4 rfl) ?_
        refine lv_imul hx hb dX10_geese_51 ?_
        refine lv_topi (fun z8 ez8 => ?_)
        have r9 : rg z8 0 123 := rg_mul ez8 rl_41 r6 (by decide)
        refine lv_iload_n hx hb dX10_geese_52 rfl (lv_at hl 2 rfl) ?_
        refine lv_iadd hx hb dX10_geese_53 ?_
        refine lv_topi (fun z10 ez10 => ?_)
        have r11 : rg z10 0 163 := rg_add ez10 r9 r33_p2 (by decide)
        refine t_ald C hH hI.1 mq_26 tq_26 td_53 (rg_in r11 (by decide)) dX10_geese_54 (fun z12v az12 _ => ?_)
        refine lv_topi (fun z12 ez12 => ?_)
        refine lv_iload_n hx hb dX10_geese_55 rfl (lv_at hl 1 rfl) ?_
        refine lv_icmp_ne (tgt := 73) hx hb dX10_geese_56 (by decide) (fun c13 => ?_) (fun c13 => ?_)
        · skip
          refine lv_iconst (v := (0 : Int32)) hx hb dX10_geese_73 (by decide) ?_
          refine lv_iadd hx hb dX10_geese_74 ?_
          refine lv_topi (fun z14 ez14 => ?_)
          have r15 : rg z14 (-2147483648) 2147483647 := rg_add ez14 (rg_all _) rl_0 (by decide)
          have a16 : z14.toInt = v33_3.toInt + 0 := ai_add ez14 (rg_all _) tl_0 (by decide)
          refine lv_istore_n (lv' := [(3, .int z14), (0, .ref q), (1, .int p1), (2, .int p2), (4, .int v33_4)]) hx hb dX10_geese_75 rfl hl (by decide) rfl (fun ls hl => ?_)
          obtain ⟨z17, ez17⟩ : ∃ y : Int32, y = v33_4 + (1 : Int32) := ⟨_, rfl⟩
          have r18 : rg z17 1 4 := rg_add ez17 r6 rl_1 (by decide)
          have a19 : z17.toInt = v33_4.toInt + 1 := ai_add ez17 r6 tl_1 (by decide)
          refine lv_iinc (v := z17) (lv' := [(4, .int z17), (3, .int z14), (0, .ref q), (1, .int p1), (2, .int p2)]) hx hb dX10_geese_76 hl (k := 4) rfl (by rw [ez17]; rfl) (by decide) rfl (fun ls hl => ?_)
          refine lv_goto (tgt := 33) hx hb dX10_geese_79 (by decide) ?_
          exact ih33 _ _ _ _ z14 z17 (fu_s hfu33 a19 (by decide)) hI hH (rg_w r18 (by decide)) r33_p1 r33_p2 F33_W (lv_sub hl [2, 3, 4, 1, 0] rfl)
        · skip
          have r20 : rg z12 0 19 := rf_eql (c_eq c13) (rg_all _) r33_p1 (by decide)
          refine lv_aload_n hx hb dX10_geese_59 rfl (lv_at hl 0 rfl) ?_
          refine t_getX C hH hI.1 mq tq td_40 iX10 rfl 18 (by decide) wd773 rfl (hI.rf kq_18) dX10_geese_60 ?_
          refine lv_iconst (v := (3 : Int32)) hx hb dX10_geese_63 (by decide) ?_
          refine lv_iload hx hb dX10_geese_64 (lv_at hl 4 rfl) ?_
          refine lv_imul hx hb dX10_geese_66 ?_
          refine lv_topi (fun z21 ez21 => ?_)
          have r22 : rg z21 0 9 := rg_mul ez21 rl_3 r6 (by decide)
          have m23 := mul3 ez21 r6 (by decide)
          refine lv_iconst (v := (2 : Int32)) hx hb dX10_geese_67 (by decide) ?_
          refine lv_iadd hx hb dX10_geese_68 ?_
          refine lv_topi (fun z24 ez24 => ?_)
          have r25 : rg z24 2 11 := rg_add ez24 r22 rl_2 (by decide)
          have a26 : z24.toInt = z21.toInt + 2 := ai_add ez24 r22 tl_2 (by decide)
          refine t_ald C hH hI.1 mq_18 tq_18 td_48 (rg_in r25 (by decide)) dX10_geese_69 (fun z27v az27 _ => ?_)
          refine lv_topi (fun z27 ez27 => ?_)
          refine lv_goto (tgt := 74) hx hb dX10_geese_70 (by decide) ?_
          refine lv_iadd hx hb dX10_geese_74 ?_
          refine lv_topi (fun z28 ez28 => ?_)
          refine lv_istore_n (lv' := [(3, .int z28), (0, .ref q), (1, .int p1), (2, .int p2), (4, .int v33_4)]) hx hb dX10_geese_75 rfl hl (by decide) rfl (fun ls hl => ?_)
          obtain ⟨z29, ez29⟩ : ∃ y : Int32, y = v33_4 + (1 : Int32) := ⟨_, rfl⟩
          have r30 : rg z29 1 4 := rg_add ez29 r6 rl_1 (by decide)
          have a31 : z29.toInt = v33_4.toInt + 1 := ai_add ez29 r6 tl_1 (by decide)
          refine lv_iinc (v := z29) (lv' := [(4, .int z29), (3, .int z28), (0, .ref q), (1, .int p1), (2, .int p2)]) hx hb dX10_geese_76 hl (k := 4) rfl (by rw [ez29]; rfl) (by decide) rfl (fun ls hl => ?_)
          refine lv_goto (tgt := 33) hx hb dX10_geese_79 (by decide) ?_
          exact ih33 _ _ _ _ z28 z29 (fu_s hfu33 a31 (by decide)) hI hH (rg_w r30 (by decide)) r33_p1 r33_p2 F33_W (lv_sub hl [2, 3, 4, 1, 0] rfl)
  refine lv_aload_n hx hb dX10_geese_0 rfl (lv_at hl 0 rfl) ?_
  refine lv_iconst (v := (0 : Int32)) hx hb dX10_geese_1 (by decide) ?_
  refine t_put C hH hI mq tq (by decide) td_40 iX10 tyX10 tyX10_ok nmX10 rfl 0 (by decide) wd855 rfl rfl (v := .int (0 : Int32)) rfl rfl rfl ⟨_, rfl, (rg_w rl_0 (by decide))⟩ (fun _ h => nomatch h) dX10_geese_2 (fun f32 H locs hH hI nf32 of32 bf32 => ?_)
  refine lv_aload_n hx hb dX10_geese_5 rfl (lv_at hl 0 rfl) ?_
  refine lv_iload_n hx hb dX10_geese_6 rfl (lv_at hl 1 rfl) ?_
  refine lv_i2l (v := (p1).toInt64) hx hb dX10_geese_7 rfl ?_
  refine t_Vi C hO hl.1 hA hH hI.1 (As := [.long (p1).toInt64]) (rest := []) (t_X10_isCell l E J τ L f32 hI.1 mq tq ((p1).toInt64)) my_X10_isCell wd875 mq tq td_40 rfl rfl rfl (Nat.le_of_ble_eq_true rfl) ⟨Nat.le_of_ble_eq_true rfl, Nat.le_of_ble_eq_true rfl⟩ ⟨rfl, rfl⟩ dX10_geese_8 (fun r34 L1 f33 H locs hp hH => ?_)
  obtain ⟨rfl, s35, h36⟩ := hp
  have hJ := hI
  have hI := hI.call s35 (by decide)
  have w37 := h36.2.2 vl vh (hl0.S hJ rfl) (hh.S hJ rfl) hR
  refine lv_if_eq (tgt := 21) hx hb dX10_geese_11 (by decide) (fun c38 => ?_) (fun c38 => ?_)
  · skip
    have r39 : rg r34 0 0 := rf_eql (c_eq c38) h36.1 rl_0 (by decide)
    refine lv_bipush (v := (-2 : Int32)) hx hb dX10_geese_21 (by decide) ?_
    exact g_iret C hr hH (Nat.zero_le _) (Nat.zero_le _) dX10_geese_23 ⟨rfl, hI, (rg_w rl_m2 (by decide))⟩
  · skip
    have r40 : rg r34 1 1 := rf_nel (n_eq c38) h36.1 rl_0 (by decide)
    have r41 : rg p1 0 19 := is_rg (h36.2.1 c38) (rg_all _) (by decide)
    have F42 : 1 ≤ (vh 0).toInt := w37 c38
    refine lv_iload_n hx hb dX10_geese_14 rfl (lv_at hl 2 rfl) ?_
    refine t_Si C hO hl.1 hA hH (As := [.int p2]) (rest := []) (t_X10_isStep l E J τ L f33 hI.1 p2) my_X10_isStep wd863 rfl rfl (Nat.le_of_ble_eq_true rfl) ⟨Nat.le_of_ble_eq_true rfl, Nat.le_of_ble_eq_true rfl⟩ ⟨rfl, rfl⟩ dX10_geese_15 (fun r44 L1 f43 H locs hp hH => ?_)
    obtain ⟨rfl, s45, h46⟩ := hp
    have hI := hI.call s45 (by decide)
    refine lv_if_ne (tgt := 24) hx hb dX10_geese_18 (by decide) (fun c47 => ?_) (fun c47 => ?_)
    · skip
      have r48 : rg r44 1 1 := rf_nel (n_eq c47) h46.1 rl_0 (by decide)
      have r49 : rg p2 0 40 := h46.2 c47
      refine lv_aload_n hx hb dX10_geese_24 rfl (lv_at hl 0 rfl) ?_
      refine t_Vv C hO hl.1 hA hH hI.1 (As := []) (rest := []) (t_X10_laysNow l E J τ L f43 hI.1 mq tq (hh.S hI rfl) F42) my_X10_laysNow wd842 mq tq td_40 rfl rfl rfl (Nat.le_of_ble_eq_true rfl) ⟨Nat.le_of_ble_eq_true rfl, Nat.le_of_ble_eq_true rfl⟩ ⟨rfl, rfl⟩ dX10_geese_25 (fun L1 f50 H locs hp hH => ?_)
      obtain ⟨rfl, s52, h53⟩ := hp
      have hI := hI.call s52 (by decide)
      refine lv_iconst (v := (0 : Int32)) hx hb dX10_geese_28 (by decide) ?_
      refine lv_istore_n (lv' := [(3, .int (0 : Int32)), (0, .ref q), (1, .int p1), (2, .int p2)]) hx hb dX10_geese_29 rfl hl (by decide) rfl (fun ls hl => ?_)
      refine lv_iconst (v := (0 : Int32)) hx hb dX10_geese_30 (by decide) ?_
      refine lv_istore (lv' := [(4, .int (0 : Int32)), (3, .int (0 : Int32)), (0, .ref q), (1, .int p1), (2, .int p2)]) hx hb dX10_geese_31 hl (by decide) rfl (fun ls hl => ?_)
      exact cut33 5 _ _ _ _ (0 : Int32) (0 : Int32) (fu_i 5 rl_0 (by decide)) hI hH (rg_w rl_0 (by decide)) r41 r49 F42 (lv_sub hl [2, 3, 4, 1, 0] rfl)
    · skip
      have r54 : rg r44 0 0 := rf_eql (c_eq c47) h46.1 rl_0 (by decide)
      refine lv_bipush (v := (-2 : Int32)) hx hb dX10_geese_21 (by decide) ?_
      exact g_iret C hr hH (Nat.zero_le _) (Nat.zero_le _) dX10_geese_23 ⟨rfl, hI, (rg_w rl_m2 (by decide))⟩
set_option maxHeartbeats 4000000 in
set_option maxRecDepth 100000 in
theorem t_X10_hears (l : Launch) (E : gE) (J : Nat → Nat) (τ : Nat → Nat) (L : List Nat) (f : gF) (hI : tI E L τ f) {q : Nat} (mq : q ∈ L) (tq : τ q = 40) (p1 : Int32) (p2 : Int32) {vl vh : Nat → Int32} (hl0 : isA E L τ f 46 5 vl) (hh : isA E L τ f 47 45 vh) (hR : rowOK vl vh 0) : tMi l E J yX10_hears cX10_hears 3 .int (gRm (7) 0 0) [.ref q, .int p1, .int p2] L f (tPi E L τ [40, 52, 53, 54, 55, 56] f (fun r f1 => rg r (-2147483648) 2147483647)) := by
  refine tMi.intro (by decide) (Nat.le_of_ble_eq_true rfl) ?_
  intro p e s m below meth c A ls C hr hA hO hH hl
  have C : gC E cX10_hears 3 RX10 p s m _ meth c := C
  have hl : lv_has ls 3 [(0, .ref q), (1, .int p1), (2, .int p2)] := hl
  have hx := C.1
  have hb := C.2.1
  have hI := hI.S [40, 52, 53, 54, 55, 56]
  obtain ⟨q_19, mq_19, tq_19, kq_19⟩ := t_fldr hI.1 mq tq td_40 (k := 19) rfl
  refine lv_aload_n hx hb dX10_hears_0 rfl (lv_at hl 0 rfl) ?_
  refine lv_iconst (v := (0 : Int32)) hx hb dX10_hears_1 (by decide) ?_
  refine t_put C hH hI mq tq (by decide) td_40 iX10 tyX10 tyX10_ok nmX10 rfl 0 (by decide) wd855 rfl rfl (v := .int (0 : Int32)) rfl rfl rfl ⟨_, rfl, (rg_w rl_0 (by decide))⟩ (fun _ h => nomatch h) dX10_hears_2 (fun f1 H locs hH hI nf1 of1 bf1 => ?_)
  refine lv_aload_n hx hb dX10_hears_5 rfl (lv_at hl 0 rfl) ?_
  refine lv_iload_n hx hb dX10_hears_6 rfl (lv_at hl 1 rfl) ?_
  refine lv_i2l (v := (p1).toInt64) hx hb dX10_hears_7 rfl ?_
  refine t_Vi C hO hl.1 hA hH hI.1 (As := [.long (p1).toInt64]) (rest := []) (t_X10_isMember l E J τ L f1 hI.1 mq tq ((p1).toInt64)) my_X10_isMember wd764 mq tq td_40 rfl rfl rfl (Nat.le_of_ble_eq_true rfl) ⟨Nat.le_of_ble_eq_true rfl, Nat.le_of_ble_eq_true rfl⟩ ⟨rfl, rfl⟩ dX10_hears_8 (fun r3 L1 f2 H locs hp hH => ?_)
  obtain ⟨rfl, s4, h5⟩ := hp
  have hJ := hI
  have hI := hI.call s4 (by decide)
  have w6 := h5.2.2 vl vh (hl0.S hJ rfl) (hh.S hJ rfl) hR
  refine lv_if_eq (tgt := 23) hx hb dX10_hears_11 (by decide) (fun c7 => ?_) (fun c7 => ?_)
  · skip
    have r8 : rg r3 0 0 := rf_eql (c_eq c7) h5.1 rl_0 (by decide)
    refine lv_bipush (v := (-2 : Int32)) hx hb dX10_hears_23 (by decide) ?_
    exact g_iret C hr hH (Nat.zero_le _) (Nat.zero_le _) dX10_hears_25 ⟨rfl, hI, (rg_w rl_m2 (by decide))⟩
  · skip
    have r9 : rg r3 1 1 := rf_nel (n_eq c7) h5.1 rl_0 (by decide)
    have r10 : rg p1 0 5 := is_rg (h5.2.1 c7) (rg_all _) (by decide)
    have F11 : 1 ≤ (vh 0).toInt := w6 c7
    refine lv_aload_n hx hb dX10_hears_14 rfl (lv_at hl 0 rfl) ?_
    refine lv_iload_n hx hb dX10_hears_15 rfl (lv_at hl 2 rfl) ?_
    refine lv_i2l (v := (p2).toInt64) hx hb dX10_hears_16 rfl ?_
    refine t_Vi C hO hl.1 hA hH hI.1 (As := [.long (p2).toInt64]) (rest := []) (t_X10_isFlight l E J τ L f2 hI.1 mq tq ((p2).toInt64)) my_X10_isFlight wd859 mq tq td_40 rfl rfl rfl (Nat.le_of_ble_eq_true rfl) ⟨Nat.le_of_ble_eq_true rfl, Nat.le_of_ble_eq_true rfl⟩ ⟨rfl, rfl⟩ dX10_hears_17 (fun r13 L1 f12 H locs hp hH => ?_)
    obtain ⟨rfl, s14, h15⟩ := hp
    have hJ := hI
    have hI := hI.call s14 (by decide)
    have w16 := h15.2.2 vl vh (hl0.S hJ rfl) (hh.S hJ rfl) hR
    refine lv_if_ne (tgt := 26) hx hb dX10_hears_20 (by decide) (fun c17 => ?_) (fun c17 => ?_)
    · skip
      have r18 : rg r13 1 1 := rf_nel (n_eq c17) h15.1 rl_0 (by decide)
      have r19 : rg p2 0 3 := is_rg (h15.2.1 c17) (rg_all _) (by decide)
      refine lv_aload_n hx hb dX10_hears_26 rfl (lv_at hl 0 rfl) ?_
      refine t_Vv C hO hl.1 hA hH hI.1 (As := []) (rest := []) (t_X10_laysNow l E J τ L f12 hI.1 mq tq (hh.S hI rfl) F11) my_X10_laysNow wd842 mq tq td_40 rfl rfl rfl (Nat.le_of_ble_eq_true rfl) ⟨Nat.le_of_ble_eq_true rfl, Nat.le_of_ble_eq_true rfl⟩ ⟨rfl, rfl⟩ dX10_hears_27 (fun L1 f20 H locs hp hH => ?_)
      obtain ⟨rfl, s22, h23⟩ := hp
      have hI := hI.call s22 (by decide)
      refine lv_aload_n hx hb dX10_hears_30 rfl (lv_at hl 0 rfl) ?_
      refine lv_iload_n hx hb dX10_hears_31 rfl (lv_at hl 2 rfl) ?_
      refine lv_aload_n hx hb dX10_hears_32 rfl (lv_at hl 0 rfl) ?_
      refine t_getX C hH hI.1 mq tq td_40 iX10 rfl 19 (by decide) wd818 rfl (hI.rf kq_19) dX10_hears_33 ?_
      refine lv_iconst (v := (3 : Int32)) hx hb dX10_hears_36 (by decide) ?_
      refine lv_iload_n hx hb dX10_hears_37 rfl (lv_at hl 1 rfl) ?_
      refine lv_imul hx hb dX10_hears_38 ?_
      refine lv_topi (fun z24 ez24 => ?_)
      have r25 : rg z24 0 15 := rg_mul ez24 rl_3 r10 (by decide)
      have m26 := mul3 ez24 r10 (by decide)
      refine t_ald C hH hI.1 mq_19 tq_19 td_49 (rg_in r25 (by decide)) dX10_hears_39 (fun z27v az27 pz27 => ?_)
      refine lv_topi (fun z27 ez27 => ?_)
      have r28 : rg z27 0 19 := mem_c pz27 (rg_in r25 (by decide)) m26 ez27
      refine t_Vi C hO hl.1 hA hH hI.1 (As := [.int p2, .int z27]) (rest := []) (t_X10_hearsOf l E J τ L f20 hI.1 mq tq p2 (rg_w r19 (by decide)) z27 (hh.S hI rfl) F11) my_X10_hearsOf wd801 mq tq td_40 rfl rfl rfl (Nat.le_of_ble_eq_true rfl) ⟨Nat.le_of_ble_eq_true rfl, Nat.le_of_ble_eq_true rfl⟩ ⟨rfl, rfl⟩ dX10_hears_40 (fun r30 L1 f29 H locs hp hH => ?_)
      obtain ⟨rfl, s31, h32⟩ := hp
      have hI := hI.call s31 (by decide)
      exact g_iret C hr hH (Nat.zero_le _) (Nat.zero_le _) dX10_hears_43 ⟨rfl, hI, h32⟩
    · skip
      have r33 : rg r13 0 0 := rf_eql (c_eq c17) h15.1 rl_0 (by decide)
      refine lv_bipush (v := (-2 : Int32)) hx hb dX10_hears_23 (by decide) ?_
      exact g_iret C hr hH (Nat.zero_le _) (Nat.zero_le _) dX10_hears_25 ⟨rfl, hI, (rg_w rl_m2 (by decide))⟩
set_option maxHeartbeats 4000000 in
set_option maxRecDepth 100000 in
theorem t_X10_heard (l : Launch) (E : gE) (J : Nat → Nat) (τ : Nat → Nat) (L : List Nat) (f : gF) (hI : tI E L τ f) {q : Nat} (mq : q ∈ L) (tq : τ q = 40) (p1 : Int32) {vl vh : Nat → Int32} (hl0 : isA E L τ f 46 5 vl) (hh : isA E L τ f 47 45 vh) (hR : rowOK vl vh 0) : tMi l E J yX10_heard cX10_heard 2 .int (gRm (7) 0 0) [.ref q, .int p1] L f (tPi E L τ [40, 52, 53, 54, 55, 56] f (fun r f1 => rg r (-2147483648) 2147483647)) := by
  refine tMi.intro (by decide) (Nat.le_of_ble_eq_true rfl) ?_
  intro p e s m below meth c A ls C hr hA hO hH hl
  have C : gC E cX10_heard 2 RX10 p s m _ meth c := C
  have hl : lv_has ls 2 [(0, .ref q), (1, .int p1)] := hl
  have hx := C.1
  have hb := C.2.1
  have hI := hI.S [40, 52, 53, 54, 55, 56]
  refine lv_aload_n hx hb dX10_heard_0 rfl (lv_at hl 0 rfl) ?_
  refine lv_iconst (v := (0 : Int32)) hx hb dX10_heard_1 (by decide) ?_
  refine t_put C hH hI mq tq (by decide) td_40 iX10 tyX10 tyX10_ok nmX10 rfl 0 (by decide) wd855 rfl rfl (v := .int (0 : Int32)) rfl rfl rfl ⟨_, rfl, (rg_w rl_0 (by decide))⟩ (fun _ h => nomatch h) dX10_heard_2 (fun f1 H locs hH hI nf1 of1 bf1 => ?_)
  refine lv_aload_n hx hb dX10_heard_5 rfl (lv_at hl 0 rfl) ?_
  refine lv_iload_n hx hb dX10_heard_6 rfl (lv_at hl 1 rfl) ?_
  refine lv_i2l (v := (p1).toInt64) hx hb dX10_heard_7 rfl ?_
  refine t_Vi C hO hl.1 hA hH hI.1 (As := [.long (p1).toInt64]) (rest := []) (t_X10_isMember l E J τ L f1 hI.1 mq tq ((p1).toInt64)) my_X10_isMember wd764 mq tq td_40 rfl rfl rfl (Nat.le_of_ble_eq_true rfl) ⟨Nat.le_of_ble_eq_true rfl, Nat.le_of_ble_eq_true rfl⟩ ⟨rfl, rfl⟩ dX10_heard_8 (fun r3 L1 f2 H locs hp hH => ?_)
  obtain ⟨rfl, s4, h5⟩ := hp
  have hJ := hI
  have hI := hI.call s4 (by decide)
  have w6 := h5.2.2 vl vh (hl0.S hJ rfl) (hh.S hJ rfl) hR
  refine lv_if_ne (tgt := 17) hx hb dX10_heard_11 (by decide) (fun c7 => ?_) (fun c7 => ?_)
  · skip
    have r8 : rg r3 1 1 := rf_nel (n_eq c7) h5.1 rl_0 (by decide)
    have r9 : rg p1 0 5 := is_rg (h5.2.1 c7) (rg_all _) (by decide)
    have F10 : 1 ≤ (vh 0).toInt := w6 c7
    refine lv_aload_n hx hb dX10_heard_17 rfl (lv_at hl 0 rfl) ?_
    refine t_Vv C hO hl.1 hA hH hI.1 (As := []) (rest := []) (t_X10_laysNow l E J τ L f2 hI.1 mq tq (hh.S hI rfl) F10) my_X10_laysNow wd842 mq tq td_40 rfl rfl rfl (Nat.le_of_ble_eq_true rfl) ⟨Nat.le_of_ble_eq_true rfl, Nat.le_of_ble_eq_true rfl⟩ ⟨rfl, rfl⟩ dX10_heard_18 (fun L1 f11 H locs hp hH => ?_)
    obtain ⟨rfl, s13, h14⟩ := hp
    have hI := hI.call s13 (by decide)
    refine lv_aload_n hx hb dX10_heard_21 rfl (lv_at hl 0 rfl) ?_
    refine lv_iload_n hx hb dX10_heard_22 rfl (lv_at hl 1 rfl) ?_
    refine t_Vi C hO hl.1 hA hH hI.1 (As := [.int p1]) (rest := []) (t_X10_heardOf l E J τ L f11 hI.1 mq tq p1 r9) my_X10_heardOf wd834 mq tq td_40 rfl rfl rfl (Nat.le_of_ble_eq_true rfl) ⟨Nat.le_of_ble_eq_true rfl, Nat.le_of_ble_eq_true rfl⟩ ⟨rfl, rfl⟩ dX10_heard_23 (fun r16 L1 f15 H locs hp hH => ?_)
    obtain ⟨rfl, s17, h18⟩ := hp
    have hI := hI.call s17 (by decide)
    exact g_iret C hr hH (Nat.zero_le _) (Nat.zero_le _) dX10_heard_26 ⟨rfl, hI, h18⟩
  · skip
    have r19 : rg r3 0 0 := rf_eql (c_eq c7) h5.1 rl_0 (by decide)
    refine lv_bipush (v := (-2 : Int32)) hx hb dX10_heard_14 (by decide) ?_
    exact g_iret C hr hH (Nat.zero_le _) (Nat.zero_le _) dX10_heard_16 ⟨rfl, hI, (rg_w rl_m2 (by decide))⟩
set_option maxHeartbeats 4000000 in
set_option maxRecDepth 100000 in
theorem t_X10_ears (l : Launch) (E : gE) (J : Nat → Nat) (τ : Nat → Nat) (L : List Nat) (f : gF) (hI : tI E L τ f) {q : Nat} (mq : q ∈ L) (tq : τ q = 40) (p1 : Int32) {vl vh : Nat → Int32} (hl0 : isA E L τ f 46 5 vl) (hh : isA E L τ f 47 45 vh) (hR : rowOK vl vh 0) : tMi l E J yX10_ears cX10_ears 2 .int (gRm (7) 0 0) [.ref q, .int p1] L f (tPi E L τ [40, 52, 53, 54, 55, 56] f (fun r f1 => rg r (-2147483648) 2147483647)) := by
  refine tMi.intro (by decide) (Nat.le_of_ble_eq_true rfl) ?_
  intro p e s m below meth c A ls C hr hA hO hH hl
  have C : gC E cX10_ears 2 RX10 p s m _ meth c := C
  have hl : lv_has ls 2 [(0, .ref q), (1, .int p1)] := hl
  have hx := C.1
  have hb := C.2.1
  have hI := hI.S [40, 52, 53, 54, 55, 56]
  obtain ⟨q_29, mq_29, tq_29, kq_29⟩ := t_fldr hI.1 mq tq td_40 (k := 29) rfl
  refine lv_aload_n hx hb dX10_ears_0 rfl (lv_at hl 0 rfl) ?_
  refine lv_iconst (v := (0 : Int32)) hx hb dX10_ears_1 (by decide) ?_
  refine t_put C hH hI mq tq (by decide) td_40 iX10 tyX10 tyX10_ok nmX10 rfl 0 (by decide) wd855 rfl rfl (v := .int (0 : Int32)) rfl rfl rfl ⟨_, rfl, (rg_w rl_0 (by decide))⟩ (fun _ h => nomatch h) dX10_ears_2 (fun f1 H locs hH hI nf1 of1 bf1 => ?_)
  refine lv_aload_n hx hb dX10_ears_5 rfl (lv_at hl 0 rfl) ?_
  refine lv_iload_n hx hb dX10_ears_6 rfl (lv_at hl 1 rfl) ?_
  refine lv_i2l (v := (p1).toInt64) hx hb dX10_ears_7 rfl ?_
  refine t_Vi C hO hl.1 hA hH hI.1 (As := [.long (p1).toInt64]) (rest := []) (t_X10_isCell l E J τ L f1 hI.1 mq tq ((p1).toInt64)) my_X10_isCell wd875 mq tq td_40 rfl rfl rfl (Nat.le_of_ble_eq_true rfl) ⟨Nat.le_of_ble_eq_true rfl, Nat.le_of_ble_eq_true rfl⟩ ⟨rfl, rfl⟩ dX10_ears_8 (fun r3 L1 f2 H locs hp hH => ?_)
  obtain ⟨rfl, s4, h5⟩ := hp
  have hJ := hI
  have hI := hI.call s4 (by decide)
  have w6 := h5.2.2 vl vh (hl0.S hJ rfl) (hh.S hJ rfl) hR
  refine lv_if_ne (tgt := 17) hx hb dX10_ears_11 (by decide) (fun c7 => ?_) (fun c7 => ?_)
  · skip
    have r8 : rg r3 1 1 := rf_nel (n_eq c7) h5.1 rl_0 (by decide)
    have r9 : rg p1 0 19 := is_rg (h5.2.1 c7) (rg_all _) (by decide)
    have F10 : 1 ≤ (vh 0).toInt := w6 c7
    refine lv_aload_n hx hb dX10_ears_17 rfl (lv_at hl 0 rfl) ?_
    refine t_Vv C hO hl.1 hA hH hI.1 (As := []) (rest := []) (t_X10_laysNow l E J τ L f2 hI.1 mq tq (hh.S hI rfl) F10) my_X10_laysNow wd842 mq tq td_40 rfl rfl rfl (Nat.le_of_ble_eq_true rfl) ⟨Nat.le_of_ble_eq_true rfl, Nat.le_of_ble_eq_true rfl⟩ ⟨rfl, rfl⟩ dX10_ears_18 (fun L1 f11 H locs hp hH => ?_)
    obtain ⟨rfl, s13, h14⟩ := hp
    have hI := hI.call s13 (by decide)
    refine lv_aload_n hx hb dX10_ears_21 rfl (lv_at hl 0 rfl) ?_
    refine t_getX C hH hI.1 mq tq td_40 iX10 rfl 29 (by decide) wd797 rfl (hI.rf kq_29) dX10_ears_22 ?_
    refine lv_iload_n hx hb dX10_ears_25 rfl (lv_at hl 1 rfl) ?_
    refine t_ald C hH hI.1 mq_29 tq_29 td_56 (rg_in r9 (by decide)) dX10_ears_26 (fun z15v az15 _ => ?_)
    refine lv_topi (fun z15 ez15 => ?_)
    exact g_iret C hr hH (Nat.zero_le _) (Nat.zero_le _) dX10_ears_27 ⟨rfl, hI, (rg_all _)⟩
  · skip
    have r16 : rg r3 0 0 := rf_eql (c_eq c7) h5.1 rl_0 (by decide)
    refine lv_bipush (v := (-2 : Int32)) hx hb dX10_ears_14 (by decide) ?_
    exact g_iret C hr hH (Nat.zero_le _) (Nat.zero_le _) dX10_ears_16 ⟨rfl, hI, (rg_w rl_m2 (by decide))⟩
set_option maxHeartbeats 4000000 in
set_option maxRecDepth 100000 in
theorem t_X10_loud (l : Launch) (E : gE) (J : Nat → Nat) (τ : Nat → Nat) (L : List Nat) (f : gF) (hI : tI E L τ f) {q : Nat} (mq : q ∈ L) (tq : τ q = 40) {vl vh : Nat → Int32} (hl0 : isA E L τ f 46 5 vl) (hh : isA E L τ f 47 45 vh) (hR : rowOK vl vh 0) : tMi l E J yX10_loud cX10_loud 3 .int (gRm (7) 0 0) [.ref q] L f (tPi E L τ [40, 52, 53, 54, 55, 56] f (fun r f1 => rg r (-2147483648) 2147483647)) := by
  refine tMi.intro (by decide) (Nat.le_of_ble_eq_true rfl) ?_
  intro p e s m below meth c A ls C hr hA hO hH hl
  have C : gC E cX10_loud 3 RX10 p s m _ meth c := C
  have hl : lv_has ls 3 [(0, .ref q)] := hl
  have hx := C.1
  have hb := C.2.1
  have hI := hI.S [40, 52, 53, 54, 55, 56]
  obtain ⟨q_29, mq_29, tq_29, kq_29⟩ := t_fldr hI.1 mq tq td_40 (k := 29) rfl
  have cut23 : ∀ (n : Nat) (fh23 : gF) (H : Heap) (locs : List Loc) (ls : Array Slot) (v23_1 : Int32) (v23_2 : Int32), 20 - v23_2.toInt < (n : Int) → tS E L τ [40, 52, 53, 54, 55, 56] f fh23 → gH E A L fh23 s.heap H locs → rg v23_1 0 19 → rg v23_2 1 20 → 1 ≤ (vh 0).toInt → lv_has ls 3 [(0, .ref q), (1, .int v23_1), (2, .int v23_2)] → W p l e (gRm (7) 0 0) s m [.ref q].toArray below meth c H locs 0 0 (MQ below (gQi E A (tPi E L τ [40, 52, 53, 54, 55, 56] f (fun r f1 => rg r (-2147483648) 2147483647))) [.ref q].toArray s (gRm (7) 0 0).cells (gRm (7) 0 0).slots A) (F0 m 23 ls []) := by
    intro n
    induction n with
    | zero =>
      intro fh23 H locs ls v23_1 v23_2 hfu23 hI hH r_v23_1 r_v23_2 F23_W hl
      exact (fu_0 hfu23 r_v23_2).elim
    | succ n ih23 =>
      intro fh23 H locs ls v23_1 v23_2 hfu23 hI hH r_v23_1 r_v23_2 F23_W hl
      refine lv_iload_n hx hb dX10_loud_23 rfl (lv_at hl 2 rfl) ?_
      refine lv_aload_n hx hb dX10_loud_24 rfl (lv_at hl 0 rfl) ?_
      refine t_Vi C hO hl.1 hA hH hI.1 (As := []) (rest := [.int v23_2]) (t_X10_cellsAll l E J τ L fh23 hI.1 mq tq) my_X10_cellsAll wd760 mq tq td_40 rfl rfl rfl (Nat.le_of_ble_eq_true rfl) ⟨Nat.le_of_ble_eq_true rfl, Nat.le_of_ble_eq_true rfl⟩ ⟨rfl, rfl⟩ dX10_loud_25 (fun r2 L1 f1 H locs hp hH => ?_)
      obtain ⟨rfl, s3, h4⟩ := hp
      have hJ := hI
      have hI := hI.call s3 (by decide)
      refine lv_icmp_ge (tgt := 54) hx hb dX10_loud_28 (by decide) (fun c5 => ?_) (fun c5 => ?_)
      · skip
        refine lv_iload_n hx hb dX10_loud_54 rfl (lv_at hl 1 rfl) ?_
        exact g_iret C hr hH (Nat.zero_le _) (Nat.zero_le _) dX10_loud_55 ⟨rfl, hI, (rg_w r_v23_1 (by decide))⟩
      · skip
        have r6 : rg v23_2 1 19 := rf_ltl (n_le c5) r_v23_2 h4.1 (by decide)
        have r7 : rg r2 2 20 := rf_ltr (n_le c5) r_v23_2 h4.1 (by decide)
        refine lv_aload_n hx hb dX10_loud_31 rfl (lv_at hl 0 rfl) ?_
        refine t_getX C hH hI.1 mq tq td_40 iX10 rfl 29 (by decide) wd797 rfl (hI.rf kq_29) dX10_loud_32 ?_
        refine lv_iload_n hx hb dX10_loud_35 rfl (lv_at hl 2 rfl) ?_
        refine t_ald C hH hI.1 mq_29 tq_29 td_56 (rg_in r6 (by decide)) dX10_loud_36 (fun z8v az8 _ => ?_)
        refine lv_topi (fun z8 ez8 => ?_)
        refine lv_aload_n hx hb dX10_loud_37 rfl (lv_at hl 0 rfl) ?_
        refine t_getX C hH hI.1 mq tq td_40 iX10 rfl 29 (by decide) wd797 rfl (hI.rf kq_29) dX10_loud_38 ?_
        refine lv_iload_n hx hb dX10_loud_41 rfl (lv_at hl 1 rfl) ?_
        refine t_ald C hH hI.1 mq_29 tq_29 td_56 (rg_in r_v23_1 (by decide)) dX10_loud_42 (fun z9v az9 _ => ?_)
        refine lv_topi (fun z9 ez9 => ?_)
        refine lv_icmp_le (tgt := 48) hx hb dX10_loud_43 (by decide) (fun c10 => ?_) (fun c10 => ?_)
        · skip
          obtain ⟨z11, ez11⟩ : ∃ y : Int32, y = v23_2 + (1 : Int32) := ⟨_, rfl⟩
          have r12 : rg z11 2 20 := rg_add ez11 r6 rl_1 (by decide)
          have a13 : z11.toInt = v23_2.toInt + 1 := ai_add ez11 r6 tl_1 (by decide)
          refine lv_iinc (v := z11) (lv' := [(2, .int z11), (0, .ref q), (1, .int v23_1)]) hx hb dX10_loud_48 hl (k := 2) rfl (by rw [ez11]; rfl) (by decide) rfl (fun ls hl => ?_)
          refine lv_goto (tgt := 23) hx hb dX10_loud_51 (by decide) ?_
          exact ih23 _ _ _ _ v23_1 z11 (fu_s hfu23 a13 (by decide)) hI hH r_v23_1 (rg_w r12 (by decide)) F23_W (lv_sub hl [1, 2, 0] rfl)
        · skip
          have r14 : rg z9 (-2147483648) 2147483646 := rf_ltl (n_le c10) (rg_all _) (rg_all _) (by decide)
          have r15 : rg z8 (-2147483647) 2147483647 := rf_ltr (n_le c10) (rg_all _) (rg_all _) (by decide)
          refine lv_iload_n hx hb dX10_loud_46 rfl (lv_at hl 2 rfl) ?_
          refine lv_istore_n (lv' := [(1, .int v23_2), (0, .ref q), (2, .int v23_2)]) hx hb dX10_loud_47 rfl hl (by decide) rfl (fun ls hl => ?_)
          obtain ⟨z16, ez16⟩ : ∃ y : Int32, y = v23_2 + (1 : Int32) := ⟨_, rfl⟩
          have r17 : rg z16 2 20 := rg_add ez16 r6 rl_1 (by decide)
          have a18 : z16.toInt = v23_2.toInt + 1 := ai_add ez16 r6 tl_1 (by decide)
          refine lv_iinc (v := z16) (lv' := [(2, .int z16), (1, .int v23_2), (0, .ref q)]) hx hb dX10_loud_48 hl (k := 2) rfl (by rw [ez16]; rfl) (by decide) rfl (fun ls hl => ?_)
          refine lv_goto (tgt := 23) hx hb dX10_loud_51 (by decide) ?_
          exact ih23 _ _ _ _ v23_2 z16 (fu_s hfu23 a18 (by decide)) hI hH (rg_w r6 (by decide)) (rg_w r17 (by decide)) F23_W (lv_sub hl [2, 1, 0] rfl)
  refine lv_aload_n hx hb dX10_loud_0 rfl (lv_at hl 0 rfl) ?_
  refine lv_iconst (v := (0 : Int32)) hx hb dX10_loud_1 (by decide) ?_
  refine t_put C hH hI mq tq (by decide) td_40 iX10 tyX10 tyX10_ok nmX10 rfl 0 (by decide) wd855 rfl rfl (v := .int (0 : Int32)) rfl rfl rfl ⟨_, rfl, (rg_w rl_0 (by decide))⟩ (fun _ h => nomatch h) dX10_loud_2 (fun f19 H locs hH hI nf19 of19 bf19 => ?_)
  refine lv_aload_n hx hb dX10_loud_5 rfl (lv_at hl 0 rfl) ?_
  refine t_Vi C hO hl.1 hA hH hI.1 (As := []) (rest := []) (t_X10_isLand l E J τ L f19 hI.1 mq tq) my_X10_isLand wd768 mq tq td_40 rfl rfl rfl (Nat.le_of_ble_eq_true rfl) ⟨Nat.le_of_ble_eq_true rfl, Nat.le_of_ble_eq_true rfl⟩ ⟨rfl, rfl⟩ dX10_loud_6 (fun r21 L1 f20 H locs hp hH => ?_)
  obtain ⟨rfl, s22, h23⟩ := hp
  have hJ := hI
  have hI := hI.call s22 (by decide)
  have w24 := h23.2 vl vh (hl0.S hJ rfl) (hh.S hJ rfl) hR
  refine lv_if_ne (tgt := 15) hx hb dX10_loud_9 (by decide) (fun c25 => ?_) (fun c25 => ?_)
  · skip
    have r26 : rg r21 1 1 := rf_nel (n_eq c25) h23.1 rl_0 (by decide)
    have F27 : 1 ≤ (vh 0).toInt := w24 c25
    refine lv_aload_n hx hb dX10_loud_15 rfl (lv_at hl 0 rfl) ?_
    refine t_Vv C hO hl.1 hA hH hI.1 (As := []) (rest := []) (t_X10_laysNow l E J τ L f20 hI.1 mq tq (hh.S hI rfl) F27) my_X10_laysNow wd842 mq tq td_40 rfl rfl rfl (Nat.le_of_ble_eq_true rfl) ⟨Nat.le_of_ble_eq_true rfl, Nat.le_of_ble_eq_true rfl⟩ ⟨rfl, rfl⟩ dX10_loud_16 (fun L1 f28 H locs hp hH => ?_)
    obtain ⟨rfl, s30, h31⟩ := hp
    have hI := hI.call s30 (by decide)
    refine lv_iconst (v := (0 : Int32)) hx hb dX10_loud_19 (by decide) ?_
    refine lv_istore_n (lv' := [(1, .int (0 : Int32)), (0, .ref q)]) hx hb dX10_loud_20 rfl hl (by decide) rfl (fun ls hl => ?_)
    refine lv_iconst (v := (1 : Int32)) hx hb dX10_loud_21 (by decide) ?_
    refine lv_istore_n (lv' := [(2, .int (1 : Int32)), (1, .int (0 : Int32)), (0, .ref q)]) hx hb dX10_loud_22 rfl hl (by decide) rfl (fun ls hl => ?_)
    exact cut23 20 _ _ _ _ (0 : Int32) (1 : Int32) (fu_i 20 rl_1 (by decide)) hI hH (rg_w rl_0 (by decide)) (rg_w rl_1 (by decide)) F27 (lv_sub hl [2, 1, 0] rfl)
  · skip
    have r32 : rg r21 0 0 := rf_eql (c_eq c25) h23.1 rl_0 (by decide)
    refine lv_bipush (v := (-2 : Int32)) hx hb dX10_loud_12 (by decide) ?_
    exact g_iret C hr hH (Nat.zero_le _) (Nat.zero_le _) dX10_loud_14 ⟨rfl, hI, (rg_w rl_m2 (by decide))⟩
set_option maxHeartbeats 4000000 in
set_option maxRecDepth 100000 in
theorem t_X10_quiet (l : Launch) (E : gE) (J : Nat → Nat) (τ : Nat → Nat) (L : List Nat) (f : gF) (hI : tI E L τ f) {q : Nat} (mq : q ∈ L) (tq : τ q = 40) {vl vh : Nat → Int32} (hl0 : isA E L τ f 46 5 vl) (hh : isA E L τ f 47 45 vh) (hR : rowOK vl vh 0) : tMi l E J yX10_quiet cX10_quiet 3 .int (gRm (7) 0 0) [.ref q] L f (tPi E L τ [40, 52, 53, 54, 55, 56] f (fun r f1 => rg r (-2147483648) 2147483647)) := by
  refine tMi.intro (by decide) (Nat.le_of_ble_eq_true rfl) ?_
  intro p e s m below meth c A ls C hr hA hO hH hl
  have C : gC E cX10_quiet 3 RX10 p s m _ meth c := C
  have hl : lv_has ls 3 [(0, .ref q)] := hl
  have hx := C.1
  have hb := C.2.1
  have hI := hI.S [40, 52, 53, 54, 55, 56]
  obtain ⟨q_29, mq_29, tq_29, kq_29⟩ := t_fldr hI.1 mq tq td_40 (k := 29) rfl
  have cut23 : ∀ (n : Nat) (fh23 : gF) (H : Heap) (locs : List Loc) (ls : Array Slot) (v23_1 : Int32) (v23_2 : Int32), 20 - v23_2.toInt < (n : Int) → tS E L τ [40, 52, 53, 54, 55, 56] f fh23 → gH E A L fh23 s.heap H locs → rg v23_2 0 20 → 1 ≤ (vh 0).toInt → lv_has ls 3 [(0, .ref q), (1, .int v23_1), (2, .int v23_2)] → W p l e (gRm (7) 0 0) s m [.ref q].toArray below meth c H locs 0 0 (MQ below (gQi E A (tPi E L τ [40, 52, 53, 54, 55, 56] f (fun r f1 => rg r (-2147483648) 2147483647))) [.ref q].toArray s (gRm (7) 0 0).cells (gRm (7) 0 0).slots A) (F0 m 23 ls []) := by
    intro n
    induction n with
    | zero =>
      intro fh23 H locs ls v23_1 v23_2 hfu23 hI hH r_v23_2 F23_W hl
      exact (fu_0 hfu23 r_v23_2).elim
    | succ n ih23 =>
      intro fh23 H locs ls v23_1 v23_2 hfu23 hI hH r_v23_2 F23_W hl
      refine lv_iload_n hx hb dX10_quiet_23 rfl (lv_at hl 2 rfl) ?_
      refine lv_aload_n hx hb dX10_quiet_24 rfl (lv_at hl 0 rfl) ?_
      refine t_Vi C hO hl.1 hA hH hI.1 (As := []) (rest := [.int v23_2]) (t_X10_cellsAll l E J τ L fh23 hI.1 mq tq) my_X10_cellsAll wd760 mq tq td_40 rfl rfl rfl (Nat.le_of_ble_eq_true rfl) ⟨Nat.le_of_ble_eq_true rfl, Nat.le_of_ble_eq_true rfl⟩ ⟨rfl, rfl⟩ dX10_quiet_25 (fun r2 L1 f1 H locs hp hH => ?_)
      obtain ⟨rfl, s3, h4⟩ := hp
      have hJ := hI
      have hI := hI.call s3 (by decide)
      refine lv_icmp_ge (tgt := 56) hx hb dX10_quiet_28 (by decide) (fun c5 => ?_) (fun c5 => ?_)
      · skip
        refine lv_iload_n hx hb dX10_quiet_56 rfl (lv_at hl 1 rfl) ?_
        exact g_iret C hr hH (Nat.zero_le _) (Nat.zero_le _) dX10_quiet_57 ⟨rfl, hI, (rg_all _)⟩
      · skip
        have r6 : rg v23_2 0 19 := rf_ltl (n_le c5) r_v23_2 h4.1 (by decide)
        have r7 : rg r2 1 20 := rf_ltr (n_le c5) r_v23_2 h4.1 (by decide)
        refine lv_iload_n hx hb dX10_quiet_31 rfl (lv_at hl 1 rfl) ?_
        refine lv_aload_n hx hb dX10_quiet_32 rfl (lv_at hl 0 rfl) ?_
        refine t_getX C hH hI.1 mq tq td_40 iX10 rfl 29 (by decide) wd797 rfl (hI.rf kq_29) dX10_quiet_33 ?_
        refine lv_iload_n hx hb dX10_quiet_36 rfl (lv_at hl 2 rfl) ?_
        refine t_ald C hH hI.1 mq_29 tq_29 td_56 (rg_in r6 (by decide)) dX10_quiet_37 (fun z8v az8 _ => ?_)
        refine lv_topi (fun z8 ez8 => ?_)
        refine lv_if_ne (tgt := 47) hx hb dX10_quiet_38 (by decide) (fun c9 => ?_) (fun c9 => ?_)
        · skip
          refine lv_iconst (v := (0 : Int32)) hx hb dX10_quiet_47 (by decide) ?_
          refine lv_ior hx hb dX10_quiet_48 ?_
          refine lv_topi (fun z10 ez10 => ?_)
          refine lv_istore_n (lv' := [(1, .int z10), (0, .ref q), (2, .int v23_2)]) hx hb dX10_quiet_49 rfl hl (by decide) rfl (fun ls hl => ?_)
          obtain ⟨z11, ez11⟩ : ∃ y : Int32, y = v23_2 + (1 : Int32) := ⟨_, rfl⟩
          have r12 : rg z11 1 20 := rg_add ez11 r6 rl_1 (by decide)
          have a13 : z11.toInt = v23_2.toInt + 1 := ai_add ez11 r6 tl_1 (by decide)
          refine lv_iinc (v := z11) (lv' := [(2, .int z11), (1, .int z10), (0, .ref q)]) hx hb dX10_quiet_50 hl (k := 2) rfl (by rw [ez11]; rfl) (by decide) rfl (fun ls hl => ?_)
          refine lv_goto (tgt := 23) hx hb dX10_quiet_53 (by decide) ?_
          exact ih23 _ _ _ _ z10 z11 (fu_s hfu23 a13 (by decide)) hI hH (rg_w r12 (by decide)) F23_W (lv_sub hl [2, 1, 0] rfl)
        · skip
          have r14 : rg z8 0 0 := rf_eql (c_eq c9) (rg_all _) rl_0 (by decide)
          refine lv_iconst (v := (1 : Int32)) hx hb dX10_quiet_41 (by decide) ?_
          refine lv_iload_n hx hb dX10_quiet_42 rfl (lv_at hl 2 rfl) ?_
          refine lv_ishl hx hb dX10_quiet_43 ?_
          refine lv_topi (fun z15 ez15 => ?_)
          have r16 : rg z15 1 524288 := rg_shl 0 19 ez15 r6 (by decide)
          refine lv_goto (tgt := 48) hx hb dX10_quiet_44 (by decide) ?_
          refine lv_ior hx hb dX10_quiet_48 ?_
          refine lv_topi (fun z17 ez17 => ?_)
          refine lv_istore_n (lv' := [(1, .int z17), (0, .ref q), (2, .int v23_2)]) hx hb dX10_quiet_49 rfl hl (by decide) rfl (fun ls hl => ?_)
          obtain ⟨z18, ez18⟩ : ∃ y : Int32, y = v23_2 + (1 : Int32) := ⟨_, rfl⟩
          have r19 : rg z18 1 20 := rg_add ez18 r6 rl_1 (by decide)
          have a20 : z18.toInt = v23_2.toInt + 1 := ai_add ez18 r6 tl_1 (by decide)
          refine lv_iinc (v := z18) (lv' := [(2, .int z18), (1, .int z17), (0, .ref q)]) hx hb dX10_quiet_50 hl (k := 2) rfl (by rw [ez18]; rfl) (by decide) rfl (fun ls hl => ?_)
          refine lv_goto (tgt := 23) hx hb dX10_quiet_53 (by decide) ?_
          exact ih23 _ _ _ _ z17 z18 (fu_s hfu23 a20 (by decide)) hI hH (rg_w r19 (by decide)) F23_W (lv_sub hl [2, 1, 0] rfl)
  refine lv_aload_n hx hb dX10_quiet_0 rfl (lv_at hl 0 rfl) ?_
  refine lv_iconst (v := (0 : Int32)) hx hb dX10_quiet_1 (by decide) ?_
  refine t_put C hH hI mq tq (by decide) td_40 iX10 tyX10 tyX10_ok nmX10 rfl 0 (by decide) wd855 rfl rfl (v := .int (0 : Int32)) rfl rfl rfl ⟨_, rfl, (rg_w rl_0 (by decide))⟩ (fun _ h => nomatch h) dX10_quiet_2 (fun f21 H locs hH hI nf21 of21 bf21 => ?_)
  refine lv_aload_n hx hb dX10_quiet_5 rfl (lv_at hl 0 rfl) ?_
  refine t_Vi C hO hl.1 hA hH hI.1 (As := []) (rest := []) (t_X10_isLand l E J τ L f21 hI.1 mq tq) my_X10_isLand wd768 mq tq td_40 rfl rfl rfl (Nat.le_of_ble_eq_true rfl) ⟨Nat.le_of_ble_eq_true rfl, Nat.le_of_ble_eq_true rfl⟩ ⟨rfl, rfl⟩ dX10_quiet_6 (fun r23 L1 f22 H locs hp hH => ?_)
  obtain ⟨rfl, s24, h25⟩ := hp
  have hJ := hI
  have hI := hI.call s24 (by decide)
  have w26 := h25.2 vl vh (hl0.S hJ rfl) (hh.S hJ rfl) hR
  refine lv_if_ne (tgt := 15) hx hb dX10_quiet_9 (by decide) (fun c27 => ?_) (fun c27 => ?_)
  · skip
    have r28 : rg r23 1 1 := rf_nel (n_eq c27) h25.1 rl_0 (by decide)
    have F29 : 1 ≤ (vh 0).toInt := w26 c27
    refine lv_aload_n hx hb dX10_quiet_15 rfl (lv_at hl 0 rfl) ?_
    refine t_Vv C hO hl.1 hA hH hI.1 (As := []) (rest := []) (t_X10_laysNow l E J τ L f22 hI.1 mq tq (hh.S hI rfl) F29) my_X10_laysNow wd842 mq tq td_40 rfl rfl rfl (Nat.le_of_ble_eq_true rfl) ⟨Nat.le_of_ble_eq_true rfl, Nat.le_of_ble_eq_true rfl⟩ ⟨rfl, rfl⟩ dX10_quiet_16 (fun L1 f30 H locs hp hH => ?_)
    obtain ⟨rfl, s32, h33⟩ := hp
    have hI := hI.call s32 (by decide)
    refine lv_iconst (v := (0 : Int32)) hx hb dX10_quiet_19 (by decide) ?_
    refine lv_istore_n (lv' := [(1, .int (0 : Int32)), (0, .ref q)]) hx hb dX10_quiet_20 rfl hl (by decide) rfl (fun ls hl => ?_)
    refine lv_iconst (v := (0 : Int32)) hx hb dX10_quiet_21 (by decide) ?_
    refine lv_istore_n (lv' := [(2, .int (0 : Int32)), (1, .int (0 : Int32)), (0, .ref q)]) hx hb dX10_quiet_22 rfl hl (by decide) rfl (fun ls hl => ?_)
    exact cut23 21 _ _ _ _ (0 : Int32) (0 : Int32) (fu_i 21 rl_0 (by decide)) hI hH (rg_w rl_0 (by decide)) F29 (lv_sub hl [2, 1, 0] rfl)
  · skip
    have r34 : rg r23 0 0 := rf_eql (c_eq c27) h25.1 rl_0 (by decide)
    refine lv_bipush (v := (-2 : Int32)) hx hb dX10_quiet_12 (by decide) ?_
    exact g_iret C hr hH (Nat.zero_le _) (Nat.zero_le _) dX10_quiet_14 ⟨rfl, hI, (rg_w rl_m2 (by decide))⟩
set_option maxHeartbeats 4000000 in
set_option maxRecDepth 100000 in
theorem t_X10_served (l : Launch) (E : gE) (J : Nat → Nat) (τ : Nat → Nat) (L : List Nat) (f : gF) (hI : tI E L τ f) {q : Nat} (mq : q ∈ L) (tq : τ q = 40) {vl vh : Nat → Int32} (hl0 : isA E L τ f 46 5 vl) (hh : isA E L τ f 47 45 vh) (hR : rowOK vl vh 0) : tMi l E J yX10_served cX10_served 1 .int (gRm (7) 0 0) [.ref q] L f (tPi E L τ [40, 52, 53, 54, 55, 56] f (fun r f1 => rg r (-2147483648) 2147483647)) := by
  refine tMi.intro (by decide) (Nat.le_of_ble_eq_true rfl) ?_
  intro p e s m below meth c A ls C hr hA hO hH hl
  have C : gC E cX10_served 1 RX10 p s m _ meth c := C
  have hl : lv_has ls 1 [(0, .ref q)] := hl
  have hx := C.1
  have hb := C.2.1
  have hI := hI.S [40, 52, 53, 54, 55, 56]
  refine lv_aload_n hx hb dX10_served_0 rfl (lv_at hl 0 rfl) ?_
  refine lv_iconst (v := (0 : Int32)) hx hb dX10_served_1 (by decide) ?_
  refine t_put C hH hI mq tq (by decide) td_40 iX10 tyX10 tyX10_ok nmX10 rfl 0 (by decide) wd855 rfl rfl (v := .int (0 : Int32)) rfl rfl rfl ⟨_, rfl, (rg_w rl_0 (by decide))⟩ (fun _ h => nomatch h) dX10_served_2 (fun f1 H locs hH hI nf1 of1 bf1 => ?_)
  refine lv_aload_n hx hb dX10_served_5 rfl (lv_at hl 0 rfl) ?_
  refine t_Vi C hO hl.1 hA hH hI.1 (As := []) (rest := []) (t_X10_isLand l E J τ L f1 hI.1 mq tq) my_X10_isLand wd768 mq tq td_40 rfl rfl rfl (Nat.le_of_ble_eq_true rfl) ⟨Nat.le_of_ble_eq_true rfl, Nat.le_of_ble_eq_true rfl⟩ ⟨rfl, rfl⟩ dX10_served_6 (fun r3 L1 f2 H locs hp hH => ?_)
  obtain ⟨rfl, s4, h5⟩ := hp
  have hJ := hI
  have hI := hI.call s4 (by decide)
  have w6 := h5.2 vl vh (hl0.S hJ rfl) (hh.S hJ rfl) hR
  refine lv_if_ne (tgt := 15) hx hb dX10_served_9 (by decide) (fun c7 => ?_) (fun c7 => ?_)
  · skip
    have r8 : rg r3 1 1 := rf_nel (n_eq c7) h5.1 rl_0 (by decide)
    have F9 : 1 ≤ (vh 0).toInt := w6 c7
    refine lv_aload_n hx hb dX10_served_15 rfl (lv_at hl 0 rfl) ?_
    refine t_Vv C hO hl.1 hA hH hI.1 (As := []) (rest := []) (t_X10_laysNow l E J τ L f2 hI.1 mq tq (hh.S hI rfl) F9) my_X10_laysNow wd842 mq tq td_40 rfl rfl rfl (Nat.le_of_ble_eq_true rfl) ⟨Nat.le_of_ble_eq_true rfl, Nat.le_of_ble_eq_true rfl⟩ ⟨rfl, rfl⟩ dX10_served_16 (fun L1 f10 H locs hp hH => ?_)
    obtain ⟨rfl, s12, h13⟩ := hp
    have hI := hI.call s12 (by decide)
    refine lv_aload_n hx hb dX10_served_19 rfl (lv_at hl 0 rfl) ?_
    refine t_Vi C hO hl.1 hA hH hI.1 (As := []) (rest := []) (t_X10_servedNow l E J τ L f10 hI.1 mq tq) my_X10_servedNow wd879 mq tq td_40 rfl rfl rfl (Nat.le_of_ble_eq_true rfl) ⟨Nat.le_of_ble_eq_true rfl, Nat.le_of_ble_eq_true rfl⟩ ⟨rfl, rfl⟩ dX10_served_20 (fun r15 L1 f14 H locs hp hH => ?_)
    obtain ⟨rfl, s16, h17⟩ := hp
    have hI := hI.call s16 (by decide)
    exact g_iret C hr hH (Nat.zero_le _) (Nat.zero_le _) dX10_served_23 ⟨rfl, hI, (rg_w h17 (by decide))⟩
  · skip
    have r18 : rg r3 0 0 := rf_eql (c_eq c7) h5.1 rl_0 (by decide)
    refine lv_bipush (v := (-2 : Int32)) hx hb dX10_served_12 (by decide) ?_
    exact g_iret C hr hH (Nat.zero_le _) (Nat.zero_le _) dX10_served_14 ⟨rfl, hI, (rg_w rl_m2 (by decide))⟩
set_option maxHeartbeats 4000000 in
set_option maxRecDepth 100000 in
theorem t_X10_income (l : Launch) (E : gE) (J : Nat → Nat) (τ : Nat → Nat) (L : List Nat) (f : gF) (hI : tI E L τ f) {q : Nat} (mq : q ∈ L) (tq : τ q = 40) {vl vh : Nat → Int32} (hl0 : isA E L τ f 46 5 vl) (hh : isA E L τ f 47 45 vh) (hR : rowOK vl vh 0) : tMi l E J yX10_income cX10_income 1 .int (gRm (7) 0 0) [.ref q] L f (tPi E L τ [40, 52, 53, 54, 55, 56] f (fun r f1 => rg r (-2147483648) 2147483647)) := by
  refine tMi.intro (by decide) (Nat.le_of_ble_eq_true rfl) ?_
  intro p e s m below meth c A ls C hr hA hO hH hl
  have C : gC E cX10_income 1 RX10 p s m _ meth c := C
  have hl : lv_has ls 1 [(0, .ref q)] := hl
  have hx := C.1
  have hb := C.2.1
  have hI := hI.S [40, 52, 53, 54, 55, 56]
  refine lv_aload_n hx hb dX10_income_0 rfl (lv_at hl 0 rfl) ?_
  refine lv_iconst (v := (0 : Int32)) hx hb dX10_income_1 (by decide) ?_
  refine t_put C hH hI mq tq (by decide) td_40 iX10 tyX10 tyX10_ok nmX10 rfl 0 (by decide) wd855 rfl rfl (v := .int (0 : Int32)) rfl rfl rfl ⟨_, rfl, (rg_w rl_0 (by decide))⟩ (fun _ h => nomatch h) dX10_income_2 (fun f1 H locs hH hI nf1 of1 bf1 => ?_)
  refine lv_aload_n hx hb dX10_income_5 rfl (lv_at hl 0 rfl) ?_
  refine t_Vi C hO hl.1 hA hH hI.1 (As := []) (rest := []) (t_X10_isLand l E J τ L f1 hI.1 mq tq) my_X10_isLand wd768 mq tq td_40 rfl rfl rfl (Nat.le_of_ble_eq_true rfl) ⟨Nat.le_of_ble_eq_true rfl, Nat.le_of_ble_eq_true rfl⟩ ⟨rfl, rfl⟩ dX10_income_6 (fun r3 L1 f2 H locs hp hH => ?_)
  obtain ⟨rfl, s4, h5⟩ := hp
  have hJ := hI
  have hI := hI.call s4 (by decide)
  have w6 := h5.2 vl vh (hl0.S hJ rfl) (hh.S hJ rfl) hR
  refine lv_if_ne (tgt := 15) hx hb dX10_income_9 (by decide) (fun c7 => ?_) (fun c7 => ?_)
  · skip
    have r8 : rg r3 1 1 := rf_nel (n_eq c7) h5.1 rl_0 (by decide)
    have F9 : 1 ≤ (vh 0).toInt := w6 c7
    refine lv_aload_n hx hb dX10_income_15 rfl (lv_at hl 0 rfl) ?_
    refine t_Vv C hO hl.1 hA hH hI.1 (As := []) (rest := []) (t_X10_laysNow l E J τ L f2 hI.1 mq tq (hh.S hI rfl) F9) my_X10_laysNow wd842 mq tq td_40 rfl rfl rfl (Nat.le_of_ble_eq_true rfl) ⟨Nat.le_of_ble_eq_true rfl, Nat.le_of_ble_eq_true rfl⟩ ⟨rfl, rfl⟩ dX10_income_16 (fun L1 f10 H locs hp hH => ?_)
    obtain ⟨rfl, s12, h13⟩ := hp
    have hI := hI.call s12 (by decide)
    refine lv_aload_n hx hb dX10_income_19 rfl (lv_at hl 0 rfl) ?_
    refine t_Vi C hO hl.1 hA hH hI.1 (As := []) (rest := []) (t_X10_incomeNow l E J τ L f10 hI.1 mq tq) my_X10_incomeNow wd838 mq tq td_40 rfl rfl rfl (Nat.le_of_ble_eq_true rfl) ⟨Nat.le_of_ble_eq_true rfl, Nat.le_of_ble_eq_true rfl⟩ ⟨rfl, rfl⟩ dX10_income_20 (fun r15 L1 f14 H locs hp hH => ?_)
    obtain ⟨rfl, s16, h17⟩ := hp
    have hI := hI.call s16 (by decide)
    exact g_iret C hr hH (Nat.zero_le _) (Nat.zero_le _) dX10_income_23 ⟨rfl, hI, h17⟩
  · skip
    have r18 : rg r3 0 0 := rf_eql (c_eq c7) h5.1 rl_0 (by decide)
    refine lv_bipush (v := (-2 : Int32)) hx hb dX10_income_12 (by decide) ?_
    exact g_iret C hr hH (Nat.zero_le _) (Nat.zero_le _) dX10_income_14 ⟨rfl, hI, (rg_w rl_m2 (by decide))⟩
set_option maxHeartbeats 4000000 in
set_option maxRecDepth 100000 in
theorem t_X10_unpaid (l : Launch) (E : gE) (J : Nat → Nat) (τ : Nat → Nat) (L : List Nat) (f : gF) (hI : tI E L τ f) {q : Nat} (mq : q ∈ L) (tq : τ q = 40) {vl vh : Nat → Int32} (hl0 : isA E L τ f 46 5 vl) (hh : isA E L τ f 47 45 vh) (hR : rowOK vl vh 0) : tMi l E J yX10_unpaid cX10_unpaid 1 .int (gRm (7) 0 0) [.ref q] L f (tPi E L τ [40, 52, 53, 54, 55, 56] f (fun r f1 => rg r (-2147483648) 2147483647)) := by
  refine tMi.intro (by decide) (Nat.le_of_ble_eq_true rfl) ?_
  intro p e s m below meth c A ls C hr hA hO hH hl
  have C : gC E cX10_unpaid 1 RX10 p s m _ meth c := C
  have hl : lv_has ls 1 [(0, .ref q)] := hl
  have hx := C.1
  have hb := C.2.1
  have hI := hI.S [40, 52, 53, 54, 55, 56]
  refine lv_aload_n hx hb dX10_unpaid_0 rfl (lv_at hl 0 rfl) ?_
  refine lv_iconst (v := (0 : Int32)) hx hb dX10_unpaid_1 (by decide) ?_
  refine t_put C hH hI mq tq (by decide) td_40 iX10 tyX10 tyX10_ok nmX10 rfl 0 (by decide) wd855 rfl rfl (v := .int (0 : Int32)) rfl rfl rfl ⟨_, rfl, (rg_w rl_0 (by decide))⟩ (fun _ h => nomatch h) dX10_unpaid_2 (fun f1 H locs hH hI nf1 of1 bf1 => ?_)
  refine lv_aload_n hx hb dX10_unpaid_5 rfl (lv_at hl 0 rfl) ?_
  refine t_Vi C hO hl.1 hA hH hI.1 (As := []) (rest := []) (t_X10_isLand l E J τ L f1 hI.1 mq tq) my_X10_isLand wd768 mq tq td_40 rfl rfl rfl (Nat.le_of_ble_eq_true rfl) ⟨Nat.le_of_ble_eq_true rfl, Nat.le_of_ble_eq_true rfl⟩ ⟨rfl, rfl⟩ dX10_unpaid_6 (fun r3 L1 f2 H locs hp hH => ?_)
  obtain ⟨rfl, s4, h5⟩ := hp
  have hJ := hI
  have hI := hI.call s4 (by decide)
  have w6 := h5.2 vl vh (hl0.S hJ rfl) (hh.S hJ rfl) hR
  refine lv_if_ne (tgt := 15) hx hb dX10_unpaid_9 (by decide) (fun c7 => ?_) (fun c7 => ?_)
  · skip
    have r8 : rg r3 1 1 := rf_nel (n_eq c7) h5.1 rl_0 (by decide)
    have F9 : 1 ≤ (vh 0).toInt := w6 c7
    refine lv_aload_n hx hb dX10_unpaid_15 rfl (lv_at hl 0 rfl) ?_
    refine t_Vv C hO hl.1 hA hH hI.1 (As := []) (rest := []) (t_X10_laysNow l E J τ L f2 hI.1 mq tq (hh.S hI rfl) F9) my_X10_laysNow wd842 mq tq td_40 rfl rfl rfl (Nat.le_of_ble_eq_true rfl) ⟨Nat.le_of_ble_eq_true rfl, Nat.le_of_ble_eq_true rfl⟩ ⟨rfl, rfl⟩ dX10_unpaid_16 (fun L1 f10 H locs hp hH => ?_)
    obtain ⟨rfl, s12, h13⟩ := hp
    have hI := hI.call s12 (by decide)
    refine lv_aload_n hx hb dX10_unpaid_19 rfl (lv_at hl 0 rfl) ?_
    refine t_Vi C hO hl.1 hA hH hI.1 (As := []) (rest := []) (t_X10_unpaidNow l E J τ L f10 hI.1 mq tq) my_X10_unpaidNow wd883 mq tq td_40 rfl rfl rfl (Nat.le_of_ble_eq_true rfl) ⟨Nat.le_of_ble_eq_true rfl, Nat.le_of_ble_eq_true rfl⟩ ⟨rfl, rfl⟩ dX10_unpaid_20 (fun r15 L1 f14 H locs hp hH => ?_)
    obtain ⟨rfl, s16, h17⟩ := hp
    have hI := hI.call s16 (by decide)
    exact g_iret C hr hH (Nat.zero_le _) (Nat.zero_le _) dX10_unpaid_23 ⟨rfl, hI, h17⟩
  · skip
    have r18 : rg r3 0 0 := rf_eql (c_eq c7) h5.1 rl_0 (by decide)
    refine lv_bipush (v := (-2 : Int32)) hx hb dX10_unpaid_12 (by decide) ?_
    exact g_iret C hr hH (Nat.zero_le _) (Nat.zero_le _) dX10_unpaid_14 ⟨rfl, hI, (rg_w rl_m2 (by decide))⟩
set_option maxHeartbeats 4000000 in
set_option maxRecDepth 100000 in
theorem t_X10_first (l : Launch) (E : gE) (J : Nat → Nat) (τ : Nat → Nat) (L : List Nat) (f : gF) (hI : tI E L τ f) {q : Nat} (mq : q ∈ L) (tq : τ q = 40) {vl vh : Nat → Int32} (hl0 : isA E L τ f 46 5 vl) (hh : isA E L τ f 47 45 vh) (hR : rowOK vl vh 0) : tMi l E J yX10_first cX10_first 5 .int (gRm (7) 0 0) [.ref q] L f (tPi E L τ [40, 52, 53, 54, 55, 56] f (fun r f1 => rg r (-2147483648) 2147483647)) := by
  refine tMi.intro (by decide) (Nat.le_of_ble_eq_true rfl) ?_
  intro p e s m below meth c A ls C hr hA hO hH hl
  have C : gC E cX10_first 5 RX10 p s m _ meth c := C
  have hl : lv_has ls 5 [(0, .ref q)] := hl
  have hx := C.1
  have hb := C.2.1
  have hI := hI.S [40, 52, 53, 54, 55, 56]
  obtain ⟨q_19, mq_19, tq_19, kq_19⟩ := t_fldr hI.1 mq tq td_40 (k := 19) rfl
  have cut26 : ∀ (n : Nat) (fh26 : gF) (H : Heap) (locs : List Loc) (ls : Array Slot) (v26_1 : Int32) (v26_2 : Int32), 41 - v26_2.toInt < (n : Int) → tS E L τ [40, 52, 53, 54, 55, 56] f fh26 → gH E A L fh26 s.heap H locs → rg v26_2 0 41 → 1 ≤ (vh 0).toInt → lv_has ls 5 [(0, .ref q), (1, .int v26_1), (2, .int v26_2)] → W p l e (gRm (7) 0 0) s m [.ref q].toArray below meth c H locs 0 0 (MQ below (gQi E A (tPi E L τ [40, 52, 53, 54, 55, 56] f (fun r f1 => rg r (-2147483648) 2147483647))) [.ref q].toArray s (gRm (7) 0 0).cells (gRm (7) 0 0).slots A) (F0 m 26 ls []) := by
    intro n
    induction n with
    | zero =>
      intro fh26 H locs ls v26_1 v26_2 hfu26 hI hH r_v26_2 F26_W hl
      exact (fu_0 hfu26 r_v26_2).elim
    | succ n ih26 =>
      intro fh26 H locs ls v26_1 v26_2 hfu26 hI hH r_v26_2 F26_W hl
      have cut34 : ∀ (n : Nat) (fh34 : gF) (H : Heap) (locs : List Loc) (ls : Array Slot) (v34_3 : Int32), 6 - v34_3.toInt < (n : Int) → tS E L τ [40, 52, 53, 54, 55, 56] f fh34 → gH E A L fh34 s.heap H locs → rg v34_3 0 6 → rg v26_2 0 40 → lv_has ls 5 [(0, .ref q), (1, .int v26_1), (2, .int v26_2), (3, .int v34_3)] → W p l e (gRm (7) 0 0) s m [.ref q].toArray below meth c H locs 0 0 (MQ below (gQi E A (tPi E L τ [40, 52, 53, 54, 55, 56] f (fun r f1 => rg r (-2147483648) 2147483647))) [.ref q].toArray s (gRm (7) 0 0).cells (gRm (7) 0 0).slots A) (F0 m 34 ls []) := by
        intro n
        induction n with
        | zero =>
          intro fh34 H locs ls v34_3 hfu34 hI hH r_v34_3 r34_v26_2 hl
          exact (fu_0 hfu34 r_v34_3).elim
        | succ n ih34 =>
          intro fh34 H locs ls v34_3 hfu34 hI hH r_v34_3 r34_v26_2 hl
          have cut45 : ∀ (n : Nat) (fh45 : gF) (H : Heap) (locs : List Loc) (ls : Array Slot) (v45_4 : Int32), 4 - v45_4.toInt < (n : Int) → tS E L τ [40, 52, 53, 54, 55, 56] f fh45 → gH E A L fh45 s.heap H locs → rg v45_4 0 4 → rg v34_3 0 5 → lv_has ls 5 [(0, .ref q), (1, .int v26_1), (2, .int v26_2), (3, .int v34_3), (4, .int v45_4)] → W p l e (gRm (7) 0 0) s m [.ref q].toArray below meth c H locs 0 0 (MQ below (gQi E A (tPi E L τ [40, 52, 53, 54, 55, 56] f (fun r f1 => rg r (-2147483648) 2147483647))) [.ref q].toArray s (gRm (7) 0 0).cells (gRm (7) 0 0).slots A) (F0 m 45 ls []) := by
            intro n
            induction n with
            | zero =>
              intro fh45 H locs ls v45_4 hfu45 hI hH r_v45_4 r45_v34_3 hl
              exact (fu_0 hfu45 r_v45_4).elim
            | succ n ih45 =>
              intro fh45 H locs ls v45_4 hfu45 hI hH r_v45_4 r45_v34_3 hl
              refine lv_iload hx hb dX10_first_45 (lv_at hl 4 rfl) ?_
              refine lv_aload_n hx hb dX10_first_47 rfl (lv_at hl 0 rfl) ?_
              refine t_Vi C hO hl.1 hA hH hI.1 (As := []) (rest := [.int v45_4]) (t_X10_flights l E J τ L fh45 hI.1 mq tq) my_X10_flights wd752 mq tq td_40 rfl rfl rfl (Nat.le_of_ble_eq_true rfl) ⟨Nat.le_of_ble_eq_true rfl, Nat.le_of_ble_eq_true rfl⟩ ⟨rfl, rfl⟩ dX10_first_48 (fun r2 L1 f1 H locs hp hH => ?_)
              obtain ⟨rfl, s3, h4⟩ := hp
              have hJ := hI
              have hI := hI.call s3 (by decide)
              refine lv_icmp_ge (tgt := 88) hx hb dX10_first_51 (by decide) (fun c5 => ?_) (fun c5 => ?_)
              · skip
                obtain ⟨z6, ez6⟩ : ∃ y : Int32, y = v34_3 + (1 : Int32) := ⟨_, rfl⟩
                have r7 : rg z6 1 6 := rg_add ez6 r45_v34_3 rl_1 (by decide)
                have a8 : z6.toInt = v34_3.toInt + 1 := ai_add ez6 r45_v34_3 tl_1 (by decide)
                refine lv_iinc (v := z6) (lv' := [(3, .int z6), (0, .ref q), (1, .int v26_1), (2, .int v26_2), (4, .int v45_4)]) hx hb dX10_first_88 hl (k := 3) rfl (by rw [ez6]; rfl) (by decide) rfl (fun ls hl => ?_)
                refine lv_goto (tgt := 34) hx hb dX10_first_91 (by decide) ?_
                exact ih34 _ _ _ _ z6 (fu_s hfu34 a8 (by decide)) hI hH (rg_w r7 (by decide)) r34_v26_2 (lv_sub hl [1, 2, 3, 0] rfl)
              · skip
                have r9 : rg v45_4 0 3 := rf_ltl (n_le c5) r_v45_4 h4.1 (by decide)
                have r10 : rg r2 1 4 := rf_ltr (n_le c5) r_v45_4 h4.1 (by decide)
                refine lv_iload_n hx hb dX10_first_54 rfl (lv_at hl 1 rfl) ?_
                refine lv_iload_n hx hb dX10_first_55 rfl (lv_at hl 3 rfl) ?_
                refine t_Si C hO hl.1 hA hH (As := [.int v26_1, .int v34_3]) (rest := []) (t_X10_isBit l E J τ L f1 hI.1 v26_1 v34_3) my_X10_isBit wd783 rfl rfl (Nat.le_of_ble_eq_true rfl) ⟨Nat.le_of_ble_eq_true rfl, Nat.le_of_ble_eq_true rfl⟩ ⟨rfl, rfl⟩ dX10_first_56 (fun r12 L1 f11 H locs hp hH => ?_)
                obtain ⟨rfl, s13, h14⟩ := hp
                have hI := hI.call s13 (by decide)
                refine lv_if_eq (tgt := 82) hx hb dX10_first_59 (by decide) (fun c15 => ?_) (fun c15 => ?_)
                · skip
                  have r16 : rg r12 0 0 := rf_eql (c_eq c15) h14 rl_0 (by decide)
                  obtain ⟨z17, ez17⟩ : ∃ y : Int32, y = v45_4 + (1 : Int32) := ⟨_, rfl⟩
                  have r18 : rg z17 1 4 := rg_add ez17 r9 rl_1 (by decide)
                  have a19 : z17.toInt = v45_4.toInt + 1 := ai_add ez17 r9 tl_1 (by decide)
                  refine lv_iinc (v := z17) (lv' := [(4, .int z17), (0, .ref q), (1, .int v26_1), (2, .int v26_2), (3, .int v34_3)]) hx hb dX10_first_82 hl (k := 4) rfl (by rw [ez17]; rfl) (by decide) rfl (fun ls hl => ?_)
                  refine lv_goto (tgt := 45) hx hb dX10_first_85 (by decide) ?_
                  exact ih45 _ _ _ _ z17 (fu_s hfu45 a19 (by decide)) hI hH (rg_w r18 (by decide)) r45_v34_3 (lv_sub hl [1, 2, 3, 4, 0] rfl)
                · skip
                  have r20 : rg r12 1 1 := rf_nel (n_eq c15) h14 rl_0 (by decide)
                  refine lv_aload_n hx hb dX10_first_62 rfl (lv_at hl 0 rfl) ?_
                  refine lv_iload hx hb dX10_first_63 (lv_at hl 4 rfl) ?_
                  refine lv_iload_n hx hb dX10_first_65 rfl (lv_at hl 2 rfl) ?_
                  refine lv_aload_n hx hb dX10_first_66 rfl (lv_at hl 0 rfl) ?_
                  refine t_getX C hH hI.1 mq tq td_40 iX10 rfl 19 (by decide) wd818 rfl (hI.rf kq_19) dX10_first_67 ?_
                  refine lv_iconst (v := (3 : Int32)) hx hb dX10_first_70 (by decide) ?_
                  refine lv_iload_n hx hb dX10_first_71 rfl (lv_at hl 3 rfl) ?_
                  refine lv_imul hx hb dX10_first_72 ?_
                  refine lv_topi (fun z21 ez21 => ?_)
                  have r22 : rg z21 0 15 := rg_mul ez21 rl_3 r45_v34_3 (by decide)
                  have m23 := mul3 ez21 r45_v34_3 (by decide)
                  refine t_ald C hH hI.1 mq_19 tq_19 td_49 (rg_in r22 (by decide)) dX10_first_73 (fun z24v az24 pz24 => ?_)
                  refine lv_topi (fun z24 ez24 => ?_)
                  have r25 : rg z24 0 19 := mem_c pz24 (rg_in r22 (by decide)) m23 ez24
                  refine t_Vi C hO hl.1 hA hH hI.1 (As := [.int v45_4, .int v26_2, .int z24]) (rest := []) (t_X10_isHeard l E J τ L f11 hI.1 mq tq v45_4 (rg_w r9 (by decide)) v26_2 r34_v26_2 z24 (hh.S hI rfl) F26_W) my_X10_isHeard wd796 mq tq td_40 rfl rfl rfl (Nat.le_of_ble_eq_true rfl) ⟨Nat.le_of_ble_eq_true rfl, Nat.le_of_ble_eq_true rfl⟩ ⟨rfl, rfl⟩ dX10_first_74 (fun r27 L1 f26 H locs hp hH => ?_)
                  obtain ⟨rfl, s28, h29⟩ := hp
                  have hI := hI.call s28 (by decide)
                  refine lv_if_eq (tgt := 82) hx hb dX10_first_77 (by decide) (fun c30 => ?_) (fun c30 => ?_)
                  · skip
                    have r31 : rg r27 0 0 := rf_eql (c_eq c30) h29 rl_0 (by decide)
                    obtain ⟨z32, ez32⟩ : ∃ y : Int32, y = v45_4 + (1 : Int32) := ⟨_, rfl⟩
                    have r33 : rg z32 1 4 := rg_add ez32 r9 rl_1 (by decide)
                    have a34 : z32.toInt = v45_4.toInt + 1 := ai_add ez32 r9 tl_1 (by decide)
                    refine lv_iinc (v := z32) (lv' := [(4, .int z32), (0, .ref q), (1, .int v26_1), (2, .int v26_2), (3, .int v34_3)]) hx hb dX10_first_82 hl (k := 4) rfl (by rw [ez32]; rfl) (by decide) rfl (fun ls hl => ?_)
                    refine lv_goto (tgt := 45) hx hb dX10_first_85 (by decide) ?_
                    exact ih45 _ _ _ _ z32 (fu_s hfu45 a34 (by decide)) hI hH (rg_w r33 (by decide)) r45_v34_3 (lv_sub hl [1, 2, 3, 4, 0] rfl)
                  · skip
                    have r35 : rg r27 1 1 := rf_nel (n_eq c30) h29 rl_0 (by decide)
                    refine lv_iload_n hx hb dX10_first_80 rfl (lv_at hl 2 rfl) ?_
                    exact g_iret C hr hH (Nat.zero_le _) (Nat.zero_le _) dX10_first_81 ⟨rfl, hI, (rg_w r34_v26_2 (by decide))⟩
          refine lv_iload_n hx hb dX10_first_34 rfl (lv_at hl 3 rfl) ?_
          refine lv_aload_n hx hb dX10_first_35 rfl (lv_at hl 0 rfl) ?_
          refine t_Vi C hO hl.1 hA hH hI.1 (As := []) (rest := [.int v34_3]) (t_X10_members l E J τ L fh34 hI.1 mq tq) my_X10_members wd756 mq tq td_40 rfl rfl rfl (Nat.le_of_ble_eq_true rfl) ⟨Nat.le_of_ble_eq_true rfl, Nat.le_of_ble_eq_true rfl⟩ ⟨rfl, rfl⟩ dX10_first_36 (fun r37 L1 f36 H locs hp hH => ?_)
          obtain ⟨rfl, s38, h39⟩ := hp
          have hJ := hI
          have hI := hI.call s38 (by decide)
          refine lv_icmp_ge (tgt := 94) hx hb dX10_first_39 (by decide) (fun c40 => ?_) (fun c40 => ?_)
          · skip
            obtain ⟨z41, ez41⟩ : ∃ y : Int32, y = v26_2 + (1 : Int32) := ⟨_, rfl⟩
            have r42 : rg z41 1 41 := rg_add ez41 r34_v26_2 rl_1 (by decide)
            have a43 : z41.toInt = v26_2.toInt + 1 := ai_add ez41 r34_v26_2 tl_1 (by decide)
            refine lv_iinc (v := z41) (lv' := [(2, .int z41), (0, .ref q), (1, .int v26_1), (3, .int v34_3)]) hx hb dX10_first_94 hl (k := 2) rfl (by rw [ez41]; rfl) (by decide) rfl (fun ls hl => ?_)
            refine lv_goto (tgt := 26) hx hb dX10_first_97 (by decide) ?_
            exact ih26 _ _ _ _ v26_1 z41 (fu_s hfu26 a43 (by decide)) hI hH (rg_w r42 (by decide)) F26_W (lv_sub hl [1, 2, 0] rfl)
          · skip
            have r44 : rg v34_3 0 5 := rf_ltl (n_le c40) r_v34_3 h39.1 (by decide)
            have r45 : rg r37 1 6 := rf_ltr (n_le c40) r_v34_3 h39.1 (by decide)
            refine lv_iconst (v := (0 : Int32)) hx hb dX10_first_42 (by decide) ?_
            refine lv_istore (lv' := [(4, .int (0 : Int32)), (0, .ref q), (1, .int v26_1), (2, .int v26_2), (3, .int v34_3)]) hx hb dX10_first_43 hl (by decide) rfl (fun ls hl => ?_)
            exact cut45 5 _ _ _ _ (0 : Int32) (fu_i 5 rl_0 (by decide)) hI hH (rg_w rl_0 (by decide)) r44 (lv_sub hl [1, 2, 3, 4, 0] rfl)
      refine lv_iload_n hx hb dX10_first_26 rfl (lv_at hl 2 rfl) ?_
      refine lv_bipush (v := (40 : Int32)) hx hb dX10_first_27 (by decide) ?_
      refine lv_icmp_gt (tgt := 100) hx hb dX10_first_29 (by decide) (fun c46 => ?_) (fun c46 => ?_)
      · skip
        have r47 : rg v26_2 41 41 := rf_ltr (c_lt c46) rl_40 r_v26_2 (by decide)
        refine lv_iconst (v := (-1 : Int32)) hx hb dX10_first_100 (by decide) ?_
        exact g_iret C hr hH (Nat.zero_le _) (Nat.zero_le _) dX10_first_101 ⟨rfl, hI, (rg_w rl_m1 (by decide))⟩
      · skip
        have r48 : rg v26_2 0 40 := rf_lel (n_lt c46) r_v26_2 rl_40 (by decide)
        refine lv_iconst (v := (0 : Int32)) hx hb dX10_first_32 (by decide) ?_
        refine lv_istore_n (lv' := [(3, .int (0 : Int32)), (0, .ref q), (1, .int v26_1), (2, .int v26_2)]) hx hb dX10_first_33 rfl hl (by decide) rfl (fun ls hl => ?_)
        exact cut34 7 _ _ _ _ (0 : Int32) (fu_i 7 rl_0 (by decide)) hI hH (rg_w rl_0 (by decide)) r48 (lv_sub hl [1, 2, 3, 0] rfl)
  refine lv_aload_n hx hb dX10_first_0 rfl (lv_at hl 0 rfl) ?_
  refine lv_iconst (v := (0 : Int32)) hx hb dX10_first_1 (by decide) ?_
  refine t_put C hH hI mq tq (by decide) td_40 iX10 tyX10 tyX10_ok nmX10 rfl 0 (by decide) wd855 rfl rfl (v := .int (0 : Int32)) rfl rfl rfl ⟨_, rfl, (rg_w rl_0 (by decide))⟩ (fun _ h => nomatch h) dX10_first_2 (fun f49 H locs hH hI nf49 of49 bf49 => ?_)
  refine lv_aload_n hx hb dX10_first_5 rfl (lv_at hl 0 rfl) ?_
  refine t_Vi C hO hl.1 hA hH hI.1 (As := []) (rest := []) (t_X10_isLand l E J τ L f49 hI.1 mq tq) my_X10_isLand wd768 mq tq td_40 rfl rfl rfl (Nat.le_of_ble_eq_true rfl) ⟨Nat.le_of_ble_eq_true rfl, Nat.le_of_ble_eq_true rfl⟩ ⟨rfl, rfl⟩ dX10_first_6 (fun r51 L1 f50 H locs hp hH => ?_)
  obtain ⟨rfl, s52, h53⟩ := hp
  have hJ := hI
  have hI := hI.call s52 (by decide)
  have w54 := h53.2 vl vh (hl0.S hJ rfl) (hh.S hJ rfl) hR
  refine lv_if_ne (tgt := 15) hx hb dX10_first_9 (by decide) (fun c55 => ?_) (fun c55 => ?_)
  · skip
    have r56 : rg r51 1 1 := rf_nel (n_eq c55) h53.1 rl_0 (by decide)
    have F57 : 1 ≤ (vh 0).toInt := w54 c55
    refine lv_aload_n hx hb dX10_first_15 rfl (lv_at hl 0 rfl) ?_
    refine t_Vv C hO hl.1 hA hH hI.1 (As := []) (rest := []) (t_X10_laysNow l E J τ L f50 hI.1 mq tq (hh.S hI rfl) F57) my_X10_laysNow wd842 mq tq td_40 rfl rfl rfl (Nat.le_of_ble_eq_true rfl) ⟨Nat.le_of_ble_eq_true rfl, Nat.le_of_ble_eq_true rfl⟩ ⟨rfl, rfl⟩ dX10_first_16 (fun L1 f58 H locs hp hH => ?_)
    obtain ⟨rfl, s60, h61⟩ := hp
    have hI := hI.call s60 (by decide)
    refine lv_aload_n hx hb dX10_first_19 rfl (lv_at hl 0 rfl) ?_
    refine t_Vi C hO hl.1 hA hH hI.1 (As := []) (rest := []) (t_X10_unpaidNow l E J τ L f58 hI.1 mq tq) my_X10_unpaidNow wd883 mq tq td_40 rfl rfl rfl (Nat.le_of_ble_eq_true rfl) ⟨Nat.le_of_ble_eq_true rfl, Nat.le_of_ble_eq_true rfl⟩ ⟨rfl, rfl⟩ dX10_first_20 (fun r63 L1 f62 H locs hp hH => ?_)
    obtain ⟨rfl, s64, h65⟩ := hp
    have hI := hI.call s64 (by decide)
    refine lv_istore_n (lv' := [(1, .int r63), (0, .ref q)]) hx hb dX10_first_23 rfl hl (by decide) rfl (fun ls hl => ?_)
    refine lv_iconst (v := (0 : Int32)) hx hb dX10_first_24 (by decide) ?_
    refine lv_istore_n (lv' := [(2, .int (0 : Int32)), (1, .int r63), (0, .ref q)]) hx hb dX10_first_25 rfl hl (by decide) rfl (fun ls hl => ?_)
    exact cut26 42 _ _ _ _ r63 (0 : Int32) (fu_i 42 rl_0 (by decide)) hI hH (rg_w rl_0 (by decide)) F57 (lv_sub hl [2, 1, 0] rfl)
  · skip
    have r66 : rg r51 0 0 := rf_eql (c_eq c55) h53.1 rl_0 (by decide)
    refine lv_bipush (v := (-2 : Int32)) hx hb dX10_first_12 (by decide) ?_
    exact g_iret C hr hH (Nat.zero_le _) (Nat.zero_le _) dX10_first_14 ⟨rfl, hI, (rg_w rl_m2 (by decide))⟩
set_option maxHeartbeats 4000000 in
set_option maxRecDepth 100000 in
theorem t_X10_lacks (l : Launch) (E : gE) (J : Nat → Nat) (τ : Nat → Nat) (L : List Nat) (f : gF) (hI : tI E L τ f) {q : Nat} (mq : q ∈ L) (tq : τ q = 40) {vl vh : Nat → Int32} (hl0 : isA E L τ f 46 5 vl) (hh : isA E L τ f 47 45 vh) (hR : rowOK vl vh 0) : tMi l E J yX10_lacks cX10_lacks 4 .int (gRm (7) 0 0) [.ref q] L f (tPi E L τ [40, 52, 53, 54, 55, 56] f (fun r f1 => rg r (-2147483648) 2147483647)) := by
  refine tMi.intro (by decide) (Nat.le_of_ble_eq_true rfl) ?_
  intro p e s m below meth c A ls C hr hA hO hH hl
  have C : gC E cX10_lacks 4 RX10 p s m _ meth c := C
  have hl : lv_has ls 4 [(0, .ref q)] := hl
  have hx := C.1
  have hb := C.2.1
  have hI := hI.S [40, 52, 53, 54, 55, 56]
  have cut25 : ∀ (n : Nat) (fh25 : gF) (H : Heap) (locs : List Loc) (ls : Array Slot) (v25_1 : Int32) (v25_2 : Int32) (v25_3 : Int32), 6 - v25_3.toInt < (n : Int) → tS E L τ [40, 52, 53, 54, 55, 56] f fh25 → gH E A L fh25 s.heap H locs → rg v25_1 (-1) 5 → rg v25_3 0 6 → 1 ≤ (vh 0).toInt → lv_has ls 4 [(0, .ref q), (1, .int v25_1), (2, .int v25_2), (3, .int v25_3)] → W p l e (gRm (7) 0 0) s m [.ref q].toArray below meth c H locs 0 0 (MQ below (gQi E A (tPi E L τ [40, 52, 53, 54, 55, 56] f (fun r f1 => rg r (-2147483648) 2147483647))) [.ref q].toArray s (gRm (7) 0 0).cells (gRm (7) 0 0).slots A) (F0 m 25 ls []) := by
    intro n
    induction n with
    | zero =>
      intro fh25 H locs ls v25_1 v25_2 v25_3 hfu25 hI hH r_v25_1 r_v25_3 F25_W hl
      exact (fu_0 hfu25 r_v25_3).elim
    | succ n ih25 =>
      intro fh25 H locs ls v25_1 v25_2 v25_3 hfu25 hI hH r_v25_1 r_v25_3 F25_W hl
      refine lv_iload_n hx hb dX10_lacks_25 rfl (lv_at hl 3 rfl) ?_
      refine lv_aload_n hx hb dX10_lacks_26 rfl (lv_at hl 0 rfl) ?_
      refine t_Vi C hO hl.1 hA hH hI.1 (As := []) (rest := [.int v25_3]) (t_X10_members l E J τ L fh25 hI.1 mq tq) my_X10_members wd756 mq tq td_40 rfl rfl rfl (Nat.le_of_ble_eq_true rfl) ⟨Nat.le_of_ble_eq_true rfl, Nat.le_of_ble_eq_true rfl⟩ ⟨rfl, rfl⟩ dX10_lacks_27 (fun r2 L1 f1 H locs hp hH => ?_)
      obtain ⟨rfl, s3, h4⟩ := hp
      have hJ := hI
      have hI := hI.call s3 (by decide)
      refine lv_icmp_ge (tgt := 71) hx hb dX10_lacks_30 (by decide) (fun c5 => ?_) (fun c5 => ?_)
      · skip
        refine lv_iload_n hx hb dX10_lacks_71 rfl (lv_at hl 1 rfl) ?_
        exact g_iret C hr hH (Nat.zero_le _) (Nat.zero_le _) dX10_lacks_72 ⟨rfl, hI, (rg_w r_v25_1 (by decide))⟩
      · skip
        have r6 : rg v25_3 0 5 := rf_ltl (n_le c5) r_v25_3 h4.1 (by decide)
        have r7 : rg r2 1 6 := rf_ltr (n_le c5) r_v25_3 h4.1 (by decide)
        refine lv_aload_n hx hb dX10_lacks_33 rfl (lv_at hl 0 rfl) ?_
        refine lv_iload_n hx hb dX10_lacks_34 rfl (lv_at hl 3 rfl) ?_
        refine t_Vi C hO hl.1 hA hH hI.1 (As := [.int v25_3]) (rest := []) (t_X10_wantsOf l E J τ L f1 hI.1 mq tq v25_3 r6) my_X10_wantsOf wd822 mq tq td_40 rfl rfl rfl (Nat.le_of_ble_eq_true rfl) ⟨Nat.le_of_ble_eq_true rfl, Nat.le_of_ble_eq_true rfl⟩ ⟨rfl, rfl⟩ dX10_lacks_35 (fun r9 L1 f8 H locs hp hH => ?_)
        obtain ⟨rfl, s10, h11⟩ := hp
        have hI := hI.call s10 (by decide)
        refine lv_aload_n hx hb dX10_lacks_38 rfl (lv_at hl 0 rfl) ?_
        refine lv_iload_n hx hb dX10_lacks_39 rfl (lv_at hl 3 rfl) ?_
        refine t_Vi C hO hl.1 hA hH hI.1 (As := [.int v25_3]) (rest := [.int r9]) (t_X10_heardOf l E J τ L f8 hI.1 mq tq v25_3 r6) my_X10_heardOf wd834 mq tq td_40 rfl rfl rfl (Nat.le_of_ble_eq_true rfl) ⟨Nat.le_of_ble_eq_true rfl, Nat.le_of_ble_eq_true rfl⟩ ⟨rfl, rfl⟩ dX10_lacks_40 (fun r13 L1 f12 H locs hp hH => ?_)
        obtain ⟨rfl, s14, h15⟩ := hp
        have hI := hI.call s14 (by decide)
        refine lv_isub hx hb dX10_lacks_43 ?_
        refine lv_topi (fun z16 ez16 => ?_)
        refine lv_iload_n hx hb dX10_lacks_44 rfl (lv_at hl 2 rfl) ?_
        refine lv_icmp_gt (tgt := 51) hx hb dX10_lacks_45 (by decide) (fun c17 => ?_) (fun c17 => ?_)
        · skip
          have r18 : rg v25_2 (-2147483648) 2147483646 := rf_ltl (c_lt c17) (rg_all _) (rg_all _) (by decide)
          have r19 : rg z16 (-2147483647) 2147483647 := rf_ltr (c_lt c17) (rg_all _) (rg_all _) (by decide)
          refine lv_iload_n hx hb dX10_lacks_51 rfl (lv_at hl 3 rfl) ?_
          refine lv_istore_n (lv' := [(1, .int v25_3), (0, .ref q), (2, .int v25_2), (3, .int v25_3)]) hx hb dX10_lacks_52 rfl hl (by decide) rfl (fun ls hl => ?_)
          refine lv_aload_n hx hb dX10_lacks_53 rfl (lv_at hl 1 rfl) ?_
          refine lv_iload_n hx hb dX10_lacks_54 rfl (lv_at hl 3 rfl) ?_
          refine t_Vi C hO hl.1 hA hH hI.1 (As := [.int v25_3]) (rest := []) (t_X10_wantsOf l E J τ L f12 hI.1 mq tq v25_3 r6) my_X10_wantsOf wd822 mq tq td_40 rfl rfl rfl (Nat.le_of_ble_eq_true rfl) ⟨Nat.le_of_ble_eq_true rfl, Nat.le_of_ble_eq_true rfl⟩ ⟨rfl, rfl⟩ dX10_lacks_55 (fun r21 L1 f20 H locs hp hH => ?_)
          obtain ⟨rfl, s22, h23⟩ := hp
          have hI := hI.call s22 (by decide)
          refine lv_aload_n hx hb dX10_lacks_58 rfl (lv_at hl 1 rfl) ?_
          refine lv_iload_n hx hb dX10_lacks_59 rfl (lv_at hl 3 rfl) ?_
          refine t_Vi C hO hl.1 hA hH hI.1 (As := [.int v25_3]) (rest := [.int r21]) (t_X10_heardOf l E J τ L f20 hI.1 mq tq v25_3 r6) my_X10_heardOf wd834 mq tq td_40 rfl rfl rfl (Nat.le_of_ble_eq_true rfl) ⟨Nat.le_of_ble_eq_true rfl, Nat.le_of_ble_eq_true rfl⟩ ⟨rfl, rfl⟩ dX10_lacks_60 (fun r25 L1 f24 H locs hp hH => ?_)
          obtain ⟨rfl, s26, h27⟩ := hp
          have hI := hI.call s26 (by decide)
          refine lv_isub hx hb dX10_lacks_63 ?_
          refine lv_topi (fun z28 ez28 => ?_)
          refine lv_istore_n (lv' := [(2, .int z28), (1, .int v25_3), (0, .ref q), (3, .int v25_3)]) hx hb dX10_lacks_64 rfl hl (by decide) rfl (fun ls hl => ?_)
          obtain ⟨z29, ez29⟩ : ∃ y : Int32, y = v25_3 + (1 : Int32) := ⟨_, rfl⟩
          have r30 : rg z29 1 6 := rg_add ez29 r6 rl_1 (by decide)
          have a31 : z29.toInt = v25_3.toInt + 1 := ai_add ez29 r6 tl_1 (by decide)
          refine lv_iinc (v := z29) (lv' := [(3, .int z29), (2, .int z28), (1, .int v25_3), (0, .ref q)]) hx hb dX10_lacks_65 hl (k := 3) rfl (by rw [ez29]; rfl) (by decide) rfl (fun ls hl => ?_)
          refine lv_goto (tgt := 25) hx hb dX10_lacks_68 (by decide) ?_
          exact ih25 _ _ _ _ v25_3 z28 z29 (fu_s hfu25 a31 (by decide)) hI hH (rg_w r6 (by decide)) (rg_w r30 (by decide)) F25_W (lv_sub hl [3, 2, 1, 0] rfl)
        · skip
          refine lv_goto (tgt := 65) hx hb dX10_lacks_48 (by decide) ?_
          obtain ⟨z32, ez32⟩ : ∃ y : Int32, y = v25_3 + (1 : Int32) := ⟨_, rfl⟩
          have r33 : rg z32 1 6 := rg_add ez32 r6 rl_1 (by decide)
          have a34 : z32.toInt = v25_3.toInt + 1 := ai_add ez32 r6 tl_1 (by decide)
          refine lv_iinc (v := z32) (lv' := [(3, .int z32), (0, .ref q), (1, .int v25_1), (2, .int v25_2)]) hx hb dX10_lacks_65 hl (k := 3) rfl (by rw [ez32]; rfl) (by decide) rfl (fun ls hl => ?_)
          refine lv_goto (tgt := 25) hx hb dX10_lacks_68 (by decide) ?_
          exact ih25 _ _ _ _ v25_1 v25_2 z32 (fu_s hfu25 a34 (by decide)) hI hH r_v25_1 (rg_w r33 (by decide)) F25_W (lv_sub hl [1, 2, 3, 0] rfl)
  refine lv_aload_n hx hb dX10_lacks_0 rfl (lv_at hl 0 rfl) ?_
  refine lv_iconst (v := (0 : Int32)) hx hb dX10_lacks_1 (by decide) ?_
  refine t_put C hH hI mq tq (by decide) td_40 iX10 tyX10 tyX10_ok nmX10 rfl 0 (by decide) wd855 rfl rfl (v := .int (0 : Int32)) rfl rfl rfl ⟨_, rfl, (rg_w rl_0 (by decide))⟩ (fun _ h => nomatch h) dX10_lacks_2 (fun f35 H locs hH hI nf35 of35 bf35 => ?_)
  refine lv_aload_n hx hb dX10_lacks_5 rfl (lv_at hl 0 rfl) ?_
  refine t_Vi C hO hl.1 hA hH hI.1 (As := []) (rest := []) (t_X10_isLand l E J τ L f35 hI.1 mq tq) my_X10_isLand wd768 mq tq td_40 rfl rfl rfl (Nat.le_of_ble_eq_true rfl) ⟨Nat.le_of_ble_eq_true rfl, Nat.le_of_ble_eq_true rfl⟩ ⟨rfl, rfl⟩ dX10_lacks_6 (fun r37 L1 f36 H locs hp hH => ?_)
  obtain ⟨rfl, s38, h39⟩ := hp
  have hJ := hI
  have hI := hI.call s38 (by decide)
  have w40 := h39.2 vl vh (hl0.S hJ rfl) (hh.S hJ rfl) hR
  refine lv_if_ne (tgt := 15) hx hb dX10_lacks_9 (by decide) (fun c41 => ?_) (fun c41 => ?_)
  · skip
    have r42 : rg r37 1 1 := rf_nel (n_eq c41) h39.1 rl_0 (by decide)
    have F43 : 1 ≤ (vh 0).toInt := w40 c41
    refine lv_aload_n hx hb dX10_lacks_15 rfl (lv_at hl 0 rfl) ?_
    refine t_Vv C hO hl.1 hA hH hI.1 (As := []) (rest := []) (t_X10_laysNow l E J τ L f36 hI.1 mq tq (hh.S hI rfl) F43) my_X10_laysNow wd842 mq tq td_40 rfl rfl rfl (Nat.le_of_ble_eq_true rfl) ⟨Nat.le_of_ble_eq_true rfl, Nat.le_of_ble_eq_true rfl⟩ ⟨rfl, rfl⟩ dX10_lacks_16 (fun L1 f44 H locs hp hH => ?_)
    obtain ⟨rfl, s46, h47⟩ := hp
    have hI := hI.call s46 (by decide)
    refine lv_iconst (v := (-1 : Int32)) hx hb dX10_lacks_19 (by decide) ?_
    refine lv_istore_n (lv' := [(1, .int (-1 : Int32)), (0, .ref q)]) hx hb dX10_lacks_20 rfl hl (by decide) rfl (fun ls hl => ?_)
    refine lv_iconst (v := (0 : Int32)) hx hb dX10_lacks_21 (by decide) ?_
    refine lv_istore_n (lv' := [(2, .int (0 : Int32)), (1, .int (-1 : Int32)), (0, .ref q)]) hx hb dX10_lacks_22 rfl hl (by decide) rfl (fun ls hl => ?_)
    refine lv_iconst (v := (0 : Int32)) hx hb dX10_lacks_23 (by decide) ?_
    refine lv_istore_n (lv' := [(3, .int (0 : Int32)), (2, .int (0 : Int32)), (1, .int (-1 : Int32)), (0, .ref q)]) hx hb dX10_lacks_24 rfl hl (by decide) rfl (fun ls hl => ?_)
    exact cut25 7 _ _ _ _ (-1 : Int32) (0 : Int32) (0 : Int32) (fu_i 7 rl_0 (by decide)) hI hH (rg_w rl_m1 (by decide)) (rg_w rl_0 (by decide)) F43 (lv_sub hl [3, 2, 1, 0] rfl)
  · skip
    have r48 : rg r37 0 0 := rf_eql (c_eq c41) h39.1 rl_0 (by decide)
    refine lv_bipush (v := (-2 : Int32)) hx hb dX10_lacks_12 (by decide) ?_
    exact g_iret C hr hH (Nat.zero_le _) (Nat.zero_le _) dX10_lacks_14 ⟨rfl, hI, (rg_w rl_m2 (by decide))⟩
set_option maxHeartbeats 4000000 in
set_option maxRecDepth 100000 in
theorem t_X10_near (l : Launch) (E : gE) (J : Nat → Nat) (τ : Nat → Nat) (L : List Nat) (f : gF) (hI : tI E L τ f) {q : Nat} (mq : q ∈ L) (tq : τ q = 40) (p1 : Int32) {vl vh : Nat → Int32} (hl0 : isA E L τ f 46 5 vl) (hh : isA E L τ f 47 45 vh) (hR : rowOK vl vh 0) : tMi l E J yX10_near cX10_near 4 .int (gRm (7) 0 0) [.ref q, .int p1] L f (tPi E L τ [40, 52, 53, 54, 55, 56] f (fun r f1 => rg r (-2147483648) 2147483647)) := by
  refine tMi.intro (by decide) (Nat.le_of_ble_eq_true rfl) ?_
  intro p e s m below meth c A ls C hr hA hO hH hl
  have C : gC E cX10_near 4 RX10 p s m _ meth c := C
  have hl : lv_has ls 4 [(0, .ref q), (1, .int p1)] := hl
  have hx := C.1
  have hb := C.2.1
  have hI := hI.S [40, 52, 53, 54, 55, 56]
  obtain ⟨q_19, mq_19, tq_19, kq_19⟩ := t_fldr hI.1 mq tq td_40 (k := 19) rfl
  have cut25 : ∀ (n : Nat) (fh25 : gF) (H : Heap) (locs : List Loc) (ls : Array Slot) (v25_2 : Int32) (v25_3 : Int32), 4 - v25_3.toInt < (n : Int) → tS E L τ [40, 52, 53, 54, 55, 56] f fh25 → gH E A L fh25 s.heap H locs → rg v25_2 0 15 → rg v25_3 0 4 → rg p1 0 5 → 1 ≤ (vh 0).toInt → lv_has ls 4 [(0, .ref q), (1, .int p1), (2, .int v25_2), (3, .int v25_3)] → W p l e (gRm (7) 0 0) s m [.ref q, .int p1].toArray below meth c H locs 0 0 (MQ below (gQi E A (tPi E L τ [40, 52, 53, 54, 55, 56] f (fun r f1 => rg r (-2147483648) 2147483647))) [.ref q, .int p1].toArray s (gRm (7) 0 0).cells (gRm (7) 0 0).slots A) (F0 m 25 ls []) := by
    intro n
    induction n with
    | zero =>
      intro fh25 H locs ls v25_2 v25_3 hfu25 hI hH r_v25_2 r_v25_3 r25_p1 F25_W hl
      exact (fu_0 hfu25 r_v25_3).elim
    | succ n ih25 =>
      intro fh25 H locs ls v25_2 v25_3 hfu25 hI hH r_v25_2 r_v25_3 r25_p1 F25_W hl
      refine lv_iload_n hx hb dX10_near_25 rfl (lv_at hl 3 rfl) ?_
      refine lv_aload_n hx hb dX10_near_26 rfl (lv_at hl 0 rfl) ?_
      refine t_Vi C hO hl.1 hA hH hI.1 (As := []) (rest := [.int v25_3]) (t_X10_flights l E J τ L fh25 hI.1 mq tq) my_X10_flights wd752 mq tq td_40 rfl rfl rfl (Nat.le_of_ble_eq_true rfl) ⟨Nat.le_of_ble_eq_true rfl, Nat.le_of_ble_eq_true rfl⟩ ⟨rfl, rfl⟩ dX10_near_27 (fun r2 L1 f1 H locs hp hH => ?_)
      obtain ⟨rfl, s3, h4⟩ := hp
      have hJ := hI
      have hI := hI.call s3 (by decide)
      refine lv_icmp_ge (tgt := 65) hx hb dX10_near_30 (by decide) (fun c5 => ?_) (fun c5 => ?_)
      · skip
        refine lv_iload_n hx hb dX10_near_65 rfl (lv_at hl 2 rfl) ?_
        exact g_iret C hr hH (Nat.zero_le _) (Nat.zero_le _) dX10_near_66 ⟨rfl, hI, (rg_w r_v25_2 (by decide))⟩
      · skip
        have r6 : rg v25_3 0 3 := rf_ltl (n_le c5) r_v25_3 h4.1 (by decide)
        have r7 : rg r2 1 4 := rf_ltr (n_le c5) r_v25_3 h4.1 (by decide)
        refine lv_iload_n hx hb dX10_near_33 rfl (lv_at hl 2 rfl) ?_
        refine lv_aload_n hx hb dX10_near_34 rfl (lv_at hl 0 rfl) ?_
        refine lv_iload_n hx hb dX10_near_35 rfl (lv_at hl 3 rfl) ?_
        refine lv_aload_n hx hb dX10_near_36 rfl (lv_at hl 0 rfl) ?_
        refine t_getX C hH hI.1 mq tq td_40 iX10 rfl 19 (by decide) wd818 rfl (hI.rf kq_19) dX10_near_37 ?_
        refine lv_iconst (v := (3 : Int32)) hx hb dX10_near_40 (by decide) ?_
        refine lv_iload_n hx hb dX10_near_41 rfl (lv_at hl 1 rfl) ?_
        refine lv_imul hx hb dX10_near_42 ?_
        refine lv_topi (fun z8 ez8 => ?_)
        have r9 : rg z8 0 15 := rg_mul ez8 rl_3 r25_p1 (by decide)
        have m10 := mul3 ez8 r25_p1 (by decide)
        refine t_ald C hH hI.1 mq_19 tq_19 td_49 (rg_in r9 (by decide)) dX10_near_43 (fun z11v az11 pz11 => ?_)
        refine lv_topi (fun z11 ez11 => ?_)
        have r12 : rg z11 0 19 := mem_c pz11 (rg_in r9 (by decide)) m10 ez11
        refine t_Vi C hO hl.1 hA hH hI.1 (As := [.int v25_3, .int z11]) (rest := [.int v25_2]) (t_X10_hearsOf l E J τ L f1 hI.1 mq tq v25_3 (rg_w r6 (by decide)) z11 (hh.S hI rfl) F25_W) my_X10_hearsOf wd801 mq tq td_40 rfl rfl rfl (Nat.le_of_ble_eq_true rfl) ⟨Nat.le_of_ble_eq_true rfl, Nat.le_of_ble_eq_true rfl⟩ ⟨rfl, rfl⟩ dX10_near_44 (fun r14 L1 f13 H locs hp hH => ?_)
        obtain ⟨rfl, s15, h16⟩ := hp
        have hI := hI.call s15 (by decide)
        refine lv_if_le (tgt := 56) hx hb dX10_near_47 (by decide) (fun c17 => ?_) (fun c17 => ?_)
        · skip
          have r18 : rg r14 (-2147483648) 0 := rf_lel (c_le c17) h16 rl_0 (by decide)
          refine lv_iconst (v := (0 : Int32)) hx hb dX10_near_56 (by decide) ?_
          refine lv_ior hx hb dX10_near_57 ?_
          refine lv_topi (fun z19 ez19 => ?_)
          have r20 : rg z19 0 15 := rg_or 4 ez19 r_v25_2 rl_0 (by decide)
          refine lv_istore_n (lv' := [(2, .int z19), (0, .ref q), (1, .int p1), (3, .int v25_3)]) hx hb dX10_near_58 rfl hl (by decide) rfl (fun ls hl => ?_)
          obtain ⟨z21, ez21⟩ : ∃ y : Int32, y = v25_3 + (1 : Int32) := ⟨_, rfl⟩
          have r22 : rg z21 1 4 := rg_add ez21 r6 rl_1 (by decide)
          have a23 : z21.toInt = v25_3.toInt + 1 := ai_add ez21 r6 tl_1 (by decide)
          refine lv_iinc (v := z21) (lv' := [(3, .int z21), (2, .int z19), (0, .ref q), (1, .int p1)]) hx hb dX10_near_59 hl (k := 3) rfl (by rw [ez21]; rfl) (by decide) rfl (fun ls hl => ?_)
          refine lv_goto (tgt := 25) hx hb dX10_near_62 (by decide) ?_
          exact ih25 _ _ _ _ z19 z21 (fu_s hfu25 a23 (by decide)) hI hH r20 (rg_w r22 (by decide)) r25_p1 F25_W (lv_sub hl [2, 3, 1, 0] rfl)
        · skip
          have r24 : rg r14 1 2147483647 := rf_ltr (n_le c17) rl_0 h16 (by decide)
          refine lv_iconst (v := (1 : Int32)) hx hb dX10_near_50 (by decide) ?_
          refine lv_iload_n hx hb dX10_near_51 rfl (lv_at hl 3 rfl) ?_
          refine lv_ishl hx hb dX10_near_52 ?_
          refine lv_topi (fun z25 ez25 => ?_)
          have r26 : rg z25 1 8 := rg_shl 0 3 ez25 r6 (by decide)
          refine lv_goto (tgt := 57) hx hb dX10_near_53 (by decide) ?_
          refine lv_ior hx hb dX10_near_57 ?_
          refine lv_topi (fun z27 ez27 => ?_)
          have r28 : rg z27 0 15 := rg_or 4 ez27 r_v25_2 r26 (by decide)
          refine lv_istore_n (lv' := [(2, .int z27), (0, .ref q), (1, .int p1), (3, .int v25_3)]) hx hb dX10_near_58 rfl hl (by decide) rfl (fun ls hl => ?_)
          obtain ⟨z29, ez29⟩ : ∃ y : Int32, y = v25_3 + (1 : Int32) := ⟨_, rfl⟩
          have r30 : rg z29 1 4 := rg_add ez29 r6 rl_1 (by decide)
          have a31 : z29.toInt = v25_3.toInt + 1 := ai_add ez29 r6 tl_1 (by decide)
          refine lv_iinc (v := z29) (lv' := [(3, .int z29), (2, .int z27), (0, .ref q), (1, .int p1)]) hx hb dX10_near_59 hl (k := 3) rfl (by rw [ez29]; rfl) (by decide) rfl (fun ls hl => ?_)
          refine lv_goto (tgt := 25) hx hb dX10_near_62 (by decide) ?_
          exact ih25 _ _ _ _ z27 z29 (fu_s hfu25 a31 (by decide)) hI hH r28 (rg_w r30 (by decide)) r25_p1 F25_W (lv_sub hl [2, 3, 1, 0] rfl)
  refine lv_aload_n hx hb dX10_near_0 rfl (lv_at hl 0 rfl) ?_
  refine lv_iconst (v := (0 : Int32)) hx hb dX10_near_1 (by decide) ?_
  refine t_put C hH hI mq tq (by decide) td_40 iX10 tyX10 tyX10_ok nmX10 rfl 0 (by decide) wd855 rfl rfl (v := .int (0 : Int32)) rfl rfl rfl ⟨_, rfl, (rg_w rl_0 (by decide))⟩ (fun _ h => nomatch h) dX10_near_2 (fun f32 H locs hH hI nf32 of32 bf32 => ?_)
  refine lv_aload_n hx hb dX10_near_5 rfl (lv_at hl 0 rfl) ?_
  refine lv_iload_n hx hb dX10_near_6 rfl (lv_at hl 1 rfl) ?_
  refine lv_i2l (v := (p1).toInt64) hx hb dX10_near_7 rfl ?_
  refine t_Vi C hO hl.1 hA hH hI.1 (As := [.long (p1).toInt64]) (rest := []) (t_X10_isMember l E J τ L f32 hI.1 mq tq ((p1).toInt64)) my_X10_isMember wd764 mq tq td_40 rfl rfl rfl (Nat.le_of_ble_eq_true rfl) ⟨Nat.le_of_ble_eq_true rfl, Nat.le_of_ble_eq_true rfl⟩ ⟨rfl, rfl⟩ dX10_near_8 (fun r34 L1 f33 H locs hp hH => ?_)
  obtain ⟨rfl, s35, h36⟩ := hp
  have hJ := hI
  have hI := hI.call s35 (by decide)
  have w37 := h36.2.2 vl vh (hl0.S hJ rfl) (hh.S hJ rfl) hR
  refine lv_if_ne (tgt := 17) hx hb dX10_near_11 (by decide) (fun c38 => ?_) (fun c38 => ?_)
  · skip
    have r39 : rg r34 1 1 := rf_nel (n_eq c38) h36.1 rl_0 (by decide)
    have r40 : rg p1 0 5 := is_rg (h36.2.1 c38) (rg_all _) (by decide)
    have F41 : 1 ≤ (vh 0).toInt := w37 c38
    refine lv_aload_n hx hb dX10_near_17 rfl (lv_at hl 0 rfl) ?_
    refine t_Vv C hO hl.1 hA hH hI.1 (As := []) (rest := []) (t_X10_laysNow l E J τ L f33 hI.1 mq tq (hh.S hI rfl) F41) my_X10_laysNow wd842 mq tq td_40 rfl rfl rfl (Nat.le_of_ble_eq_true rfl) ⟨Nat.le_of_ble_eq_true rfl, Nat.le_of_ble_eq_true rfl⟩ ⟨rfl, rfl⟩ dX10_near_18 (fun L1 f42 H locs hp hH => ?_)
    obtain ⟨rfl, s44, h45⟩ := hp
    have hI := hI.call s44 (by decide)
    refine lv_iconst (v := (0 : Int32)) hx hb dX10_near_21 (by decide) ?_
    refine lv_istore_n (lv' := [(2, .int (0 : Int32)), (0, .ref q), (1, .int p1)]) hx hb dX10_near_22 rfl hl (by decide) rfl (fun ls hl => ?_)
    refine lv_iconst (v := (0 : Int32)) hx hb dX10_near_23 (by decide) ?_
    refine lv_istore_n (lv' := [(3, .int (0 : Int32)), (2, .int (0 : Int32)), (0, .ref q), (1, .int p1)]) hx hb dX10_near_24 rfl hl (by decide) rfl (fun ls hl => ?_)
    exact cut25 5 _ _ _ _ (0 : Int32) (0 : Int32) (fu_i 5 rl_0 (by decide)) hI hH (rg_w rl_0 (by decide)) (rg_w rl_0 (by decide)) r40 F41 (lv_sub hl [2, 3, 1, 0] rfl)
  · skip
    have r46 : rg r34 0 0 := rf_eql (c_eq c38) h36.1 rl_0 (by decide)
    refine lv_bipush (v := (-2 : Int32)) hx hb dX10_near_14 (by decide) ?_
    exact g_iret C hr hH (Nat.zero_le _) (Nat.zero_le _) dX10_near_16 ⟨rfl, hI, (rg_w rl_m2 (by decide))⟩
set_option maxHeartbeats 4000000 in
set_option maxRecDepth 100000 in
theorem t_X10_lone (l : Launch) (E : gE) (J : Nat → Nat) (τ : Nat → Nat) (L : List Nat) (f : gF) (hI : tI E L τ f) {q : Nat} (mq : q ∈ L) (tq : τ q = 40) {vl vh : Nat → Int32} (hl0 : isA E L τ f 46 5 vl) (hh : isA E L τ f 47 45 vh) (hR : rowOK vl vh 0) : tMi l E J yX10_lone cX10_lone 3 .int (gRm (7) 0 0) [.ref q] L f (tPi E L τ [40, 52, 53, 54, 55, 56] f (fun r f1 => rg r (-2147483648) 2147483647)) := by
  refine tMi.intro (by decide) (Nat.le_of_ble_eq_true rfl) ?_
  intro p e s m below meth c A ls C hr hA hO hH hl
  have C : gC E cX10_lone 3 RX10 p s m _ meth c := C
  have hl : lv_has ls 3 [(0, .ref q)] := hl
  have hx := C.1
  have hb := C.2.1
  have hI := hI.S [40, 52, 53, 54, 55, 56]
  have cut23 : ∀ (n : Nat) (fh23 : gF) (H : Heap) (locs : List Loc) (ls : Array Slot) (v23_1 : Int32) (v23_2 : Int32), 6 - v23_2.toInt < (n : Int) → tS E L τ [40, 52, 53, 54, 55, 56] f fh23 → gH E A L fh23 s.heap H locs → rg v23_1 0 63 → rg v23_2 0 6 → 1 ≤ (vh 0).toInt → lv_has ls 3 [(0, .ref q), (1, .int v23_1), (2, .int v23_2)] → W p l e (gRm (7) 0 0) s m [.ref q].toArray below meth c H locs 0 0 (MQ below (gQi E A (tPi E L τ [40, 52, 53, 54, 55, 56] f (fun r f1 => rg r (-2147483648) 2147483647))) [.ref q].toArray s (gRm (7) 0 0).cells (gRm (7) 0 0).slots A) (F0 m 23 ls []) := by
    intro n
    induction n with
    | zero =>
      intro fh23 H locs ls v23_1 v23_2 hfu23 hI hH r_v23_1 r_v23_2 F23_W hl
      exact (fu_0 hfu23 r_v23_2).elim
    | succ n ih23 =>
      intro fh23 H locs ls v23_1 v23_2 hfu23 hI hH r_v23_1 r_v23_2 F23_W hl
      refine lv_iload_n hx hb dX10_lone_23 rfl (lv_at hl 2 rfl) ?_
      refine lv_aload_n hx hb dX10_lone_24 rfl (lv_at hl 0 rfl) ?_
      refine t_Vi C hO hl.1 hA hH hI.1 (As := []) (rest := [.int v23_2]) (t_X10_members l E J τ L fh23 hI.1 mq tq) my_X10_members wd756 mq tq td_40 rfl rfl rfl (Nat.le_of_ble_eq_true rfl) ⟨Nat.le_of_ble_eq_true rfl, Nat.le_of_ble_eq_true rfl⟩ ⟨rfl, rfl⟩ dX10_lone_25 (fun r2 L1 f1 H locs hp hH => ?_)
      obtain ⟨rfl, s3, h4⟩ := hp
      have hJ := hI
      have hI := hI.call s3 (by decide)
      refine lv_icmp_ge (tgt := 55) hx hb dX10_lone_28 (by decide) (fun c5 => ?_) (fun c5 => ?_)
      · skip
        refine lv_iload_n hx hb dX10_lone_55 rfl (lv_at hl 1 rfl) ?_
        exact g_iret C hr hH (Nat.zero_le _) (Nat.zero_le _) dX10_lone_56 ⟨rfl, hI, (rg_w r_v23_1 (by decide))⟩
      · skip
        have r6 : rg v23_2 0 5 := rf_ltl (n_le c5) r_v23_2 h4.1 (by decide)
        have r7 : rg r2 1 6 := rf_ltr (n_le c5) r_v23_2 h4.1 (by decide)
        refine lv_iload_n hx hb dX10_lone_31 rfl (lv_at hl 1 rfl) ?_
        refine lv_aload_n hx hb dX10_lone_32 rfl (lv_at hl 0 rfl) ?_
        refine lv_iload_n hx hb dX10_lone_33 rfl (lv_at hl 2 rfl) ?_
        refine t_Vi C hO hl.1 hA hH hI.1 (As := [.int v23_2]) (rest := [.int v23_1]) (t_X10_heardOf l E J τ L f1 hI.1 mq tq v23_2 r6) my_X10_heardOf wd834 mq tq td_40 rfl rfl rfl (Nat.le_of_ble_eq_true rfl) ⟨Nat.le_of_ble_eq_true rfl, Nat.le_of_ble_eq_true rfl⟩ ⟨rfl, rfl⟩ dX10_lone_34 (fun r9 L1 f8 H locs hp hH => ?_)
        obtain ⟨rfl, s10, h11⟩ := hp
        have hI := hI.call s10 (by decide)
        refine lv_if_ne (tgt := 46) hx hb dX10_lone_37 (by decide) (fun c12 => ?_) (fun c12 => ?_)
        · skip
          refine lv_iconst (v := (0 : Int32)) hx hb dX10_lone_46 (by decide) ?_
          refine lv_ior hx hb dX10_lone_47 ?_
          refine lv_topi (fun z13 ez13 => ?_)
          have r14 : rg z13 0 63 := rg_or 6 ez13 r_v23_1 rl_0 (by decide)
          refine lv_istore_n (lv' := [(1, .int z13), (0, .ref q), (2, .int v23_2)]) hx hb dX10_lone_48 rfl hl (by decide) rfl (fun ls hl => ?_)
          obtain ⟨z15, ez15⟩ : ∃ y : Int32, y = v23_2 + (1 : Int32) := ⟨_, rfl⟩
          have r16 : rg z15 1 6 := rg_add ez15 r6 rl_1 (by decide)
          have a17 : z15.toInt = v23_2.toInt + 1 := ai_add ez15 r6 tl_1 (by decide)
          refine lv_iinc (v := z15) (lv' := [(2, .int z15), (1, .int z13), (0, .ref q)]) hx hb dX10_lone_49 hl (k := 2) rfl (by rw [ez15]; rfl) (by decide) rfl (fun ls hl => ?_)
          refine lv_goto (tgt := 23) hx hb dX10_lone_52 (by decide) ?_
          exact ih23 _ _ _ _ z13 z15 (fu_s hfu23 a17 (by decide)) hI hH r14 (rg_w r16 (by decide)) F23_W (lv_sub hl [2, 1, 0] rfl)
        · skip
          have r18 : rg r9 0 0 := rf_eql (c_eq c12) h11 rl_0 (by decide)
          refine lv_iconst (v := (1 : Int32)) hx hb dX10_lone_40 (by decide) ?_
          refine lv_iload_n hx hb dX10_lone_41 rfl (lv_at hl 2 rfl) ?_
          refine lv_ishl hx hb dX10_lone_42 ?_
          refine lv_topi (fun z19 ez19 => ?_)
          have r20 : rg z19 1 32 := rg_shl 0 5 ez19 r6 (by decide)
          refine lv_goto (tgt := 47) hx hb dX10_lone_43 (by decide) ?_
          refine lv_ior hx hb dX10_lone_47 ?_
          refine lv_topi (fun z21 ez21 => ?_)
          have r22 : rg z21 0 63 := rg_or 6 ez21 r_v23_1 r20 (by decide)
          refine lv_istore_n (lv' := [(1, .int z21), (0, .ref q), (2, .int v23_2)]) hx hb dX10_lone_48 rfl hl (by decide) rfl (fun ls hl => ?_)
          obtain ⟨z23, ez23⟩ : ∃ y : Int32, y = v23_2 + (1 : Int32) := ⟨_, rfl⟩
          have r24 : rg z23 1 6 := rg_add ez23 r6 rl_1 (by decide)
          have a25 : z23.toInt = v23_2.toInt + 1 := ai_add ez23 r6 tl_1 (by decide)
          refine lv_iinc (v := z23) (lv' := [(2, .int z23), (1, .int z21), (0, .ref q)]) hx hb dX10_lone_49 hl (k := 2) rfl (by rw [ez23]; rfl) (by decide) rfl (fun ls hl => ?_)
          refine lv_goto (tgt := 23) hx hb dX10_lone_52 (by decide) ?_
          exact ih23 _ _ _ _ z21 z23 (fu_s hfu23 a25 (by decide)) hI hH r22 (rg_w r24 (by decide)) F23_W (lv_sub hl [2, 1, 0] rfl)
  refine lv_aload_n hx hb dX10_lone_0 rfl (lv_at hl 0 rfl) ?_
  refine lv_iconst (v := (0 : Int32)) hx hb dX10_lone_1 (by decide) ?_
  refine t_put C hH hI mq tq (by decide) td_40 iX10 tyX10 tyX10_ok nmX10 rfl 0 (by decide) wd855 rfl rfl (v := .int (0 : Int32)) rfl rfl rfl ⟨_, rfl, (rg_w rl_0 (by decide))⟩ (fun _ h => nomatch h) dX10_lone_2 (fun f26 H locs hH hI nf26 of26 bf26 => ?_)
  refine lv_aload_n hx hb dX10_lone_5 rfl (lv_at hl 0 rfl) ?_
  refine t_Vi C hO hl.1 hA hH hI.1 (As := []) (rest := []) (t_X10_isLand l E J τ L f26 hI.1 mq tq) my_X10_isLand wd768 mq tq td_40 rfl rfl rfl (Nat.le_of_ble_eq_true rfl) ⟨Nat.le_of_ble_eq_true rfl, Nat.le_of_ble_eq_true rfl⟩ ⟨rfl, rfl⟩ dX10_lone_6 (fun r28 L1 f27 H locs hp hH => ?_)
  obtain ⟨rfl, s29, h30⟩ := hp
  have hJ := hI
  have hI := hI.call s29 (by decide)
  have w31 := h30.2 vl vh (hl0.S hJ rfl) (hh.S hJ rfl) hR
  refine lv_if_ne (tgt := 15) hx hb dX10_lone_9 (by decide) (fun c32 => ?_) (fun c32 => ?_)
  · skip
    have r33 : rg r28 1 1 := rf_nel (n_eq c32) h30.1 rl_0 (by decide)
    have F34 : 1 ≤ (vh 0).toInt := w31 c32
    refine lv_aload_n hx hb dX10_lone_15 rfl (lv_at hl 0 rfl) ?_
    refine t_Vv C hO hl.1 hA hH hI.1 (As := []) (rest := []) (t_X10_laysNow l E J τ L f27 hI.1 mq tq (hh.S hI rfl) F34) my_X10_laysNow wd842 mq tq td_40 rfl rfl rfl (Nat.le_of_ble_eq_true rfl) ⟨Nat.le_of_ble_eq_true rfl, Nat.le_of_ble_eq_true rfl⟩ ⟨rfl, rfl⟩ dX10_lone_16 (fun L1 f35 H locs hp hH => ?_)
    obtain ⟨rfl, s37, h38⟩ := hp
    have hI := hI.call s37 (by decide)
    refine lv_iconst (v := (0 : Int32)) hx hb dX10_lone_19 (by decide) ?_
    refine lv_istore_n (lv' := [(1, .int (0 : Int32)), (0, .ref q)]) hx hb dX10_lone_20 rfl hl (by decide) rfl (fun ls hl => ?_)
    refine lv_iconst (v := (0 : Int32)) hx hb dX10_lone_21 (by decide) ?_
    refine lv_istore_n (lv' := [(2, .int (0 : Int32)), (1, .int (0 : Int32)), (0, .ref q)]) hx hb dX10_lone_22 rfl hl (by decide) rfl (fun ls hl => ?_)
    exact cut23 7 _ _ _ _ (0 : Int32) (0 : Int32) (fu_i 7 rl_0 (by decide)) hI hH (rg_w rl_0 (by decide)) (rg_w rl_0 (by decide)) F34 (lv_sub hl [2, 1, 0] rfl)
  · skip
    have r39 : rg r28 0 0 := rf_eql (c_eq c32) h30.1 rl_0 (by decide)
    refine lv_bipush (v := (-2 : Int32)) hx hb dX10_lone_12 (by decide) ?_
    exact g_iret C hr hH (Nat.zero_le _) (Nat.zero_le _) dX10_lone_14 ⟨rfl, hI, (rg_w rl_m2 (by decide))⟩
set_option maxHeartbeats 4000000 in
set_option maxRecDepth 100000 in
theorem t_X10_meets (l : Launch) (E : gE) (J : Nat → Nat) (τ : Nat → Nat) (L : List Nat) (f : gF) (hI : tI E L τ f) {q : Nat} (mq : q ∈ L) (tq : τ q = 40) (p1 : Int32) (p2 : Int32) {vl vh : Nat → Int32} (hl0 : isA E L τ f 46 5 vl) (hh : isA E L τ f 47 45 vh) (hR : rowOK vl vh 0) : tMi l E J yX10_meets cX10_meets 4 .int (gRm (7) 0 0) [.ref q, .int p1, .int p2] L f (tPi E L τ [40, 52, 53, 54, 55, 56] f (fun r f1 => rg r (-2147483648) 2147483647)) := by
  refine tMi.intro (by decide) (Nat.le_of_ble_eq_true rfl) ?_
  intro p e s m below meth c A ls C hr hA hO hH hl
  have C : gC E cX10_meets 4 RX10 p s m _ meth c := C
  have hl : lv_has ls 4 [(0, .ref q), (1, .int p1), (2, .int p2)] := hl
  have hx := C.1
  have hb := C.2.1
  have hI := hI.S [40, 52, 53, 54, 55, 56]
  obtain ⟨q_26, mq_26, tq_26, kq_26⟩ := t_fldr hI.1 mq tq td_40 (k := 26) rfl
  have cut32 : ∀ (n : Nat) (fh32 : gF) (H : Heap) (locs : List Loc) (ls : Array Slot) (v32_3 : Int32), 41 - v32_3.toInt < (n : Int) → tS E L τ [40, 52, 53, 54, 55, 56] f fh32 → gH E A L fh32 s.heap H locs → rg v32_3 0 41 → rg p1 0 3 → rg p2 0 3 → 1 ≤ (vh 0).toInt → lv_has ls 4 [(0, .ref q), (1, .int p1), (2, .int p2), (3, .int v32_3)] → W p l e (gRm (7) 0 0) s m [.ref q, .int p1, .int p2].toArray below meth c H locs 0 0 (MQ below (gQi E A (tPi E L τ [40, 52, 53, 54, 55, 56] f (fun r f1 => rg r (-2147483648) 2147483647))) [.ref q, .int p1, .int p2].toArray s (gRm (7) 0 0).cells (gRm (7) 0 0).slots A) (F0 m 32 ls []) := by
    intro n
    induction n with
    | zero =>
      intro fh32 H locs ls v32_3 hfu32 hI hH r_v32_3 r32_p1 r32_p2 F32_W hl
      exact (fu_0 hfu32 r_v32_3).elim
    | succ n ih32 =>
      intro fh32 H locs ls v32_3 hfu32 hI hH r_v32_3 r32_p1 r32_p2 F32_W hl
      refine lv_iload_n hx hb dX10_meets_32 rfl (lv_at hl 3 rfl) ?_
      refine lv_bipush (v := (40 : Int32)) hx hb dX10_meets_33 (by decide) ?_
      refine lv_icmp_gt (tgt := 86) hx hb dX10_meets_35 (by decide) (fun c1 => ?_) (fun c1 => ?_)
      · skip
        have r2 : rg v32_3 41 41 := rf_ltr (c_lt c1) rl_40 r_v32_3 (by decide)
        refine lv_iconst (v := (-1 : Int32)) hx hb dX10_meets_86 (by decide) ?_
        exact g_iret C hr hH (Nat.zero_le _) (Nat.zero_le _) dX10_meets_87 ⟨rfl, hI, (rg_w rl_m1 (by decide))⟩
      · skip
        have r3 : rg v32_3 0 40 := rf_lel (n_lt c1) r_v32_3 rl_40 (by decide)
        refine lv_aload_n hx hb dX10_meets_38 rfl (lv_at hl 0 rfl) ?_
        refine t_getX C hH hI.1 mq tq td_40 iX10 rfl 26 (by decide) wd780 rfl (hI.rf kq_26) dX10_meets_39 ?_
        refine lv_bipush (v := (41 : Int32)) hx hb dX10_meets_42 (by decide) ?_
        refine lv_iload_n hx hb dX10_meets_44 rfl (lv_at hl 1 rfl) ?_
        refine lv_imul hx hb dX10_meets_45 ?_
        refine lv_topi (fun z4 ez4 => ?_)
        have r5 : rg z4 0 123 := rg_mul ez4 rl_41 r32_p1 (by decide)
        refine lv_iload_n hx hb dX10_meets_46 rfl (lv_at hl 3 rfl) ?_
        refine lv_iadd hx hb dX10_meets_47 ?_
        refine lv_topi (fun z6 ez6 => ?_)
        have r7 : rg z6 0 163 := rg_add ez6 r5 r3 (by decide)
        refine t_ald C hH hI.1 mq_26 tq_26 td_53 (rg_in r7 (by decide)) dX10_meets_48 (fun z8v az8 _ => ?_)
        refine lv_topi (fun z8 ez8 => ?_)
        refine lv_iconst (v := (-1 : Int32)) hx hb dX10_meets_49 (by decide) ?_
        refine lv_icmp_eq (tgt := 80) hx hb dX10_meets_50 (by decide) (fun c9 => ?_) (fun c9 => ?_)
        · skip
          have r10 : rg z8 (-1) (-1) := rf_eql (c_eq c9) (rg_all _) rl_m1 (by decide)
          obtain ⟨z11, ez11⟩ : ∃ y : Int32, y = v32_3 + (1 : Int32) := ⟨_, rfl⟩
          have r12 : rg z11 1 41 := rg_add ez11 r3 rl_1 (by decide)
          have a13 : z11.toInt = v32_3.toInt + 1 := ai_add ez11 r3 tl_1 (by decide)
          refine lv_iinc (v := z11) (lv' := [(3, .int z11), (0, .ref q), (1, .int p1), (2, .int p2)]) hx hb dX10_meets_80 hl (k := 3) rfl (by rw [ez11]; rfl) (by decide) rfl (fun ls hl => ?_)
          refine lv_goto (tgt := 32) hx hb dX10_meets_83 (by decide) ?_
          exact ih32 _ _ _ _ z11 (fu_s hfu32 a13 (by decide)) hI hH (rg_w r12 (by decide)) r32_p1 r32_p2 F32_W (lv_sub hl [1, 2, 3, 0] rfl)
        · skip
          refine lv_aload_n hx hb dX10_meets_53 rfl (lv_at hl 0 rfl) ?_
          refine t_getX C hH hI.1 mq tq td_40 iX10 rfl 26 (by decide) wd780 rfl (hI.rf kq_26) dX10_meets_54 ?_
          refine lv_bipush (v := (41 : Int32)) hx hb dX10_meets_57 (by decide) ?_
          refine lv_iload_n hx hb dX10_meets_59 rfl (lv_at hl 1 rfl) ?_
          refine lv_imul hx hb dX10_meets_60 ?_
          refine lv_topi (fun z14 ez14 => ?_)
          have r15 : rg z14 0 123 := rg_mul ez14 rl_41 r32_p1 (by decide)
          refine lv_iload_n hx hb dX10_meets_61 rfl (lv_at hl 3 rfl) ?_
          refine lv_iadd hx hb dX10_meets_62 ?_
          refine lv_topi (fun z16 ez16 => ?_)
          have r17 : rg z16 0 163 := rg_add ez16 r15 r3 (by decide)
          refine t_ald C hH hI.1 mq_26 tq_26 td_53 (rg_in r17 (by decide)) dX10_meets_63 (fun z18v az18 _ => ?_)
          refine lv_topi (fun z18 ez18 => ?_)
          refine lv_aload_n hx hb dX10_meets_64 rfl (lv_at hl 0 rfl) ?_
          refine t_getX C hH hI.1 mq tq td_40 iX10 rfl 26 (by decide) wd780 rfl (hI.rf kq_26) dX10_meets_65 ?_
          refine lv_bipush (v := (41 : Int32)) hx hb dX10_meets_68 (by decide) ?_
          refine lv_iload_n hx hb dX10_meets_70 rfl (lv_at hl 2 rfl) ?_
          refine lv_imul hx hb dX10_meets_71 ?_
          refine lv_topi (fun z19 ez19 => ?_)
          have r20 : rg z19 0 123 := rg_mul ez19 rl_41 r32_p2 (by decide)
          refine lv_iload_n hx hb dX10_meets_72 rfl (lv_at hl 3 rfl) ?_
          refine lv_iadd hx hb dX10_meets_73 ?_
          refine lv_topi (fun z21 ez21 => ?_)
          have r22 : rg z21 0 163 := rg_add ez21 r20 r3 (by decide)
          refine t_ald C hH hI.1 mq_26 tq_26 td_53 (rg_in r22 (by decide)) dX10_meets_74 (fun z23v az23 _ => ?_)
          refine lv_topi (fun z23 ez23 => ?_)
          refine lv_icmp_ne (tgt := 80) hx hb dX10_meets_75 (by decide) (fun c24 => ?_) (fun c24 => ?_)
          · skip
            obtain ⟨z25, ez25⟩ : ∃ y : Int32, y = v32_3 + (1 : Int32) := ⟨_, rfl⟩
            have r26 : rg z25 1 41 := rg_add ez25 r3 rl_1 (by decide)
            have a27 : z25.toInt = v32_3.toInt + 1 := ai_add ez25 r3 tl_1 (by decide)
            refine lv_iinc (v := z25) (lv' := [(3, .int z25), (0, .ref q), (1, .int p1), (2, .int p2)]) hx hb dX10_meets_80 hl (k := 3) rfl (by rw [ez25]; rfl) (by decide) rfl (fun ls hl => ?_)
            refine lv_goto (tgt := 32) hx hb dX10_meets_83 (by decide) ?_
            exact ih32 _ _ _ _ z25 (fu_s hfu32 a27 (by decide)) hI hH (rg_w r26 (by decide)) r32_p1 r32_p2 F32_W (lv_sub hl [1, 2, 3, 0] rfl)
          · skip
            refine lv_iload_n hx hb dX10_meets_78 rfl (lv_at hl 3 rfl) ?_
            exact g_iret C hr hH (Nat.zero_le _) (Nat.zero_le _) dX10_meets_79 ⟨rfl, hI, (rg_w r3 (by decide))⟩
  refine lv_aload_n hx hb dX10_meets_0 rfl (lv_at hl 0 rfl) ?_
  refine lv_iconst (v := (0 : Int32)) hx hb dX10_meets_1 (by decide) ?_
  refine t_put C hH hI mq tq (by decide) td_40 iX10 tyX10 tyX10_ok nmX10 rfl 0 (by decide) wd855 rfl rfl (v := .int (0 : Int32)) rfl rfl rfl ⟨_, rfl, (rg_w rl_0 (by decide))⟩ (fun _ h => nomatch h) dX10_meets_2 (fun f28 H locs hH hI nf28 of28 bf28 => ?_)
  refine lv_aload_n hx hb dX10_meets_5 rfl (lv_at hl 0 rfl) ?_
  refine lv_iload_n hx hb dX10_meets_6 rfl (lv_at hl 1 rfl) ?_
  refine lv_i2l (v := (p1).toInt64) hx hb dX10_meets_7 rfl ?_
  refine t_Vi C hO hl.1 hA hH hI.1 (As := [.long (p1).toInt64]) (rest := []) (t_X10_isFlight l E J τ L f28 hI.1 mq tq ((p1).toInt64)) my_X10_isFlight wd859 mq tq td_40 rfl rfl rfl (Nat.le_of_ble_eq_true rfl) ⟨Nat.le_of_ble_eq_true rfl, Nat.le_of_ble_eq_true rfl⟩ ⟨rfl, rfl⟩ dX10_meets_8 (fun r30 L1 f29 H locs hp hH => ?_)
  obtain ⟨rfl, s31, h32⟩ := hp
  have hJ := hI
  have hI := hI.call s31 (by decide)
  have w33 := h32.2.2 vl vh (hl0.S hJ rfl) (hh.S hJ rfl) hR
  refine lv_if_eq (tgt := 23) hx hb dX10_meets_11 (by decide) (fun c34 => ?_) (fun c34 => ?_)
  · skip
    have r35 : rg r30 0 0 := rf_eql (c_eq c34) h32.1 rl_0 (by decide)
    refine lv_bipush (v := (-2 : Int32)) hx hb dX10_meets_23 (by decide) ?_
    exact g_iret C hr hH (Nat.zero_le _) (Nat.zero_le _) dX10_meets_25 ⟨rfl, hI, (rg_w rl_m2 (by decide))⟩
  · skip
    have r36 : rg r30 1 1 := rf_nel (n_eq c34) h32.1 rl_0 (by decide)
    have r37 : rg p1 0 3 := is_rg (h32.2.1 c34) (rg_all _) (by decide)
    have F38 : 1 ≤ (vh 0).toInt := w33 c34
    refine lv_aload_n hx hb dX10_meets_14 rfl (lv_at hl 0 rfl) ?_
    refine lv_iload_n hx hb dX10_meets_15 rfl (lv_at hl 2 rfl) ?_
    refine lv_i2l (v := (p2).toInt64) hx hb dX10_meets_16 rfl ?_
    refine t_Vi C hO hl.1 hA hH hI.1 (As := [.long (p2).toInt64]) (rest := []) (t_X10_isFlight l E J τ L f29 hI.1 mq tq ((p2).toInt64)) my_X10_isFlight wd859 mq tq td_40 rfl rfl rfl (Nat.le_of_ble_eq_true rfl) ⟨Nat.le_of_ble_eq_true rfl, Nat.le_of_ble_eq_true rfl⟩ ⟨rfl, rfl⟩ dX10_meets_17 (fun r40 L1 f39 H locs hp hH => ?_)
    obtain ⟨rfl, s41, h42⟩ := hp
    have hJ := hI
    have hI := hI.call s41 (by decide)
    have w43 := h42.2.2 vl vh (hl0.S hJ rfl) (hh.S hJ rfl) hR
    refine lv_if_ne (tgt := 26) hx hb dX10_meets_20 (by decide) (fun c44 => ?_) (fun c44 => ?_)
    · skip
      have r45 : rg r40 1 1 := rf_nel (n_eq c44) h42.1 rl_0 (by decide)
      have r46 : rg p2 0 3 := is_rg (h42.2.1 c44) (rg_all _) (by decide)
      refine lv_aload_n hx hb dX10_meets_26 rfl (lv_at hl 0 rfl) ?_
      refine t_Vv C hO hl.1 hA hH hI.1 (As := []) (rest := []) (t_X10_laysNow l E J τ L f39 hI.1 mq tq (hh.S hI rfl) F38) my_X10_laysNow wd842 mq tq td_40 rfl rfl rfl (Nat.le_of_ble_eq_true rfl) ⟨Nat.le_of_ble_eq_true rfl, Nat.le_of_ble_eq_true rfl⟩ ⟨rfl, rfl⟩ dX10_meets_27 (fun L1 f47 H locs hp hH => ?_)
      obtain ⟨rfl, s49, h50⟩ := hp
      have hI := hI.call s49 (by decide)
      refine lv_iconst (v := (0 : Int32)) hx hb dX10_meets_30 (by decide) ?_
      refine lv_istore_n (lv' := [(3, .int (0 : Int32)), (0, .ref q), (1, .int p1), (2, .int p2)]) hx hb dX10_meets_31 rfl hl (by decide) rfl (fun ls hl => ?_)
      exact cut32 42 _ _ _ _ (0 : Int32) (fu_i 42 rl_0 (by decide)) hI hH (rg_w rl_0 (by decide)) r37 r46 F38 (lv_sub hl [1, 2, 3, 0] rfl)
    · skip
      have r51 : rg r40 0 0 := rf_eql (c_eq c44) h42.1 rl_0 (by decide)
      refine lv_bipush (v := (-2 : Int32)) hx hb dX10_meets_23 (by decide) ?_
      exact g_iret C hr hH (Nat.zero_le _) (Nat.zero_le _) dX10_meets_25 ⟨rfl, hI, (rg_w rl_m2 (by decide))⟩
set_option maxHeartbeats 4000000 in
set_option maxRecDepth 100000 in
theorem t_X10_spare (l : Launch) (E : gE) (J : Nat → Nat) (τ : Nat → Nat) (L : List Nat) (f : gF) (hI : tI E L τ f) {q : Nat} (mq : q ∈ L) (tq : τ q = 40) {vl vh : Nat → Int32} (hl0 : isA E L τ f 46 5 vl) (hh : isA E L τ f 47 45 vh) (hR : rowOK vl vh 0) : tMi l E J yX10_spare cX10_spare 3 .int (gRm (7) 0 0) [.ref q] L f (tPi E L τ [40, 52, 53, 54, 55, 56] f (fun r f1 => rg r (-2147483648) 2147483647)) := by
  refine tMi.intro (by decide) (Nat.le_of_ble_eq_true rfl) ?_
  intro p e s m below meth c A ls C hr hA hO hH hl
  have C : gC E cX10_spare 3 RX10 p s m _ meth c := C
  have hl : lv_has ls 3 [(0, .ref q)] := hl
  have hx := C.1
  have hb := C.2.1
  have hI := hI.S [40, 52, 53, 54, 55, 56]
  obtain ⟨q_19, mq_19, tq_19, kq_19⟩ := t_fldr hI.1 mq tq td_40 (k := 19) rfl
  have cut23 : ∀ (n : Nat) (fh23 : gF) (H : Heap) (locs : List Loc) (ls : Array Slot) (v23_1 : Int32) (v23_2 : Int32), 6 - v23_2.toInt < (n : Int) → tS E L τ [40, 52, 53, 54, 55, 56] f fh23 → gH E A L fh23 s.heap H locs → rg v23_2 0 6 → 1 ≤ (vh 0).toInt → lv_has ls 3 [(0, .ref q), (1, .int v23_1), (2, .int v23_2)] → W p l e (gRm (7) 0 0) s m [.ref q].toArray below meth c H locs 0 0 (MQ below (gQi E A (tPi E L τ [40, 52, 53, 54, 55, 56] f (fun r f1 => rg r (-2147483648) 2147483647))) [.ref q].toArray s (gRm (7) 0 0).cells (gRm (7) 0 0).slots A) (F0 m 23 ls []) := by
    intro n
    induction n with
    | zero =>
      intro fh23 H locs ls v23_1 v23_2 hfu23 hI hH r_v23_2 F23_W hl
      exact (fu_0 hfu23 r_v23_2).elim
    | succ n ih23 =>
      intro fh23 H locs ls v23_1 v23_2 hfu23 hI hH r_v23_2 F23_W hl
      refine lv_iload_n hx hb dX10_spare_23 rfl (lv_at hl 2 rfl) ?_
      refine lv_aload_n hx hb dX10_spare_24 rfl (lv_at hl 0 rfl) ?_
      refine t_Vi C hO hl.1 hA hH hI.1 (As := []) (rest := [.int v23_2]) (t_X10_members l E J τ L fh23 hI.1 mq tq) my_X10_members wd756 mq tq td_40 rfl rfl rfl (Nat.le_of_ble_eq_true rfl) ⟨Nat.le_of_ble_eq_true rfl, Nat.le_of_ble_eq_true rfl⟩ ⟨rfl, rfl⟩ dX10_spare_25 (fun r2 L1 f1 H locs hp hH => ?_)
      obtain ⟨rfl, s3, h4⟩ := hp
      have hJ := hI
      have hI := hI.call s3 (by decide)
      refine lv_icmp_ge (tgt := 71) hx hb dX10_spare_28 (by decide) (fun c5 => ?_) (fun c5 => ?_)
      · skip
        refine lv_iload_n hx hb dX10_spare_71 rfl (lv_at hl 1 rfl) ?_
        exact g_iret C hr hH (Nat.zero_le _) (Nat.zero_le _) dX10_spare_72 ⟨rfl, hI, (rg_all _)⟩
      · skip
        have r6 : rg v23_2 0 5 := rf_ltl (n_le c5) r_v23_2 h4.1 (by decide)
        have r7 : rg r2 1 6 := rf_ltr (n_le c5) r_v23_2 h4.1 (by decide)
        refine lv_iload_n hx hb dX10_spare_31 rfl (lv_at hl 1 rfl) ?_
        refine lv_aload_n hx hb dX10_spare_32 rfl (lv_at hl 0 rfl) ?_
        refine lv_iload_n hx hb dX10_spare_33 rfl (lv_at hl 2 rfl) ?_
        refine lv_aload_n hx hb dX10_spare_34 rfl (lv_at hl 0 rfl) ?_
        refine t_getX C hH hI.1 mq tq td_40 iX10 rfl 19 (by decide) wd818 rfl (hI.rf kq_19) dX10_spare_35 ?_
        refine lv_iconst (v := (3 : Int32)) hx hb dX10_spare_38 (by decide) ?_
        refine lv_iload_n hx hb dX10_spare_39 rfl (lv_at hl 2 rfl) ?_
        refine lv_imul hx hb dX10_spare_40 ?_
        refine lv_topi (fun z8 ez8 => ?_)
        have r9 : rg z8 0 15 := rg_mul ez8 rl_3 r6 (by decide)
        have m10 := mul3 ez8 r6 (by decide)
        refine t_ald C hH hI.1 mq_19 tq_19 td_49 (rg_in r9 (by decide)) dX10_spare_41 (fun z11v az11 pz11 => ?_)
        refine lv_topi (fun z11 ez11 => ?_)
        have r12 : rg z11 0 19 := mem_c pz11 (rg_in r9 (by decide)) m10 ez11
        refine t_Vi C hO hl.1 hA hH hI.1 (As := [.int v23_2, .int z11]) (rest := [.int v23_1]) (t_X10_isServedIn l E J τ L f1 hI.1 mq tq v23_2 r6 z11 r12) my_X10_isServedIn wd826 mq tq td_40 rfl rfl rfl (Nat.le_of_ble_eq_true rfl) ⟨Nat.le_of_ble_eq_true rfl, Nat.le_of_ble_eq_true rfl⟩ ⟨rfl, rfl⟩ dX10_spare_42 (fun r14 L1 f13 H locs hp hH => ?_)
        obtain ⟨rfl, s15, h16⟩ := hp
        have hI := hI.call s15 (by decide)
        refine lv_if_eq (tgt := 62) hx hb dX10_spare_45 (by decide) (fun c17 => ?_) (fun c17 => ?_)
        · skip
          have r18 : rg r14 0 0 := rf_eql (c_eq c17) h16 rl_0 (by decide)
          refine lv_iconst (v := (0 : Int32)) hx hb dX10_spare_62 (by decide) ?_
          refine lv_iadd hx hb dX10_spare_63 ?_
          refine lv_topi (fun z19 ez19 => ?_)
          have r20 : rg z19 (-2147483648) 2147483647 := rg_add ez19 (rg_all _) rl_0 (by decide)
          have a21 : z19.toInt = v23_1.toInt + 0 := ai_add ez19 (rg_all _) tl_0 (by decide)
          refine lv_istore_n (lv' := [(1, .int z19), (0, .ref q), (2, .int v23_2)]) hx hb dX10_spare_64 rfl hl (by decide) rfl (fun ls hl => ?_)
          obtain ⟨z22, ez22⟩ : ∃ y : Int32, y = v23_2 + (1 : Int32) := ⟨_, rfl⟩
          have r23 : rg z22 1 6 := rg_add ez22 r6 rl_1 (by decide)
          have a24 : z22.toInt = v23_2.toInt + 1 := ai_add ez22 r6 tl_1 (by decide)
          refine lv_iinc (v := z22) (lv' := [(2, .int z22), (1, .int z19), (0, .ref q)]) hx hb dX10_spare_65 hl (k := 2) rfl (by rw [ez22]; rfl) (by decide) rfl (fun ls hl => ?_)
          refine lv_goto (tgt := 23) hx hb dX10_spare_68 (by decide) ?_
          exact ih23 _ _ _ _ z19 z22 (fu_s hfu23 a24 (by decide)) hI hH (rg_w r23 (by decide)) F23_W (lv_sub hl [2, 1, 0] rfl)
        · skip
          have r25 : rg r14 1 1 := rf_nel (n_eq c17) h16 rl_0 (by decide)
          refine lv_aload_n hx hb dX10_spare_48 rfl (lv_at hl 0 rfl) ?_
          refine lv_iload_n hx hb dX10_spare_49 rfl (lv_at hl 2 rfl) ?_
          refine t_Vi C hO hl.1 hA hH hI.1 (As := [.int v23_2]) (rest := [.int v23_1]) (t_X10_heardOf l E J τ L f13 hI.1 mq tq v23_2 r6) my_X10_heardOf wd834 mq tq td_40 rfl rfl rfl (Nat.le_of_ble_eq_true rfl) ⟨Nat.le_of_ble_eq_true rfl, Nat.le_of_ble_eq_true rfl⟩ ⟨rfl, rfl⟩ dX10_spare_50 (fun r27 L1 f26 H locs hp hH => ?_)
          obtain ⟨rfl, s28, h29⟩ := hp
          have hI := hI.call s28 (by decide)
          refine lv_aload_n hx hb dX10_spare_53 rfl (lv_at hl 0 rfl) ?_
          refine lv_iload_n hx hb dX10_spare_54 rfl (lv_at hl 2 rfl) ?_
          refine t_Vi C hO hl.1 hA hH hI.1 (As := [.int v23_2]) (rest := [.int r27, .int v23_1]) (t_X10_wantsOf l E J τ L f26 hI.1 mq tq v23_2 r6) my_X10_wantsOf wd822 mq tq td_40 rfl rfl rfl (Nat.le_of_ble_eq_true rfl) ⟨Nat.le_of_ble_eq_true rfl, Nat.le_of_ble_eq_true rfl⟩ ⟨rfl, rfl⟩ dX10_spare_55 (fun r31 L1 f30 H locs hp hH => ?_)
          obtain ⟨rfl, s32, h33⟩ := hp
          have hI := hI.call s32 (by decide)
          refine lv_isub hx hb dX10_spare_58 ?_
          refine lv_topi (fun z34 ez34 => ?_)
          refine lv_goto (tgt := 63) hx hb dX10_spare_59 (by decide) ?_
          refine lv_iadd hx hb dX10_spare_63 ?_
          refine lv_topi (fun z35 ez35 => ?_)
          refine lv_istore_n (lv' := [(1, .int z35), (0, .ref q), (2, .int v23_2)]) hx hb dX10_spare_64 rfl hl (by decide) rfl (fun ls hl => ?_)
          obtain ⟨z36, ez36⟩ : ∃ y : Int32, y = v23_2 + (1 : Int32) := ⟨_, rfl⟩
          have r37 : rg z36 1 6 := rg_add ez36 r6 rl_1 (by decide)
          have a38 : z36.toInt = v23_2.toInt + 1 := ai_add ez36 r6 tl_1 (by decide)
          refine lv_iinc (v := z36) (lv' := [(2, .int z36), (1, .int z35), (0, .ref q)]) hx hb dX10_spare_65 hl (k := 2) rfl (by rw [ez36]; rfl) (by decide) rfl (fun ls hl => ?_)
          refine lv_goto (tgt := 23) hx hb dX10_spare_68 (by decide) ?_
          exact ih23 _ _ _ _ z35 z36 (fu_s hfu23 a38 (by decide)) hI hH (rg_w r37 (by decide)) F23_W (lv_sub hl [2, 1, 0] rfl)
  refine lv_aload_n hx hb dX10_spare_0 rfl (lv_at hl 0 rfl) ?_
  refine lv_iconst (v := (0 : Int32)) hx hb dX10_spare_1 (by decide) ?_
  refine t_put C hH hI mq tq (by decide) td_40 iX10 tyX10 tyX10_ok nmX10 rfl 0 (by decide) wd855 rfl rfl (v := .int (0 : Int32)) rfl rfl rfl ⟨_, rfl, (rg_w rl_0 (by decide))⟩ (fun _ h => nomatch h) dX10_spare_2 (fun f39 H locs hH hI nf39 of39 bf39 => ?_)
  refine lv_aload_n hx hb dX10_spare_5 rfl (lv_at hl 0 rfl) ?_
  refine t_Vi C hO hl.1 hA hH hI.1 (As := []) (rest := []) (t_X10_isLand l E J τ L f39 hI.1 mq tq) my_X10_isLand wd768 mq tq td_40 rfl rfl rfl (Nat.le_of_ble_eq_true rfl) ⟨Nat.le_of_ble_eq_true rfl, Nat.le_of_ble_eq_true rfl⟩ ⟨rfl, rfl⟩ dX10_spare_6 (fun r41 L1 f40 H locs hp hH => ?_)
  obtain ⟨rfl, s42, h43⟩ := hp
  have hJ := hI
  have hI := hI.call s42 (by decide)
  have w44 := h43.2 vl vh (hl0.S hJ rfl) (hh.S hJ rfl) hR
  refine lv_if_ne (tgt := 15) hx hb dX10_spare_9 (by decide) (fun c45 => ?_) (fun c45 => ?_)
  · skip
    have r46 : rg r41 1 1 := rf_nel (n_eq c45) h43.1 rl_0 (by decide)
    have F47 : 1 ≤ (vh 0).toInt := w44 c45
    refine lv_aload_n hx hb dX10_spare_15 rfl (lv_at hl 0 rfl) ?_
    refine t_Vv C hO hl.1 hA hH hI.1 (As := []) (rest := []) (t_X10_laysNow l E J τ L f40 hI.1 mq tq (hh.S hI rfl) F47) my_X10_laysNow wd842 mq tq td_40 rfl rfl rfl (Nat.le_of_ble_eq_true rfl) ⟨Nat.le_of_ble_eq_true rfl, Nat.le_of_ble_eq_true rfl⟩ ⟨rfl, rfl⟩ dX10_spare_16 (fun L1 f48 H locs hp hH => ?_)
    obtain ⟨rfl, s50, h51⟩ := hp
    have hI := hI.call s50 (by decide)
    refine lv_iconst (v := (0 : Int32)) hx hb dX10_spare_19 (by decide) ?_
    refine lv_istore_n (lv' := [(1, .int (0 : Int32)), (0, .ref q)]) hx hb dX10_spare_20 rfl hl (by decide) rfl (fun ls hl => ?_)
    refine lv_iconst (v := (0 : Int32)) hx hb dX10_spare_21 (by decide) ?_
    refine lv_istore_n (lv' := [(2, .int (0 : Int32)), (1, .int (0 : Int32)), (0, .ref q)]) hx hb dX10_spare_22 rfl hl (by decide) rfl (fun ls hl => ?_)
    exact cut23 7 _ _ _ _ (0 : Int32) (0 : Int32) (fu_i 7 rl_0 (by decide)) hI hH (rg_w rl_0 (by decide)) F47 (lv_sub hl [2, 1, 0] rfl)
  · skip
    have r52 : rg r41 0 0 := rf_eql (c_eq c45) h43.1 rl_0 (by decide)
    refine lv_bipush (v := (-2 : Int32)) hx hb dX10_spare_12 (by decide) ?_
    exact g_iret C hr hH (Nat.zero_le _) (Nat.zero_le _) dX10_spare_14 ⟨rfl, hI, (rg_w rl_m2 (by decide))⟩
set_option maxHeartbeats 4000000 in
set_option maxRecDepth 100000 in
theorem t_X10_calls (l : Launch) (E : gE) (J : Nat → Nat) (τ : Nat → Nat) (L : List Nat) (f : gF) (hI : tI E L τ f) {q : Nat} (mq : q ∈ L) (tq : τ q = 40) (p1 : Int32) {vl vh : Nat → Int32} (hl0 : isA E L τ f 46 5 vl) (hh : isA E L τ f 47 45 vh) (hR : rowOK vl vh 0) : tMi l E J yX10_calls cX10_calls 4 .int (gRm (7) 0 0) [.ref q, .int p1] L f (tPi E L τ [40, 52, 53, 54, 55, 56] f (fun r f1 => rg r (-2147483648) 2147483647)) := by
  refine tMi.intro (by decide) (Nat.le_of_ble_eq_true rfl) ?_
  intro p e s m below meth c A ls C hr hA hO hH hl
  have C : gC E cX10_calls 4 RX10 p s m _ meth c := C
  have hl : lv_has ls 4 [(0, .ref q), (1, .int p1)] := hl
  have hx := C.1
  have hb := C.2.1
  have hI := hI.S [40, 52, 53, 54, 55, 56]
  obtain ⟨q_26, mq_26, tq_26, kq_26⟩ := t_fldr hI.1 mq tq td_40 (k := 26) rfl
  obtain ⟨q_18, mq_18, tq_18, kq_18⟩ := t_fldr hI.1 mq tq td_40 (k := 18) rfl
  have cut30 : ∀ (n : Nat) (fh30 : gF) (H : Heap) (locs : List Loc) (ls : Array Slot) (v30_2 : Int32) (v30_3 : Int32), 4 - v30_3.toInt < (n : Int) → tS E L τ [40, 52, 53, 54, 55, 56] f fh30 → gH E A L fh30 s.heap H locs → rg v30_3 0 4 → rg p1 0 40 → 1 ≤ (vh 0).toInt → lv_has ls 4 [(0, .ref q), (1, .int p1), (2, .int v30_2), (3, .int v30_3)] → W p l e (gRm (7) 0 0) s m [.ref q, .int p1].toArray below meth c H locs 0 0 (MQ below (gQi E A (tPi E L τ [40, 52, 53, 54, 55, 56] f (fun r f1 => rg r (-2147483648) 2147483647))) [.ref q, .int p1].toArray s (gRm (7) 0 0).cells (gRm (7) 0 0).slots A) (F0 m 30 ls []) := by
    intro n
    induction n with
    | zero =>
      intro fh30 H locs ls v30_2 v30_3 hfu30 hI hH r_v30_3 r30_p1 F30_W hl
      exact (fu_0 hfu30 r_v30_3).elim
    | succ n ih30 =>
      intro fh30 H locs ls v30_2 v30_3 hfu30 hI hH r_v30_3 r30_p1 F30_W hl
      refine lv_iload_n hx hb dX10_calls_30 rfl (lv_at hl 3 rfl) ?_
      refine lv_aload_n hx hb dX10_calls_31 rfl (lv_at hl 0 rfl) ?_
      refine t_Vi C hO hl.1 hA hH hI.1 (As := []) (rest := [.int v30_3]) (t_X10_flights l E J τ L fh30 hI.1 mq tq) my_X10_flights wd752 mq tq td_40 rfl rfl rfl (Nat.le_of_ble_eq_true rfl) ⟨Nat.le_of_ble_eq_true rfl, Nat.le_of_ble_eq_true rfl⟩ ⟨rfl, rfl⟩ dX10_calls_32 (fun r2 L1 f1 H locs hp hH => ?_)
      obtain ⟨rfl, s3, h4⟩ := hp
      have hJ := hI
      have hI := hI.call s3 (by decide)
      refine lv_icmp_ge (tgt := 76) hx hb dX10_calls_35 (by decide) (fun c5 => ?_) (fun c5 => ?_)
      · skip
        refine lv_iload_n hx hb dX10_calls_76 rfl (lv_at hl 2 rfl) ?_
        exact g_iret C hr hH (Nat.zero_le _) (Nat.zero_le _) dX10_calls_77 ⟨rfl, hI, (rg_all _)⟩
      · skip
        have r6 : rg v30_3 0 3 := rf_ltl (n_le c5) r_v30_3 h4.1 (by decide)
        have r7 : rg r2 1 4 := rf_ltr (n_le c5) r_v30_3 h4.1 (by decide)
        refine lv_iload_n hx hb dX10_calls_38 rfl (lv_at hl 2 rfl) ?_
        refine lv_aload_n hx hb dX10_calls_39 rfl (lv_at hl 0 rfl) ?_
        refine t_getX C hH hI.1 mq tq td_40 iX10 rfl 26 (by decide) wd780 rfl (hI.rf kq_26) dX10_calls_40 ?_
        refine lv_bipush (v := (41 : Int32)) hx hb dX10_calls_43 (by decide) ?_
        refine lv_iload_n hx hb dX10_calls_45 rfl (lv_at hl 3 rfl) ?_
        refine lv_imul hx hb dX10_calls_46 ?_
        refine lv_topi (fun z8 ez8 => ?_)
        have r9 : rg z8 0 123 := rg_mul ez8 rl_41 r6 (by decide)
        refine lv_iload_n hx hb dX10_calls_47 rfl (lv_at hl 1 rfl) ?_
        refine lv_iadd hx hb dX10_calls_48 ?_
        refine lv_topi (fun z10 ez10 => ?_)
        have r11 : rg z10 0 163 := rg_add ez10 r9 r30_p1 (by decide)
        refine t_ald C hH hI.1 mq_26 tq_26 td_53 (rg_in r11 (by decide)) dX10_calls_49 (fun z12v az12 _ => ?_)
        refine lv_topi (fun z12 ez12 => ?_)
        refine lv_iconst (v := (-1 : Int32)) hx hb dX10_calls_50 (by decide) ?_
        refine lv_icmp_ne (tgt := 58) hx hb dX10_calls_51 (by decide) (fun c13 => ?_) (fun c13 => ?_)
        · skip
          refine lv_aload_n hx hb dX10_calls_58 rfl (lv_at hl 0 rfl) ?_
          refine t_getX C hH hI.1 mq tq td_40 iX10 rfl 18 (by decide) wd773 rfl (hI.rf kq_18) dX10_calls_59 ?_
          refine lv_iconst (v := (3 : Int32)) hx hb dX10_calls_62 (by decide) ?_
          refine lv_iload_n hx hb dX10_calls_63 rfl (lv_at hl 3 rfl) ?_
          refine lv_imul hx hb dX10_calls_64 ?_
          refine lv_topi (fun z14 ez14 => ?_)
          have r15 : rg z14 0 9 := rg_mul ez14 rl_3 r6 (by decide)
          have m16 := mul3 ez14 r6 (by decide)
          refine lv_iconst (v := (2 : Int32)) hx hb dX10_calls_65 (by decide) ?_
          refine lv_iadd hx hb dX10_calls_66 ?_
          refine lv_topi (fun z17 ez17 => ?_)
          have r18 : rg z17 2 11 := rg_add ez17 r15 rl_2 (by decide)
          have a19 : z17.toInt = z14.toInt + 2 := ai_add ez17 r15 tl_2 (by decide)
          refine t_ald C hH hI.1 mq_18 tq_18 td_48 (rg_in r18 (by decide)) dX10_calls_67 (fun z20v az20 _ => ?_)
          refine lv_topi (fun z20 ez20 => ?_)
          refine lv_iadd hx hb dX10_calls_68 ?_
          refine lv_topi (fun z21 ez21 => ?_)
          refine lv_istore_n (lv' := [(2, .int z21), (0, .ref q), (1, .int p1), (3, .int v30_3)]) hx hb dX10_calls_69 rfl hl (by decide) rfl (fun ls hl => ?_)
          obtain ⟨z22, ez22⟩ : ∃ y : Int32, y = v30_3 + (1 : Int32) := ⟨_, rfl⟩
          have r23 : rg z22 1 4 := rg_add ez22 r6 rl_1 (by decide)
          have a24 : z22.toInt = v30_3.toInt + 1 := ai_add ez22 r6 tl_1 (by decide)
          refine lv_iinc (v := z22) (lv' := [(3, .int z22), (2, .int z21), (0, .ref q), (1, .int p1)]) hx hb dX10_calls_70 hl (k := 3) rfl (by rw [ez22]; rfl) (by decide) rfl (fun ls hl => ?_)
          refine lv_goto (tgt := 30) hx hb dX10_calls_73 (by decide) ?_
          exact ih30 _ _ _ _ z21 z22 (fu_s hfu30 a24 (by decide)) hI hH (rg_w r23 (by decide)) r30_p1 F30_W (lv_sub hl [2, 3, 1, 0] rfl)
        · skip
          have r25 : rg z12 (-1) (-1) := rf_eql (c_eq c13) (rg_all _) rl_m1 (by decide)
          refine lv_iconst (v := (0 : Int32)) hx hb dX10_calls_54 (by decide) ?_
          refine lv_goto (tgt := 68) hx hb dX10_calls_55 (by decide) ?_
          refine lv_iadd hx hb dX10_calls_68 ?_
          refine lv_topi (fun z26 ez26 => ?_)
          have r27 : rg z26 (-2147483648) 2147483647 := rg_add ez26 (rg_all _) rl_0 (by decide)
          have a28 : z26.toInt = v30_2.toInt + 0 := ai_add ez26 (rg_all _) tl_0 (by decide)
          refine lv_istore_n (lv' := [(2, .int z26), (0, .ref q), (1, .int p1), (3, .int v30_3)]) hx hb dX10_calls_69 rfl hl (by decide) rfl (fun ls hl => ?_)
          obtain ⟨z29, ez29⟩ : ∃ y : Int32, y = v30_3 + (1 : Int32) := ⟨_, rfl⟩
          have r30 : rg z29 1 4 := rg_add ez29 r6 rl_1 (by decide)
          have a31 : z29.toInt = v30_3.toInt + 1 := ai_add ez29 r6 tl_1 (by decide)
          refine lv_iinc (v := z29) (lv' := [(3, .int z29), (2, .int z26), (0, .ref q), (1, .int p1)]) hx hb dX10_calls_70 hl (k := 3) rfl (by rw [ez29]; rfl) (by decide) rfl (fun ls hl => ?_)
          refine lv_goto (tgt := 30) hx hb dX10_calls_73 (by decide) ?_
          exact ih30 _ _ _ _ z26 z29 (fu_s hfu30 a31 (by decide)) hI hH (rg_w r30 (by decide)) r30_p1 F30_W (lv_sub hl [2, 3, 1, 0] rfl)
  refine lv_aload_n hx hb dX10_calls_0 rfl (lv_at hl 0 rfl) ?_
  refine lv_iconst (v := (0 : Int32)) hx hb dX10_calls_1 (by decide) ?_
  refine t_put C hH hI mq tq (by decide) td_40 iX10 tyX10 tyX10_ok nmX10 rfl 0 (by decide) wd855 rfl rfl (v := .int (0 : Int32)) rfl rfl rfl ⟨_, rfl, (rg_w rl_0 (by decide))⟩ (fun _ h => nomatch h) dX10_calls_2 (fun f32 H locs hH hI nf32 of32 bf32 => ?_)
  refine lv_aload_n hx hb dX10_calls_5 rfl (lv_at hl 0 rfl) ?_
  refine t_Vi C hO hl.1 hA hH hI.1 (As := []) (rest := []) (t_X10_isLand l E J τ L f32 hI.1 mq tq) my_X10_isLand wd768 mq tq td_40 rfl rfl rfl (Nat.le_of_ble_eq_true rfl) ⟨Nat.le_of_ble_eq_true rfl, Nat.le_of_ble_eq_true rfl⟩ ⟨rfl, rfl⟩ dX10_calls_6 (fun r34 L1 f33 H locs hp hH => ?_)
  obtain ⟨rfl, s35, h36⟩ := hp
  have hJ := hI
  have hI := hI.call s35 (by decide)
  have w37 := h36.2 vl vh (hl0.S hJ rfl) (hh.S hJ rfl) hR
  refine lv_if_eq (tgt := 19) hx hb dX10_calls_9 (by decide) (fun c38 => ?_) (fun c38 => ?_)
  · skip
    have r39 : rg r34 0 0 := rf_eql (c_eq c38) h36.1 rl_0 (by decide)
    refine lv_bipush (v := (-2 : Int32)) hx hb dX10_calls_19 (by decide) ?_
    exact g_iret C hr hH (Nat.zero_le _) (Nat.zero_le _) dX10_calls_21 ⟨rfl, hI, (rg_w rl_m2 (by decide))⟩
  · skip
    have r40 : rg r34 1 1 := rf_nel (n_eq c38) h36.1 rl_0 (by decide)
    have F41 : 1 ≤ (vh 0).toInt := w37 c38
    refine lv_iload_n hx hb dX10_calls_12 rfl (lv_at hl 1 rfl) ?_
    refine t_Si C hO hl.1 hA hH (As := [.int p1]) (rest := []) (t_X10_isStep l E J τ L f33 hI.1 p1) my_X10_isStep wd863 rfl rfl (Nat.le_of_ble_eq_true rfl) ⟨Nat.le_of_ble_eq_true rfl, Nat.le_of_ble_eq_true rfl⟩ ⟨rfl, rfl⟩ dX10_calls_13 (fun r43 L1 f42 H locs hp hH => ?_)
    obtain ⟨rfl, s44, h45⟩ := hp
    have hI := hI.call s44 (by decide)
    refine lv_if_ne (tgt := 22) hx hb dX10_calls_16 (by decide) (fun c46 => ?_) (fun c46 => ?_)
    · skip
      have r47 : rg r43 1 1 := rf_nel (n_eq c46) h45.1 rl_0 (by decide)
      have r48 : rg p1 0 40 := h45.2 c46
      refine lv_aload_n hx hb dX10_calls_22 rfl (lv_at hl 0 rfl) ?_
      refine t_Vv C hO hl.1 hA hH hI.1 (As := []) (rest := []) (t_X10_laysNow l E J τ L f42 hI.1 mq tq (hh.S hI rfl) F41) my_X10_laysNow wd842 mq tq td_40 rfl rfl rfl (Nat.le_of_ble_eq_true rfl) ⟨Nat.le_of_ble_eq_true rfl, Nat.le_of_ble_eq_true rfl⟩ ⟨rfl, rfl⟩ dX10_calls_23 (fun L1 f49 H locs hp hH => ?_)
      obtain ⟨rfl, s51, h52⟩ := hp
      have hI := hI.call s51 (by decide)
      refine lv_iconst (v := (0 : Int32)) hx hb dX10_calls_26 (by decide) ?_
      refine lv_istore_n (lv' := [(2, .int (0 : Int32)), (0, .ref q), (1, .int p1)]) hx hb dX10_calls_27 rfl hl (by decide) rfl (fun ls hl => ?_)
      refine lv_iconst (v := (0 : Int32)) hx hb dX10_calls_28 (by decide) ?_
      refine lv_istore_n (lv' := [(3, .int (0 : Int32)), (2, .int (0 : Int32)), (0, .ref q), (1, .int p1)]) hx hb dX10_calls_29 rfl hl (by decide) rfl (fun ls hl => ?_)
      exact cut30 5 _ _ _ _ (0 : Int32) (0 : Int32) (fu_i 5 rl_0 (by decide)) hI hH (rg_w rl_0 (by decide)) r48 F41 (lv_sub hl [2, 3, 1, 0] rfl)
    · skip
      have r53 : rg r43 0 0 := rf_eql (c_eq c46) h45.1 rl_0 (by decide)
      refine lv_bipush (v := (-2 : Int32)) hx hb dX10_calls_19 (by decide) ?_
      exact g_iret C hr hH (Nat.zero_le _) (Nat.zero_le _) dX10_calls_21 ⟨rfl, hI, (rg_w rl_m2 (by decide))⟩
set_option maxHeartbeats 4000000 in
set_option maxRecDepth 100000 in
theorem t_X10_farthest (l : Launch) (E : gE) (J : Nat → Nat) (τ : Nat → Nat) (L : List Nat) (f : gF) (hI : tI E L τ f) {q : Nat} (mq : q ∈ L) (tq : τ q = 40) (p1 : Int32) {vl vh : Nat → Int32} (hl0 : isA E L τ f 46 5 vl) (hh : isA E L τ f 47 45 vh) (hR : rowOK vl vh 0) : tMi l E J yX10_farthest cX10_farthest 4 .int (gRm (7) 0 0) [.ref q, .int p1] L f (tPi E L τ [40, 52, 53, 54, 55, 56] f (fun r f1 => rg r (-2147483648) 2147483647)) := by
  refine tMi.intro (by decide) (Nat.le_of_ble_eq_true rfl) ?_
  intro p e s m below meth c A ls C hr hA hO hH hl
  have C : gC E cX10_farthest 4 RX10 p s m _ meth c := C
  have hl : lv_has ls 4 [(0, .ref q), (1, .int p1)] := hl
  have hx := C.1
  have hb := C.2.1
  have hI := hI.S [40, 52, 53, 54, 55, 56]
  obtain ⟨q_18, mq_18, tq_18, kq_18⟩ := t_fldr hI.1 mq tq td_40 (k := 18) rfl
  have cut25 : ∀ (n : Nat) (fh25 : gF) (H : Heap) (locs : List Loc) (ls : Array Slot) (v25_2 : Int32) (v25_3 : Int32), 20 - v25_3.toInt < (n : Int) → tS E L τ [40, 52, 53, 54, 55, 56] f fh25 → gH E A L fh25 s.heap H locs → rg v25_2 (-1) 19 → rg v25_3 0 20 → rg p1 0 3 → 1 ≤ (vh 0).toInt → lv_has ls 4 [(0, .ref q), (1, .int p1), (2, .int v25_2), (3, .int v25_3)] → W p l e (gRm (7) 0 0) s m [.ref q, .int p1].toArray below meth c H locs 0 0 (MQ below (gQi E A (tPi E L τ [40, 52, 53, 54, 55, 56] f (fun r f1 => rg r (-2147483648) 2147483647))) [.ref q, .int p1].toArray s (gRm (7) 0 0).cells (gRm (7) 0 0).slots A) (F0 m 25 ls []) := by
    intro n
    induction n with
    | zero =>
      intro fh25 H locs ls v25_2 v25_3 hfu25 hI hH r_v25_2 r_v25_3 r25_p1 F25_W hl
      exact (fu_0 hfu25 r_v25_3).elim
    | succ n ih25 =>
      intro fh25 H locs ls v25_2 v25_3 hfu25 hI hH r_v25_2 r_v25_3 r25_p1 F25_W hl
      refine lv_iload_n hx hb dX10_farthest_25 rfl (lv_at hl 3 rfl) ?_
      refine lv_aload_n hx hb dX10_farthest_26 rfl (lv_at hl 0 rfl) ?_
      refine t_Vi C hO hl.1 hA hH hI.1 (As := []) (rest := [.int v25_3]) (t_X10_cellsAll l E J τ L fh25 hI.1 mq tq) my_X10_cellsAll wd760 mq tq td_40 rfl rfl rfl (Nat.le_of_ble_eq_true rfl) ⟨Nat.le_of_ble_eq_true rfl, Nat.le_of_ble_eq_true rfl⟩ ⟨rfl, rfl⟩ dX10_farthest_27 (fun r2 L1 f1 H locs hp hH => ?_)
      obtain ⟨rfl, s3, h4⟩ := hp
      have hJ := hI
      have hI := hI.call s3 (by decide)
      refine lv_icmp_ge (tgt := 87) hx hb dX10_farthest_30 (by decide) (fun c5 => ?_) (fun c5 => ?_)
      · skip
        refine lv_iload_n hx hb dX10_farthest_87 rfl (lv_at hl 2 rfl) ?_
        exact g_iret C hr hH (Nat.zero_le _) (Nat.zero_le _) dX10_farthest_88 ⟨rfl, hI, (rg_w r_v25_2 (by decide))⟩
      · skip
        have r6 : rg v25_3 0 19 := rf_ltl (n_le c5) r_v25_3 h4.1 (by decide)
        have r7 : rg r2 1 20 := rf_ltr (n_le c5) r_v25_3 h4.1 (by decide)
        refine lv_aload_n hx hb dX10_farthest_33 rfl (lv_at hl 0 rfl) ?_
        refine lv_iload_n hx hb dX10_farthest_34 rfl (lv_at hl 1 rfl) ?_
        refine t_Vi C hO hl.1 hA hH hI.1 (As := [.int p1]) (rest := []) (t_X10_wayOf l E J τ L f1 hI.1 mq tq p1 r25_p1) my_X10_wayOf wd871 mq tq td_40 rfl rfl rfl (Nat.le_of_ble_eq_true rfl) ⟨Nat.le_of_ble_eq_true rfl, Nat.le_of_ble_eq_true rfl⟩ ⟨rfl, rfl⟩ dX10_farthest_35 (fun r9 L1 f8 H locs hp hH => ?_)
        obtain ⟨rfl, s10, h11⟩ := hp
        have hI := hI.call s10 (by decide)
        refine lv_iload_n hx hb dX10_farthest_38 rfl (lv_at hl 3 rfl) ?_
        refine t_Si C hO hl.1 hA hH (As := [.int r9, .int v25_3]) (rest := []) (t_X10_isBit l E J τ L f8 hI.1 r9 v25_3) my_X10_isBit wd783 rfl rfl (Nat.le_of_ble_eq_true rfl) ⟨Nat.le_of_ble_eq_true rfl, Nat.le_of_ble_eq_true rfl⟩ ⟨rfl, rfl⟩ dX10_farthest_39 (fun r13 L1 f12 H locs hp hH => ?_)
        obtain ⟨rfl, s14, h15⟩ := hp
        have hI := hI.call s14 (by decide)
        refine lv_if_eq (tgt := 81) hx hb dX10_farthest_42 (by decide) (fun c16 => ?_) (fun c16 => ?_)
        · skip
          have r17 : rg r13 0 0 := rf_eql (c_eq c16) h15 rl_0 (by decide)
          obtain ⟨z18, ez18⟩ : ∃ y : Int32, y = v25_3 + (1 : Int32) := ⟨_, rfl⟩
          have r19 : rg z18 1 20 := rg_add ez18 r6 rl_1 (by decide)
          have a20 : z18.toInt = v25_3.toInt + 1 := ai_add ez18 r6 tl_1 (by decide)
          refine lv_iinc (v := z18) (lv' := [(3, .int z18), (0, .ref q), (1, .int p1), (2, .int v25_2)]) hx hb dX10_farthest_81 hl (k := 3) rfl (by rw [ez18]; rfl) (by decide) rfl (fun ls hl => ?_)
          refine lv_goto (tgt := 25) hx hb dX10_farthest_84 (by decide) ?_
          exact ih25 _ _ _ _ v25_2 z18 (fu_s hfu25 a20 (by decide)) hI hH r_v25_2 (rg_w r19 (by decide)) r25_p1 F25_W (lv_sub hl [1, 2, 3, 0] rfl)
        · skip
          have r21 : rg r13 1 1 := rf_nel (n_eq c16) h15 rl_0 (by decide)
          refine lv_iload_n hx hb dX10_farthest_45 rfl (lv_at hl 2 rfl) ?_
          refine lv_iconst (v := (-1 : Int32)) hx hb dX10_farthest_46 (by decide) ?_
          refine lv_icmp_eq (tgt := 79) hx hb dX10_farthest_47 (by decide) (fun c22 => ?_) (fun c22 => ?_)
          · skip
            have r23 : rg v25_2 (-1) (-1) := rf_eql (c_eq c22) r_v25_2 rl_m1 (by decide)
            refine lv_iload_n hx hb dX10_farthest_79 rfl (lv_at hl 3 rfl) ?_
            refine lv_istore_n (lv' := [(2, .int v25_3), (0, .ref q), (1, .int p1), (3, .int v25_3)]) hx hb dX10_farthest_80 rfl hl (by decide) rfl (fun ls hl => ?_)
            obtain ⟨z24, ez24⟩ : ∃ y : Int32, y = v25_3 + (1 : Int32) := ⟨_, rfl⟩
            have r25 : rg z24 1 20 := rg_add ez24 r6 rl_1 (by decide)
            have a26 : z24.toInt = v25_3.toInt + 1 := ai_add ez24 r6 tl_1 (by decide)
            refine lv_iinc (v := z24) (lv' := [(3, .int z24), (2, .int v25_3), (0, .ref q), (1, .int p1)]) hx hb dX10_farthest_81 hl (k := 3) rfl (by rw [ez24]; rfl) (by decide) rfl (fun ls hl => ?_)
            refine lv_goto (tgt := 25) hx hb dX10_farthest_84 (by decide) ?_
            exact ih25 _ _ _ _ v25_3 z24 (fu_s hfu25 a26 (by decide)) hI hH (rg_w r6 (by decide)) (rg_w r25 (by decide)) r25_p1 F25_W (lv_sub hl [2, 3, 1, 0] rfl)
          · skip
            have r27 : rg v25_2 0 19 := rf_nel (n_eq c22) r_v25_2 rl_m1 (by decide)
            refine lv_aload_n hx hb dX10_farthest_50 rfl (lv_at hl 0 rfl) ?_
            refine lv_iload_n hx hb dX10_farthest_51 rfl (lv_at hl 3 rfl) ?_
            refine lv_aload_n hx hb dX10_farthest_52 rfl (lv_at hl 0 rfl) ?_
            refine t_getX C hH hI.1 mq tq td_40 iX10 rfl 18 (by decide) wd773 rfl (hI.rf kq_18) dX10_farthest_53 ?_
            refine lv_iconst (v := (3 : Int32)) hx hb dX10_farthest_56 (by decide) ?_
            refine lv_iload_n hx hb dX10_farthest_57 rfl (lv_at hl 1 rfl) ?_
            refine lv_imul hx hb dX10_farthest_58 ?_
            refine lv_topi (fun z28 ez28 => ?_)
            have r29 : rg z28 0 9 := rg_mul ez28 rl_3 r25_p1 (by decide)
            have m30 := mul3 ez28 r25_p1 (by decide)
            refine t_ald C hH hI.1 mq_18 tq_18 td_48 (rg_in r29 (by decide)) dX10_farthest_59 (fun z31v az31 _ => ?_)
            refine lv_topi (fun z31 ez31 => ?_)
            refine t_Vi C hO hl.1 hA hH hI.1 (As := [.int v25_3, .int z31]) (rest := []) (t_X10_far l E J τ L f12 hI.1 mq tq v25_3 z31 (hh.S hI rfl) F25_W) my_X10_far wd792 mq tq td_40 rfl rfl rfl (Nat.le_of_ble_eq_true rfl) ⟨Nat.le_of_ble_eq_true rfl, Nat.le_of_ble_eq_true rfl⟩ ⟨rfl, rfl⟩ dX10_farthest_60 (fun r33 L1 f32 H locs hp hH => ?_)
            obtain ⟨rfl, s34, h35⟩ := hp
            have hI := hI.call s34 (by decide)
            refine lv_aload_n hx hb dX10_farthest_63 rfl (lv_at hl 0 rfl) ?_
            refine lv_iload_n hx hb dX10_farthest_64 rfl (lv_at hl 2 rfl) ?_
            refine lv_aload_n hx hb dX10_farthest_65 rfl (lv_at hl 0 rfl) ?_
            refine t_getX C hH hI.1 mq tq td_40 iX10 rfl 18 (by decide) wd773 rfl (hI.rf kq_18) dX10_farthest_66 ?_
            refine lv_iconst (v := (3 : Int32)) hx hb dX10_farthest_69 (by decide) ?_
            refine lv_iload_n hx hb dX10_farthest_70 rfl (lv_at hl 1 rfl) ?_
            refine lv_imul hx hb dX10_farthest_71 ?_
            refine lv_topi (fun z36 ez36 => ?_)
            have r37 : rg z36 0 9 := rg_mul ez36 rl_3 r25_p1 (by decide)
            have m38 := mul3 ez36 r25_p1 (by decide)
            refine t_ald C hH hI.1 mq_18 tq_18 td_48 (rg_in r37 (by decide)) dX10_farthest_72 (fun z39v az39 _ => ?_)
            refine lv_topi (fun z39 ez39 => ?_)
            refine t_Vi C hO hl.1 hA hH hI.1 (As := [.int v25_2, .int z39]) (rest := [.int r33]) (t_X10_far l E J τ L f32 hI.1 mq tq v25_2 z39 (hh.S hI rfl) F25_W) my_X10_far wd792 mq tq td_40 rfl rfl rfl (Nat.le_of_ble_eq_true rfl) ⟨Nat.le_of_ble_eq_true rfl, Nat.le_of_ble_eq_true rfl⟩ ⟨rfl, rfl⟩ dX10_farthest_73 (fun r41 L1 f40 H locs hp hH => ?_)
            obtain ⟨rfl, s42, h43⟩ := hp
            have hI := hI.call s42 (by decide)
            refine lv_icmp_le (tgt := 81) hx hb dX10_farthest_76 (by decide) (fun c44 => ?_) (fun c44 => ?_)
            · skip
              obtain ⟨z45, ez45⟩ : ∃ y : Int32, y = v25_3 + (1 : Int32) := ⟨_, rfl⟩
              have r46 : rg z45 1 20 := rg_add ez45 r6 rl_1 (by decide)
              have a47 : z45.toInt = v25_3.toInt + 1 := ai_add ez45 r6 tl_1 (by decide)
              refine lv_iinc (v := z45) (lv' := [(3, .int z45), (0, .ref q), (1, .int p1), (2, .int v25_2)]) hx hb dX10_farthest_81 hl (k := 3) rfl (by rw [ez45]; rfl) (by decide) rfl (fun ls hl => ?_)
              refine lv_goto (tgt := 25) hx hb dX10_farthest_84 (by decide) ?_
              exact ih25 _ _ _ _ v25_2 z45 (fu_s hfu25 a47 (by decide)) hI hH (rg_w r27 (by decide)) (rg_w r46 (by decide)) r25_p1 F25_W (lv_sub hl [1, 2, 3, 0] rfl)
            · skip
              have r48 : rg r41 (-2147483648) 2147483646 := rf_ltl (n_le c44) h43 h35 (by decide)
              have r49 : rg r33 (-2147483647) 2147483647 := rf_ltr (n_le c44) h43 h35 (by decide)
              refine lv_iload_n hx hb dX10_farthest_79 rfl (lv_at hl 3 rfl) ?_
              refine lv_istore_n (lv' := [(2, .int v25_3), (0, .ref q), (1, .int p1), (3, .int v25_3)]) hx hb dX10_farthest_80 rfl hl (by decide) rfl (fun ls hl => ?_)
              obtain ⟨z50, ez50⟩ : ∃ y : Int32, y = v25_3 + (1 : Int32) := ⟨_, rfl⟩
              have r51 : rg z50 1 20 := rg_add ez50 r6 rl_1 (by decide)
              have a52 : z50.toInt = v25_3.toInt + 1 := ai_add ez50 r6 tl_1 (by decide)
              refine lv_iinc (v := z50) (lv' := [(3, .int z50), (2, .int v25_3), (0, .ref q), (1, .int p1)]) hx hb dX10_farthest_81 hl (k := 3) rfl (by rw [ez50]; rfl) (by decide) rfl (fun ls hl => ?_)
              refine lv_goto (tgt := 25) hx hb dX10_farthest_84 (by decide) ?_
              exact ih25 _ _ _ _ v25_3 z50 (fu_s hfu25 a52 (by decide)) hI hH (rg_w r6 (by decide)) (rg_w r51 (by decide)) r25_p1 F25_W (lv_sub hl [2, 3, 1, 0] rfl)
  refine lv_aload_n hx hb dX10_farthest_0 rfl (lv_at hl 0 rfl) ?_
  refine lv_iconst (v := (0 : Int32)) hx hb dX10_farthest_1 (by decide) ?_
  refine t_put C hH hI mq tq (by decide) td_40 iX10 tyX10 tyX10_ok nmX10 rfl 0 (by decide) wd855 rfl rfl (v := .int (0 : Int32)) rfl rfl rfl ⟨_, rfl, (rg_w rl_0 (by decide))⟩ (fun _ h => nomatch h) dX10_farthest_2 (fun f53 H locs hH hI nf53 of53 bf53 => ?_)
  refine lv_aload_n hx hb dX10_farthest_5 rfl (lv_at hl 0 rfl) ?_
  refine lv_iload_n hx hb dX10_farthest_6 rfl (lv_at hl 1 rfl) ?_
  refine lv_i2l (v := (p1).toInt64) hx hb dX10_farthest_7 rfl ?_
  refine t_Vi C hO hl.1 hA hH hI.1 (As := [.long (p1).toInt64]) (rest := []) (t_X10_isFlight l E J τ L f53 hI.1 mq tq ((p1).toInt64)) my_X10_isFlight wd859 mq tq td_40 rfl rfl rfl (Nat.le_of_ble_eq_true rfl) ⟨Nat.le_of_ble_eq_true rfl, Nat.le_of_ble_eq_true rfl⟩ ⟨rfl, rfl⟩ dX10_farthest_8 (fun r55 L1 f54 H locs hp hH => ?_)
  obtain ⟨rfl, s56, h57⟩ := hp
  have hJ := hI
  have hI := hI.call s56 (by decide)
  have w58 := h57.2.2 vl vh (hl0.S hJ rfl) (hh.S hJ rfl) hR
  refine lv_if_ne (tgt := 17) hx hb dX10_farthest_11 (by decide) (fun c59 => ?_) (fun c59 => ?_)
  · skip
    have r60 : rg r55 1 1 := rf_nel (n_eq c59) h57.1 rl_0 (by decide)
    have r61 : rg p1 0 3 := is_rg (h57.2.1 c59) (rg_all _) (by decide)
    have F62 : 1 ≤ (vh 0).toInt := w58 c59
    refine lv_aload_n hx hb dX10_farthest_17 rfl (lv_at hl 0 rfl) ?_
    refine t_Vv C hO hl.1 hA hH hI.1 (As := []) (rest := []) (t_X10_laysNow l E J τ L f54 hI.1 mq tq (hh.S hI rfl) F62) my_X10_laysNow wd842 mq tq td_40 rfl rfl rfl (Nat.le_of_ble_eq_true rfl) ⟨Nat.le_of_ble_eq_true rfl, Nat.le_of_ble_eq_true rfl⟩ ⟨rfl, rfl⟩ dX10_farthest_18 (fun L1 f63 H locs hp hH => ?_)
    obtain ⟨rfl, s65, h66⟩ := hp
    have hI := hI.call s65 (by decide)
    refine lv_iconst (v := (-1 : Int32)) hx hb dX10_farthest_21 (by decide) ?_
    refine lv_istore_n (lv' := [(2, .int (-1 : Int32)), (0, .ref q), (1, .int p1)]) hx hb dX10_farthest_22 rfl hl (by decide) rfl (fun ls hl => ?_)
    refine lv_iconst (v := (0 : Int32)) hx hb dX10_farthest_23 (by decide) ?_
    refine lv_istore_n (lv' := [(3, .int (0 : Int32)), (2, .int (-1 : Int32)), (0, .ref q), (1, .int p1)]) hx hb dX10_farthest_24 rfl hl (by decide) rfl (fun ls hl => ?_)
    exact cut25 21 _ _ _ _ (-1 : Int32) (0 : Int32) (fu_i 21 rl_0 (by decide)) hI hH (rg_w rl_m1 (by decide)) (rg_w rl_0 (by decide)) r61 F62 (lv_sub hl [2, 3, 1, 0] rfl)
  · skip
    have r67 : rg r55 0 0 := rf_eql (c_eq c59) h57.1 rl_0 (by decide)
    refine lv_bipush (v := (-2 : Int32)) hx hb dX10_farthest_14 (by decide) ?_
    exact g_iret C hr hH (Nat.zero_le _) (Nat.zero_le _) dX10_farthest_16 ⟨rfl, hI, (rg_w rl_m2 (by decide))⟩
set_option maxHeartbeats 4000000 in
set_option maxRecDepth 100000 in
theorem t_X10_more (l : Launch) (E : gE) (J : Nat → Nat) (τ : Nat → Nat) (L : List Nat) (f : gF) (hI : tI E L τ f) {q : Nat} (mq : q ∈ L) (tq : τ q = 40) {vl vh : Nat → Int32} (hl0 : isA E L τ f 46 5 vl) (hh : isA E L τ f 47 45 vh) (hR : rowOK vl vh 0) : tMi l E J yX10_more cX10_more 1 .int (gRm (8) 0 0) [.ref q] L f (tPi E L τ [40, 52, 53, 54, 55, 56] f (fun r f1 => rg r (-2147483648) 2147483647)) := by
  refine tMi.intro (by decide) (Nat.le_of_ble_eq_true rfl) ?_
  intro p e s m below meth c A ls C hr hA hO hH hl
  have C : gC E cX10_more 1 RX10 p s m _ meth c := C
  have hl : lv_has ls 1 [(0, .ref q)] := hl
  have hx := C.1
  have hb := C.2.1
  have hI := hI.S [40, 52, 53, 54, 55, 56]
  refine lv_aload_n hx hb dX10_more_0 rfl (lv_at hl 0 rfl) ?_
  refine lv_iconst (v := (0 : Int32)) hx hb dX10_more_1 (by decide) ?_
  refine t_put C hH hI mq tq (by decide) td_40 iX10 tyX10 tyX10_ok nmX10 rfl 0 (by decide) wd855 rfl rfl (v := .int (0 : Int32)) rfl rfl rfl ⟨_, rfl, (rg_w rl_0 (by decide))⟩ (fun _ h => nomatch h) dX10_more_2 (fun f1 H locs hH hI nf1 of1 bf1 => ?_)
  refine lv_aload_n hx hb dX10_more_5 rfl (lv_at hl 0 rfl) ?_
  refine t_Vi C hO hl.1 hA hH hI.1 (As := []) (rest := []) (t_X10_isLand l E J τ L f1 hI.1 mq tq) my_X10_isLand wd768 mq tq td_40 rfl rfl rfl (Nat.le_of_ble_eq_true rfl) ⟨Nat.le_of_ble_eq_true rfl, Nat.le_of_ble_eq_true rfl⟩ ⟨rfl, rfl⟩ dX10_more_6 (fun r3 L1 f2 H locs hp hH => ?_)
  obtain ⟨rfl, s4, h5⟩ := hp
  have hJ := hI
  have hI := hI.call s4 (by decide)
  have w6 := h5.2 vl vh (hl0.S hJ rfl) (hh.S hJ rfl) hR
  refine lv_if_eq (tgt := 20) hx hb dX10_more_9 (by decide) (fun c7 => ?_) (fun c7 => ?_)
  · skip
    have r8 : rg r3 0 0 := rf_eql (c_eq c7) h5.1 rl_0 (by decide)
    refine lv_bipush (v := (-2 : Int32)) hx hb dX10_more_20 (by decide) ?_
    exact g_iret C hr hH (Nat.zero_le _) (Nat.zero_le _) dX10_more_22 ⟨rfl, hI, (rg_w rl_m2 (by decide))⟩
  · skip
    have r9 : rg r3 1 1 := rf_nel (n_eq c7) h5.1 rl_0 (by decide)
    have F10 : 1 ≤ (vh 0).toInt := w6 c7
    refine lv_aload_n hx hb dX10_more_12 rfl (lv_at hl 0 rfl) ?_
    refine lv_iconst (v := (1 : Int32)) hx hb dX10_more_13 (by decide) ?_
    refine t_Vi C hO hl.1 hA hH hI.1 (As := [.int (1 : Int32)]) (rest := []) (t_X10_otherwise l E J τ L f2 hI.1 mq tq (1 : Int32) (rg_w rl_1 (by decide)) (hh.S hI rfl) F10) my_X10_otherwise wd887 mq tq td_40 rfl rfl rfl (Nat.le_of_ble_eq_true rfl) ⟨Nat.le_of_ble_eq_true rfl, Nat.le_of_ble_eq_true rfl⟩ ⟨rfl, rfl⟩ dX10_more_14 (fun r12 L1 f11 H locs hp hH => ?_)
    obtain ⟨rfl, s13, h14⟩ := hp
    have hI := hI.call s13 (by decide)
    refine lv_goto (tgt := 22) hx hb dX10_more_17 (by decide) ?_
    exact g_iret C hr hH (Nat.zero_le _) (Nat.zero_le _) dX10_more_22 ⟨rfl, hI, h14⟩
set_option maxHeartbeats 4000000 in
set_option maxRecDepth 100000 in
theorem t_X10_less (l : Launch) (E : gE) (J : Nat → Nat) (τ : Nat → Nat) (L : List Nat) (f : gF) (hI : tI E L τ f) {q : Nat} (mq : q ∈ L) (tq : τ q = 40) {vl vh : Nat → Int32} (hl0 : isA E L τ f 46 5 vl) (hh : isA E L τ f 47 45 vh) (hR : rowOK vl vh 0) : tMi l E J yX10_less cX10_less 1 .int (gRm (8) 0 0) [.ref q] L f (tPi E L τ [40, 52, 53, 54, 55, 56] f (fun r f1 => rg r (-2147483648) 2147483647)) := by
  refine tMi.intro (by decide) (Nat.le_of_ble_eq_true rfl) ?_
  intro p e s m below meth c A ls C hr hA hO hH hl
  have C : gC E cX10_less 1 RX10 p s m _ meth c := C
  have hl : lv_has ls 1 [(0, .ref q)] := hl
  have hx := C.1
  have hb := C.2.1
  have hI := hI.S [40, 52, 53, 54, 55, 56]
  refine lv_aload_n hx hb dX10_less_0 rfl (lv_at hl 0 rfl) ?_
  refine lv_iconst (v := (0 : Int32)) hx hb dX10_less_1 (by decide) ?_
  refine t_put C hH hI mq tq (by decide) td_40 iX10 tyX10 tyX10_ok nmX10 rfl 0 (by decide) wd855 rfl rfl (v := .int (0 : Int32)) rfl rfl rfl ⟨_, rfl, (rg_w rl_0 (by decide))⟩ (fun _ h => nomatch h) dX10_less_2 (fun f1 H locs hH hI nf1 of1 bf1 => ?_)
  refine lv_aload_n hx hb dX10_less_5 rfl (lv_at hl 0 rfl) ?_
  refine t_Vi C hO hl.1 hA hH hI.1 (As := []) (rest := []) (t_X10_isLand l E J τ L f1 hI.1 mq tq) my_X10_isLand wd768 mq tq td_40 rfl rfl rfl (Nat.le_of_ble_eq_true rfl) ⟨Nat.le_of_ble_eq_true rfl, Nat.le_of_ble_eq_true rfl⟩ ⟨rfl, rfl⟩ dX10_less_6 (fun r3 L1 f2 H locs hp hH => ?_)
  obtain ⟨rfl, s4, h5⟩ := hp
  have hJ := hI
  have hI := hI.call s4 (by decide)
  have w6 := h5.2 vl vh (hl0.S hJ rfl) (hh.S hJ rfl) hR
  refine lv_if_eq (tgt := 20) hx hb dX10_less_9 (by decide) (fun c7 => ?_) (fun c7 => ?_)
  · skip
    have r8 : rg r3 0 0 := rf_eql (c_eq c7) h5.1 rl_0 (by decide)
    refine lv_bipush (v := (-2 : Int32)) hx hb dX10_less_20 (by decide) ?_
    exact g_iret C hr hH (Nat.zero_le _) (Nat.zero_le _) dX10_less_22 ⟨rfl, hI, (rg_w rl_m2 (by decide))⟩
  · skip
    have r9 : rg r3 1 1 := rf_nel (n_eq c7) h5.1 rl_0 (by decide)
    have F10 : 1 ≤ (vh 0).toInt := w6 c7
    refine lv_aload_n hx hb dX10_less_12 rfl (lv_at hl 0 rfl) ?_
    refine lv_iconst (v := (0 : Int32)) hx hb dX10_less_13 (by decide) ?_
    refine t_Vi C hO hl.1 hA hH hI.1 (As := [.int (0 : Int32)]) (rest := []) (t_X10_otherwise l E J τ L f2 hI.1 mq tq (0 : Int32) (rg_w rl_0 (by decide)) (hh.S hI rfl) F10) my_X10_otherwise wd887 mq tq td_40 rfl rfl rfl (Nat.le_of_ble_eq_true rfl) ⟨Nat.le_of_ble_eq_true rfl, Nat.le_of_ble_eq_true rfl⟩ ⟨rfl, rfl⟩ dX10_less_14 (fun r12 L1 f11 H locs hp hH => ?_)
    obtain ⟨rfl, s13, h14⟩ := hp
    have hI := hI.call s13 (by decide)
    refine lv_goto (tgt := 22) hx hb dX10_less_17 (by decide) ?_
    exact g_iret C hr hH (Nat.zero_le _) (Nat.zero_le _) dX10_less_22 ⟨rfl, hI, h14⟩
set_option maxHeartbeats 4000000 in
set_option maxRecDepth 100000 in
theorem t_X10_by (l : Launch) (E : gE) (J : Nat → Nat) (τ : Nat → Nat) (L : List Nat) (f : gF) (hI : tI E L τ f) {q : Nat} (mq : q ∈ L) (tq : τ q = 40) (p1 : Int32) {vl vh : Nat → Int32} (hl0 : isA E L τ f 46 5 vl) (hh : isA E L τ f 47 45 vh) (hR : rowOK vl vh 0) : tMi l E J yX10_by cX10_by 2 .int (gRm (7) 0 0) [.ref q, .int p1] L f (tPi E L τ [40, 52, 53, 54, 55, 56] f (fun r f1 => rg r (-2147483648) 2147483647)) := by
  refine tMi.intro (by decide) (Nat.le_of_ble_eq_true rfl) ?_
  intro p e s m below meth c A ls C hr hA hO hH hl
  have C : gC E cX10_by 2 RX10 p s m _ meth c := C
  have hl : lv_has ls 2 [(0, .ref q), (1, .int p1)] := hl
  have hx := C.1
  have hb := C.2.1
  have hI := hI.S [40, 52, 53, 54, 55, 56]
  refine lv_aload_n hx hb dX10_by_0 rfl (lv_at hl 0 rfl) ?_
  refine lv_iconst (v := (0 : Int32)) hx hb dX10_by_1 (by decide) ?_
  refine t_put C hH hI mq tq (by decide) td_40 iX10 tyX10 tyX10_ok nmX10 rfl 0 (by decide) wd855 rfl rfl (v := .int (0 : Int32)) rfl rfl rfl ⟨_, rfl, (rg_w rl_0 (by decide))⟩ (fun _ h => nomatch h) dX10_by_2 (fun f1 H locs hH hI nf1 of1 bf1 => ?_)
  refine lv_aload_n hx hb dX10_by_5 rfl (lv_at hl 0 rfl) ?_
  refine lv_iload_n hx hb dX10_by_6 rfl (lv_at hl 1 rfl) ?_
  refine t_Vi C hO hl.1 hA hH hI.1 (As := [.int p1]) (rest := []) (t_X10_isLaw l E J τ L f1 hI.1 mq tq p1) my_X10_isLaw wd891 mq tq td_40 rfl rfl rfl (Nat.le_of_ble_eq_true rfl) ⟨Nat.le_of_ble_eq_true rfl, Nat.le_of_ble_eq_true rfl⟩ ⟨rfl, rfl⟩ dX10_by_7 (fun r3 L1 f2 H locs hp hH => ?_)
  obtain ⟨rfl, s4, h5⟩ := hp
  have hJ := hI
  have hI := hI.call s4 (by decide)
  have w6 := h5.2.2 vl vh (hl0.S hJ rfl) (hh.S hJ rfl) hR
  refine lv_if_eq (tgt := 21) hx hb dX10_by_10 (by decide) (fun c7 => ?_) (fun c7 => ?_)
  · skip
    have r8 : rg r3 0 0 := rf_eql (c_eq c7) h5.1 rl_0 (by decide)
    refine lv_bipush (v := (-2 : Int32)) hx hb dX10_by_21 (by decide) ?_
    exact g_iret C hr hH (Nat.zero_le _) (Nat.zero_le _) dX10_by_23 ⟨rfl, hI, (rg_w rl_m2 (by decide))⟩
  · skip
    have r9 : rg r3 1 1 := rf_nel (n_eq c7) h5.1 rl_0 (by decide)
    have r10 : rg p1 0 3 := h5.2.1 c7
    have F11 : 1 ≤ (vh 0).toInt := w6 c7
    refine lv_aload_n hx hb dX10_by_13 rfl (lv_at hl 0 rfl) ?_
    refine lv_iload_n hx hb dX10_by_14 rfl (lv_at hl 1 rfl) ?_
    refine t_Vi C hO hl.1 hA hH hI.1 (As := [.int p1]) (rest := []) (t_X10_incomeBy l E J τ L f2 hI.1 mq tq p1 (hh.S hI rfl) F11) my_X10_incomeBy wd895 mq tq td_40 rfl rfl rfl (Nat.le_of_ble_eq_true rfl) ⟨Nat.le_of_ble_eq_true rfl, Nat.le_of_ble_eq_true rfl⟩ ⟨rfl, rfl⟩ dX10_by_15 (fun r13 L1 f12 H locs hp hH => ?_)
    obtain ⟨rfl, s14, h15⟩ := hp
    have hI := hI.call s14 (by decide)
    refine lv_goto (tgt := 23) hx hb dX10_by_18 (by decide) ?_
    exact g_iret C hr hH (Nat.zero_le _) (Nat.zero_le _) dX10_by_23 ⟨rfl, hI, h15⟩
set_option maxHeartbeats 4000000 in
set_option maxRecDepth 100000 in
theorem t_X10_law (l : Launch) (E : gE) (J : Nat → Nat) (τ : Nat → Nat) (L : List Nat) (f : gF) (hI : tI E L τ f) {q : Nat} (mq : q ∈ L) (tq : τ q = 40) {vl vh : Nat → Int32} (hl0 : isA E L τ f 46 5 vl) (hh : isA E L τ f 47 45 vh) (hR : rowOK vl vh 0) : tMi l E J yX10_law cX10_law 3 .int (gRm (7) 0 0) [.ref q] L f (tPi E L τ [40, 52, 53, 54, 55, 56] f (fun r f1 => rg r (-2147483648) 2147483647)) := by
  refine tMi.intro (by decide) (Nat.le_of_ble_eq_true rfl) ?_
  intro p e s m below meth c A ls C hr hA hO hH hl
  have C : gC E cX10_law 3 RX10 p s m _ meth c := C
  have hl : lv_has ls 3 [(0, .ref q)] := hl
  have hx := C.1
  have hb := C.2.1
  have hI := hI.S [40, 52, 53, 54, 55, 56]
  have cut19 : ∀ (n : Nat) (fh19 : gF) (H : Heap) (locs : List Loc) (ls : Array Slot) (v19_1 : Int32) (v19_2 : Int32), 4 - v19_2.toInt < (n : Int) → tS E L τ [40, 52, 53, 54, 55, 56] f fh19 → gH E A L fh19 s.heap H locs → rg v19_1 0 3 → rg v19_2 1 4 → 1 ≤ (vh 0).toInt → lv_has ls 3 [(0, .ref q), (1, .int v19_1), (2, .int v19_2)] → W p l e (gRm (7) 0 0) s m [.ref q].toArray below meth c H locs 0 0 (MQ below (gQi E A (tPi E L τ [40, 52, 53, 54, 55, 56] f (fun r f1 => rg r (-2147483648) 2147483647))) [.ref q].toArray s (gRm (7) 0 0).cells (gRm (7) 0 0).slots A) (F0 m 19 ls []) := by
    intro n
    induction n with
    | zero =>
      intro fh19 H locs ls v19_1 v19_2 hfu19 hI hH r_v19_1 r_v19_2 F19_W hl
      exact (fu_0 hfu19 r_v19_2).elim
    | succ n ih19 =>
      intro fh19 H locs ls v19_1 v19_2 hfu19 hI hH r_v19_1 r_v19_2 F19_W hl
      refine lv_iload_n hx hb dX10_law_19 rfl (lv_at hl 2 rfl) ?_
      refine lv_iconst (v := (4 : Int32)) hx hb dX10_law_20 (by decide) ?_
      refine lv_icmp_ge (tgt := 45) hx hb dX10_law_21 (by decide) (fun c1 => ?_) (fun c1 => ?_)
      · skip
        have r2 : rg v19_2 4 4 := rf_ler (c_le c1) rl_4 r_v19_2 (by decide)
        refine lv_iload_n hx hb dX10_law_45 rfl (lv_at hl 1 rfl) ?_
        exact g_iret C hr hH (Nat.zero_le _) (Nat.zero_le _) dX10_law_46 ⟨rfl, hI, (rg_w r_v19_1 (by decide))⟩
      · skip
        have r3 : rg v19_2 1 3 := rf_ltl (n_le c1) r_v19_2 rl_4 (by decide)
        refine lv_aload_n hx hb dX10_law_24 rfl (lv_at hl 0 rfl) ?_
        refine lv_iload_n hx hb dX10_law_25 rfl (lv_at hl 2 rfl) ?_
        refine t_Vi C hO hl.1 hA hH hI.1 (As := [.int v19_2]) (rest := []) (t_X10_incomeBy l E J τ L fh19 hI.1 mq tq v19_2 (hh.S hI rfl) F19_W) my_X10_incomeBy wd895 mq tq td_40 rfl rfl rfl (Nat.le_of_ble_eq_true rfl) ⟨Nat.le_of_ble_eq_true rfl, Nat.le_of_ble_eq_true rfl⟩ ⟨rfl, rfl⟩ dX10_law_26 (fun r5 L1 f4 H locs hp hH => ?_)
        obtain ⟨rfl, s6, h7⟩ := hp
        have hI := hI.call s6 (by decide)
        refine lv_aload_n hx hb dX10_law_29 rfl (lv_at hl 0 rfl) ?_
        refine lv_iload_n hx hb dX10_law_30 rfl (lv_at hl 1 rfl) ?_
        refine t_Vi C hO hl.1 hA hH hI.1 (As := [.int v19_1]) (rest := [.int r5]) (t_X10_incomeBy l E J τ L f4 hI.1 mq tq v19_1 (hh.S hI rfl) F19_W) my_X10_incomeBy wd895 mq tq td_40 rfl rfl rfl (Nat.le_of_ble_eq_true rfl) ⟨Nat.le_of_ble_eq_true rfl, Nat.le_of_ble_eq_true rfl⟩ ⟨rfl, rfl⟩ dX10_law_31 (fun r9 L1 f8 H locs hp hH => ?_)
        obtain ⟨rfl, s10, h11⟩ := hp
        have hI := hI.call s10 (by decide)
        refine lv_icmp_le (tgt := 39) hx hb dX10_law_34 (by decide) (fun c12 => ?_) (fun c12 => ?_)
        · skip
          obtain ⟨z13, ez13⟩ : ∃ y : Int32, y = v19_2 + (1 : Int32) := ⟨_, rfl⟩
          have r14 : rg z13 2 4 := rg_add ez13 r3 rl_1 (by decide)
          have a15 : z13.toInt = v19_2.toInt + 1 := ai_add ez13 r3 tl_1 (by decide)
          refine lv_iinc (v := z13) (lv' := [(2, .int z13), (0, .ref q), (1, .int v19_1)]) hx hb dX10_law_39 hl (k := 2) rfl (by rw [ez13]; rfl) (by decide) rfl (fun ls hl => ?_)
          refine lv_goto (tgt := 19) hx hb dX10_law_42 (by decide) ?_
          exact ih19 _ _ _ _ v19_1 z13 (fu_s hfu19 a15 (by decide)) hI hH r_v19_1 (rg_w r14 (by decide)) F19_W (lv_sub hl [1, 2, 0] rfl)
        · skip
          have r16 : rg r9 (-2147483648) 2147483646 := rf_ltl (n_le c12) h11 h7 (by decide)
          have r17 : rg r5 (-2147483647) 2147483647 := rf_ltr (n_le c12) h11 h7 (by decide)
          refine lv_iload_n hx hb dX10_law_37 rfl (lv_at hl 2 rfl) ?_
          refine lv_istore_n (lv' := [(1, .int v19_2), (0, .ref q), (2, .int v19_2)]) hx hb dX10_law_38 rfl hl (by decide) rfl (fun ls hl => ?_)
          obtain ⟨z18, ez18⟩ : ∃ y : Int32, y = v19_2 + (1 : Int32) := ⟨_, rfl⟩
          have r19 : rg z18 2 4 := rg_add ez18 r3 rl_1 (by decide)
          have a20 : z18.toInt = v19_2.toInt + 1 := ai_add ez18 r3 tl_1 (by decide)
          refine lv_iinc (v := z18) (lv' := [(2, .int z18), (1, .int v19_2), (0, .ref q)]) hx hb dX10_law_39 hl (k := 2) rfl (by rw [ez18]; rfl) (by decide) rfl (fun ls hl => ?_)
          refine lv_goto (tgt := 19) hx hb dX10_law_42 (by decide) ?_
          exact ih19 _ _ _ _ v19_2 z18 (fu_s hfu19 a20 (by decide)) hI hH (rg_w r3 (by decide)) (rg_w r19 (by decide)) F19_W (lv_sub hl [2, 1, 0] rfl)
  refine lv_aload_n hx hb dX10_law_0 rfl (lv_at hl 0 rfl) ?_
  refine lv_iconst (v := (0 : Int32)) hx hb dX10_law_1 (by decide) ?_
  refine t_put C hH hI mq tq (by decide) td_40 iX10 tyX10 tyX10_ok nmX10 rfl 0 (by decide) wd855 rfl rfl (v := .int (0 : Int32)) rfl rfl rfl ⟨_, rfl, (rg_w rl_0 (by decide))⟩ (fun _ h => nomatch h) dX10_law_2 (fun f21 H locs hH hI nf21 of21 bf21 => ?_)
  refine lv_aload_n hx hb dX10_law_5 rfl (lv_at hl 0 rfl) ?_
  refine t_Vi C hO hl.1 hA hH hI.1 (As := []) (rest := []) (t_X10_isLand l E J τ L f21 hI.1 mq tq) my_X10_isLand wd768 mq tq td_40 rfl rfl rfl (Nat.le_of_ble_eq_true rfl) ⟨Nat.le_of_ble_eq_true rfl, Nat.le_of_ble_eq_true rfl⟩ ⟨rfl, rfl⟩ dX10_law_6 (fun r23 L1 f22 H locs hp hH => ?_)
  obtain ⟨rfl, s24, h25⟩ := hp
  have hJ := hI
  have hI := hI.call s24 (by decide)
  have w26 := h25.2 vl vh (hl0.S hJ rfl) (hh.S hJ rfl) hR
  refine lv_if_ne (tgt := 15) hx hb dX10_law_9 (by decide) (fun c27 => ?_) (fun c27 => ?_)
  · skip
    have r28 : rg r23 1 1 := rf_nel (n_eq c27) h25.1 rl_0 (by decide)
    have F29 : 1 ≤ (vh 0).toInt := w26 c27
    refine lv_iconst (v := (0 : Int32)) hx hb dX10_law_15 (by decide) ?_
    refine lv_istore_n (lv' := [(1, .int (0 : Int32)), (0, .ref q)]) hx hb dX10_law_16 rfl hl (by decide) rfl (fun ls hl => ?_)
    refine lv_iconst (v := (1 : Int32)) hx hb dX10_law_17 (by decide) ?_
    refine lv_istore_n (lv' := [(2, .int (1 : Int32)), (1, .int (0 : Int32)), (0, .ref q)]) hx hb dX10_law_18 rfl hl (by decide) rfl (fun ls hl => ?_)
    exact cut19 4 _ _ _ _ (0 : Int32) (1 : Int32) (fu_i 4 rl_1 (by decide)) hI hH (rg_w rl_0 (by decide)) (rg_w rl_1 (by decide)) F29 (lv_sub hl [2, 1, 0] rfl)
  · skip
    have r30 : rg r23 0 0 := rf_eql (c_eq c27) h25.1 rl_0 (by decide)
    refine lv_bipush (v := (-2 : Int32)) hx hb dX10_law_12 (by decide) ?_
    exact g_iret C hr hH (Nat.zero_le _) (Nat.zero_le _) dX10_law_14 ⟨rfl, hI, (rg_w rl_m2 (by decide))⟩
set_option maxHeartbeats 4000000 in
set_option maxRecDepth 100000 in
theorem t_X10_swaps (l : Launch) (E : gE) (J : Nat → Nat) (τ : Nat → Nat) (L : List Nat) (f : gF) (hI : tI E L τ f) {q : Nat} (mq : q ∈ L) (tq : τ q = 40) {vl vh : Nat → Int32} (hl0 : isA E L τ f 46 5 vl) (hh : isA E L τ f 47 45 vh) (hR : rowOK vl vh 0) : tMi l E J yX10_swaps cX10_swaps 1 .int (gRm (8) 0 0) [.ref q] L f (tPi E L τ [40, 52, 53, 54, 55, 56] f (fun r f1 => rg r (-2147483648) 2147483647)) := by
  refine tMi.intro (by decide) (Nat.le_of_ble_eq_true rfl) ?_
  intro p e s m below meth c A ls C hr hA hO hH hl
  have C : gC E cX10_swaps 1 RX10 p s m _ meth c := C
  have hl : lv_has ls 1 [(0, .ref q)] := hl
  have hx := C.1
  have hb := C.2.1
  have hI := hI.S [40, 52, 53, 54, 55, 56]
  refine lv_aload_n hx hb dX10_swaps_0 rfl (lv_at hl 0 rfl) ?_
  refine lv_iconst (v := (0 : Int32)) hx hb dX10_swaps_1 (by decide) ?_
  refine t_put C hH hI mq tq (by decide) td_40 iX10 tyX10 tyX10_ok nmX10 rfl 0 (by decide) wd855 rfl rfl (v := .int (0 : Int32)) rfl rfl rfl ⟨_, rfl, (rg_w rl_0 (by decide))⟩ (fun _ h => nomatch h) dX10_swaps_2 (fun f1 H locs hH hI nf1 of1 bf1 => ?_)
  refine lv_aload_n hx hb dX10_swaps_5 rfl (lv_at hl 0 rfl) ?_
  refine t_Vi C hO hl.1 hA hH hI.1 (As := []) (rest := []) (t_X10_isLand l E J τ L f1 hI.1 mq tq) my_X10_isLand wd768 mq tq td_40 rfl rfl rfl (Nat.le_of_ble_eq_true rfl) ⟨Nat.le_of_ble_eq_true rfl, Nat.le_of_ble_eq_true rfl⟩ ⟨rfl, rfl⟩ dX10_swaps_6 (fun r3 L1 f2 H locs hp hH => ?_)
  obtain ⟨rfl, s4, h5⟩ := hp
  have hJ := hI
  have hI := hI.call s4 (by decide)
  have w6 := h5.2 vl vh (hl0.S hJ rfl) (hh.S hJ rfl) hR
  refine lv_if_eq (tgt := 19) hx hb dX10_swaps_9 (by decide) (fun c7 => ?_) (fun c7 => ?_)
  · skip
    have r8 : rg r3 0 0 := rf_eql (c_eq c7) h5.1 rl_0 (by decide)
    refine lv_bipush (v := (-2 : Int32)) hx hb dX10_swaps_19 (by decide) ?_
    exact g_iret C hr hH (Nat.zero_le _) (Nat.zero_le _) dX10_swaps_21 ⟨rfl, hI, (rg_w rl_m2 (by decide))⟩
  · skip
    have r9 : rg r3 1 1 := rf_nel (n_eq c7) h5.1 rl_0 (by decide)
    have F10 : 1 ≤ (vh 0).toInt := w6 c7
    refine lv_aload_n hx hb dX10_swaps_12 rfl (lv_at hl 0 rfl) ?_
    refine t_Vi C hO hl.1 hA hH hI.1 (As := []) (rest := []) (t_X10_swapsOf l E J τ L f2 hI.1 mq tq (hh.S hI rfl) F10) my_X10_swapsOf wd899 mq tq td_40 rfl rfl rfl (Nat.le_of_ble_eq_true rfl) ⟨Nat.le_of_ble_eq_true rfl, Nat.le_of_ble_eq_true rfl⟩ ⟨rfl, rfl⟩ dX10_swaps_13 (fun r12 L1 f11 H locs hp hH => ?_)
    obtain ⟨rfl, s13, h14⟩ := hp
    have hI := hI.call s13 (by decide)
    refine lv_goto (tgt := 21) hx hb dX10_swaps_16 (by decide) ?_
    exact g_iret C hr hH (Nat.zero_le _) (Nat.zero_le _) dX10_swaps_21 ⟨rfl, hI, h14⟩
set_option maxHeartbeats 4000000 in
set_option maxRecDepth 100000 in
theorem t_X10_swap (l : Launch) (E : gE) (J : Nat → Nat) (τ : Nat → Nat) (L : List Nat) (f : gF) (hI : tI E L τ f) {q : Nat} (mq : q ∈ L) (tq : τ q = 40) {vl vh : Nat → Int32} (hl0 : isA E L τ f 46 5 vl) (hh : isA E L τ f 47 45 vh) (hR : rowOK vl vh 0) : tMi l E J yX10_swap cX10_swap 1 .int (gRm (8) 0 0) [.ref q] L f (tPi E L τ [40, 52, 53, 54, 55, 56] f (fun r f1 => rg r (-2147483648) 2147483647)) := by
  refine tMi.intro (by decide) (Nat.le_of_ble_eq_true rfl) ?_
  intro p e s m below meth c A ls C hr hA hO hH hl
  have C : gC E cX10_swap 1 RX10 p s m _ meth c := C
  have hl : lv_has ls 1 [(0, .ref q)] := hl
  have hx := C.1
  have hb := C.2.1
  have hI := hI.S [40, 52, 53, 54, 55, 56]
  refine lv_aload_n hx hb dX10_swap_0 rfl (lv_at hl 0 rfl) ?_
  refine lv_iconst (v := (0 : Int32)) hx hb dX10_swap_1 (by decide) ?_
  refine t_put C hH hI mq tq (by decide) td_40 iX10 tyX10 tyX10_ok nmX10 rfl 0 (by decide) wd855 rfl rfl (v := .int (0 : Int32)) rfl rfl rfl ⟨_, rfl, (rg_w rl_0 (by decide))⟩ (fun _ h => nomatch h) dX10_swap_2 (fun f1 H locs hH hI nf1 of1 bf1 => ?_)
  refine lv_aload_n hx hb dX10_swap_5 rfl (lv_at hl 0 rfl) ?_
  refine t_Vi C hO hl.1 hA hH hI.1 (As := []) (rest := []) (t_X10_isLand l E J τ L f1 hI.1 mq tq) my_X10_isLand wd768 mq tq td_40 rfl rfl rfl (Nat.le_of_ble_eq_true rfl) ⟨Nat.le_of_ble_eq_true rfl, Nat.le_of_ble_eq_true rfl⟩ ⟨rfl, rfl⟩ dX10_swap_6 (fun r3 L1 f2 H locs hp hH => ?_)
  obtain ⟨rfl, s4, h5⟩ := hp
  have hJ := hI
  have hI := hI.call s4 (by decide)
  have w6 := h5.2 vl vh (hl0.S hJ rfl) (hh.S hJ rfl) hR
  refine lv_if_ne (tgt := 15) hx hb dX10_swap_9 (by decide) (fun c7 => ?_) (fun c7 => ?_)
  · skip
    have r8 : rg r3 1 1 := rf_nel (n_eq c7) h5.1 rl_0 (by decide)
    have F9 : 1 ≤ (vh 0).toInt := w6 c7
    refine lv_aload_n hx hb dX10_swap_15 rfl (lv_at hl 0 rfl) ?_
    refine t_Vi C hO hl.1 hA hH hI.1 (As := []) (rest := []) (t_X10_swapsOf l E J τ L f2 hI.1 mq tq (hh.S hI rfl) F9) my_X10_swapsOf wd899 mq tq td_40 rfl rfl rfl (Nat.le_of_ble_eq_true rfl) ⟨Nat.le_of_ble_eq_true rfl, Nat.le_of_ble_eq_true rfl⟩ ⟨rfl, rfl⟩ dX10_swap_16 (fun r11 L1 f10 H locs hp hH => ?_)
    obtain ⟨rfl, s12, h13⟩ := hp
    have hI := hI.call s12 (by decide)
    refine lv_pop hx hb dX10_swap_19 rfl ?_
    refine lv_aload_n hx hb dX10_swap_20 rfl (lv_at hl 0 rfl) ?_
    refine t_geti C hH hI.1 mq tq td_40 iX10 rfl 44 (by decide) wd843 rfl rfl dX10_swap_21 (fun z14 rz14 => ?_)
    exact g_iret C hr hH (Nat.zero_le _) (Nat.zero_le _) dX10_swap_24 ⟨rfl, hI, rz14⟩
  · skip
    have r15 : rg r3 0 0 := rf_eql (c_eq c7) h5.1 rl_0 (by decide)
    refine lv_bipush (v := (-2 : Int32)) hx hb dX10_swap_12 (by decide) ?_
    exact g_iret C hr hH (Nat.zero_le _) (Nat.zero_le _) dX10_swap_14 ⟨rfl, hI, (rg_w rl_m2 (by decide))⟩
set_option maxHeartbeats 4000000 in
set_option maxRecDepth 100000 in
theorem t_X10_rests (l : Launch) (E : gE) (J : Nat → Nat) (τ : Nat → Nat) (L : List Nat) (f : gF) (hI : tI E L τ f) {q : Nat} (mq : q ∈ L) (tq : τ q = 40) (p1 : Int32) (p2 : Int32) {vl vh : Nat → Int32} (hl0 : isA E L τ f 46 5 vl) (hh : isA E L τ f 47 45 vh) (hR : rowOK vl vh 0) : tMi l E J yX10_rests cX10_rests 8 .int (gRm (7) 0 0) [.ref q, .int p1, .int p2] L f (tPi E L τ [40, 52, 53, 54, 55, 56] f (fun r f1 => rg r (-2147483648) 2147483647)) := by
  refine tMi.intro (by decide) (Nat.le_of_ble_eq_true rfl) ?_
  intro p e s m below meth c A ls C hr hA hO hH hl
  have C : gC E cX10_rests 8 RX10 p s m _ meth c := C
  have hl : lv_has ls 8 [(0, .ref q), (1, .int p1), (2, .int p2)] := hl
  have hx := C.1
  have hb := C.2.1
  have hI := hI.S [40, 52, 53, 54, 55, 56]
  have cut22 : ∀ (n : Nat) (fh22 : gF) (H : Heap) (locs : List Loc) (ls : Array Slot) (v22_3 : Int32) (v22_4 : Int32), 4 - v22_4.toInt < (n : Int) → tS E L τ [40, 52, 53, 54, 55, 56] f fh22 → gH E A L fh22 s.heap H locs → rg v22_3 0 15 → rg v22_4 0 4 → rg p1 0 5 → rg p2 0 5 → 1 ≤ (vh 0).toInt → lv_has ls 8 [(0, .ref q), (1, .int p1), (2, .int p2), (3, .int v22_3), (4, .int v22_4)] → W p l e (gRm (7) 0 0) s m [.ref q, .int p1, .int p2].toArray below meth c H locs 0 0 (MQ below (gQi E A (tPi E L τ [40, 52, 53, 54, 55, 56] f (fun r f1 => rg r (-2147483648) 2147483647))) [.ref q, .int p1, .int p2].toArray s (gRm (7) 0 0).cells (gRm (7) 0 0).slots A) (F0 m 22 ls []) := by
    intro n
    induction n with
    | zero =>
      intro fh22 H locs ls v22_3 v22_4 hfu22 hI hH r_v22_3 r_v22_4 r22_p1 r22_p2 F22_W hl
      exact (fu_0 hfu22 r_v22_4).elim
    | succ n ih22 =>
      intro fh22 H locs ls v22_3 v22_4 hfu22 hI hH r_v22_3 r_v22_4 r22_p1 r22_p2 F22_W hl
      have cut98 : ∀ (fh98 : gF) (H : Heap) (locs : List Loc) (ls : Array Slot) (v98_5 : Int32) (v98_6 : Int32), tS E L τ [40, 52, 53, 54, 55, 56] f fh98 → gH E A L fh98 s.heap H locs → rg v98_5 0 1 → rg v98_6 0 1 → rg v22_4 0 3 → lv_has ls 8 [(0, .ref q), (1, .int p1), (2, .int p2), (3, .int v22_3), (4, .int v22_4), (5, .int v98_5), (6, .int v98_6)] → W p l e (gRm (7) 0 0) s m [.ref q, .int p1, .int p2].toArray below meth c H locs 0 0 (MQ below (gQi E A (tPi E L τ [40, 52, 53, 54, 55, 56] f (fun r f1 => rg r (-2147483648) 2147483647))) [.ref q, .int p1, .int p2].toArray s (gRm (7) 0 0).cells (gRm (7) 0 0).slots A) (F0 m 98 ls []) := by
        intro fh98 H locs ls v98_5 v98_6 hI hH r_v98_5 r_v98_6 r98_v22_4 hl
        refine lv_iconst (v := (0 : Int32)) hx hb dX10_rests_98 (by decide) ?_
        refine lv_istore (lv' := [(7, .int (0 : Int32)), (0, .ref q), (1, .int p1), (2, .int p2), (3, .int v22_3), (4, .int v22_4), (5, .int v98_5), (6, .int v98_6)]) hx hb dX10_rests_99 hl (by decide) rfl (fun ls hl => ?_)
        refine lv_iload_n hx hb dX10_rests_101 rfl (lv_at hl 4 rfl) ?_
        refine lv_iload hx hb dX10_rests_102 (lv_at hl 0 rfl) ?_
        refine lv_if_eq (tgt := 114) hx hb dX10_rests_104 (by decide) (fun _ => ?_) (fun h => absurd (by decide) h)
        refine lv_iconst (v := (0 : Int32)) hx hb dX10_rests_114 (by decide) ?_
        refine lv_ior hx hb dX10_rests_115 ?_
        refine lv_topi (fun z1 ez1 => ?_)
        have r2 : rg z1 0 15 := rg_or 4 ez1 r_v22_3 rl_0 (by decide)
        refine lv_istore_n (lv' := [(3, .int z1), (7, .int (0 : Int32)), (0, .ref q), (1, .int p1), (2, .int p2), (4, .int v22_4), (5, .int v98_5), (6, .int v98_6)]) hx hb dX10_rests_116 rfl hl (by decide) rfl (fun ls hl => ?_)
        obtain ⟨z3, ez3⟩ : ∃ y : Int32, y = v22_4 + (1 : Int32) := ⟨_, rfl⟩
        have r4 : rg z3 1 4 := rg_add ez3 r98_v22_4 rl_1 (by decide)
        have a5 : z3.toInt = v22_4.toInt + 1 := ai_add ez3 r98_v22_4 tl_1 (by decide)
        refine lv_iinc (v := z3) (lv' := [(4, .int z3), (3, .int z1), (7, .int (0 : Int32)), (0, .ref q), (1, .int p1), (2, .int p2), (5, .int v98_5), (6, .int v98_6)]) hx hb dX10_rests_117 hl (k := 5) rfl (by rw [ez3]; rfl) (by decide) rfl (fun ls hl => ?_)
        refine lv_goto (tgt := 22) hx hb dX10_rests_120 (by decide) ?_
        exact ih22 _ _ _ _ z1 z3 (fu_s hfu22 a5 (by decide)) hI hH r2 (rg_w r4 (by decide)) r22_p1 r22_p2 F22_W (lv_sub hl [3, 4, 5, 1, 0] rfl)
      refine lv_iload hx hb dX10_rests_22 (lv_at hl 4 rfl) ?_
      refine lv_iconst (v := (4 : Int32)) hx hb dX10_rests_24 (by decide) ?_
      refine lv_icmp_ge (tgt := 123) hx hb dX10_rests_25 (by decide) (fun c6 => ?_) (fun c6 => ?_)
      · skip
        have r7 : rg v22_4 4 4 := rf_ler (c_le c6) rl_4 r_v22_4 (by decide)
        refine lv_iload_n hx hb dX10_rests_123 rfl (lv_at hl 3 rfl) ?_
        exact g_iret C hr hH (Nat.zero_le _) (Nat.zero_le _) dX10_rests_124 ⟨rfl, hI, (rg_w r_v22_3 (by decide))⟩
      · skip
        have r8 : rg v22_4 0 3 := rf_ltl (n_le c6) r_v22_4 rl_4 (by decide)
        refine lv_iload hx hb dX10_rests_28 (lv_at hl 4 rfl) ?_
        refine lv_iconst (v := (2 : Int32)) hx hb dX10_rests_30 (by decide) ?_
        refine lv_irem hx hb dX10_rests_31 (by decide) ?_
        refine lv_topi (fun z9 ez9 => ?_)
        have r10 : rg z9 0 1 := rg_rem ez9 r8 tl_2 (by decide)
        refine lv_istore (lv' := [(5, .int z9), (0, .ref q), (1, .int p1), (2, .int p2), (3, .int v22_3), (4, .int v22_4)]) hx hb dX10_rests_32 hl (by decide) rfl (fun ls hl => ?_)
        refine lv_iload hx hb dX10_rests_34 (lv_at hl 5 rfl) ?_
        refine lv_iconst (v := (2 : Int32)) hx hb dX10_rests_36 (by decide) ?_
        refine lv_idiv hx hb dX10_rests_37 (by decide) ?_
        refine lv_topi (fun z11 ez11 => ?_)
        have r12 : rg z11 0 1 := rg_div ez11 r8 tl_2 (by decide)
        refine lv_istore (lv' := [(6, .int z11), (5, .int z9), (0, .ref q), (1, .int p1), (2, .int p2), (3, .int v22_3), (4, .int v22_4)]) hx hb dX10_rests_38 hl (by decide) rfl (fun ls hl => ?_)
        refine lv_aload_n hx hb dX10_rests_40 rfl (lv_at hl 2 rfl) ?_
        refine lv_iload_n hx hb dX10_rests_41 rfl (lv_at hl 3 rfl) ?_
        refine lv_iload_n hx hb dX10_rests_42 rfl (lv_at hl 3 rfl) ?_
        refine lv_iload_n hx hb dX10_rests_43 rfl (lv_at hl 4 rfl) ?_
        refine lv_iconst (v := (1 : Int32)) hx hb dX10_rests_44 (by decide) ?_
        refine lv_iload hx hb dX10_rests_45 (lv_at hl 1 rfl) ?_
        refine lv_isub hx hb dX10_rests_47 ?_
        refine lv_topi (fun z13 ez13 => ?_)
        have r14 : rg z13 0 1 := rg_sub ez13 rl_1 r10 (by decide)
        refine lv_iload hx hb dX10_rests_48 (lv_at hl 0 rfl) ?_
        refine t_Vi C hO hl.1 hA hH hI.1 (As := [.int p1, .int p1, .int p2, .int z13, .int z11]) (rest := []) (t_X10_hasBy l E J τ L fh22 hI.1 mq tq p1 r22_p1 p1 r22_p1 p2 r22_p2 z13 z11 (hh.S hI rfl) F22_W) my_X10_hasBy wd903 mq tq td_40 rfl rfl rfl (Nat.le_of_ble_eq_true rfl) ⟨Nat.le_of_ble_eq_true rfl, Nat.le_of_ble_eq_true rfl⟩ ⟨rfl, rfl⟩ dX10_rests_50 (fun r16 L1 f15 H locs hp hH => ?_)
        obtain ⟨rfl, s17, h18⟩ := hp
        have hI := hI.call s17 (by decide)
        refine lv_aload_n hx hb dX10_rests_53 rfl (lv_at hl 2 rfl) ?_
        refine lv_iload_n hx hb dX10_rests_54 rfl (lv_at hl 3 rfl) ?_
        refine lv_iload_n hx hb dX10_rests_55 rfl (lv_at hl 3 rfl) ?_
        refine lv_iload_n hx hb dX10_rests_56 rfl (lv_at hl 4 rfl) ?_
        refine lv_iload hx hb dX10_rests_57 (lv_at hl 1 rfl) ?_
        refine lv_iload hx hb dX10_rests_59 (lv_at hl 0 rfl) ?_
        refine t_Vi C hO hl.1 hA hH hI.1 (As := [.int p1, .int p1, .int p2, .int z9, .int z11]) (rest := [.int r16]) (t_X10_hasBy l E J τ L f15 hI.1 mq tq p1 r22_p1 p1 r22_p1 p2 r22_p2 z9 z11 (hh.S hI rfl) F22_W) my_X10_hasBy wd903 mq tq td_40 rfl rfl rfl (Nat.le_of_ble_eq_true rfl) ⟨Nat.le_of_ble_eq_true rfl, Nat.le_of_ble_eq_true rfl⟩ ⟨rfl, rfl⟩ dX10_rests_61 (fun r20 L1 f19 H locs hp hH => ?_)
        obtain ⟨rfl, s21, h22⟩ := hp
        have hI := hI.call s21 (by decide)
        refine lv_icmp_gt (tgt := 98) hx hb dX10_rests_64 (by decide) (fun c23 => ?_) (fun c23 => ?_)
        · skip
          have r24 : rg r20 (-2147483648) 2147483646 := rf_ltl (c_lt c23) h22 h18 (by decide)
          have r25 : rg r16 (-2147483647) 2147483647 := rf_ltr (c_lt c23) h22 h18 (by decide)
          exact cut98 _ _ _ _ z9 z11 hI hH r10 r12 r8 (lv_sub hl [2, 3, 4, 5, 6, 1, 0] rfl)
        · skip
          refine lv_aload_n hx hb dX10_rests_67 rfl (lv_at hl 2 rfl) ?_
          refine lv_iload_n hx hb dX10_rests_68 rfl (lv_at hl 4 rfl) ?_
          refine lv_iload_n hx hb dX10_rests_69 rfl (lv_at hl 3 rfl) ?_
          refine lv_iload_n hx hb dX10_rests_70 rfl (lv_at hl 4 rfl) ?_
          refine lv_iload hx hb dX10_rests_71 (lv_at hl 1 rfl) ?_
          refine lv_iconst (v := (1 : Int32)) hx hb dX10_rests_73 (by decide) ?_
          refine lv_iload hx hb dX10_rests_74 (lv_at hl 0 rfl) ?_
          refine lv_isub hx hb dX10_rests_76 ?_
          refine lv_topi (fun z26 ez26 => ?_)
          have r27 : rg z26 0 1 := rg_sub ez26 rl_1 r12 (by decide)
          refine t_Vi C hO hl.1 hA hH hI.1 (As := [.int p2, .int p1, .int p2, .int z9, .int z26]) (rest := []) (t_X10_hasBy l E J τ L f19 hI.1 mq tq p2 r22_p2 p1 r22_p1 p2 r22_p2 z9 z26 (hh.S hI rfl) F22_W) my_X10_hasBy wd903 mq tq td_40 rfl rfl rfl (Nat.le_of_ble_eq_true rfl) ⟨Nat.le_of_ble_eq_true rfl, Nat.le_of_ble_eq_true rfl⟩ ⟨rfl, rfl⟩ dX10_rests_77 (fun r29 L1 f28 H locs hp hH => ?_)
          obtain ⟨rfl, s30, h31⟩ := hp
          have hI := hI.call s30 (by decide)
          refine lv_aload_n hx hb dX10_rests_80 rfl (lv_at hl 2 rfl) ?_
          refine lv_iload_n hx hb dX10_rests_81 rfl (lv_at hl 4 rfl) ?_
          refine lv_iload_n hx hb dX10_rests_82 rfl (lv_at hl 3 rfl) ?_
          refine lv_iload_n hx hb dX10_rests_83 rfl (lv_at hl 4 rfl) ?_
          refine lv_iload hx hb dX10_rests_84 (lv_at hl 1 rfl) ?_
          refine lv_iload hx hb dX10_rests_86 (lv_at hl 0 rfl) ?_
          refine t_Vi C hO hl.1 hA hH hI.1 (As := [.int p2, .int p1, .int p2, .int z9, .int z11]) (rest := [.int r29]) (t_X10_hasBy l E J τ L f28 hI.1 mq tq p2 r22_p2 p1 r22_p1 p2 r22_p2 z9 z11 (hh.S hI rfl) F22_W) my_X10_hasBy wd903 mq tq td_40 rfl rfl rfl (Nat.le_of_ble_eq_true rfl) ⟨Nat.le_of_ble_eq_true rfl, Nat.le_of_ble_eq_true rfl⟩ ⟨rfl, rfl⟩ dX10_rests_88 (fun r33 L1 f32 H locs hp hH => ?_)
          obtain ⟨rfl, s34, h35⟩ := hp
          have hI := hI.call s34 (by decide)
          refine lv_icmp_gt (tgt := 98) hx hb dX10_rests_91 (by decide) (fun c36 => ?_) (fun c36 => ?_)
          · skip
            have r37 : rg r33 (-2147483648) 2147483646 := rf_ltl (c_lt c36) h35 h31 (by decide)
            have r38 : rg r29 (-2147483647) 2147483647 := rf_ltr (c_lt c36) h35 h31 (by decide)
            exact cut98 _ _ _ _ z9 z11 hI hH r10 r12 r8 (lv_sub hl [2, 3, 4, 5, 6, 1, 0] rfl)
          · skip
            refine lv_iconst (v := (1 : Int32)) hx hb dX10_rests_94 (by decide) ?_
            refine lv_goto (tgt := 99) hx hb dX10_rests_95 (by decide) ?_
            refine lv_istore (lv' := [(7, .int (1 : Int32)), (6, .int z11), (5, .int z9), (0, .ref q), (1, .int p1), (2, .int p2), (3, .int v22_3), (4, .int v22_4)]) hx hb dX10_rests_99 hl (by decide) rfl (fun ls hl => ?_)
            refine lv_iload_n hx hb dX10_rests_101 rfl (lv_at hl 6 rfl) ?_
            refine lv_iload hx hb dX10_rests_102 (lv_at hl 0 rfl) ?_
            refine lv_if_eq (tgt := 114) hx hb dX10_rests_104 (by decide) (fun h => absurd h (by decide)) (fun _ => ?_)
            refine lv_iconst (v := (1 : Int32)) hx hb dX10_rests_107 (by decide) ?_
            refine lv_iload hx hb dX10_rests_108 (lv_at hl 7 rfl) ?_
            refine lv_ishl hx hb dX10_rests_110 ?_
            refine lv_topi (fun z39 ez39 => ?_)
            have r40 : rg z39 1 8 := rg_shl 0 3 ez39 r8 (by decide)
            refine lv_goto (tgt := 115) hx hb dX10_rests_111 (by decide) ?_
            refine lv_ior hx hb dX10_rests_115 ?_
            refine lv_topi (fun z41 ez41 => ?_)
            have r42 : rg z41 0 15 := rg_or 4 ez41 r_v22_3 r40 (by decide)
            refine lv_istore_n (lv' := [(3, .int z41), (7, .int (1 : Int32)), (6, .int z11), (5, .int z9), (0, .ref q), (1, .int p1), (2, .int p2), (4, .int v22_4)]) hx hb dX10_rests_116 rfl hl (by decide) rfl (fun ls hl => ?_)
            obtain ⟨z43, ez43⟩ : ∃ y : Int32, y = v22_4 + (1 : Int32) := ⟨_, rfl⟩
            have r44 : rg z43 1 4 := rg_add ez43 r8 rl_1 (by decide)
            have a45 : z43.toInt = v22_4.toInt + 1 := ai_add ez43 r8 tl_1 (by decide)
            refine lv_iinc (v := z43) (lv' := [(4, .int z43), (3, .int z41), (7, .int (1 : Int32)), (6, .int z11), (5, .int z9), (0, .ref q), (1, .int p1), (2, .int p2)]) hx hb dX10_rests_117 hl (k := 7) rfl (by rw [ez43]; rfl) (by decide) rfl (fun ls hl => ?_)
            refine lv_goto (tgt := 22) hx hb dX10_rests_120 (by decide) ?_
            exact ih22 _ _ _ _ z41 z43 (fu_s hfu22 a45 (by decide)) hI hH r42 (rg_w r44 (by decide)) r22_p1 r22_p2 F22_W (lv_sub hl [5, 6, 7, 1, 0] rfl)
  refine lv_aload_n hx hb dX10_rests_0 rfl (lv_at hl 0 rfl) ?_
  refine lv_iconst (v := (0 : Int32)) hx hb dX10_rests_1 (by decide) ?_
  refine t_put C hH hI mq tq (by decide) td_40 iX10 tyX10 tyX10_ok nmX10 rfl 0 (by decide) wd855 rfl rfl (v := .int (0 : Int32)) rfl rfl rfl ⟨_, rfl, (rg_w rl_0 (by decide))⟩ (fun _ h => nomatch h) dX10_rests_2 (fun f46 H locs hH hI nf46 of46 bf46 => ?_)
  refine lv_aload_n hx hb dX10_rests_5 rfl (lv_at hl 0 rfl) ?_
  refine lv_iload_n hx hb dX10_rests_6 rfl (lv_at hl 1 rfl) ?_
  refine lv_iload_n hx hb dX10_rests_7 rfl (lv_at hl 2 rfl) ?_
  refine t_Vi C hO hl.1 hA hH hI.1 (As := [.int p1, .int p2]) (rest := []) (t_X10_areTwo l E J τ L f46 hI.1 mq tq p1 p2) my_X10_areTwo wd907 mq tq td_40 rfl rfl rfl (Nat.le_of_ble_eq_true rfl) ⟨Nat.le_of_ble_eq_true rfl, Nat.le_of_ble_eq_true rfl⟩ ⟨rfl, rfl⟩ dX10_rests_8 (fun r48 L1 f47 H locs hp hH => ?_)
  obtain ⟨rfl, s49, h50⟩ := hp
  have hJ := hI
  have hI := hI.call s49 (by decide)
  have w51 := h50.2.2.2 vl vh (hl0.S hJ rfl) (hh.S hJ rfl) hR
  refine lv_if_ne (tgt := 17) hx hb dX10_rests_11 (by decide) (fun c52 => ?_) (fun c52 => ?_)
  · skip
    have r53 : rg r48 1 1 := rf_nel (n_eq c52) h50.1 rl_0 (by decide)
    have r54 : rg p1 0 5 := h50.2.1 c52
    have r55 : rg p2 0 5 := h50.2.2.1 c52
    have F56 : 1 ≤ (vh 0).toInt := w51 c52
    refine lv_iconst (v := (0 : Int32)) hx hb dX10_rests_17 (by decide) ?_
    refine lv_istore_n (lv' := [(3, .int (0 : Int32)), (0, .ref q), (1, .int p1), (2, .int p2)]) hx hb dX10_rests_18 rfl hl (by decide) rfl (fun ls hl => ?_)
    refine lv_iconst (v := (0 : Int32)) hx hb dX10_rests_19 (by decide) ?_
    refine lv_istore (lv' := [(4, .int (0 : Int32)), (3, .int (0 : Int32)), (0, .ref q), (1, .int p1), (2, .int p2)]) hx hb dX10_rests_20 hl (by decide) rfl (fun ls hl => ?_)
    exact cut22 5 _ _ _ _ (0 : Int32) (0 : Int32) (fu_i 5 rl_0 (by decide)) hI hH (rg_w rl_0 (by decide)) (rg_w rl_0 (by decide)) r54 r55 F56 (lv_sub hl [2, 3, 4, 1, 0] rfl)
  · skip
    have r57 : rg r48 0 0 := rf_eql (c_eq c52) h50.1 rl_0 (by decide)
    refine lv_bipush (v := (-2 : Int32)) hx hb dX10_rests_14 (by decide) ?_
    exact g_iret C hr hH (Nat.zero_le _) (Nat.zero_le _) dX10_rests_16 ⟨rfl, hI, (rg_w rl_m2 (by decide))⟩
set_option maxHeartbeats 4000000 in
set_option maxRecDepth 100000 in
theorem t_X10_has (l : Launch) (E : gE) (J : Nat → Nat) (τ : Nat → Nat) (L : List Nat) (f : gF) (hI : tI E L τ f) {q : Nat} (mq : q ∈ L) (tq : τ q = 40) (p1 : Int32) (p2 : Int32) (p3 : Int32) (p4 : Int32) {vl vh : Nat → Int32} (hl0 : isA E L τ f 46 5 vl) (hh : isA E L τ f 47 45 vh) (hR : rowOK vl vh 0) : tMi l E J yX10_has cX10_has 5 .int (gRm (7) 0 0) [.ref q, .int p1, .int p2, .int p3, .int p4] L f (tPi E L τ [40, 52, 53, 54, 55, 56] f (fun r f1 => rg r (-2147483648) 2147483647)) := by
  refine tMi.intro (by decide) (Nat.le_of_ble_eq_true rfl) ?_
  intro p e s m below meth c A ls C hr hA hO hH hl
  have C : gC E cX10_has 5 RX10 p s m _ meth c := C
  have hl : lv_has ls 5 [(0, .ref q), (1, .int p1), (2, .int p2), (3, .int p3), (4, .int p4)] := hl
  have hx := C.1
  have hb := C.2.1
  have hI := hI.S [40, 52, 53, 54, 55, 56]
  refine lv_aload_n hx hb dX10_has_0 rfl (lv_at hl 0 rfl) ?_
  refine lv_iconst (v := (0 : Int32)) hx hb dX10_has_1 (by decide) ?_
  refine t_put C hH hI mq tq (by decide) td_40 iX10 tyX10 tyX10_ok nmX10 rfl 0 (by decide) wd855 rfl rfl (v := .int (0 : Int32)) rfl rfl rfl ⟨_, rfl, (rg_w rl_0 (by decide))⟩ (fun _ h => nomatch h) dX10_has_2 (fun f1 H locs hH hI nf1 of1 bf1 => ?_)
  refine lv_aload_n hx hb dX10_has_5 rfl (lv_at hl 0 rfl) ?_
  refine lv_iload_n hx hb dX10_has_6 rfl (lv_at hl 1 rfl) ?_
  refine lv_iload_n hx hb dX10_has_7 rfl (lv_at hl 2 rfl) ?_
  refine t_Vi C hO hl.1 hA hH hI.1 (As := [.int p1, .int p2]) (rest := []) (t_X10_areTwo l E J τ L f1 hI.1 mq tq p1 p2) my_X10_areTwo wd907 mq tq td_40 rfl rfl rfl (Nat.le_of_ble_eq_true rfl) ⟨Nat.le_of_ble_eq_true rfl, Nat.le_of_ble_eq_true rfl⟩ ⟨rfl, rfl⟩ dX10_has_8 (fun r3 L1 f2 H locs hp hH => ?_)
  obtain ⟨rfl, s4, h5⟩ := hp
  have hJ := hI
  have hI := hI.call s4 (by decide)
  have w6 := h5.2.2.2 vl vh (hl0.S hJ rfl) (hh.S hJ rfl) hR
  refine lv_if_eq (tgt := 42) hx hb dX10_has_11 (by decide) (fun c7 => ?_) (fun c7 => ?_)
  · skip
    have r8 : rg r3 0 0 := rf_eql (c_eq c7) h5.1 rl_0 (by decide)
    refine lv_sipush (v := (-1000 : Int32)) hx hb dX10_has_42 (by decide) ?_
    exact g_iret C hr hH (Nat.zero_le _) (Nat.zero_le _) dX10_has_45 ⟨rfl, hI, (rg_w rl_m1000 (by decide))⟩
  · skip
    have r9 : rg r3 1 1 := rf_nel (n_eq c7) h5.1 rl_0 (by decide)
    have r10 : rg p1 0 5 := h5.2.1 c7
    have r11 : rg p2 0 5 := h5.2.2.1 c7
    have F12 : 1 ≤ (vh 0).toInt := w6 c7
    refine lv_iload_n hx hb dX10_has_14 rfl (lv_at hl 3 rfl) ?_
    refine t_Si C hO hl.1 hA hH (As := [.int p3]) (rest := []) (t_X10_isHalf l E J τ L f2 hI.1 p3) my_X10_isHalf wd910 rfl rfl (Nat.le_of_ble_eq_true rfl) ⟨Nat.le_of_ble_eq_true rfl, Nat.le_of_ble_eq_true rfl⟩ ⟨rfl, rfl⟩ dX10_has_15 (fun r14 L1 f13 H locs hp hH => ?_)
    obtain ⟨rfl, s15, h16⟩ := hp
    have hI := hI.call s15 (by decide)
    refine lv_if_eq (tgt := 42) hx hb dX10_has_18 (by decide) (fun c17 => ?_) (fun c17 => ?_)
    · skip
      have r18 : rg r14 0 0 := rf_eql (c_eq c17) h16.1 rl_0 (by decide)
      refine lv_sipush (v := (-1000 : Int32)) hx hb dX10_has_42 (by decide) ?_
      exact g_iret C hr hH (Nat.zero_le _) (Nat.zero_le _) dX10_has_45 ⟨rfl, hI, (rg_w rl_m1000 (by decide))⟩
    · skip
      have r19 : rg r14 1 1 := rf_nel (n_eq c17) h16.1 rl_0 (by decide)
      have r20 : rg p3 0 1 := h16.2 c17
      refine lv_iload hx hb dX10_has_21 (lv_at hl 4 rfl) ?_
      refine t_Si C hO hl.1 hA hH (As := [.int p4]) (rest := []) (t_X10_isHalf l E J τ L f13 hI.1 p4) my_X10_isHalf wd910 rfl rfl (Nat.le_of_ble_eq_true rfl) ⟨Nat.le_of_ble_eq_true rfl, Nat.le_of_ble_eq_true rfl⟩ ⟨rfl, rfl⟩ dX10_has_23 (fun r22 L1 f21 H locs hp hH => ?_)
      obtain ⟨rfl, s23, h24⟩ := hp
      have hI := hI.call s23 (by decide)
      refine lv_if_eq (tgt := 42) hx hb dX10_has_26 (by decide) (fun c25 => ?_) (fun c25 => ?_)
      · skip
        have r26 : rg r22 0 0 := rf_eql (c_eq c25) h24.1 rl_0 (by decide)
        refine lv_sipush (v := (-1000 : Int32)) hx hb dX10_has_42 (by decide) ?_
        exact g_iret C hr hH (Nat.zero_le _) (Nat.zero_le _) dX10_has_45 ⟨rfl, hI, (rg_w rl_m1000 (by decide))⟩
      · skip
        have r27 : rg r22 1 1 := rf_nel (n_eq c25) h24.1 rl_0 (by decide)
        have r28 : rg p4 0 1 := h24.2 c25
        refine lv_aload_n hx hb dX10_has_29 rfl (lv_at hl 0 rfl) ?_
        refine lv_iload_n hx hb dX10_has_30 rfl (lv_at hl 1 rfl) ?_
        refine lv_iload_n hx hb dX10_has_31 rfl (lv_at hl 1 rfl) ?_
        refine lv_iload_n hx hb dX10_has_32 rfl (lv_at hl 2 rfl) ?_
        refine lv_iload_n hx hb dX10_has_33 rfl (lv_at hl 3 rfl) ?_
        refine lv_iload hx hb dX10_has_34 (lv_at hl 4 rfl) ?_
        refine t_Vi C hO hl.1 hA hH hI.1 (As := [.int p1, .int p1, .int p2, .int p3, .int p4]) (rest := []) (t_X10_hasBy l E J τ L f21 hI.1 mq tq p1 r10 p1 r10 p2 r11 p3 p4 (hh.S hI rfl) F12) my_X10_hasBy wd903 mq tq td_40 rfl rfl rfl (Nat.le_of_ble_eq_true rfl) ⟨Nat.le_of_ble_eq_true rfl, Nat.le_of_ble_eq_true rfl⟩ ⟨rfl, rfl⟩ dX10_has_36 (fun r30 L1 f29 H locs hp hH => ?_)
        obtain ⟨rfl, s31, h32⟩ := hp
        have hI := hI.call s31 (by decide)
        refine lv_goto (tgt := 45) hx hb dX10_has_39 (by decide) ?_
        exact g_iret C hr hH (Nat.zero_le _) (Nat.zero_le _) dX10_has_45 ⟨rfl, hI, h32⟩
set_option maxHeartbeats 4000000 in
set_option maxRecDepth 100000 in
theorem t_X10_drawn (l : Launch) (E : gE) (J : Nat → Nat) (τ : Nat → Nat) (L : List Nat) (f : gF) (hI : tI E L τ f) {q : Nat} (mq : q ∈ L) (tq : τ q = 40) (p1 : Int32) (p2 : Int32) {vl vh : Nat → Int32} (hl0 : isA E L τ f 46 5 vl) (hh : isA E L τ f 47 45 vh) (hR : rowOK vl vh 0) : tMi l E J yX10_drawn cX10_drawn 3 .int (gRm (7) 0 0) [.ref q, .int p1, .int p2] L f (tPi E L τ [40, 52, 53, 54, 55, 56] f (fun r f1 => rg r (-2147483648) 2147483647)) := by
  refine tMi.intro (by decide) (Nat.le_of_ble_eq_true rfl) ?_
  intro p e s m below meth c A ls C hr hA hO hH hl
  have C : gC E cX10_drawn 3 RX10 p s m _ meth c := C
  have hl : lv_has ls 3 [(0, .ref q), (1, .int p1), (2, .int p2)] := hl
  have hx := C.1
  have hb := C.2.1
  have hI := hI.S [40, 52, 53, 54, 55, 56]
  refine lv_aload_n hx hb dX10_drawn_0 rfl (lv_at hl 0 rfl) ?_
  refine lv_iconst (v := (0 : Int32)) hx hb dX10_drawn_1 (by decide) ?_
  refine t_put C hH hI mq tq (by decide) td_40 iX10 tyX10 tyX10_ok nmX10 rfl 0 (by decide) wd855 rfl rfl (v := .int (0 : Int32)) rfl rfl rfl ⟨_, rfl, (rg_w rl_0 (by decide))⟩ (fun _ h => nomatch h) dX10_drawn_2 (fun f1 H locs hH hI nf1 of1 bf1 => ?_)
  refine lv_aload_n hx hb dX10_drawn_5 rfl (lv_at hl 0 rfl) ?_
  refine t_Vi C hO hl.1 hA hH hI.1 (As := []) (rest := []) (t_X10_isLand l E J τ L f1 hI.1 mq tq) my_X10_isLand wd768 mq tq td_40 rfl rfl rfl (Nat.le_of_ble_eq_true rfl) ⟨Nat.le_of_ble_eq_true rfl, Nat.le_of_ble_eq_true rfl⟩ ⟨rfl, rfl⟩ dX10_drawn_6 (fun r3 L1 f2 H locs hp hH => ?_)
  obtain ⟨rfl, s4, h5⟩ := hp
  have hJ := hI
  have hI := hI.call s4 (by decide)
  have w6 := h5.2 vl vh (hl0.S hJ rfl) (hh.S hJ rfl) hR
  refine lv_if_eq (tgt := 26) hx hb dX10_drawn_9 (by decide) (fun c7 => ?_) (fun c7 => ?_)
  · skip
    have r8 : rg r3 0 0 := rf_eql (c_eq c7) h5.1 rl_0 (by decide)
    refine lv_bipush (v := (-2 : Int32)) hx hb dX10_drawn_26 (by decide) ?_
    exact g_iret C hr hH (Nat.zero_le _) (Nat.zero_le _) dX10_drawn_28 ⟨rfl, hI, (rg_w rl_m2 (by decide))⟩
  · skip
    have r9 : rg r3 1 1 := rf_nel (n_eq c7) h5.1 rl_0 (by decide)
    have F10 : 1 ≤ (vh 0).toInt := w6 c7
    refine lv_iload_n hx hb dX10_drawn_12 rfl (lv_at hl 1 rfl) ?_
    refine t_Si C hO hl.1 hA hH (As := [.int p1]) (rest := []) (t_X10_isSeed l E J τ L f2 hI.1 p1) my_X10_isSeed wd913 rfl rfl (Nat.le_of_ble_eq_true rfl) ⟨Nat.le_of_ble_eq_true rfl, Nat.le_of_ble_eq_true rfl⟩ ⟨rfl, rfl⟩ dX10_drawn_13 (fun r12 L1 f11 H locs hp hH => ?_)
    obtain ⟨rfl, s13, h14⟩ := hp
    have hI := hI.call s13 (by decide)
    refine lv_if_eq (tgt := 26) hx hb dX10_drawn_16 (by decide) (fun c15 => ?_) (fun c15 => ?_)
    · skip
      have r16 : rg r12 0 0 := rf_eql (c_eq c15) h14 rl_0 (by decide)
      refine lv_bipush (v := (-2 : Int32)) hx hb dX10_drawn_26 (by decide) ?_
      exact g_iret C hr hH (Nat.zero_le _) (Nat.zero_le _) dX10_drawn_28 ⟨rfl, hI, (rg_w rl_m2 (by decide))⟩
    · skip
      have r17 : rg r12 1 1 := rf_nel (n_eq c15) h14 rl_0 (by decide)
      refine lv_iload_n hx hb dX10_drawn_19 rfl (lv_at hl 2 rfl) ?_
      refine t_Si C hO hl.1 hA hH (As := [.int p2]) (rest := []) (t_X10_isHalf l E J τ L f11 hI.1 p2) my_X10_isHalf wd910 rfl rfl (Nat.le_of_ble_eq_true rfl) ⟨Nat.le_of_ble_eq_true rfl, Nat.le_of_ble_eq_true rfl⟩ ⟨rfl, rfl⟩ dX10_drawn_20 (fun r19 L1 f18 H locs hp hH => ?_)
      obtain ⟨rfl, s20, h21⟩ := hp
      have hI := hI.call s20 (by decide)
      refine lv_if_ne (tgt := 29) hx hb dX10_drawn_23 (by decide) (fun c22 => ?_) (fun c22 => ?_)
      · skip
        have r23 : rg r19 1 1 := rf_nel (n_eq c22) h21.1 rl_0 (by decide)
        have r24 : rg p2 0 1 := h21.2 c22
        refine lv_aload_n hx hb dX10_drawn_29 rfl (lv_at hl 0 rfl) ?_
        refine lv_iload_n hx hb dX10_drawn_30 rfl (lv_at hl 1 rfl) ?_
        refine lv_i2l (v := (p1).toInt64) hx hb dX10_drawn_31 rfl ?_
        refine t_Vv C hO hl.1 hA hH hI.1 (As := [.long (p1).toInt64]) (rest := []) (t_X10_laysDrawn l E J τ L f18 hI.1 mq tq ((p1).toInt64) (hh.S hI rfl) F10) my_X10_laysDrawn wd917 mq tq td_40 rfl rfl rfl (Nat.le_of_ble_eq_true rfl) ⟨Nat.le_of_ble_eq_true rfl, Nat.le_of_ble_eq_true rfl⟩ ⟨rfl, rfl⟩ dX10_drawn_32 (fun L1 f25 H locs hp hH => ?_)
        obtain ⟨rfl, s27, h28⟩ := hp
        have hI := hI.call s27 (by decide)
        refine lv_iload_n hx hb dX10_drawn_35 rfl (lv_at hl 2 rfl) ?_
        refine lv_if_ne (tgt := 46) hx hb dX10_drawn_36 (by decide) (fun c29 => ?_) (fun c29 => ?_)
        · skip
          have r30 : rg p2 1 1 := rf_nel (n_eq c29) r24 rl_0 (by decide)
          refine lv_aload_n hx hb dX10_drawn_46 rfl (lv_at hl 0 rfl) ?_
          refine t_Vi C hO hl.1 hA hH hI.1 (As := []) (rest := []) (t_X10_servedNow l E J τ L f25 hI.1 mq tq) my_X10_servedNow wd879 mq tq td_40 rfl rfl rfl (Nat.le_of_ble_eq_true rfl) ⟨Nat.le_of_ble_eq_true rfl, Nat.le_of_ble_eq_true rfl⟩ ⟨rfl, rfl⟩ dX10_drawn_47 (fun r32 L1 f31 H locs hp hH => ?_)
          obtain ⟨rfl, s33, h34⟩ := hp
          have hI := hI.call s33 (by decide)
          exact g_iret C hr hH (Nat.zero_le _) (Nat.zero_le _) dX10_drawn_50 ⟨rfl, hI, (rg_w h34 (by decide))⟩
        · skip
          have r35 : rg p2 0 0 := rf_eql (c_eq c29) r24 rl_0 (by decide)
          refine lv_aload_n hx hb dX10_drawn_39 rfl (lv_at hl 0 rfl) ?_
          refine t_geti C hH hI.1 mq tq td_40 iX10 rfl 24 (by decide) wd774 rfl rfl dX10_drawn_40 (fun z36 rz36 => ?_)
          refine lv_goto (tgt := 50) hx hb dX10_drawn_43 (by decide) ?_
          exact g_iret C hr hH (Nat.zero_le _) (Nat.zero_le _) dX10_drawn_50 ⟨rfl, hI, rz36⟩
      · skip
        have r37 : rg r19 0 0 := rf_eql (c_eq c22) h21.1 rl_0 (by decide)
        refine lv_bipush (v := (-2 : Int32)) hx hb dX10_drawn_26 (by decide) ?_
        exact g_iret C hr hH (Nat.zero_le _) (Nat.zero_le _) dX10_drawn_28 ⟨rfl, hI, (rg_w rl_m2 (by decide))⟩
set_option maxHeartbeats 4000000 in
set_option maxRecDepth 100000 in
theorem t_X10_luck (l : Launch) (E : gE) (J : Nat → Nat) (τ : Nat → Nat) (L : List Nat) (f : gF) (hI : tI E L τ f) {q : Nat} (mq : q ∈ L) (tq : τ q = 40) (p1 : Int32) (p2 : Int32) (p3 : Int32) {vl vh : Nat → Int32} (hl0 : isA E L τ f 46 5 vl) (hh : isA E L τ f 47 45 vh) (hR : rowOK vl vh 0) : tMi l E J yX10_luck cX10_luck 6 .int (gRm (7) 0 0) [.ref q, .int p1, .int p2, .int p3] L f (tPi E L τ [40, 52, 53, 54, 55, 56] f (fun r f1 => rg r (-2147483648) 2147483647)) := by
  refine tMi.intro (by decide) (Nat.le_of_ble_eq_true rfl) ?_
  intro p e s m below meth c A ls C hr hA hO hH hl
  have C : gC E cX10_luck 6 RX10 p s m _ meth c := C
  have hl : lv_has ls 6 [(0, .ref q), (1, .int p1), (2, .int p2), (3, .int p3)] := hl
  have hx := C.1
  have hb := C.2.1
  have hI := hI.S [40, 52, 53, 54, 55, 56]
  obtain ⟨q_19, mq_19, tq_19, kq_19⟩ := t_fldr hI.1 mq tq td_40 (k := 19) rfl
  have cut42 : ∀ (n : Nat) (fh42 : gF) (H : Heap) (locs : List Loc) (ls : Array Slot) (v42_4 : Int32) (v42_5 : Int32), 20 - v42_5.toInt < (n : Int) → tS E L τ [40, 52, 53, 54, 55, 56] f fh42 → gH E A L fh42 s.heap H locs → rg v42_5 0 20 → rg p2 1 20 → rg p3 0 5 → 1 ≤ (vh 0).toInt → lv_has ls 6 [(0, .ref q), (1, .int p1), (2, .int p2), (3, .int p3), (4, .int v42_4), (5, .int v42_5)] → W p l e (gRm (7) 0 0) s m [.ref q, .int p1, .int p2, .int p3].toArray below meth c H locs 0 0 (MQ below (gQi E A (tPi E L τ [40, 52, 53, 54, 55, 56] f (fun r f1 => rg r (-2147483648) 2147483647))) [.ref q, .int p1, .int p2, .int p3].toArray s (gRm (7) 0 0).cells (gRm (7) 0 0).slots A) (F0 m 42 ls []) := by
    intro n
    induction n with
    | zero =>
      intro fh42 H locs ls v42_4 v42_5 hfu42 hI hH r_v42_5 r42_p2 r42_p3 F42_W hl
      exact (fu_0 hfu42 r_v42_5).elim
    | succ n ih42 =>
      intro fh42 H locs ls v42_4 v42_5 hfu42 hI hH r_v42_5 r42_p2 r42_p3 F42_W hl
      refine lv_iload hx hb dX10_luck_42 (lv_at hl 5 rfl) ?_
      refine lv_iload_n hx hb dX10_luck_44 rfl (lv_at hl 2 rfl) ?_
      refine lv_icmp_ge (tgt := 90) hx hb dX10_luck_45 (by decide) (fun c1 => ?_) (fun c1 => ?_)
      · skip
        have r2 : rg v42_5 1 20 := rf_ler (c_le c1) r42_p2 r_v42_5 (by decide)
        refine lv_iload hx hb dX10_luck_90 (lv_at hl 4 rfl) ?_
        exact g_iret C hr hH (Nat.zero_le _) (Nat.zero_le _) dX10_luck_92 ⟨rfl, hI, (rg_all _)⟩
      · skip
        have r3 : rg v42_5 0 19 := rf_ltl (n_le c1) r_v42_5 r42_p2 (by decide)
        refine lv_aload_n hx hb dX10_luck_48 rfl (lv_at hl 0 rfl) ?_
        refine lv_iload_n hx hb dX10_luck_49 rfl (lv_at hl 1 rfl) ?_
        refine lv_i2l (v := (p1).toInt64) hx hb dX10_luck_50 rfl ?_
        refine lv_iload hx hb dX10_luck_51 (lv_at hl 5 rfl) ?_
        refine lv_i2l (v := (v42_5).toInt64) hx hb dX10_luck_53 rfl ?_
        refine lv_ladd hx hb dX10_luck_54 ?_
        refine lv_topl (fun z4 ez4 => ?_)
        refine t_Vv C hO hl.1 hA hH hI.1 (As := [.long z4]) (rest := []) (t_X10_laysDrawn l E J τ L fh42 hI.1 mq tq z4 (hh.S hI rfl) F42_W) my_X10_laysDrawn wd917 mq tq td_40 rfl rfl rfl (Nat.le_of_ble_eq_true rfl) ⟨Nat.le_of_ble_eq_true rfl, Nat.le_of_ble_eq_true rfl⟩ ⟨rfl, rfl⟩ dX10_luck_55 (fun L1 f5 H locs hp hH => ?_)
        obtain ⟨rfl, s7, h8⟩ := hp
        have hI := hI.call s7 (by decide)
        refine lv_iload hx hb dX10_luck_58 (lv_at hl 4 rfl) ?_
        refine lv_aload_n hx hb dX10_luck_60 rfl (lv_at hl 0 rfl) ?_
        refine lv_iload_n hx hb dX10_luck_61 rfl (lv_at hl 3 rfl) ?_
        refine lv_aload_n hx hb dX10_luck_62 rfl (lv_at hl 0 rfl) ?_
        refine t_getX C hH hI.1 mq tq td_40 iX10 rfl 19 (by decide) wd818 rfl (hI.rf kq_19) dX10_luck_63 ?_
        refine lv_iconst (v := (3 : Int32)) hx hb dX10_luck_66 (by decide) ?_
        refine lv_iload_n hx hb dX10_luck_67 rfl (lv_at hl 3 rfl) ?_
        refine lv_imul hx hb dX10_luck_68 ?_
        refine lv_topi (fun z9 ez9 => ?_)
        have r10 : rg z9 0 15 := rg_mul ez9 rl_3 r42_p3 (by decide)
        have m11 := mul3 ez9 r42_p3 (by decide)
        refine t_ald C hH hI.1 mq_19 tq_19 td_49 (rg_in r10 (by decide)) dX10_luck_69 (fun z12v az12 pz12 => ?_)
        refine lv_topi (fun z12 ez12 => ?_)
        have r13 : rg z12 0 19 := mem_c pz12 (rg_in r10 (by decide)) m11 ez12
        refine t_Vi C hO hl.1 hA hH hI.1 (As := [.int p3, .int z12]) (rest := [.int v42_4]) (t_X10_isServedIn l E J τ L f5 hI.1 mq tq p3 r42_p3 z12 r13) my_X10_isServedIn wd826 mq tq td_40 rfl rfl rfl (Nat.le_of_ble_eq_true rfl) ⟨Nat.le_of_ble_eq_true rfl, Nat.le_of_ble_eq_true rfl⟩ ⟨rfl, rfl⟩ dX10_luck_70 (fun r15 L1 f14 H locs hp hH => ?_)
        obtain ⟨rfl, s16, h17⟩ := hp
        have hI := hI.call s16 (by decide)
        refine lv_if_eq (tgt := 80) hx hb dX10_luck_73 (by decide) (fun c18 => ?_) (fun c18 => ?_)
        · skip
          have r19 : rg r15 0 0 := rf_eql (c_eq c18) h17 rl_0 (by decide)
          refine lv_iconst (v := (0 : Int32)) hx hb dX10_luck_80 (by decide) ?_
          refine lv_iadd hx hb dX10_luck_81 ?_
          refine lv_topi (fun z20 ez20 => ?_)
          have r21 : rg z20 (-2147483648) 2147483647 := rg_add ez20 (rg_all _) rl_0 (by decide)
          have a22 : z20.toInt = v42_4.toInt + 0 := ai_add ez20 (rg_all _) tl_0 (by decide)
          refine lv_istore (lv' := [(4, .int z20), (0, .ref q), (1, .int p1), (2, .int p2), (3, .int p3), (5, .int v42_5)]) hx hb dX10_luck_82 hl (by decide) rfl (fun ls hl => ?_)
          obtain ⟨z23, ez23⟩ : ∃ y : Int32, y = v42_5 + (1 : Int32) := ⟨_, rfl⟩
          have r24 : rg z23 1 20 := rg_add ez23 r3 rl_1 (by decide)
          have a25 : z23.toInt = v42_5.toInt + 1 := ai_add ez23 r3 tl_1 (by decide)
          refine lv_iinc (v := z23) (lv' := [(5, .int z23), (4, .int z20), (0, .ref q), (1, .int p1), (2, .int p2), (3, .int p3)]) hx hb dX10_luck_84 hl (k := 5) rfl (by rw [ez23]; rfl) (by decide) rfl (fun ls hl => ?_)
          refine lv_goto (tgt := 42) hx hb dX10_luck_87 (by decide) ?_
          exact ih42 _ _ _ _ z20 z23 (fu_s hfu42 a25 (by decide)) hI hH (rg_w r24 (by decide)) r42_p2 r42_p3 F42_W (lv_sub hl [2, 3, 4, 5, 1, 0] rfl)
        · skip
          have r26 : rg r15 1 1 := rf_nel (n_eq c18) h17 rl_0 (by decide)
          refine lv_iconst (v := (1 : Int32)) hx hb dX10_luck_76 (by decide) ?_
          refine lv_goto (tgt := 81) hx hb dX10_luck_77 (by decide) ?_
          refine lv_iadd hx hb dX10_luck_81 ?_
          refine lv_topi (fun z27 ez27 => ?_)
          refine lv_istore (lv' := [(4, .int z27), (0, .ref q), (1, .int p1), (2, .int p2), (3, .int p3), (5, .int v42_5)]) hx hb dX10_luck_82 hl (by decide) rfl (fun ls hl => ?_)
          obtain ⟨z28, ez28⟩ : ∃ y : Int32, y = v42_5 + (1 : Int32) := ⟨_, rfl⟩
          have r29 : rg z28 1 20 := rg_add ez28 r3 rl_1 (by decide)
          have a30 : z28.toInt = v42_5.toInt + 1 := ai_add ez28 r3 tl_1 (by decide)
          refine lv_iinc (v := z28) (lv' := [(5, .int z28), (4, .int z27), (0, .ref q), (1, .int p1), (2, .int p2), (3, .int p3)]) hx hb dX10_luck_84 hl (k := 5) rfl (by rw [ez28]; rfl) (by decide) rfl (fun ls hl => ?_)
          refine lv_goto (tgt := 42) hx hb dX10_luck_87 (by decide) ?_
          exact ih42 _ _ _ _ z27 z28 (fu_s hfu42 a30 (by decide)) hI hH (rg_w r29 (by decide)) r42_p2 r42_p3 F42_W (lv_sub hl [2, 3, 4, 5, 1, 0] rfl)
  refine lv_aload_n hx hb dX10_luck_0 rfl (lv_at hl 0 rfl) ?_
  refine lv_iconst (v := (0 : Int32)) hx hb dX10_luck_1 (by decide) ?_
  refine t_put C hH hI mq tq (by decide) td_40 iX10 tyX10 tyX10_ok nmX10 rfl 0 (by decide) wd855 rfl rfl (v := .int (0 : Int32)) rfl rfl rfl ⟨_, rfl, (rg_w rl_0 (by decide))⟩ (fun _ h => nomatch h) dX10_luck_2 (fun f31 H locs hH hI nf31 of31 bf31 => ?_)
  refine lv_iload_n hx hb dX10_luck_5 rfl (lv_at hl 1 rfl) ?_
  refine t_Si C hO hl.1 hA hH (As := [.int p1]) (rest := []) (t_X10_isSeed l E J τ L f31 hI.1 p1) my_X10_isSeed wd913 rfl rfl (Nat.le_of_ble_eq_true rfl) ⟨Nat.le_of_ble_eq_true rfl, Nat.le_of_ble_eq_true rfl⟩ ⟨rfl, rfl⟩ dX10_luck_6 (fun r33 L1 f32 H locs hp hH => ?_)
  obtain ⟨rfl, s34, h35⟩ := hp
  have hI := hI.call s34 (by decide)
  refine lv_if_eq (tgt := 33) hx hb dX10_luck_9 (by decide) (fun c36 => ?_) (fun c36 => ?_)
  · skip
    have r37 : rg r33 0 0 := rf_eql (c_eq c36) h35 rl_0 (by decide)
    refine lv_bipush (v := (-2 : Int32)) hx hb dX10_luck_33 (by decide) ?_
    exact g_iret C hr hH (Nat.zero_le _) (Nat.zero_le _) dX10_luck_35 ⟨rfl, hI, (rg_w rl_m2 (by decide))⟩
  · skip
    have r38 : rg r33 1 1 := rf_nel (n_eq c36) h35 rl_0 (by decide)
    refine lv_iload_n hx hb dX10_luck_12 rfl (lv_at hl 2 rfl) ?_
    refine lv_i2l (v := (p2).toInt64) hx hb dX10_luck_13 rfl ?_
    refine lv_lconst (v := (1 : Int64)) hx hb dX10_luck_14 (by decide) ?_
    refine lv_ldc2 hx hb C.2.2.2.1 (C.2.2.2.2.1 _ wd918) dX10_luck_15 ?_
    refine t_Si C hO hl.1 hA hH (As := [.long (p2).toInt64, .long (1 : Int64), .long (20 : Int64)]) (rest := []) (t_X10_in l E J τ L f32 hI.1 ((p2).toInt64) ((1 : Int64)) ((20 : Int64))) my_X10_in wd744 rfl rfl (Nat.le_of_ble_eq_true rfl) ⟨Nat.le_of_ble_eq_true rfl, Nat.le_of_ble_eq_true rfl⟩ ⟨rfl, rfl⟩ dX10_luck_18 (fun r40 L1 f39 H locs hp hH => ?_)
    obtain ⟨rfl, s41, h42⟩ := hp
    have hJ := hI
    have hI := hI.call s41 (by decide)
    refine lv_if_eq (tgt := 33) hx hb dX10_luck_21 (by decide) (fun c43 => ?_) (fun c43 => ?_)
    · skip
      have r44 : rg r40 0 0 := rf_eql (c_eq c43) h42.1 rl_0 (by decide)
      refine lv_bipush (v := (-2 : Int32)) hx hb dX10_luck_33 (by decide) ?_
      exact g_iret C hr hH (Nat.zero_le _) (Nat.zero_le _) dX10_luck_35 ⟨rfl, hI, (rg_w rl_m2 (by decide))⟩
    · skip
      have r45 : rg r40 1 1 := rf_nel (n_eq c43) h42.1 rl_0 (by decide)
      have r46 : rg p2 1 20 := in_rg (la := 1) (lb := 20) (h42.2 c43) (rg_all _) (by decide) (by decide) (by decide)
      refine lv_aload_n hx hb dX10_luck_24 rfl (lv_at hl 0 rfl) ?_
      refine lv_iload_n hx hb dX10_luck_25 rfl (lv_at hl 3 rfl) ?_
      refine lv_i2l (v := (p3).toInt64) hx hb dX10_luck_26 rfl ?_
      refine t_Vi C hO hl.1 hA hH hI.1 (As := [.long (p3).toInt64]) (rest := []) (t_X10_isMember l E J τ L f39 hI.1 mq tq ((p3).toInt64)) my_X10_isMember wd764 mq tq td_40 rfl rfl rfl (Nat.le_of_ble_eq_true rfl) ⟨Nat.le_of_ble_eq_true rfl, Nat.le_of_ble_eq_true rfl⟩ ⟨rfl, rfl⟩ dX10_luck_27 (fun r48 L1 f47 H locs hp hH => ?_)
      obtain ⟨rfl, s49, h50⟩ := hp
      have hJ := hI
      have hI := hI.call s49 (by decide)
      have w51 := h50.2.2 vl vh (hl0.S hJ rfl) (hh.S hJ rfl) hR
      refine lv_if_ne (tgt := 36) hx hb dX10_luck_30 (by decide) (fun c52 => ?_) (fun c52 => ?_)
      · skip
        have r53 : rg r48 1 1 := rf_nel (n_eq c52) h50.1 rl_0 (by decide)
        have r54 : rg p3 0 5 := is_rg (h50.2.1 c52) (rg_all _) (by decide)
        have F55 : 1 ≤ (vh 0).toInt := w51 c52
        refine lv_iconst (v := (0 : Int32)) hx hb dX10_luck_36 (by decide) ?_
        refine lv_istore (lv' := [(4, .int (0 : Int32)), (0, .ref q), (1, .int p1), (2, .int p2), (3, .int p3)]) hx hb dX10_luck_37 hl (by decide) rfl (fun ls hl => ?_)
        refine lv_iconst (v := (0 : Int32)) hx hb dX10_luck_39 (by decide) ?_
        refine lv_istore (lv' := [(5, .int (0 : Int32)), (4, .int (0 : Int32)), (0, .ref q), (1, .int p1), (2, .int p2), (3, .int p3)]) hx hb dX10_luck_40 hl (by decide) rfl (fun ls hl => ?_)
        exact cut42 21 _ _ _ _ (0 : Int32) (0 : Int32) (fu_i 21 rl_0 (by decide)) hI hH (rg_w rl_0 (by decide)) r46 r54 F55 (lv_sub hl [2, 3, 4, 5, 1, 0] rfl)
      · skip
        have r56 : rg r48 0 0 := rf_eql (c_eq c52) h50.1 rl_0 (by decide)
        refine lv_bipush (v := (-2 : Int32)) hx hb dX10_luck_33 (by decide) ?_
        exact g_iret C hr hH (Nat.zero_le _) (Nat.zero_le _) dX10_luck_35 ⟨rfl, hI, (rg_w rl_m2 (by decide))⟩
set_option maxHeartbeats 4000000 in
set_option maxRecDepth 100000 in
theorem t_X10_end (l : Launch) (E : gE) (J : Nat → Nat) (τ : Nat → Nat) (L : List Nat) (f : gF) (hI : tI E L τ f) {q : Nat} (mq : q ∈ L) (tq : τ q = 40) (p1 : Int32) : tMi l E J yX10_end cX10_end 2 .int (gRm (2) 0 0) [.ref q, .int p1] L f (tPi E L τ [40] f (fun r f1 => rg r (-2147483648) 2147483647)) := by
  refine tMi.intro (by decide) (Nat.le_of_ble_eq_true rfl) ?_
  intro p e s m below meth c A ls C hr hA hO hH hl
  have C : gC E cX10_end 2 RX10 p s m _ meth c := C
  have hl : lv_has ls 2 [(0, .ref q), (1, .int p1)] := hl
  have hx := C.1
  have hb := C.2.1
  have hI := hI.S [40]
  refine lv_aload_n hx hb dX10_end_0 rfl (lv_at hl 0 rfl) ?_
  refine lv_iconst (v := (0 : Int32)) hx hb dX10_end_1 (by decide) ?_
  refine t_put C hH hI mq tq (by decide) td_40 iX10 tyX10 tyX10_ok nmX10 rfl 0 (by decide) wd855 rfl rfl (v := .int (0 : Int32)) rfl rfl rfl ⟨_, rfl, (rg_w rl_0 (by decide))⟩ (fun _ h => nomatch h) dX10_end_2 (fun f1 H locs hH hI nf1 of1 bf1 => ?_)
  refine lv_iload_n hx hb dX10_end_5 rfl (lv_at hl 1 rfl) ?_
  refine lv_i2l (v := (p1).toInt64) hx hb dX10_end_6 rfl ?_
  refine lv_lconst (v := (0 : Int64)) hx hb dX10_end_7 (by decide) ?_
  refine lv_aload_n hx hb dX10_end_8 rfl (lv_at hl 0 rfl) ?_
  refine t_geti C hH hI.1 mq tq td_40 iX10 rfl 6 (by decide) wd919 rfl rfl dX10_end_9 (fun z2 rz2 => ?_)
  refine lv_i2l (v := (z2).toInt64) hx hb dX10_end_12 rfl ?_
  refine t_Si C hO hl.1 hA hH (As := [.long (p1).toInt64, .long (0 : Int64), .long (z2).toInt64]) (rest := []) (t_X10_in l E J τ L f1 hI.1 ((p1).toInt64) ((0 : Int64)) ((z2).toInt64)) my_X10_in wd744 rfl rfl (Nat.le_of_ble_eq_true rfl) ⟨Nat.le_of_ble_eq_true rfl, Nat.le_of_ble_eq_true rfl⟩ ⟨rfl, rfl⟩ dX10_end_13 (fun r4 L1 f3 H locs hp hH => ?_)
  obtain ⟨rfl, s5, h6⟩ := hp
  have hJ := hI
  have hI := hI.call s5 (by decide)
  refine lv_if_ne (tgt := 21) hx hb dX10_end_16 (by decide) (fun c7 => ?_) (fun c7 => ?_)
  · skip
    have r8 : rg r4 1 1 := rf_nel (n_eq c7) h6.1 rl_0 (by decide)
    have r9 : rg p1 0 800 := in_rgy (la := 0) (h6.2 c7) (rg_all _) rz2 (by decide) (by decide)
    refine lv_aload_n hx hb dX10_end_21 rfl (lv_at hl 0 rfl) ?_
    refine lv_iload_n hx hb dX10_end_22 rfl (lv_at hl 1 rfl) ?_
    refine t_put C hH hI mq tq (by decide) td_40 iX10 tyX10 tyX10_ok nmX10 rfl 6 (by decide) wd919 rfl rfl (v := .int p1) rfl rfl rfl ⟨_, rfl, r9⟩ (fun _ h => nomatch h) dX10_end_23 (fun f10 H locs hH hI nf10 of10 bf10 => ?_)
    refine lv_iload_n hx hb dX10_end_26 rfl (lv_at hl 1 rfl) ?_
    exact g_iret C hr hH (Nat.zero_le _) (Nat.zero_le _) dX10_end_27 ⟨rfl, hI, (rg_w r9 (by decide))⟩
  · skip
    have r11 : rg r4 0 0 := rf_eql (c_eq c7) h6.1 rl_0 (by decide)
    refine lv_iconst (v := (-1 : Int32)) hx hb dX10_end_19 (by decide) ?_
    exact g_iret C hr hH (Nat.zero_le _) (Nat.zero_le _) dX10_end_20 ⟨rfl, hI, (rg_w rl_m1 (by decide))⟩
set_option maxHeartbeats 4000000 in
set_option maxRecDepth 100000 in
theorem t_X10_fault (l : Launch) (E : gE) (J : Nat → Nat) (τ : Nat → Nat) (L : List Nat) (f : gF) (hI : tI E L τ f) {q : Nat} (mq : q ∈ L) (tq : τ q = 40) (p1 : Int32) : tMi l E J yX10_fault cX10_fault 2 .int (gRm (1) 0 0) [.ref q, .int p1] L f (tPi E L τ [40] f (fun r f1 => rg r (-2147483648) 2147483647)) := by
  refine tMi.intro (by decide) (Nat.le_of_ble_eq_true rfl) ?_
  intro p e s m below meth c A ls C hr hA hO hH hl
  have C : gC E cX10_fault 2 RX10 p s m _ meth c := C
  have hl : lv_has ls 2 [(0, .ref q), (1, .int p1)] := hl
  have hx := C.1
  have hb := C.2.1
  have hI := hI.S [40]
  refine lv_aload_n hx hb dX10_fault_0 rfl (lv_at hl 0 rfl) ?_
  refine lv_iconst (v := (0 : Int32)) hx hb dX10_fault_1 (by decide) ?_
  refine t_put C hH hI mq tq (by decide) td_40 iX10 tyX10 tyX10_ok nmX10 rfl 0 (by decide) wd855 rfl rfl (v := .int (0 : Int32)) rfl rfl rfl ⟨_, rfl, (rg_w rl_0 (by decide))⟩ (fun _ h => nomatch h) dX10_fault_2 (fun f1 H locs hH hI nf1 of1 bf1 => ?_)
  refine lv_iload_n hx hb dX10_fault_5 rfl (lv_at hl 1 rfl) ?_
  refine lv_if_ne (tgt := 16) hx hb dX10_fault_6 (by decide) (fun c2 => ?_) (fun c2 => ?_)
  · skip
    refine lv_iload_n hx hb dX10_fault_16 rfl (lv_at hl 1 rfl) ?_
    refine lv_iconst (v := (1 : Int32)) hx hb dX10_fault_17 (by decide) ?_
    refine lv_icmp_ne (tgt := 28) hx hb dX10_fault_18 (by decide) (fun c3 => ?_) (fun c3 => ?_)
    · skip
      refine lv_iconst (v := (-1 : Int32)) hx hb dX10_fault_28 (by decide) ?_
      exact g_iret C hr hH (Nat.zero_le _) (Nat.zero_le _) dX10_fault_29 ⟨rfl, hI, (rg_w rl_m1 (by decide))⟩
    · skip
      have r4 : rg p1 1 1 := rf_eql (c_eq c3) (rg_all _) rl_1 (by decide)
      refine lv_aload_n hx hb dX10_fault_21 rfl (lv_at hl 0 rfl) ?_
      refine t_geti C hH hI.1 mq tq td_40 iX10 rfl 15 (by decide) wd920 rfl rfl dX10_fault_22 (fun z5 rz5 => ?_)
      refine lv_goto (tgt := 29) hx hb dX10_fault_25 (by decide) ?_
      exact g_iret C hr hH (Nat.zero_le _) (Nat.zero_le _) dX10_fault_29 ⟨rfl, hI, rz5⟩
  · skip
    have r6 : rg p1 0 0 := rf_eql (c_eq c2) (rg_all _) rl_0 (by decide)
    refine lv_aload_n hx hb dX10_fault_9 rfl (lv_at hl 0 rfl) ?_
    refine t_geti C hH hI.1 mq tq td_40 iX10 rfl 14 (by decide) wd921 rfl rfl dX10_fault_10 (fun z7 rz7 => ?_)
    refine lv_goto (tgt := 29) hx hb dX10_fault_13 (by decide) ?_
    exact g_iret C hr hH (Nat.zero_le _) (Nat.zero_le _) dX10_fault_29 ⟨rfl, hI, rz7⟩
