/-! images: which there are -/
def gBk (k z : Int32) : Int32 := if 0 ≤ k.toInt ∧ k.toInt ≤ 2 then (if z.toInt = 0 then -6 else 0) else -2
theorem gBk_2 {k z : Int32} (h : ¬ (0 ≤ k.toInt ∧ k.toInt ≤ 2)) : -2 = gBk k z := by rw [gBk, if_neg h]
theorem gBk_6 {k z : Int32} (h : (0 ≤ k.toInt ∧ k.toInt ≤ 2) ∧ z.toInt = 0) : -6 = gBk k z := by rw [gBk, if_pos h.1, if_pos h.2]
theorem gBk_0 {k z : Int32} (h : (0 ≤ k.toInt ∧ k.toInt ≤ 2) ∧ ¬ z.toInt = 0) : 0 = gBk k z := by rw [gBk, if_pos h.1, if_neg h.2]
theorem gBk_eq {k : Int32} {v w : Nat → Int32} (h : ∀ j, j < 3 → v j = w j) : gBk k (v k.toNatClampNeg) = gBk k (w k.toNatClampNeg) := by
  unfold gBk
  by_cases q : 0 ≤ k.toInt ∧ k.toInt ≤ 2
  · rw [if_pos q, if_pos q, h k.toNatClampNeg (by show k.toInt.toNat < 3; omega)]
  · rw [if_neg q, if_neg q]
def gImV (k : Int32) (v : Nat → Int32) : Nat → Int32 := if gImage k = 0 then upd v k.toNatClampNeg 1 else v
theorem isZ_w {E : gE} {L : List Nat} {τ : Nat → Nat} {f : gF} {a t n : Nat} {v : Nat → Int32} (hU : uq L τ t) (ma : a ∈ L) (ta : τ a = t) (h : f a = .inl (E.2.2 3, n, .inl v)) : isZ E L τ f t n v := fun b mb tb => by
  rw [hU b mb a ma tb ta]
  exact h
theorem isZ_st {E : gE} {L : List Nat} {τ : Nat → Nat} {f f2 : gF} {a t u n : Nat} {v : Nat → Int32} (h : isZ E L τ f t n v) (ta : τ a = u) (hn : (t == u) = false) (hb : ∀ b, b ≠ a → f2 b = f b) : isZ E L τ f2 t n v := fun b mb tb => (hb b (ty_ne tb ta hn)).trans (h b mb tb)
theorem gImV_0 {E : gE} {L : List Nat} {τ : Nat → Nat} {f : gF} {t n : Nat} {k : Int32} {v : Nat → Int32} (h : 0 = gImage k) (hz : isZ E L τ f t n (upd v k.toNatClampNeg (vp_nar .boolean 1))) : isZ E L τ f t n (gImV k v) := by
  rw [show vp_nar .boolean (1 : Int32) = 1 from by decide] at hz
  unfold gImV
  rw [if_pos h.symm]
  exact hz
theorem gImV_2 {E : gE} {L : List Nat} {τ : Nat → Nat} {f : gF} {t n : Nat} {k : Int32} {v : Nat → Int32} (h : -2 = gImage k) (hz : isZ E L τ f t n v) : isZ E L τ f t n (gImV k v) := by
  unfold gImV
  rw [if_neg (by rw [← h]; decide)]
  exact hz
theorem gImV_eq {k : Int32} {v w : Nat → Int32} (h : ∀ j, j < 3 → v j = w j) : ∀ j, j < 3 → gImV k v j = gImV k w j := fun j hj => by
  unfold gImV
  by_cases q : gImage k = 0
  · rw [if_pos q, if_pos q]
    by_cases e : j = k.toNatClampNeg
    · rw [e, pk_us, pk_us]
    · rw [pk_un e, pk_un e]
      exact h j hj
  · rw [if_neg q, if_neg q]
    exact h j hj
set_option maxHeartbeats 4000000 in
set_option maxRecDepth 100000 in
theorem t_backX (l : Launch) (E : gE) (J : Nat → Nat) (τ : Nat → Nat) (L : List Nat) (f : gF) (hI : tI E L τ f) {q : Nat} (mq : q ∈ L) (tq : τ q = 0) (p1 : Int32) {vi : Nat → Int32} (hi : isZ E L τ f 34 3 vi) : tMi l E J yX9_back cX9_back 2 .int (gRm (3) 0 0) [.ref q, .int p1] L f (tPi E L τ [3, 4, 5, 6, 7, 8, 9, 10, 11, 12, 13, 24] f (fun r f1 => rg r (-6) 0 ∧ (r = gBk p1 (vi p1.toNatClampNeg)))) := by
  refine tMi.intro (by decide) (Nat.le_of_ble_eq_true rfl) ?_
  intro p e s m below meth c A ls C hr hA hO hH hl
  have C : gC E cX9_back 2 RX9 p s m _ meth c := C
  have hl : lv_has ls 2 [(0, .ref q), (1, .int p1)] := hl
  have hx := C.1
  have hb := C.2.1
  have hI := hI.S [3, 4, 5, 6, 7, 8, 9, 10, 11, 12, 13, 24]
  obtain ⟨q_10, mq_10, tq_10, kq_10⟩ := t_fldr hI.1 mq tq td_0 (k := 10) rfl
  obtain ⟨q_1, mq_1, tq_1, kq_1⟩ := t_fldr hI.1 mq tq td_0 (k := 1) rfl
  obtain ⟨q_3, mq_3, tq_3, kq_3⟩ := t_fldr hI.1 mq tq td_0 (k := 3) rfl
  obtain ⟨q_6, mq_6, tq_6, kq_6⟩ := t_fldr hI.1 mq tq td_0 (k := 6) rfl
  refine lv_iload_n hx hb dX9_back_0 rfl (lv_at hl 1 rfl) ?_
  refine lv_if_lt (tgt := 9) hx hb dX9_back_1 (by decide) (fun c1 => ?_) (fun c1 => ?_)
  · skip
    have r2 : rg p1 (-2147483648) (-1) := rf_ltl (c_lt c1) (rg_all _) rl_0 (by decide)
    refine lv_bipush (v := (-2 : Int32)) hx hb dX9_back_9 (by decide) ?_
    exact g_iret C hr hH (Nat.zero_le _) (Nat.zero_le _) dX9_back_11 ⟨rfl, hI, ⟨(rg_w rl_m2 (by decide)), (by have k0_ := (c_lt c1); have k1_ := tl_0; exact gBk_2 (by omega))⟩⟩
  · skip
    have r3 : rg p1 0 2147483647 := rf_ler (n_lt c1) rl_0 (rg_all _) (by decide)
    refine lv_iload_n hx hb dX9_back_4 rfl (lv_at hl 1 rfl) ?_
    refine lv_iconst (v := (3 : Int32)) hx hb dX9_back_5 (by decide) ?_
    refine lv_icmp_lt (tgt := 12) hx hb dX9_back_6 (by decide) (fun c4 => ?_) (fun c4 => ?_)
    · skip
      have r5 : rg p1 0 2 := rf_ltl (c_lt c4) r3 rl_3 (by decide)
      refine lv_aload_n hx hb dX9_back_12 rfl (lv_at hl 0 rfl) ?_
      refine t_getX C hH hI.1 mq tq td_0 iX9 rfl 10 (by decide) wd720 rfl (hI.rf kq_10) dX9_back_13 ?_
      refine lv_iload_n hx hb dX9_back_16 rfl (lv_at hl 1 rfl) ?_
      refine t_zald C hH hI.1 mq_10 tq_10 td_34 (rg_in r5 (by decide)) dX9_back_17 (fun z6v az6 => ?_)
      refine lv_topi (fun z6 ez6 => ?_)
      rw [arr_inj az6 ((hI.fr q_10 mq_10 (t_lim tq_10 rfl)).trans (hi q_10 mq_10 tq_10))] at ez6
      refine lv_if_ne (tgt := 24) hx hb dX9_back_18 (by decide) (fun c7 => ?_) (fun c7 => ?_)
      · skip
        refine lv_aload_n hx hb dX9_back_24 rfl (lv_at hl 0 rfl) ?_
        refine t_getX C hH hI.1 mq tq td_0 iX9 rfl 1 (by decide) wd414 rfl (hI.rf kq_1) dX9_back_25 ?_
        refine lv_aload_n hx hb dX9_back_28 rfl (lv_at hl 0 rfl) ?_
        refine t_getX C hH hI.1 mq tq td_0 iX9 rfl 3 (by decide) wd719 rfl (hI.rf kq_3) dX9_back_29 ?_
        refine lv_iload_n hx hb dX9_back_32 rfl (lv_at hl 1 rfl) ?_
        refine t_aald C hH hI.1 mq_3 tq_3 td_15 rfl (rg_in r5 (by decide)) dX9_back_33 (fun q8 mq8 tq8 => ?_)
        refine t_Vv C hO hl.1 hA hH hI.1 (As := [.ref q8]) (rest := []) (t_X3_become l E J τ L f hI.1 mq_1 tq_1 mq8 tq8) my_X3_become wd701 mq_1 tq_1 td_3 rfl rfl rfl (Nat.le_of_ble_eq_true rfl) ⟨Nat.le_of_ble_eq_true rfl, Nat.le_of_ble_eq_true rfl⟩ ⟨rfl, rfl⟩ dX9_back_34 (fun L1 f9 H locs hp hH => ?_)
        obtain ⟨rfl, s11, h12⟩ := hp
        have hI := hI.call s11 (by decide)
        refine lv_aload_n hx hb dX9_back_37 rfl (lv_at hl 0 rfl) ?_
        refine t_getX C hH hI.1 mq tq td_0 iX9 rfl 6 (by decide) wd560 rfl (hI.rf kq_6) dX9_back_38 ?_
        refine t_Vv C hO hl.1 hA hH hI.1 (As := []) (rest := []) (t_X4_forget l E J τ L f9 hI.1 mq_6 tq_6) my_X4_forget wd688 mq_6 tq_6 td_24 rfl rfl rfl (Nat.le_of_ble_eq_true rfl) ⟨Nat.le_of_ble_eq_true rfl, Nat.le_of_ble_eq_true rfl⟩ ⟨rfl, rfl⟩ dX9_back_41 (fun L1 f13 H locs hp hH => ?_)
        obtain ⟨rfl, s15, h16⟩ := hp
        have hI := hI.call s15 (by decide)
        refine lv_iconst (v := (0 : Int32)) hx hb dX9_back_44 (by decide) ?_
        exact g_iret C hr hH (Nat.zero_le _) (Nat.zero_le _) dX9_back_45 ⟨rfl, hI, ⟨(rg_w rl_0 (by decide)), (by have k0_ := (n_lt c1); have k1_ := tl_0; have k2_ := (c_lt c4); have k3_ := tl_3; have k4_ := (congrArg Int32.toInt ez6); have k5_ := (n_eq c7); exact gBk_0 (by omega))⟩⟩
      · skip
        have r17 : rg z6 0 0 := rf_eql (c_eq c7) (rg_all _) rl_0 (by decide)
        refine lv_bipush (v := (-6 : Int32)) hx hb dX9_back_21 (by decide) ?_
        exact g_iret C hr hH (Nat.zero_le _) (Nat.zero_le _) dX9_back_23 ⟨rfl, hI, ⟨(rg_w rl_m6 (by decide)), (by have k0_ := (n_lt c1); have k1_ := tl_0; have k2_ := (c_lt c4); have k3_ := tl_3; have k4_ := (congrArg Int32.toInt ez6); have k5_ := (c_eq c7); exact gBk_6 (by omega))⟩⟩
    · skip
      have r18 : rg p1 3 2147483647 := rf_ler (n_lt c4) rl_3 r3 (by decide)
      refine lv_bipush (v := (-2 : Int32)) hx hb dX9_back_9 (by decide) ?_
      exact g_iret C hr hH (Nat.zero_le _) (Nat.zero_le _) dX9_back_11 ⟨rfl, hI, ⟨(rg_w rl_m2 (by decide)), (by have k0_ := (n_lt c1); have k1_ := tl_0; have k2_ := (n_lt c4); have k3_ := tl_3; exact gBk_2 (by omega))⟩⟩
set_option maxHeartbeats 4000000 in
set_option maxRecDepth 100000 in
theorem t_imageX (l : Launch) (E : gE) (J : Nat → Nat) (τ : Nat → Nat) (L : List Nat) (f : gF) (hI : tI E L τ f) {q : Nat} (mq : q ∈ L) (tq : τ q = 0) (p1 : Int32) {vi : Nat → Int32} (hi : isZ E L τ f 34 3 vi) (hU34 : uq L τ 34) : tMi l E J yX9_image cX9_image 2 .int (gRm (3) 0 0) [.ref q, .int p1] L f (tPi E L τ [4, 5, 6, 7, 8, 9, 10, 11, 12, 13, 34, 35] f (fun r f1 => rg r (-2) 0 ∧ (r = gImage p1 ∧ isZ E L τ f1 34 3 (gImV p1 vi)))) := by
  refine tMi.intro (by decide) (Nat.le_of_ble_eq_true rfl) ?_
  intro p e s m below meth c A ls C hr hA hO hH hl
  have C : gC E cX9_image 2 RX9 p s m _ meth c := C
  have hl : lv_has ls 2 [(0, .ref q), (1, .int p1)] := hl
  have hx := C.1
  have hb := C.2.1
  have hI := hI.S [4, 5, 6, 7, 8, 9, 10, 11, 12, 13, 34, 35]
  obtain ⟨q_3, mq_3, tq_3, kq_3⟩ := t_fldr hI.1 mq tq td_0 (k := 3) rfl
  obtain ⟨q_1, mq_1, tq_1, kq_1⟩ := t_fldr hI.1 mq tq td_0 (k := 1) rfl
  obtain ⟨q_10, mq_10, tq_10, kq_10⟩ := t_fldr hI.1 mq tq td_0 (k := 10) rfl
  refine lv_iload_n hx hb dX9_image_0 rfl (lv_at hl 1 rfl) ?_
  refine lv_if_lt (tgt := 9) hx hb dX9_image_1 (by decide) (fun c1 => ?_) (fun c1 => ?_)
  · skip
    have r2 : rg p1 (-2147483648) (-1) := rf_ltl (c_lt c1) (rg_all _) rl_0 (by decide)
    refine lv_bipush (v := (-2 : Int32)) hx hb dX9_image_9 (by decide) ?_
    exact g_iret C hr hH (Nat.zero_le _) (Nat.zero_le _) dX9_image_11 ⟨rfl, hI, ⟨(rg_w rl_m2 (by decide)), ⟨(by rw [gImage, if_pos c1]), gImV_2 (by rw [gImage, if_pos c1]) hi⟩⟩⟩
  · skip
    have r3 : rg p1 0 2147483647 := rf_ler (n_lt c1) rl_0 (rg_all _) (by decide)
    refine lv_iload_n hx hb dX9_image_4 rfl (lv_at hl 1 rfl) ?_
    refine lv_iconst (v := (3 : Int32)) hx hb dX9_image_5 (by decide) ?_
    refine lv_icmp_lt (tgt := 12) hx hb dX9_image_6 (by decide) (fun c4 => ?_) (fun c4 => ?_)
    · skip
      have r5 : rg p1 0 2 := rf_ltl (c_lt c4) r3 rl_3 (by decide)
      refine lv_aload_n hx hb dX9_image_12 rfl (lv_at hl 0 rfl) ?_
      refine t_getX C hH hI.1 mq tq td_0 iX9 rfl 3 (by decide) wd719 rfl (hI.rf kq_3) dX9_image_13 ?_
      refine lv_iload_n hx hb dX9_image_16 rfl (lv_at hl 1 rfl) ?_
      refine t_aald C hH hI.1 mq_3 tq_3 td_15 rfl (rg_in r5 (by decide)) dX9_image_17 (fun q6 mq6 tq6 => ?_)
      refine lv_aload_n hx hb dX9_image_18 rfl (lv_at hl 0 rfl) ?_
      refine t_getX C hH hI.1 mq tq td_0 iX9 rfl 1 (by decide) wd414 rfl (hI.rf kq_1) dX9_image_19 ?_
      refine t_Vv C hO hl.1 hA hH hI.1 (As := [.ref q_1]) (rest := []) (t_become_d l E J τ L f hI.1 mq6 tq6 mq_1 tq_1) my_X3_become wd701 mq6 tq6 td_35 rfl rfl rfl (Nat.le_of_ble_eq_true rfl) ⟨Nat.le_of_ble_eq_true rfl, Nat.le_of_ble_eq_true rfl⟩ ⟨rfl, rfl⟩ dX9_image_22 (fun L1 f7 H locs hp hH => ?_)
      obtain ⟨rfl, s9, h10⟩ := hp
      have hI := hI.call s9 (by decide)
      have hi := hi.S s9 rfl
      refine lv_aload_n hx hb dX9_image_25 rfl (lv_at hl 0 rfl) ?_
      refine t_getX C hH hI.1 mq tq td_0 iX9 rfl 10 (by decide) wd720 rfl (hI.rf kq_10) dX9_image_26 ?_
      refine lv_iload_n hx hb dX9_image_29 rfl (lv_at hl 1 rfl) ?_
      refine lv_iconst (v := (1 : Int32)) hx hb dX9_image_30 (by decide) ?_
      refine t_zast C hH hI mq_10 tq_10 (by decide) td_34 (rg_in r5 (by decide)) dX9_image_31 (fun f11 H locs hH hI bf11 uf11 => ?_)
      have hi := isZ_w hU34 mq_10 tq_10 (uf11 _ (hi q_10 mq_10 tq_10))
      refine lv_iconst (v := (0 : Int32)) hx hb dX9_image_32 (by decide) ?_
      exact g_iret C hr hH (Nat.zero_le _) (Nat.zero_le _) dX9_image_33 ⟨rfl, hI, ⟨(rg_w rl_0 (by decide)), ⟨(by rw [gImage, if_neg c1, if_pos c4]), gImV_0 (by rw [gImage, if_neg c1, if_pos c4]) hi⟩⟩⟩
    · skip
      have r12 : rg p1 3 2147483647 := rf_ler (n_lt c4) rl_3 r3 (by decide)
      refine lv_bipush (v := (-2 : Int32)) hx hb dX9_image_9 (by decide) ?_
      exact g_iret C hr hH (Nat.zero_le _) (Nat.zero_le _) dX9_image_11 ⟨rfl, hI, ⟨(rg_w rl_m2 (by decide)), ⟨(by rw [gImage, if_neg c1, if_neg c4]), gImV_2 (by rw [gImage, if_neg c1, if_neg c4]) hi⟩⟩⟩
set_option maxHeartbeats 4000000 in
set_option maxRecDepth 100000 in
theorem t_backY (l : Launch) (E : gE) (J : Nat → Nat) (τ : Nat → Nat) (L : List Nat) (f : gF) (hI : tI E L τ f) {q : Nat} (mq : q ∈ L) (tq : τ q = 40) (p1 : Int32) {vl vh : Nat → Int32} (hl0 : isA E L τ f 46 5 vl) (hh : isA E L τ f 47 45 vh) (hUl : uq L τ 46) (hUh : uq L τ 47) (hRR : rowsR vl vh) {vk : Nat → Int32} (hk : isZ E L τ f 51 3 vk) : tMi l E J yX10_back cX10_back 2 .int (gRm (2) 0 0) [.ref q, .int p1] L f (tPi E L τ [40, 46, 47, 48, 49, 50] f (fun r f1 => rg r (-6) 0 ∧ (r = gBk p1 (vk p1.toNatClampNeg) ∧ ∃ vl1 vh1 : Nat → Int32, isA E L τ f1 46 5 vl1 ∧ isA E L τ f1 47 45 vh1 ∧ rowsR vl1 vh1))) := by
  refine tMi.intro (by decide) (Nat.le_of_ble_eq_true rfl) ?_
  intro p e s m below meth c A ls C hr hA hO hH hl
  have C : gC E cX10_back 2 RX10 p s m _ meth c := C
  have hl : lv_has ls 2 [(0, .ref q), (1, .int p1)] := hl
  have hx := C.1
  have hb := C.2.1
  have hI := hI.S [40, 46, 47, 48, 49, 50]
  obtain ⟨q_21, mq_21, tq_21, kq_21⟩ := t_fldr hI.1 mq tq td_40 (k := 21) rfl
  have hR := hRR 0 (by decide)
  have hPh := hasP_of hI.1 mq tq hh
  refine lv_aload_n hx hb dX10_back_0 rfl (lv_at hl 0 rfl) ?_
  refine lv_iconst (v := (0 : Int32)) hx hb dX10_back_1 (by decide) ?_
  refine t_put C hH hI mq tq (by decide) td_40 iX10 tyX10 tyX10_ok nmX10 rfl 0 (by decide) wd855 rfl rfl (v := .int (0 : Int32)) rfl rfl rfl ⟨_, rfl, (rg_w rl_0 (by decide))⟩ (fun _ h => nomatch h) dX10_back_2 (fun f1 H locs hH hI nf1 of1 bf1 => ?_)
  have hl0 := isA_st hl0 tq rfl bf1
  have hh := isA_st hh tq rfl bf1
  refine lv_iload_n hx hb dX10_back_5 rfl (lv_at hl 1 rfl) ?_
  refine lv_i2l (v := (p1).toInt64) hx hb dX10_back_6 rfl ?_
  refine lv_lconst (v := (0 : Int64)) hx hb dX10_back_7 (by decide) ?_
  refine lv_ldc2 hx hb C.2.2.2.1 (C.2.2.2.2.1 _ wd860) dX10_back_8 ?_
  refine t_Si C hO hl.1 hA hH (As := [.long (p1).toInt64, .long (0 : Int64), .long (2 : Int64)]) (rest := []) (t_inX l E J τ L f1 hI.1 ((p1).toInt64) ((0 : Int64)) ((2 : Int64))) my_X10_in wd744 rfl rfl (Nat.le_of_ble_eq_true rfl) ⟨Nat.le_of_ble_eq_true rfl, Nat.le_of_ble_eq_true rfl⟩ ⟨rfl, rfl⟩ dX10_back_11 (fun r3 L1 f2 H locs hp hH => ?_)
  obtain ⟨rfl, s4, h5⟩ := hp
  have hJ := hI
  have hI := hI.call s4 (by decide)
  have hl0_ := hl0
  have hl0 := hl0.S s4 rfl
  have hh_ := hh
  have hh := hh.S s4 rfl
  refine lv_if_ne (tgt := 20) hx hb dX10_back_14 (by decide) (fun c6 => ?_) (fun c6 => ?_)
  · skip
    have r7 : rg r3 1 1 := rf_nel (n_eq c6) h5.1 rl_0 (by decide)
    have r8 : rg p1 0 2 := in_rg (la := 0) (lb := 2) (h5.2.1 c6) (rg_all _) (by decide) (by decide) (by decide)
    refine lv_aload_n hx hb dX10_back_20 rfl (lv_at hl 0 rfl) ?_
    refine t_getX C hH hI.1 mq tq td_40 iX10 rfl 21 (by decide) wd1036 rfl (hI.rf kq_21) dX10_back_21 ?_
    refine lv_iload_n hx hb dX10_back_24 rfl (lv_at hl 1 rfl) ?_
    refine t_zald C hH hI.1 mq_21 tq_21 td_51 (rg_in r8 (by decide)) dX10_back_25 (fun z9v az9 => ?_)
    refine lv_topi (fun z9 ez9 => ?_)
    rw [arr_inj az9 ((hI.fr q_21 mq_21 (t_lim tq_21 rfl)).trans (hk q_21 mq_21 tq_21))] at ez9
    refine lv_if_ne (tgt := 32) hx hb dX10_back_26 (by decide) (fun c10 => ?_) (fun c10 => ?_)
    · skip
      refine lv_aload_n hx hb dX10_back_32 rfl (lv_at hl 0 rfl) ?_
      refine lv_iconst (v := (1 : Int32)) hx hb dX10_back_33 (by decide) ?_
      refine lv_iload_n hx hb dX10_back_34 rfl (lv_at hl 1 rfl) ?_
      refine lv_iadd hx hb dX10_back_35 ?_
      refine lv_topi (fun z11 ez11 => ?_)
      have r12 : rg z11 1 3 := rg_add ez11 rl_1 r8 (by decide)
      refine lv_iconst (v := (0 : Int32)) hx hb dX10_back_36 (by decide) ?_
      refine t_Vv C hO hl.1 hA hH hI.1 (As := [.int z11, .int (0 : Int32)]) (rest := []) (t_copyLand l E J τ L f2 hI.1 mq tq z11 (rg_w r12 (by decide)) (0 : Int32) (rg_w rl_0 (by decide)) hl0 hh hUl hUh) my_X10_copyLand wd1035 mq tq td_40 rfl rfl rfl (Nat.le_of_ble_eq_true rfl) ⟨Nat.le_of_ble_eq_true rfl, Nat.le_of_ble_eq_true rfl⟩ ⟨rfl, rfl⟩ dX10_back_37 (fun L1 f13 H locs hp hH => ?_)
      obtain ⟨rfl, s15, h16⟩ := hp
      have hJ := hI
      have hI := hI.call s15 (by decide)
      have hl0_ := hl0
      have hh_ := hh
      have hl0 := h16.1
      have hh := h16.2
      refine lv_iconst (v := (0 : Int32)) hx hb dX10_back_40 (by decide) ?_
      exact g_iret C hr hH (Nat.zero_le _) (Nat.zero_le _) dX10_back_41 ⟨rfl, hI, ⟨(rg_w rl_0 (by decide)), ⟨(by have k0_ := ((in_c (lo := 0) (hi := 2) h5.2 (by decide) (by decide)).mp c6); have k1_ := (congrArg Int32.toInt ez9); have k2_ := (n_eq c10); have k3_ := tl_0; exact gBk_0 (by omega)), ⟨_, _, hl0, hh, (rowsR_cp hRR (hRR _ (img_r r12)))⟩⟩⟩⟩
    · skip
      have r17 : rg z9 0 0 := rf_eql (c_eq c10) (rg_all _) rl_0 (by decide)
      refine lv_bipush (v := (-6 : Int32)) hx hb dX10_back_29 (by decide) ?_
      exact g_iret C hr hH (Nat.zero_le _) (Nat.zero_le _) dX10_back_31 ⟨rfl, hI, ⟨(rg_w rl_m6 (by decide)), ⟨(by have k0_ := ((in_c (lo := 0) (hi := 2) h5.2 (by decide) (by decide)).mp c6); have k1_ := (congrArg Int32.toInt ez9); have k2_ := (c_eq c10); have k3_ := tl_0; exact gBk_6 (by omega)), ⟨_, _, hl0, hh, hRR⟩⟩⟩⟩
  · skip
    have r18 : rg r3 0 0 := rf_eql (c_eq c6) h5.1 rl_0 (by decide)
    refine lv_bipush (v := (-2 : Int32)) hx hb dX10_back_17 (by decide) ?_
    exact g_iret C hr hH (Nat.zero_le _) (Nat.zero_le _) dX10_back_19 ⟨rfl, hI, ⟨(rg_w rl_m2 (by decide)), ⟨(by have k0_ := (mt (in_c (lo := 0) (hi := 2) h5.2 (by decide) (by decide)).mpr (fun n_ => n_ c6)); exact gBk_2 (by omega)), ⟨_, _, hl0, hh, hRR⟩⟩⟩⟩
set_option maxHeartbeats 4000000 in
set_option maxRecDepth 100000 in
theorem t_imageY (l : Launch) (E : gE) (J : Nat → Nat) (τ : Nat → Nat) (L : List Nat) (f : gF) (hI : tI E L τ f) {q : Nat} (mq : q ∈ L) (tq : τ q = 40) (p1 : Int32) {vl vh : Nat → Int32} (hl0 : isA E L τ f 46 5 vl) (hh : isA E L τ f 47 45 vh) (hUl : uq L τ 46) (hUh : uq L τ 47) (hRR : rowsR vl vh) {vk : Nat → Int32} (hk : isZ E L τ f 51 3 vk) (hU51 : uq L τ 51) : tMi l E J yX10_image cX10_image 2 .int (gRm (2) 0 0) [.ref q, .int p1] L f (tPi E L τ [40, 46, 47, 48, 49, 50, 51] f (fun r f1 => rg r (-2) 0 ∧ (r = gImage p1 ∧ (∃ vl1 vh1 : Nat → Int32, isA E L τ f1 46 5 vl1 ∧ isA E L τ f1 47 45 vh1 ∧ rowsR vl1 vh1) ∧ isZ E L τ f1 51 3 (gImV p1 vk)))) := by
  refine tMi.intro (by decide) (Nat.le_of_ble_eq_true rfl) ?_
  intro p e s m below meth c A ls C hr hA hO hH hl
  have C : gC E cX10_image 2 RX10 p s m _ meth c := C
  have hl : lv_has ls 2 [(0, .ref q), (1, .int p1)] := hl
  have hx := C.1
  have hb := C.2.1
  have hI := hI.S [40, 46, 47, 48, 49, 50, 51]
  obtain ⟨q_21, mq_21, tq_21, kq_21⟩ := t_fldr hI.1 mq tq td_40 (k := 21) rfl
  have hR := hRR 0 (by decide)
  have hPh := hasP_of hI.1 mq tq hh
  refine lv_aload_n hx hb dX10_image_0 rfl (lv_at hl 0 rfl) ?_
  refine lv_iconst (v := (0 : Int32)) hx hb dX10_image_1 (by decide) ?_
  refine t_put C hH hI mq tq (by decide) td_40 iX10 tyX10 tyX10_ok nmX10 rfl 0 (by decide) wd855 rfl rfl (v := .int (0 : Int32)) rfl rfl rfl ⟨_, rfl, (rg_w rl_0 (by decide))⟩ (fun _ h => nomatch h) dX10_image_2 (fun f1 H locs hH hI nf1 of1 bf1 => ?_)
  have hl0 := isA_st hl0 tq rfl bf1
  have hh := isA_st hh tq rfl bf1
  have hk := isZ_st hk tq rfl bf1
  refine lv_iload_n hx hb dX10_image_5 rfl (lv_at hl 1 rfl) ?_
  refine lv_i2l (v := (p1).toInt64) hx hb dX10_image_6 rfl ?_
  refine lv_lconst (v := (0 : Int64)) hx hb dX10_image_7 (by decide) ?_
  refine lv_ldc2 hx hb C.2.2.2.1 (C.2.2.2.2.1 _ wd860) dX10_image_8 ?_
  refine t_Si C hO hl.1 hA hH (As := [.long (p1).toInt64, .long (0 : Int64), .long (2 : Int64)]) (rest := []) (t_inX l E J τ L f1 hI.1 ((p1).toInt64) ((0 : Int64)) ((2 : Int64))) my_X10_in wd744 rfl rfl (Nat.le_of_ble_eq_true rfl) ⟨Nat.le_of_ble_eq_true rfl, Nat.le_of_ble_eq_true rfl⟩ ⟨rfl, rfl⟩ dX10_image_11 (fun r3 L1 f2 H locs hp hH => ?_)
  obtain ⟨rfl, s4, h5⟩ := hp
  have hJ := hI
  have hI := hI.call s4 (by decide)
  have hl0_ := hl0
  have hl0 := hl0.S s4 rfl
  have hh_ := hh
  have hh := hh.S s4 rfl
  have hk := hk.S s4 rfl
  refine lv_if_ne (tgt := 20) hx hb dX10_image_14 (by decide) (fun c6 => ?_) (fun c6 => ?_)
  · skip
    have r7 : rg r3 1 1 := rf_nel (n_eq c6) h5.1 rl_0 (by decide)
    have r8 : rg p1 0 2 := in_rg (la := 0) (lb := 2) (h5.2.1 c6) (rg_all _) (by decide) (by decide) (by decide)
    refine lv_aload_n hx hb dX10_image_20 rfl (lv_at hl 0 rfl) ?_
    refine lv_iconst (v := (0 : Int32)) hx hb dX10_image_21 (by decide) ?_
    refine lv_iconst (v := (1 : Int32)) hx hb dX10_image_22 (by decide) ?_
    refine lv_iload_n hx hb dX10_image_23 rfl (lv_at hl 1 rfl) ?_
    refine lv_iadd hx hb dX10_image_24 ?_
    refine lv_topi (fun z9 ez9 => ?_)
    have r10 : rg z9 1 3 := rg_add ez9 rl_1 r8 (by decide)
    refine t_Vv C hO hl.1 hA hH hI.1 (As := [.int (0 : Int32), .int z9]) (rest := []) (t_copyLand l E J τ L f2 hI.1 mq tq (0 : Int32) (rg_w rl_0 (by decide)) z9 (rg_w r10 (by decide)) hl0 hh hUl hUh) my_X10_copyLand wd1035 mq tq td_40 rfl rfl rfl (Nat.le_of_ble_eq_true rfl) ⟨Nat.le_of_ble_eq_true rfl, Nat.le_of_ble_eq_true rfl⟩ ⟨rfl, rfl⟩ dX10_image_25 (fun L1 f11 H locs hp hH => ?_)
    obtain ⟨rfl, s13, h14⟩ := hp
    have hJ := hI
    have hI := hI.call s13 (by decide)
    have hl0_ := hl0
    have hh_ := hh
    have hk := hk.S s13 rfl
    have hl0 := h14.1
    have hh := h14.2
    refine lv_aload_n hx hb dX10_image_28 rfl (lv_at hl 0 rfl) ?_
    refine t_getX C hH hI.1 mq tq td_40 iX10 rfl 21 (by decide) wd1036 rfl (hI.rf kq_21) dX10_image_29 ?_
    refine lv_iload_n hx hb dX10_image_32 rfl (lv_at hl 1 rfl) ?_
    refine lv_iconst (v := (1 : Int32)) hx hb dX10_image_33 (by decide) ?_
    refine t_zast C hH hI mq_21 tq_21 (by decide) td_51 (rg_in r8 (by decide)) dX10_image_34 (fun f15 H locs hH hI bf15 uf15 => ?_)
    have hl0 := isA_st hl0 tq_21 rfl bf15
    have hh := isA_st hh tq_21 rfl bf15
    have hk := isZ_w hU51 mq_21 tq_21 (uf15 _ (hk q_21 mq_21 tq_21))
    refine lv_iconst (v := (0 : Int32)) hx hb dX10_image_35 (by decide) ?_
    exact g_iret C hr hH (Nat.zero_le _) (Nat.zero_le _) dX10_image_36 ⟨rfl, hI, ⟨(rg_w rl_0 (by decide)), ⟨img_yes h5.2 (by decide) (by decide) c6, ⟨_, _, hl0, hh, (rowsR_cp hRR (hRR 0 (by decide)))⟩, gImV_0 (img_yes h5.2 (by decide) (by decide) c6) hk⟩⟩⟩
  · skip
    have r16 : rg r3 0 0 := rf_eql (c_eq c6) h5.1 rl_0 (by decide)
    refine lv_bipush (v := (-2 : Int32)) hx hb dX10_image_17 (by decide) ?_
    exact g_iret C hr hH (Nat.zero_le _) (Nat.zero_le _) dX10_image_19 ⟨rfl, hI, ⟨(rg_w rl_m2 (by decide)), ⟨img_no h5.2 (by decide) (by decide) c6, ⟨_, _, hl0, hh, hRR⟩, gImV_2 (img_no h5.2 (by decide) (by decide) c6) hk⟩⟩⟩
