/-! answers by the arguments alone -/
def gRow (z w n : Int32) : Int32 := if gSlot z = 0 then -2 else if w < 0 then -2 else if 4 ≤ w then -2 else if n ≤ 60 then (if 0 ≤ n then 0 else -3) else -2
def gImage (k : Int32) : Int32 := if k < 0 then -2 else if k < 3 then 0 else -2
section TZ
variable {p : Program} {l : Launch} {e : Env} {R : Room} {s : State} {m : MethodId} {args : Array Value} {below : List Frame} {meth : Method} {c : Code} {H H0 : Heap} {locs : List Loc} {Q : State → Prop}
variable {E : gE} {cc : ByteArray} {nl : Nat} {own : String} {A : Nat → Prop} {L : List Nat} {τ : Nat → Nat} {f : gF} {pc : Nat} {ls : Array Slot} {rest : List Value} {a t : Nat}
theorem t_alenJ (C : gC E cc nl own p s m args meth c) (hH : gH E A L f H0 H locs) (hI : tI E L τ f) (ha : a ∈ L) (ht : τ a = t) {n : Nat} (hd : tTab[t]? = some (.inr (.inr (.inl n)))) {v : Int32} (hv : nI n = v) (hdg : decode cc pc = .ok (.arraylength, 1))
    (kk : W p l e R s m args below meth c H locs 0 0 Q (F0 m (pc + 1) ls (.int v :: rest))) : W p l e R s m args below meth c H locs 0 0 Q (F0 m pc ls (.ref a :: rest)) := by
  obtain ⟨w, hf⟩ := t_arrJ hI ha ht hd
  exact g_alen C hH ha 2 rfl hf hv hdg kk
end TZ
theorem reach_ok {a b z len : Int32} (ha : rg a 0 2147483647) (hb : rg b 0 2147483647) (h3 : b.toInt ≤ len.toInt) (h4 : a.toInt ≤ z.toInt) (ez : z = len - b) (hl : rg len 0 60) : 0 ≤ a.toInt ∧ 0 ≤ b.toInt ∧ a.toInt + b.toInt ≤ 60 := by
  unfold rg at *
  rw [ez, Int32.toInt_sub, bmI (by omega) (by omega)] at h4
  omega
theorem nn_lt {a : Int32} (h : 0 ≤ a.toInt) : ¬ a < 0 := by
  rw [fa_lt, show (0 : Int32).toInt = 0 from by decide]
  omega
theorem nn_le {a b : Int32} (h : 0 ≤ a.toInt) (h2 : 0 ≤ b.toInt) (h3 : a.toInt + b.toInt ≤ 60) : a.toNatClampNeg + b.toNatClampNeg ≤ 60 := by
  show a.toInt.toNat + b.toInt.toNat ≤ 60
  omega
set_option maxHeartbeats 4000000 in
set_option maxRecDepth 100000 in
theorem t_X9_areTwo (l : Launch) (E : gE) (J : Nat → Nat) (τ : Nat → Nat) (L : List Nat) (f : gF) (hI : tI E L τ f) {q : Nat} (mq : q ∈ L) (tq : τ q = 0) (p1 : Int32) (p2 : Int32) : tMi l E J yX9_areTwo cX9_areTwo 3 .boolean (gRm (2) 0 0) [.ref q, .int p1, .int p2] L f (tPi E L τ [] f (fun r f1 => rg r 0 1 ∧ (¬ r = 0 → rg p1 0 5) ∧ (¬ r = 0 → rg p2 0 5))) := by
  refine tMi.intro (by decide) (Nat.le_of_ble_eq_true rfl) ?_
  intro p e s m below meth c A ls C hr hA hO hH hl
  have C : gC E cX9_areTwo 3 RX9 p s m _ meth c := C
  have hl : lv_has ls 3 [(0, .ref q), (1, .int p1), (2, .int p2)] := hl
  have hx := C.1
  have hb := C.2.1
  have hI := hI.S []
  obtain ⟨q_1, mq_1, tq_1, kq_1⟩ := t_fldr hI.1 mq tq td_0 (k := 1) rfl
  refine lv_aload_n hx hb dX9_areTwo_0 rfl (lv_at hl 0 rfl) ?_
  refine t_getX C hH hI.1 mq tq td_0 iX9 rfl 1 (by decide) wd414 rfl (hI.rf kq_1) dX9_areTwo_1 ?_
  refine lv_iload_n hx hb dX9_areTwo_4 rfl (lv_at hl 1 rfl) ?_
  refine t_Vi C hO hl.1 hA hH hI.1 (As := [.int p1]) (rest := []) (t_X3_hasMember l E J τ L f hI.1 mq_1 tq_1 p1) my_X3_hasMember wd418 mq_1 tq_1 td_3 rfl rfl rfl (Nat.le_of_ble_eq_true rfl) ⟨Nat.le_of_ble_eq_true rfl, Nat.le_of_ble_eq_true rfl⟩ ⟨rfl, rfl⟩ dX9_areTwo_5 (fun r2 L1 f1 H locs hp hH => ?_)
  obtain ⟨rfl, s3, h4⟩ := hp
  have hI := hI.call s3 (by decide)
  refine lv_if_eq (tgt := 31) hx hb dX9_areTwo_8 (by decide) (fun c5 => ?_) (fun c5 => ?_)
  · skip
    have r6 : rg r2 0 0 := rf_eql (c_eq c5) h4.1 rl_0 (by decide)
    refine lv_iconst (v := (0 : Int32)) hx hb dX9_areTwo_31 (by decide) ?_
    exact g_zret C hr (rg_z (rg_w rl_0 (by decide))) hH (Nat.zero_le _) (Nat.zero_le _) dX9_areTwo_32 ⟨rfl, hI, ⟨(rg_w rl_0 (by decide)), (fun h => absurd rfl h), (fun h => absurd rfl h)⟩⟩
  · skip
    have r7 : rg r2 1 1 := rf_nel (n_eq c5) h4.1 rl_0 (by decide)
    have r8 : rg p1 0 5 := h4.2 c5
    refine lv_aload_n hx hb dX9_areTwo_11 rfl (lv_at hl 0 rfl) ?_
    refine t_getX C hH hI.1 mq tq td_0 iX9 rfl 1 (by decide) wd414 rfl (hI.rf kq_1) dX9_areTwo_12 ?_
    refine lv_iload_n hx hb dX9_areTwo_15 rfl (lv_at hl 2 rfl) ?_
    refine t_Vi C hO hl.1 hA hH hI.1 (As := [.int p2]) (rest := []) (t_X3_hasMember l E J τ L f1 hI.1 mq_1 tq_1 p2) my_X3_hasMember wd418 mq_1 tq_1 td_3 rfl rfl rfl (Nat.le_of_ble_eq_true rfl) ⟨Nat.le_of_ble_eq_true rfl, Nat.le_of_ble_eq_true rfl⟩ ⟨rfl, rfl⟩ dX9_areTwo_16 (fun r10 L1 f9 H locs hp hH => ?_)
    obtain ⟨rfl, s11, h12⟩ := hp
    have hI := hI.call s11 (by decide)
    refine lv_if_eq (tgt := 31) hx hb dX9_areTwo_19 (by decide) (fun c13 => ?_) (fun c13 => ?_)
    · skip
      have r14 : rg r10 0 0 := rf_eql (c_eq c13) h12.1 rl_0 (by decide)
      refine lv_iconst (v := (0 : Int32)) hx hb dX9_areTwo_31 (by decide) ?_
      exact g_zret C hr (rg_z (rg_w rl_0 (by decide))) hH (Nat.zero_le _) (Nat.zero_le _) dX9_areTwo_32 ⟨rfl, hI, ⟨(rg_w rl_0 (by decide)), (fun h => absurd rfl h), (fun h => absurd rfl h)⟩⟩
    · skip
      have r15 : rg r10 1 1 := rf_nel (n_eq c13) h12.1 rl_0 (by decide)
      have r16 : rg p2 0 5 := h12.2 c13
      refine lv_iload_n hx hb dX9_areTwo_22 rfl (lv_at hl 1 rfl) ?_
      refine lv_iload_n hx hb dX9_areTwo_23 rfl (lv_at hl 2 rfl) ?_
      refine lv_icmp_eq (tgt := 31) hx hb dX9_areTwo_24 (by decide) (fun c17 => ?_) (fun c17 => ?_)
      · skip
        refine lv_iconst (v := (0 : Int32)) hx hb dX9_areTwo_31 (by decide) ?_
        exact g_zret C hr (rg_z (rg_w rl_0 (by decide))) hH (Nat.zero_le _) (Nat.zero_le _) dX9_areTwo_32 ⟨rfl, hI, ⟨(rg_w rl_0 (by decide)), (fun h => absurd rfl h), (fun h => absurd rfl h)⟩⟩
      · skip
        refine lv_iconst (v := (1 : Int32)) hx hb dX9_areTwo_27 (by decide) ?_
        refine lv_goto (tgt := 32) hx hb dX9_areTwo_28 (by decide) ?_
        exact g_zret C hr (rg_z (rg_w rl_1 (by decide))) hH (Nat.zero_le _) (Nat.zero_le _) dX9_areTwo_32 ⟨rfl, hI, ⟨(rg_w rl_1 (by decide)), (fun _ => r8), (fun _ => r16)⟩⟩
set_option maxHeartbeats 4000000 in
set_option maxRecDepth 100000 in
theorem t_X9_rowsHad (l : Launch) (E : gE) (J : Nat → Nat) (τ : Nat → Nat) (L : List Nat) (f : gF) (hI : tI E L τ f) {q : Nat} (mq : q ∈ L) (tq : τ q = 0) : tMi l E J yX9_rowsHad cX9_rowsHad 3 .int (gRm (2) 0 0) [.ref q] L f (tPi E L τ [] f (fun r f1 => rg r (-2147483648) 2147483647)) := by
  refine tMi.intro (by decide) (Nat.le_of_ble_eq_true rfl) ?_
  intro p e s m below meth c A ls C hr hA hO hH hl
  have C : gC E cX9_rowsHad 3 RX9 p s m _ meth c := C
  have hl : lv_has ls 3 [(0, .ref q)] := hl
  have hx := C.1
  have hb := C.2.1
  have hI := hI.S []
  obtain ⟨q_4, mq_4, tq_4, kq_4⟩ := t_fldr hI.1 mq tq td_0 (k := 4) rfl
  have cut4 : ∀ (n : Nat) (fh4 : gF) (H : Heap) (locs : List Loc) (ls : Array Slot) (v4_1 : Int32) (v4_2 : Int32), 4 - v4_2.toInt < (n : Int) → tS E L τ [] f fh4 → gH E A L fh4 s.heap H locs → rg v4_2 0 4 → lv_has ls 3 [(0, .ref q), (1, .int v4_1), (2, .int v4_2)] → W p l e (gRm (2) 0 0) s m [.ref q].toArray below meth c H locs 0 0 (MQ below (gQi E A (tPi E L τ [] f (fun r f1 => rg r (-2147483648) 2147483647))) [.ref q].toArray s (gRm (2) 0 0).cells (gRm (2) 0 0).slots A) (F0 m 4 ls []) := by
    intro n
    induction n with
    | zero =>
      intro fh4 H locs ls v4_1 v4_2 hfu4 hI hH r_v4_2 hl
      exact (fu_0 hfu4 r_v4_2).elim
    | succ n ih4 =>
      intro fh4 H locs ls v4_1 v4_2 hfu4 hI hH r_v4_2 hl
      refine lv_iload_n hx hb dX9_rowsHad_4 rfl (lv_at hl 2 rfl) ?_
      refine lv_iconst (v := (4 : Int32)) hx hb dX9_rowsHad_5 (by decide) ?_
      refine lv_icmp_ge (tgt := 30) hx hb dX9_rowsHad_6 (by decide) (fun c1 => ?_) (fun c1 => ?_)
      · skip
        have r2 : rg v4_2 4 4 := rf_ler (c_le c1) rl_4 r_v4_2 (by decide)
        refine lv_iload_n hx hb dX9_rowsHad_30 rfl (lv_at hl 1 rfl) ?_
        exact g_iret C hr hH (Nat.zero_le _) (Nat.zero_le _) dX9_rowsHad_31 ⟨rfl, hI, (rg_all _)⟩
      · skip
        have r3 : rg v4_2 0 3 := rf_ltl (n_le c1) r_v4_2 rl_4 (by decide)
        refine lv_aload_n hx hb dX9_rowsHad_9 rfl (lv_at hl 0 rfl) ?_
        refine t_getX C hH hI.1 mq tq td_0 iX9 rfl 4 (by decide) wd419 rfl (hI.rf kq_4) dX9_rowsHad_10 ?_
        refine lv_iload_n hx hb dX9_rowsHad_13 rfl (lv_at hl 2 rfl) ?_
        refine t_aald C hH hI.1 mq_4 tq_4 td_16 rfl (rg_in r3 (by decide)) dX9_rowsHad_14 (fun q4 mq4 tq4 => ?_)
        refine t_Vi C hO hl.1 hA hH hI.1 (As := []) (rest := []) (t_X6_isNothing l E J τ L fh4 hI.1 mq4 tq4) my_X6_isNothing wd424 mq4 tq4 td_17 rfl rfl rfl (Nat.le_of_ble_eq_true rfl) ⟨Nat.le_of_ble_eq_true rfl, Nat.le_of_ble_eq_true rfl⟩ ⟨rfl, rfl⟩ dX9_rowsHad_15 (fun r6 L1 f5 H locs hp hH => ?_)
        obtain ⟨rfl, s7, h8⟩ := hp
        have hI := hI.call s7 (by decide)
        refine lv_if_ne (tgt := 24) hx hb dX9_rowsHad_18 (by decide) (fun c9 => ?_) (fun c9 => ?_)
        · skip
          have r10 : rg r6 1 1 := rf_nel (n_eq c9) h8 rl_0 (by decide)
          obtain ⟨z11, ez11⟩ : ∃ y : Int32, y = v4_2 + (1 : Int32) := ⟨_, rfl⟩
          have r12 : rg z11 1 4 := rg_add ez11 r3 rl_1 (by decide)
          have a13 : z11.toInt = v4_2.toInt + 1 := ai_add ez11 r3 tl_1 (by decide)
          refine lv_iinc (v := z11) (lv' := [(2, .int z11), (0, .ref q), (1, .int v4_1)]) hx hb dX9_rowsHad_24 hl (k := 2) rfl (by rw [ez11]; rfl) (by decide) rfl (fun ls hl => ?_)
          refine lv_goto (tgt := 4) hx hb dX9_rowsHad_27 (by decide) ?_
          exact ih4 _ _ _ _ v4_1 z11 (fu_s hfu4 a13 (by decide)) hI hH (rg_w r12 (by decide)) (lv_sub hl [1, 2, 0] rfl)
        · skip
          have r14 : rg r6 0 0 := rf_eql (c_eq c9) h8 rl_0 (by decide)
          obtain ⟨z15, ez15⟩ : ∃ y : Int32, y = v4_1 + (1 : Int32) := ⟨_, rfl⟩
          refine lv_iinc (v := z15) (lv' := [(1, .int z15), (0, .ref q), (2, .int v4_2)]) hx hb dX9_rowsHad_21 hl (k := 1) rfl (by rw [ez15]; rfl) (by decide) rfl (fun ls hl => ?_)
          obtain ⟨z16, ez16⟩ : ∃ y : Int32, y = v4_2 + (1 : Int32) := ⟨_, rfl⟩
          have r17 : rg z16 1 4 := rg_add ez16 r3 rl_1 (by decide)
          have a18 : z16.toInt = v4_2.toInt + 1 := ai_add ez16 r3 tl_1 (by decide)
          refine lv_iinc (v := z16) (lv' := [(2, .int z16), (1, .int z15), (0, .ref q)]) hx hb dX9_rowsHad_24 hl (k := 2) rfl (by rw [ez16]; rfl) (by decide) rfl (fun ls hl => ?_)
          refine lv_goto (tgt := 4) hx hb dX9_rowsHad_27 (by decide) ?_
          exact ih4 _ _ _ _ z15 z16 (fu_s hfu4 a18 (by decide)) hI hH (rg_w r17 (by decide)) (lv_sub hl [2, 1, 0] rfl)
  refine lv_iconst (v := (0 : Int32)) hx hb dX9_rowsHad_0 (by decide) ?_
  refine lv_istore_n (lv' := [(1, .int (0 : Int32)), (0, .ref q)]) hx hb dX9_rowsHad_1 rfl hl (by decide) rfl (fun ls hl => ?_)
  refine lv_iconst (v := (0 : Int32)) hx hb dX9_rowsHad_2 (by decide) ?_
  refine lv_istore_n (lv' := [(2, .int (0 : Int32)), (1, .int (0 : Int32)), (0, .ref q)]) hx hb dX9_rowsHad_3 rfl hl (by decide) rfl (fun ls hl => ?_)
  exact cut4 5 _ _ _ _ (0 : Int32) (0 : Int32) (fu_i 5 rl_0 (by decide)) hI hH (rg_w rl_0 (by decide)) (lv_sub hl [2, 1, 0] rfl)
set_option maxHeartbeats 4000000 in
set_option maxRecDepth 100000 in
theorem t_X9_followNow (l : Launch) (E : gE) (J : Nat → Nat) (τ : Nat → Nat) (L : List Nat) (f : gF) (hI : tI E L τ f) {q : Nat} (mq : q ∈ L) (tq : τ q = 0) (p1 : Int32) (rp1 : rg p1 0 3) : tMv l E J yX9_followNow cX9_followNow 2 (gRm (4) 0 0) [.ref q, .int p1] L f (tPv E L τ [19, 20, 21] f (fun f1 => True)) := by
  refine tMv.intro (by decide) (Nat.le_of_ble_eq_true rfl) ?_
  intro p e s m below meth c A ls C hr hA hO hH hl
  have C : gC E cX9_followNow 2 RX9 p s m _ meth c := C
  have hl : lv_has ls 2 [(0, .ref q), (1, .int p1)] := hl
  have hx := C.1
  have hb := C.2.1
  have hI := hI.S [19, 20, 21]
  obtain ⟨q_5, mq_5, tq_5, kq_5⟩ := t_fldr hI.1 mq tq td_0 (k := 5) rfl
  obtain ⟨q_1, mq_1, tq_1, kq_1⟩ := t_fldr hI.1 mq tq td_0 (k := 1) rfl
  refine lv_aload_n hx hb dX9_followNow_0 rfl (lv_at hl 0 rfl) ?_
  refine t_getX C hH hI.1 mq tq td_0 iX9 rfl 5 (by decide) wd425 rfl (hI.rf kq_5) dX9_followNow_1 ?_
  refine lv_aload_n hx hb dX9_followNow_4 rfl (lv_at hl 0 rfl) ?_
  refine t_getX C hH hI.1 mq tq td_0 iX9 rfl 1 (by decide) wd414 rfl (hI.rf kq_1) dX9_followNow_5 ?_
  refine t_geti C hH hI.1 mq_1 tq_1 td_3 iX3 rfl 8 (by decide) wd426 rfl rfl dX9_followNow_8 (fun z1 rz1 => ?_)
  refine lv_aload_n hx hb dX9_followNow_11 rfl (lv_at hl 0 rfl) ?_
  refine t_getX C hH hI.1 mq tq td_0 iX9 rfl 1 (by decide) wd414 rfl (hI.rf kq_1) dX9_followNow_12 ?_
  refine t_geti C hH hI.1 mq_1 tq_1 td_3 iX3 rfl 3 (by decide) wd427 rfl rfl dX9_followNow_15 (fun z2 rz2 => ?_)
  refine t_Vv C hO hl.1 hA hH hI.1 (As := [.int z1, .int z2]) (rest := []) (t_X7_under l E J τ L f hI.1 mq_5 tq_5 z1 z2) my_X7_under wd428 mq_5 tq_5 td_19 rfl rfl rfl (Nat.le_of_ble_eq_true rfl) ⟨Nat.le_of_ble_eq_true rfl, Nat.le_of_ble_eq_true rfl⟩ ⟨rfl, rfl⟩ dX9_followNow_18 (fun L1 f3 H locs hp hH => ?_)
  obtain ⟨rfl, s5, h6⟩ := hp
  have hI := hI.call s5 (by decide)
  refine lv_aload_n hx hb dX9_followNow_21 rfl (lv_at hl 0 rfl) ?_
  refine t_getX C hH hI.1 mq tq td_0 iX9 rfl 5 (by decide) wd425 rfl (hI.rf kq_5) dX9_followNow_22 ?_
  refine lv_iload_n hx hb dX9_followNow_25 rfl (lv_at hl 1 rfl) ?_
  refine t_Vv C hO hl.1 hA hH hI.1 (As := [.int p1]) (rest := []) (t_X7_follow l E J τ L f3 hI.1 mq_5 tq_5 p1 rp1) my_X7_follow wd429 mq_5 tq_5 td_19 rfl rfl rfl (Nat.le_of_ble_eq_true rfl) ⟨Nat.le_of_ble_eq_true rfl, Nat.le_of_ble_eq_true rfl⟩ ⟨rfl, rfl⟩ dX9_followNow_26 (fun L1 f7 H locs hp hH => ?_)
  obtain ⟨rfl, s9, h10⟩ := hp
  have hI := hI.call s9 (by decide)
  exact g_vret C hr hH (Nat.zero_le _) (Nat.zero_le _) dX9_followNow_29 ⟨rfl, hI, trivial⟩
set_option maxHeartbeats 4000000 in
set_option maxRecDepth 100000 in
theorem t_X9_passNow (l : Launch) (E : gE) (J : Nat → Nat) (τ : Nat → Nat) (L : List Nat) (f : gF) (hI : tI E L τ f) {q : Nat} (mq : q ∈ L) (tq : τ q = 0) : tMv l E J yX9_passNow cX9_passNow 1 (gRm (4) 0 0) [.ref q] L f (tPv E L τ [19, 20, 21, 23] f (fun f1 => True)) := by
  refine tMv.intro (by decide) (Nat.le_of_ble_eq_true rfl) ?_
  intro p e s m below meth c A ls C hr hA hO hH hl
  have C : gC E cX9_passNow 1 RX9 p s m _ meth c := C
  have hl : lv_has ls 1 [(0, .ref q)] := hl
  have hx := C.1
  have hb := C.2.1
  have hI := hI.S [19, 20, 21, 23]
  obtain ⟨q_5, mq_5, tq_5, kq_5⟩ := t_fldr hI.1 mq tq td_0 (k := 5) rfl
  obtain ⟨q_1, mq_1, tq_1, kq_1⟩ := t_fldr hI.1 mq tq td_0 (k := 1) rfl
  refine lv_aload_n hx hb dX9_passNow_0 rfl (lv_at hl 0 rfl) ?_
  refine t_getX C hH hI.1 mq tq td_0 iX9 rfl 5 (by decide) wd425 rfl (hI.rf kq_5) dX9_passNow_1 ?_
  refine lv_aload_n hx hb dX9_passNow_4 rfl (lv_at hl 0 rfl) ?_
  refine t_getX C hH hI.1 mq tq td_0 iX9 rfl 1 (by decide) wd414 rfl (hI.rf kq_1) dX9_passNow_5 ?_
  refine t_geti C hH hI.1 mq_1 tq_1 td_3 iX3 rfl 8 (by decide) wd426 rfl rfl dX9_passNow_8 (fun z1 rz1 => ?_)
  refine lv_aload_n hx hb dX9_passNow_11 rfl (lv_at hl 0 rfl) ?_
  refine t_getX C hH hI.1 mq tq td_0 iX9 rfl 1 (by decide) wd414 rfl (hI.rf kq_1) dX9_passNow_12 ?_
  refine t_geti C hH hI.1 mq_1 tq_1 td_3 iX3 rfl 3 (by decide) wd427 rfl rfl dX9_passNow_15 (fun z2 rz2 => ?_)
  refine t_Vv C hO hl.1 hA hH hI.1 (As := [.int z1, .int z2]) (rest := []) (t_X7_under l E J τ L f hI.1 mq_5 tq_5 z1 z2) my_X7_under wd428 mq_5 tq_5 td_19 rfl rfl rfl (Nat.le_of_ble_eq_true rfl) ⟨Nat.le_of_ble_eq_true rfl, Nat.le_of_ble_eq_true rfl⟩ ⟨rfl, rfl⟩ dX9_passNow_18 (fun L1 f3 H locs hp hH => ?_)
  obtain ⟨rfl, s5, h6⟩ := hp
  have hI := hI.call s5 (by decide)
  refine lv_aload_n hx hb dX9_passNow_21 rfl (lv_at hl 0 rfl) ?_
  refine t_getX C hH hI.1 mq tq td_0 iX9 rfl 5 (by decide) wd425 rfl (hI.rf kq_5) dX9_passNow_22 ?_
  refine lv_bipush (v := (15 : Int32)) hx hb dX9_passNow_25 (by decide) ?_
  refine t_Vv C hO hl.1 hA hH hI.1 (As := [.int (15 : Int32)]) (rest := []) (t_X7_pass l E J τ L f3 hI.1 mq_5 tq_5 (15 : Int32)) my_X7_pass wd430 mq_5 tq_5 td_19 rfl rfl rfl (Nat.le_of_ble_eq_true rfl) ⟨Nat.le_of_ble_eq_true rfl, Nat.le_of_ble_eq_true rfl⟩ ⟨rfl, rfl⟩ dX9_passNow_27 (fun L1 f7 H locs hp hH => ?_)
  obtain ⟨rfl, s9, h10⟩ := hp
  have hI := hI.call s9 (by decide)
  exact g_vret C hr hH (Nat.zero_le _) (Nat.zero_le _) dX9_passNow_30 ⟨rfl, hI, trivial⟩
set_option maxHeartbeats 4000000 in
set_option maxRecDepth 100000 in
theorem t_X9_servedUnder (l : Launch) (E : gE) (J : Nat → Nat) (τ : Nat → Nat) (L : List Nat) (f : gF) (hI : tI E L τ f) {q : Nat} (mq : q ∈ L) (tq : τ q = 0) (p1 : Int32) (p2 : Int32) : tMi l E J yX9_servedUnder cX9_servedUnder 3 .int (gRm (4) 0 0) [.ref q, .int p1, .int p2] L f (tPi E L τ [19, 20, 21, 23] f (fun r f1 => rg r 0 63)) := by
  refine tMi.intro (by decide) (Nat.le_of_ble_eq_true rfl) ?_
  intro p e s m below meth c A ls C hr hA hO hH hl
  have C : gC E cX9_servedUnder 3 RX9 p s m _ meth c := C
  have hl : lv_has ls 3 [(0, .ref q), (1, .int p1), (2, .int p2)] := hl
  have hx := C.1
  have hb := C.2.1
  have hI := hI.S [19, 20, 21, 23]
  obtain ⟨q_5, mq_5, tq_5, kq_5⟩ := t_fldr hI.1 mq tq td_0 (k := 5) rfl
  refine lv_aload_n hx hb dX9_servedUnder_0 rfl (lv_at hl 0 rfl) ?_
  refine t_getX C hH hI.1 mq tq td_0 iX9 rfl 5 (by decide) wd425 rfl (hI.rf kq_5) dX9_servedUnder_1 ?_
  refine lv_iload_n hx hb dX9_servedUnder_4 rfl (lv_at hl 1 rfl) ?_
  refine lv_iload_n hx hb dX9_servedUnder_5 rfl (lv_at hl 2 rfl) ?_
  refine t_Vv C hO hl.1 hA hH hI.1 (As := [.int p1, .int p2]) (rest := []) (t_X7_under l E J τ L f hI.1 mq_5 tq_5 p1 p2) my_X7_under wd428 mq_5 tq_5 td_19 rfl rfl rfl (Nat.le_of_ble_eq_true rfl) ⟨Nat.le_of_ble_eq_true rfl, Nat.le_of_ble_eq_true rfl⟩ ⟨rfl, rfl⟩ dX9_servedUnder_6 (fun L1 f1 H locs hp hH => ?_)
  obtain ⟨rfl, s3, h4⟩ := hp
  have hI := hI.call s3 (by decide)
  refine lv_aload_n hx hb dX9_servedUnder_9 rfl (lv_at hl 0 rfl) ?_
  refine t_getX C hH hI.1 mq tq td_0 iX9 rfl 5 (by decide) wd425 rfl (hI.rf kq_5) dX9_servedUnder_10 ?_
  refine lv_bipush (v := (15 : Int32)) hx hb dX9_servedUnder_13 (by decide) ?_
  refine t_Vv C hO hl.1 hA hH hI.1 (As := [.int (15 : Int32)]) (rest := []) (t_X7_pass l E J τ L f1 hI.1 mq_5 tq_5 (15 : Int32)) my_X7_pass wd430 mq_5 tq_5 td_19 rfl rfl rfl (Nat.le_of_ble_eq_true rfl) ⟨Nat.le_of_ble_eq_true rfl, Nat.le_of_ble_eq_true rfl⟩ ⟨rfl, rfl⟩ dX9_servedUnder_15 (fun L1 f5 H locs hp hH => ?_)
  obtain ⟨rfl, s7, h8⟩ := hp
  have hI := hI.call s7 (by decide)
  refine lv_aload_n hx hb dX9_servedUnder_18 rfl (lv_at hl 0 rfl) ?_
  refine t_getX C hH hI.1 mq tq td_0 iX9 rfl 5 (by decide) wd425 rfl (hI.rf kq_5) dX9_servedUnder_19 ?_
  refine t_Vi C hO hl.1 hA hH hI.1 (As := []) (rest := []) (t_X7_servedBits l E J τ L f5 hI.1 mq_5 tq_5) my_X7_servedBits wd431 mq_5 tq_5 td_19 rfl rfl rfl (Nat.le_of_ble_eq_true rfl) ⟨Nat.le_of_ble_eq_true rfl, Nat.le_of_ble_eq_true rfl⟩ ⟨rfl, rfl⟩ dX9_servedUnder_22 (fun r10 L1 f9 H locs hp hH => ?_)
  obtain ⟨rfl, s11, h12⟩ := hp
  have hI := hI.call s11 (by decide)
  exact g_iret C hr hH (Nat.zero_le _) (Nat.zero_le _) dX9_servedUnder_25 ⟨rfl, hI, h12⟩
set_option maxHeartbeats 4000000 in
set_option maxRecDepth 100000 in
theorem t_X9_incomeUnder (l : Launch) (E : gE) (J : Nat → Nat) (τ : Nat → Nat) (L : List Nat) (f : gF) (hI : tI E L τ f) {q : Nat} (mq : q ∈ L) (tq : τ q = 0) (p1 : Int32) (p2 : Int32) : tMi l E J yX9_incomeUnder cX9_incomeUnder 3 .int (gRm (5) 0 0) [.ref q, .int p1, .int p2] L f (tPi E L τ [19, 20, 21, 23] f (fun r f1 => rg r (-2147483648) 2147483647)) := by
  refine tMi.intro (by decide) (Nat.le_of_ble_eq_true rfl) ?_
  intro p e s m below meth c A ls C hr hA hO hH hl
  have C : gC E cX9_incomeUnder 3 RX9 p s m _ meth c := C
  have hl : lv_has ls 3 [(0, .ref q), (1, .int p1), (2, .int p2)] := hl
  have hx := C.1
  have hb := C.2.1
  have hI := hI.S [19, 20, 21, 23]
  obtain ⟨q_1, mq_1, tq_1, kq_1⟩ := t_fldr hI.1 mq tq td_0 (k := 1) rfl
  refine lv_aload_n hx hb dX9_incomeUnder_0 rfl (lv_at hl 0 rfl) ?_
  refine t_getX C hH hI.1 mq tq td_0 iX9 rfl 1 (by decide) wd414 rfl (hI.rf kq_1) dX9_incomeUnder_1 ?_
  refine lv_aload_n hx hb dX9_incomeUnder_4 rfl (lv_at hl 0 rfl) ?_
  refine lv_iload_n hx hb dX9_incomeUnder_5 rfl (lv_at hl 1 rfl) ?_
  refine lv_iload_n hx hb dX9_incomeUnder_6 rfl (lv_at hl 2 rfl) ?_
  refine t_Vi C hO hl.1 hA hH hI.1 (As := [.int p1, .int p2]) (rest := [.ref q_1]) (t_X9_servedUnder l E J τ L f hI.1 mq tq p1 p2) my_X9_servedUnder wd435 mq tq td_0 rfl rfl rfl (Nat.le_of_ble_eq_true rfl) ⟨Nat.le_of_ble_eq_true rfl, Nat.le_of_ble_eq_true rfl⟩ ⟨rfl, rfl⟩ dX9_incomeUnder_7 (fun r2 L1 f1 H locs hp hH => ?_)
  obtain ⟨rfl, s3, h4⟩ := hp
  have hI := hI.call s3 (by decide)
  refine t_Vi C hO hl.1 hA hH hI.1 (As := [.int r2]) (rest := []) (t_X3_paidBy l E J τ L f1 hI.1 mq_1 tq_1 r2) my_X3_paidBy wd436 mq_1 tq_1 td_3 rfl rfl rfl (Nat.le_of_ble_eq_true rfl) ⟨Nat.le_of_ble_eq_true rfl, Nat.le_of_ble_eq_true rfl⟩ ⟨rfl, rfl⟩ dX9_incomeUnder_10 (fun r6 L1 f5 H locs hp hH => ?_)
  obtain ⟨rfl, s7, h8⟩ := hp
  have hI := hI.call s7 (by decide)
  exact g_iret C hr hH (Nat.zero_le _) (Nat.zero_le _) dX9_incomeUnder_13 ⟨rfl, hI, h8⟩
set_option maxHeartbeats 4000000 in
set_option maxRecDepth 100000 in
theorem t_X9_earshotOfUnpaid (l : Launch) (E : gE) (J : Nat → Nat) (τ : Nat → Nat) (L : List Nat) (f : gF) (hI : tI E L τ f) {q : Nat} (mq : q ∈ L) (tq : τ q = 0) : tMi l E J yX9_earshotOfUnpaid cX9_earshotOfUnpaid 3 .int (gRm (2) 0 0) [.ref q] L f (tPi E L τ [] f (fun r f1 => rg r (-2147483648) 2147483647)) := by
  refine tMi.intro (by decide) (Nat.le_of_ble_eq_true rfl) ?_
  intro p e s m below meth c A ls C hr hA hO hH hl
  have C : gC E cX9_earshotOfUnpaid 3 RX9 p s m _ meth c := C
  have hl : lv_has ls 3 [(0, .ref q)] := hl
  have hx := C.1
  have hb := C.2.1
  have hI := hI.S []
  obtain ⟨q_1, mq_1, tq_1, kq_1⟩ := t_fldr hI.1 mq tq td_0 (k := 1) rfl
  obtain ⟨q_1_14, mq_1_14, tq_1_14, kq_1_14⟩ := t_fldr hI.1 mq_1 tq_1 td_3 (k := 14) rfl
  have cut4 : ∀ (n : Nat) (fh4 : gF) (H : Heap) (locs : List Loc) (ls : Array Slot) (v4_1 : Int32) (v4_2 : Int32), 6 - v4_2.toInt < (n : Int) → tS E L τ [] f fh4 → gH E A L fh4 s.heap H locs → rg v4_2 0 6 → lv_has ls 3 [(0, .ref q), (1, .int v4_1), (2, .int v4_2)] → W p l e (gRm (2) 0 0) s m [.ref q].toArray below meth c H locs 0 0 (MQ below (gQi E A (tPi E L τ [] f (fun r f1 => rg r (-2147483648) 2147483647))) [.ref q].toArray s (gRm (2) 0 0).cells (gRm (2) 0 0).slots A) (F0 m 4 ls []) := by
    intro n
    induction n with
    | zero =>
      intro fh4 H locs ls v4_1 v4_2 hfu4 hI hH r_v4_2 hl
      exact (fu_0 hfu4 r_v4_2).elim
    | succ n ih4 =>
      intro fh4 H locs ls v4_1 v4_2 hfu4 hI hH r_v4_2 hl
      refine lv_iload_n hx hb dX9_earshotOfUnpaid_4 rfl (lv_at hl 2 rfl) ?_
      refine lv_aload_n hx hb dX9_earshotOfUnpaid_5 rfl (lv_at hl 0 rfl) ?_
      refine t_getX C hH hI.1 mq tq td_0 iX9 rfl 1 (by decide) wd414 rfl (hI.rf kq_1) dX9_earshotOfUnpaid_6 ?_
      refine t_geti C hH hI.1 mq_1 tq_1 td_3 iX3 rfl 7 (by decide) wd437 rfl rfl dX9_earshotOfUnpaid_9 (fun z1 rz1 => ?_)
      refine lv_icmp_ge (tgt := 44) hx hb dX9_earshotOfUnpaid_12 (by decide) (fun c2 => ?_) (fun c2 => ?_)
      · skip
        refine lv_iload_n hx hb dX9_earshotOfUnpaid_44 rfl (lv_at hl 1 rfl) ?_
        exact g_iret C hr hH (Nat.zero_le _) (Nat.zero_le _) dX9_earshotOfUnpaid_45 ⟨rfl, hI, (rg_all _)⟩
      · skip
        have r3 : rg v4_2 0 5 := rf_ltl (n_le c2) r_v4_2 rz1 (by decide)
        have r4 : rg z1 1 6 := rf_ltr (n_le c2) r_v4_2 rz1 (by decide)
        refine lv_aload_n hx hb dX9_earshotOfUnpaid_15 rfl (lv_at hl 0 rfl) ?_
        refine t_getX C hH hI.1 mq tq td_0 iX9 rfl 1 (by decide) wd414 rfl (hI.rf kq_1) dX9_earshotOfUnpaid_16 ?_
        refine t_getX C hH hI.1 mq_1 tq_1 td_3 iX3 rfl 14 (by decide) wd438 rfl (hI.rf kq_1_14) dX9_earshotOfUnpaid_19 ?_
        refine lv_iload_n hx hb dX9_earshotOfUnpaid_22 rfl (lv_at hl 2 rfl) ?_
        refine t_ald C hH hI.1 mq_1_14 tq_1_14 td_8 (rg_in r3 (by decide)) dX9_earshotOfUnpaid_23 (fun z5v az5 _ => ?_)
        refine lv_topi (fun z5 ez5 => ?_)
        refine lv_if_ne (tgt := 38) hx hb dX9_earshotOfUnpaid_24 (by decide) (fun c6 => ?_) (fun c6 => ?_)
        · skip
          obtain ⟨z7, ez7⟩ : ∃ y : Int32, y = v4_2 + (1 : Int32) := ⟨_, rfl⟩
          have r8 : rg z7 1 6 := rg_add ez7 r3 rl_1 (by decide)
          have a9 : z7.toInt = v4_2.toInt + 1 := ai_add ez7 r3 tl_1 (by decide)
          refine lv_iinc (v := z7) (lv' := [(2, .int z7), (0, .ref q), (1, .int v4_1)]) hx hb dX9_earshotOfUnpaid_38 hl (k := 2) rfl (by rw [ez7]; rfl) (by decide) rfl (fun ls hl => ?_)
          refine lv_goto (tgt := 4) hx hb dX9_earshotOfUnpaid_41 (by decide) ?_
          exact ih4 _ _ _ _ v4_1 z7 (fu_s hfu4 a9 (by decide)) hI hH (rg_w r8 (by decide)) (lv_sub hl [1, 2, 0] rfl)
        · skip
          have r10 : rg z5 0 0 := rf_eql (c_eq c6) (rg_all _) rl_0 (by decide)
          refine lv_iload_n hx hb dX9_earshotOfUnpaid_27 rfl (lv_at hl 1 rfl) ?_
          refine lv_aload_n hx hb dX9_earshotOfUnpaid_28 rfl (lv_at hl 0 rfl) ?_
          refine t_getX C hH hI.1 mq tq td_0 iX9 rfl 1 (by decide) wd414 rfl (hI.rf kq_1) dX9_earshotOfUnpaid_29 ?_
          refine lv_iload_n hx hb dX9_earshotOfUnpaid_32 rfl (lv_at hl 2 rfl) ?_
          refine t_Vi C hO hl.1 hA hH hI.1 (As := [.int v4_2]) (rest := [.int v4_1]) (t_X3_earshot l E J τ L fh4 hI.1 mq_1 tq_1 v4_2 r3) my_X3_earshot wd439 mq_1 tq_1 td_3 rfl rfl rfl (Nat.le_of_ble_eq_true rfl) ⟨Nat.le_of_ble_eq_true rfl, Nat.le_of_ble_eq_true rfl⟩ ⟨rfl, rfl⟩ dX9_earshotOfUnpaid_33 (fun r12 L1 f11 H locs hp hH => ?_)
          obtain ⟨rfl, s13, h14⟩ := hp
          have hI := hI.call s13 (by decide)
          refine lv_ior hx hb dX9_earshotOfUnpaid_36 ?_
          refine lv_topi (fun z15 ez15 => ?_)
          refine lv_istore_n (lv' := [(1, .int z15), (0, .ref q), (2, .int v4_2)]) hx hb dX9_earshotOfUnpaid_37 rfl hl (by decide) rfl (fun ls hl => ?_)
          obtain ⟨z16, ez16⟩ : ∃ y : Int32, y = v4_2 + (1 : Int32) := ⟨_, rfl⟩
          have r17 : rg z16 1 6 := rg_add ez16 r3 rl_1 (by decide)
          have a18 : z16.toInt = v4_2.toInt + 1 := ai_add ez16 r3 tl_1 (by decide)
          refine lv_iinc (v := z16) (lv' := [(2, .int z16), (1, .int z15), (0, .ref q)]) hx hb dX9_earshotOfUnpaid_38 hl (k := 2) rfl (by rw [ez16]; rfl) (by decide) rfl (fun ls hl => ?_)
          refine lv_goto (tgt := 4) hx hb dX9_earshotOfUnpaid_41 (by decide) ?_
          exact ih4 _ _ _ _ z15 z16 (fu_s hfu4 a18 (by decide)) hI hH (rg_w r17 (by decide)) (lv_sub hl [2, 1, 0] rfl)
  refine lv_iconst (v := (0 : Int32)) hx hb dX9_earshotOfUnpaid_0 (by decide) ?_
  refine lv_istore_n (lv' := [(1, .int (0 : Int32)), (0, .ref q)]) hx hb dX9_earshotOfUnpaid_1 rfl hl (by decide) rfl (fun ls hl => ?_)
  refine lv_iconst (v := (0 : Int32)) hx hb dX9_earshotOfUnpaid_2 (by decide) ?_
  refine lv_istore_n (lv' := [(2, .int (0 : Int32)), (1, .int (0 : Int32)), (0, .ref q)]) hx hb dX9_earshotOfUnpaid_3 rfl hl (by decide) rfl (fun ls hl => ?_)
  exact cut4 7 _ _ _ _ (0 : Int32) (0 : Int32) (fu_i 7 rl_0 (by decide)) hI hH (rg_w rl_0 (by decide)) (lv_sub hl [2, 1, 0] rfl)
set_option maxHeartbeats 4000000 in
set_option maxRecDepth 100000 in
theorem t_X9_unpaidBits (l : Launch) (E : gE) (J : Nat → Nat) (τ : Nat → Nat) (L : List Nat) (f : gF) (hI : tI E L τ f) {q : Nat} (mq : q ∈ L) (tq : τ q = 0) : tMi l E J yX9_unpaidBits cX9_unpaidBits 2 .int (gRm (5) 0 0) [.ref q] L f (tPi E L τ [19, 20, 21, 23] f (fun r f1 => rg r (-2147483648) 2147483647)) := by
  refine tMi.intro (by decide) (Nat.le_of_ble_eq_true rfl) ?_
  intro p e s m below meth c A ls C hr hA hO hH hl
  have C : gC E cX9_unpaidBits 2 RX9 p s m _ meth c := C
  have hl : lv_has ls 2 [(0, .ref q)] := hl
  have hx := C.1
  have hb := C.2.1
  have hI := hI.S [19, 20, 21, 23]
  obtain ⟨q_1, mq_1, tq_1, kq_1⟩ := t_fldr hI.1 mq tq td_0 (k := 1) rfl
  obtain ⟨q_5, mq_5, tq_5, kq_5⟩ := t_fldr hI.1 mq tq td_0 (k := 5) rfl
  refine lv_aload_n hx hb dX9_unpaidBits_0 rfl (lv_at hl 0 rfl) ?_
  refine t_Vv C hO hl.1 hA hH hI.1 (As := []) (rest := []) (t_X9_passNow l E J τ L f hI.1 mq tq) my_X9_passNow wd443 mq tq td_0 rfl rfl rfl (Nat.le_of_ble_eq_true rfl) ⟨Nat.le_of_ble_eq_true rfl, Nat.le_of_ble_eq_true rfl⟩ ⟨rfl, rfl⟩ dX9_unpaidBits_1 (fun L1 f1 H locs hp hH => ?_)
  obtain ⟨rfl, s3, h4⟩ := hp
  have hI := hI.call s3 (by decide)
  refine lv_aload_n hx hb dX9_unpaidBits_4 rfl (lv_at hl 0 rfl) ?_
  refine t_getX C hH hI.1 mq tq td_0 iX9 rfl 1 (by decide) wd414 rfl (hI.rf kq_1) dX9_unpaidBits_5 ?_
  refine t_Vi C hO hl.1 hA hH hI.1 (As := []) (rest := []) (t_X3_allMembers l E J τ L f1 hI.1 mq_1 tq_1) my_X3_allMembers wd444 mq_1 tq_1 td_3 rfl rfl rfl (Nat.le_of_ble_eq_true rfl) ⟨Nat.le_of_ble_eq_true rfl, Nat.le_of_ble_eq_true rfl⟩ ⟨rfl, rfl⟩ dX9_unpaidBits_8 (fun r6 L1 f5 H locs hp hH => ?_)
  obtain ⟨rfl, s7, h8⟩ := hp
  have hI := hI.call s7 (by decide)
  refine lv_aload_n hx hb dX9_unpaidBits_11 rfl (lv_at hl 0 rfl) ?_
  refine t_getX C hH hI.1 mq tq td_0 iX9 rfl 5 (by decide) wd425 rfl (hI.rf kq_5) dX9_unpaidBits_12 ?_
  refine t_Vi C hO hl.1 hA hH hI.1 (As := []) (rest := [.int r6]) (t_X7_deafBits l E J τ L f5 hI.1 mq_5 tq_5) my_X7_deafBits wd448 mq_5 tq_5 td_19 rfl rfl rfl (Nat.le_of_ble_eq_true rfl) ⟨Nat.le_of_ble_eq_true rfl, Nat.le_of_ble_eq_true rfl⟩ ⟨rfl, rfl⟩ dX9_unpaidBits_15 (fun r10 L1 f9 H locs hp hH => ?_)
  obtain ⟨rfl, s11, h12⟩ := hp
  have hI := hI.call s11 (by decide)
  refine lv_iconst (v := (-1 : Int32)) hx hb dX9_unpaidBits_18 (by decide) ?_
  refine lv_ixor hx hb dX9_unpaidBits_19 ?_
  refine lv_topi (fun z13 ez13 => ?_)
  refine lv_iand hx hb dX9_unpaidBits_20 ?_
  refine lv_topi (fun z14 ez14 => ?_)
  have r15 : rg z14 0 63 := rg_andl ez14 h8 (by decide)
  refine lv_istore_n (lv' := [(1, .int z14), (0, .ref q)]) hx hb dX9_unpaidBits_21 rfl hl (by decide) rfl (fun ls hl => ?_)
  refine lv_iload_n hx hb dX9_unpaidBits_22 rfl (lv_at hl 0 rfl) ?_
  refine lv_aload_n hx hb dX9_unpaidBits_23 rfl (lv_at hl 1 rfl) ?_
  refine t_getX C hH hI.1 mq tq td_0 iX9 rfl 1 (by decide) wd414 rfl (hI.rf kq_1) dX9_unpaidBits_24 ?_
  refine t_Vi C hO hl.1 hA hH hI.1 (As := []) (rest := [.int z14]) (t_X3_wanters l E J τ L f9 hI.1 mq_1 tq_1) my_X3_wanters wd449 mq_1 tq_1 td_3 rfl rfl rfl (Nat.le_of_ble_eq_true rfl) ⟨Nat.le_of_ble_eq_true rfl, Nat.le_of_ble_eq_true rfl⟩ ⟨rfl, rfl⟩ dX9_unpaidBits_27 (fun r17 L1 f16 H locs hp hH => ?_)
  obtain ⟨rfl, s18, h19⟩ := hp
  have hI := hI.call s18 (by decide)
  refine lv_iconst (v := (-1 : Int32)) hx hb dX9_unpaidBits_30 (by decide) ?_
  refine lv_ixor hx hb dX9_unpaidBits_31 ?_
  refine lv_topi (fun z20 ez20 => ?_)
  refine lv_iand hx hb dX9_unpaidBits_32 ?_
  refine lv_topi (fun z21 ez21 => ?_)
  have r22 : rg z21 0 63 := rg_andl ez21 r15 (by decide)
  exact g_iret C hr hH (Nat.zero_le _) (Nat.zero_le _) dX9_unpaidBits_33 ⟨rfl, hI, (rg_w r22 (by decide))⟩
set_option maxHeartbeats 4000000 in
set_option maxRecDepth 100000 in
theorem t_X9_flightsOver (l : Launch) (E : gE) (J : Nat → Nat) (τ : Nat → Nat) (L : List Nat) (f : gF) (hI : tI E L τ f) {q : Nat} (mq : q ∈ L) (tq : τ q = 0) (p1 : Int32) : tMi l E J yX9_flightsOver cX9_flightsOver 4 .int (gRm (5) 0 0) [.ref q, .int p1] L f (tPi E L τ [19, 20, 21] f (fun r f1 => rg r (-2147483648) 2147483647)) := by
  refine tMi.intro (by decide) (Nat.le_of_ble_eq_true rfl) ?_
  intro p e s m below meth c A ls C hr hA hO hH hl
  have C : gC E cX9_flightsOver 4 RX9 p s m _ meth c := C
  have hl : lv_has ls 4 [(0, .ref q), (1, .int p1)] := hl
  have hx := C.1
  have hb := C.2.1
  have hI := hI.S [19, 20, 21]
  obtain ⟨q_1, mq_1, tq_1, kq_1⟩ := t_fldr hI.1 mq tq td_0 (k := 1) rfl
  obtain ⟨q_5, mq_5, tq_5, kq_5⟩ := t_fldr hI.1 mq tq td_0 (k := 5) rfl
  have cut4 : ∀ (n : Nat) (fh4 : gF) (H : Heap) (locs : List Loc) (ls : Array Slot) (v4_2 : Int32) (v4_3 : Int32), 4 - v4_3.toInt < (n : Int) → tS E L τ [19, 20, 21] f fh4 → gH E A L fh4 s.heap H locs → rg v4_2 0 15 → rg v4_3 0 4 → lv_has ls 4 [(0, .ref q), (1, .int p1), (2, .int v4_2), (3, .int v4_3)] → W p l e (gRm (5) 0 0) s m [.ref q, .int p1].toArray below meth c H locs 0 0 (MQ below (gQi E A (tPi E L τ [19, 20, 21] f (fun r f1 => rg r (-2147483648) 2147483647))) [.ref q, .int p1].toArray s (gRm (5) 0 0).cells (gRm (5) 0 0).slots A) (F0 m 4 ls []) := by
    intro n
    induction n with
    | zero =>
      intro fh4 H locs ls v4_2 v4_3 hfu4 hI hH r_v4_2 r_v4_3 hl
      exact (fu_0 hfu4 r_v4_3).elim
    | succ n ih4 =>
      intro fh4 H locs ls v4_2 v4_3 hfu4 hI hH r_v4_2 r_v4_3 hl
      refine lv_iload_n hx hb dX9_flightsOver_4 rfl (lv_at hl 3 rfl) ?_
      refine lv_aload_n hx hb dX9_flightsOver_5 rfl (lv_at hl 0 rfl) ?_
      refine t_getX C hH hI.1 mq tq td_0 iX9 rfl 1 (by decide) wd414 rfl (hI.rf kq_1) dX9_flightsOver_6 ?_
      refine t_geti C hH hI.1 mq_1 tq_1 td_3 iX3 rfl 6 (by decide) wd450 rfl rfl dX9_flightsOver_9 (fun z1 rz1 => ?_)
      refine lv_icmp_ge (tgt := 44) hx hb dX9_flightsOver_12 (by decide) (fun c2 => ?_) (fun c2 => ?_)
      · skip
        refine lv_iload_n hx hb dX9_flightsOver_44 rfl (lv_at hl 2 rfl) ?_
        exact g_iret C hr hH (Nat.zero_le _) (Nat.zero_le _) dX9_flightsOver_45 ⟨rfl, hI, (rg_w r_v4_2 (by decide))⟩
      · skip
        have r3 : rg v4_3 0 3 := rf_ltl (n_le c2) r_v4_3 rz1 (by decide)
        have r4 : rg z1 1 4 := rf_ltr (n_le c2) r_v4_3 rz1 (by decide)
        refine lv_aload_n hx hb dX9_flightsOver_15 rfl (lv_at hl 0 rfl) ?_
        refine lv_iload_n hx hb dX9_flightsOver_16 rfl (lv_at hl 3 rfl) ?_
        refine t_Vv C hO hl.1 hA hH hI.1 (As := [.int v4_3]) (rest := []) (t_X9_followNow l E J τ L fh4 hI.1 mq tq v4_3 r3) my_X9_followNow wd454 mq tq td_0 rfl rfl rfl (Nat.le_of_ble_eq_true rfl) ⟨Nat.le_of_ble_eq_true rfl, Nat.le_of_ble_eq_true rfl⟩ ⟨rfl, rfl⟩ dX9_flightsOver_17 (fun L1 f5 H locs hp hH => ?_)
        obtain ⟨rfl, s7, h8⟩ := hp
        have hI := hI.call s7 (by decide)
        refine lv_aload_n hx hb dX9_flightsOver_20 rfl (lv_at hl 0 rfl) ?_
        refine t_getX C hH hI.1 mq tq td_0 iX9 rfl 5 (by decide) wd425 rfl (hI.rf kq_5) dX9_flightsOver_21 ?_
        refine t_Vi C hO hl.1 hA hH hI.1 (As := []) (rest := []) (t_X7_wayBits l E J τ L f5 hI.1 mq_5 tq_5) my_X7_wayBits wd455 mq_5 tq_5 td_19 rfl rfl rfl (Nat.le_of_ble_eq_true rfl) ⟨Nat.le_of_ble_eq_true rfl, Nat.le_of_ble_eq_true rfl⟩ ⟨rfl, rfl⟩ dX9_flightsOver_24 (fun r10 L1 f9 H locs hp hH => ?_)
        obtain ⟨rfl, s11, h12⟩ := hp
        have hI := hI.call s11 (by decide)
        refine lv_iload_n hx hb dX9_flightsOver_27 rfl (lv_at hl 1 rfl) ?_
        refine lv_iand hx hb dX9_flightsOver_28 ?_
        refine lv_topi (fun z13 ez13 => ?_)
        refine lv_if_eq (tgt := 38) hx hb dX9_flightsOver_29 (by decide) (fun c14 => ?_) (fun c14 => ?_)
        · skip
          have r15 : rg z13 0 0 := rf_eql (c_eq c14) (rg_all _) rl_0 (by decide)
          obtain ⟨z16, ez16⟩ : ∃ y : Int32, y = v4_3 + (1 : Int32) := ⟨_, rfl⟩
          have r17 : rg z16 1 4 := rg_add ez16 r3 rl_1 (by decide)
          have a18 : z16.toInt = v4_3.toInt + 1 := ai_add ez16 r3 tl_1 (by decide)
          refine lv_iinc (v := z16) (lv' := [(3, .int z16), (0, .ref q), (1, .int p1), (2, .int v4_2)]) hx hb dX9_flightsOver_38 hl (k := 3) rfl (by rw [ez16]; rfl) (by decide) rfl (fun ls hl => ?_)
          refine lv_goto (tgt := 4) hx hb dX9_flightsOver_41 (by decide) ?_
          exact ih4 _ _ _ _ v4_2 z16 (fu_s hfu4 a18 (by decide)) hI hH r_v4_2 (rg_w r17 (by decide)) (lv_sub hl [1, 2, 3, 0] rfl)
        · skip
          refine lv_iload_n hx hb dX9_flightsOver_32 rfl (lv_at hl 2 rfl) ?_
          refine lv_iconst (v := (1 : Int32)) hx hb dX9_flightsOver_33 (by decide) ?_
          refine lv_iload_n hx hb dX9_flightsOver_34 rfl (lv_at hl 3 rfl) ?_
          refine lv_ishl hx hb dX9_flightsOver_35 ?_
          refine lv_topi (fun z19 ez19 => ?_)
          have r20 : rg z19 1 8 := rg_shl 0 3 ez19 r3 (by decide)
          refine lv_ior hx hb dX9_flightsOver_36 ?_
          refine lv_topi (fun z21 ez21 => ?_)
          have r22 : rg z21 0 15 := rg_or 4 ez21 r_v4_2 r20 (by decide)
          refine lv_istore_n (lv' := [(2, .int z21), (0, .ref q), (1, .int p1), (3, .int v4_3)]) hx hb dX9_flightsOver_37 rfl hl (by decide) rfl (fun ls hl => ?_)
          obtain ⟨z23, ez23⟩ : ∃ y : Int32, y = v4_3 + (1 : Int32) := ⟨_, rfl⟩
          have r24 : rg z23 1 4 := rg_add ez23 r3 rl_1 (by decide)
          have a25 : z23.toInt = v4_3.toInt + 1 := ai_add ez23 r3 tl_1 (by decide)
          refine lv_iinc (v := z23) (lv' := [(3, .int z23), (2, .int z21), (0, .ref q), (1, .int p1)]) hx hb dX9_flightsOver_38 hl (k := 3) rfl (by rw [ez23]; rfl) (by decide) rfl (fun ls hl => ?_)
          refine lv_goto (tgt := 4) hx hb dX9_flightsOver_41 (by decide) ?_
          exact ih4 _ _ _ _ z21 z23 (fu_s hfu4 a25 (by decide)) hI hH r22 (rg_w r24 (by decide)) (lv_sub hl [2, 3, 1, 0] rfl)
  refine lv_iconst (v := (0 : Int32)) hx hb dX9_flightsOver_0 (by decide) ?_
  refine lv_istore_n (lv' := [(2, .int (0 : Int32)), (0, .ref q), (1, .int p1)]) hx hb dX9_flightsOver_1 rfl hl (by decide) rfl (fun ls hl => ?_)
  refine lv_iconst (v := (0 : Int32)) hx hb dX9_flightsOver_2 (by decide) ?_
  refine lv_istore_n (lv' := [(3, .int (0 : Int32)), (2, .int (0 : Int32)), (0, .ref q), (1, .int p1)]) hx hb dX9_flightsOver_3 rfl hl (by decide) rfl (fun ls hl => ?_)
  exact cut4 5 _ _ _ _ (0 : Int32) (0 : Int32) (fu_i 5 rl_0 (by decide)) hI hH (rg_w rl_0 (by decide)) (rg_w rl_0 (by decide)) (lv_sub hl [2, 3, 1, 0] rfl)
set_option maxHeartbeats 4000000 in
set_option maxRecDepth 100000 in
theorem t_X9_geeseWithin (l : Launch) (E : gE) (J : Nat → Nat) (τ : Nat → Nat) (L : List Nat) (f : gF) (hI : tI E L τ f) {q : Nat} (mq : q ∈ L) (tq : τ q = 0) (p1 : Int32) (p2 : Int32) (rp2 : rg p2 0 40) : tMi l E J yX9_geeseWithin cX9_geeseWithin 6 .int (gRm (5) 0 0) [.ref q, .int p1, .int p2] L f (tPi E L τ [19, 20, 21] f (fun r f1 => rg r (-2147483648) 2147483647)) := by
  refine tMi.intro (by decide) (Nat.le_of_ble_eq_true rfl) ?_
  intro p e s m below meth c A ls C hr hA hO hH hl
  have C : gC E cX9_geeseWithin 6 RX9 p s m _ meth c := C
  have hl : lv_has ls 6 [(0, .ref q), (1, .int p1), (2, .int p2)] := hl
  have hx := C.1
  have hb := C.2.1
  have hI := hI.S [19, 20, 21]
  obtain ⟨q_1, mq_1, tq_1, kq_1⟩ := t_fldr hI.1 mq tq td_0 (k := 1) rfl
  obtain ⟨q_5, mq_5, tq_5, kq_5⟩ := t_fldr hI.1 mq tq td_0 (k := 5) rfl
  obtain ⟨q_1_12, mq_1_12, tq_1_12, kq_1_12⟩ := t_fldr hI.1 mq_1 tq_1 td_3 (k := 12) rfl
  have cut5 : ∀ (n : Nat) (fh5 : gF) (H : Heap) (locs : List Loc) (ls : Array Slot) (v5_3 : Int32) (v5_4 : Int32), 4 - v5_4.toInt < (n : Int) → tS E L τ [19, 20, 21] f fh5 → gH E A L fh5 s.heap H locs → rg v5_4 0 4 → lv_has ls 6 [(0, .ref q), (1, .int p1), (2, .int p2), (3, .int v5_3), (4, .int v5_4)] → W p l e (gRm (5) 0 0) s m [.ref q, .int p1, .int p2].toArray below meth c H locs 0 0 (MQ below (gQi E A (tPi E L τ [19, 20, 21] f (fun r f1 => rg r (-2147483648) 2147483647))) [.ref q, .int p1, .int p2].toArray s (gRm (5) 0 0).cells (gRm (5) 0 0).slots A) (F0 m 5 ls []) := by
    intro n
    induction n with
    | zero =>
      intro fh5 H locs ls v5_3 v5_4 hfu5 hI hH r_v5_4 hl
      exact (fu_0 hfu5 r_v5_4).elim
    | succ n ih5 =>
      intro fh5 H locs ls v5_3 v5_4 hfu5 hI hH r_v5_4 hl
      refine lv_iload hx hb dX9_geeseWithin_5 (lv_at hl 4 rfl) ?_
      refine lv_aload_n hx hb dX9_geeseWithin_7 rfl (lv_at hl 0 rfl) ?_
      refine t_getX C hH hI.1 mq tq td_0 iX9 rfl 1 (by decide) wd414 rfl (hI.rf kq_1) dX9_geeseWithin_8 ?_
      refine t_geti C hH hI.1 mq_1 tq_1 td_3 iX3 rfl 6 (by decide) wd450 rfl rfl dX9_geeseWithin_11 (fun z1 rz1 => ?_)
      refine lv_icmp_ge (tgt := 67) hx hb dX9_geeseWithin_14 (by decide) (fun c2 => ?_) (fun c2 => ?_)
      · skip
        refine lv_iload_n hx hb dX9_geeseWithin_67 rfl (lv_at hl 3 rfl) ?_
        exact g_iret C hr hH (Nat.zero_le _) (Nat.zero_le _) dX9_geeseWithin_68 ⟨rfl, hI, (rg_all _)⟩
      · skip
        have r3 : rg v5_4 0 3 := rf_ltl (n_le c2) r_v5_4 rz1 (by decide)
        have r4 : rg z1 1 4 := rf_ltr (n_le c2) r_v5_4 rz1 (by decide)
        refine lv_aload_n hx hb dX9_geeseWithin_17 rfl (lv_at hl 0 rfl) ?_
        refine lv_iload hx hb dX9_geeseWithin_18 (lv_at hl 4 rfl) ?_
        refine t_Vv C hO hl.1 hA hH hI.1 (As := [.int v5_4]) (rest := []) (t_X9_followNow l E J τ L fh5 hI.1 mq tq v5_4 r3) my_X9_followNow wd454 mq tq td_0 rfl rfl rfl (Nat.le_of_ble_eq_true rfl) ⟨Nat.le_of_ble_eq_true rfl, Nat.le_of_ble_eq_true rfl⟩ ⟨rfl, rfl⟩ dX9_geeseWithin_20 (fun L1 f5 H locs hp hH => ?_)
        obtain ⟨rfl, s7, h8⟩ := hp
        have hI := hI.call s7 (by decide)
        refine lv_aload_n hx hb dX9_geeseWithin_23 rfl (lv_at hl 0 rfl) ?_
        refine t_getX C hH hI.1 mq tq td_0 iX9 rfl 5 (by decide) wd425 rfl (hI.rf kq_5) dX9_geeseWithin_24 ?_
        refine lv_iload_n hx hb dX9_geeseWithin_27 rfl (lv_at hl 2 rfl) ?_
        refine t_Vi C hO hl.1 hA hH hI.1 (As := [.int p2]) (rest := []) (t_X7_cellAt l E J τ L f5 hI.1 mq_5 tq_5 p2 (rg_w rp2 (by decide))) my_X7_cellAt wd456 mq_5 tq_5 td_19 rfl rfl rfl (Nat.le_of_ble_eq_true rfl) ⟨Nat.le_of_ble_eq_true rfl, Nat.le_of_ble_eq_true rfl⟩ ⟨rfl, rfl⟩ dX9_geeseWithin_28 (fun r10 L1 f9 H locs hp hH => ?_)
        obtain ⟨rfl, s11, h12⟩ := hp
        have hI := hI.call s11 (by decide)
        refine lv_istore (lv' := [(5, .int r10), (0, .ref q), (1, .int p1), (2, .int p2), (3, .int v5_3), (4, .int v5_4)]) hx hb dX9_geeseWithin_31 hl (by decide) rfl (fun ls hl => ?_)
        refine lv_iload hx hb dX9_geeseWithin_33 (lv_at hl 0 rfl) ?_
        refine lv_iconst (v := (-1 : Int32)) hx hb dX9_geeseWithin_35 (by decide) ?_
        refine lv_icmp_eq (tgt := 61) hx hb dX9_geeseWithin_36 (by decide) (fun c13 => ?_) (fun c13 => ?_)
        · skip
          have r14 : rg r10 (-1) (-1) := rf_eql (c_eq c13) h12 rl_m1 (by decide)
          obtain ⟨z15, ez15⟩ : ∃ y : Int32, y = v5_4 + (1 : Int32) := ⟨_, rfl⟩
          have r16 : rg z15 1 4 := rg_add ez15 r3 rl_1 (by decide)
          have a17 : z15.toInt = v5_4.toInt + 1 := ai_add ez15 r3 tl_1 (by decide)
          refine lv_iinc (v := z15) (lv' := [(4, .int z15), (5, .int r10), (0, .ref q), (1, .int p1), (2, .int p2), (3, .int v5_3)]) hx hb dX9_geeseWithin_61 hl (k := 5) rfl (by rw [ez15]; rfl) (by decide) rfl (fun ls hl => ?_)
          refine lv_goto (tgt := 5) hx hb dX9_geeseWithin_64 (by decide) ?_
          exact ih5 _ _ _ _ v5_3 z15 (fu_s hfu5 a17 (by decide)) hI hH (rg_w r16 (by decide)) (lv_sub hl [2, 3, 4, 5, 0] rfl)
        · skip
          have r18 : rg r10 0 19 := rf_nel (n_eq c13) h12 rl_m1 (by decide)
          refine lv_iload_n hx hb dX9_geeseWithin_39 rfl (lv_at hl 2 rfl) ?_
          refine lv_iload hx hb dX9_geeseWithin_40 (lv_at hl 0 rfl) ?_
          refine t_Si C hO hl.1 hA hH (As := [.int p1, .int r10]) (rest := []) (t_X9_hasBit l E J τ L f9 hI.1 p1 r10) my_X9_hasBit wd457 rfl rfl (Nat.le_of_ble_eq_true rfl) ⟨Nat.le_of_ble_eq_true rfl, Nat.le_of_ble_eq_true rfl⟩ ⟨rfl, rfl⟩ dX9_geeseWithin_42 (fun r20 L1 f19 H locs hp hH => ?_)
          obtain ⟨rfl, s21, h22⟩ := hp
          have hI := hI.call s21 (by decide)
          refine lv_if_eq (tgt := 61) hx hb dX9_geeseWithin_45 (by decide) (fun c23 => ?_) (fun c23 => ?_)
          · skip
            have r24 : rg r20 0 0 := rf_eql (c_eq c23) h22 rl_0 (by decide)
            obtain ⟨z25, ez25⟩ : ∃ y : Int32, y = v5_4 + (1 : Int32) := ⟨_, rfl⟩
            have r26 : rg z25 1 4 := rg_add ez25 r3 rl_1 (by decide)
            have a27 : z25.toInt = v5_4.toInt + 1 := ai_add ez25 r3 tl_1 (by decide)
            refine lv_iinc (v := z25) (lv' := [(4, .int z25), (5, .int r10), (0, .ref q), (1, .int p1), (2, .int p2), (3, .int v5_3)]) hx hb dX9_geeseWithin_61 hl (k := 5) rfl (by rw [ez25]; rfl) (by decide) rfl (fun ls hl => ?_)
            refine lv_goto (tgt := 5) hx hb dX9_geeseWithin_64 (by decide) ?_
            exact ih5 _ _ _ _ v5_3 z25 (fu_s hfu5 a27 (by decide)) hI hH (rg_w r26 (by decide)) (lv_sub hl [2, 3, 4, 5, 0] rfl)
          · skip
            have r28 : rg r20 1 1 := rf_nel (n_eq c23) h22 rl_0 (by decide)
            refine lv_iload_n hx hb dX9_geeseWithin_48 rfl (lv_at hl 4 rfl) ?_
            refine lv_aload_n hx hb dX9_geeseWithin_49 rfl (lv_at hl 1 rfl) ?_
            refine t_getX C hH hI.1 mq tq td_0 iX9 rfl 1 (by decide) wd414 rfl (hI.rf kq_1) dX9_geeseWithin_50 ?_
            refine t_getX C hH hI.1 mq_1 tq_1 td_3 iX3 rfl 12 (by decide) wd458 rfl (hI.rf kq_1_12) dX9_geeseWithin_53 ?_
            refine lv_iload hx hb dX9_geeseWithin_56 (lv_at hl 5 rfl) ?_
            refine t_ald C hH hI.1 mq_1_12 tq_1_12 td_6 (rg_in r3 (by decide)) dX9_geeseWithin_58 (fun z29v az29 _ => ?_)
            refine lv_topi (fun z29 ez29 => ?_)
            refine lv_iadd hx hb dX9_geeseWithin_59 ?_
            refine lv_topi (fun z30 ez30 => ?_)
            refine lv_istore_n (lv' := [(3, .int z30), (5, .int r10), (0, .ref q), (1, .int p1), (2, .int p2), (4, .int v5_4)]) hx hb dX9_geeseWithin_60 rfl hl (by decide) rfl (fun ls hl => ?_)
            obtain ⟨z31, ez31⟩ : ∃ y : Int32, y = v5_4 + (1 : Int32) := ⟨_, rfl⟩
            have r32 : rg z31 1 4 := rg_add ez31 r3 rl_1 (by decide)
            have a33 : z31.toInt = v5_4.toInt + 1 := ai_add ez31 r3 tl_1 (by decide)
            refine lv_iinc (v := z31) (lv' := [(4, .int z31), (3, .int z30), (5, .int r10), (0, .ref q), (1, .int p1), (2, .int p2)]) hx hb dX9_geeseWithin_61 hl (k := 5) rfl (by rw [ez31]; rfl) (by decide) rfl (fun ls hl => ?_)
            refine lv_goto (tgt := 5) hx hb dX9_geeseWithin_64 (by decide) ?_
            exact ih5 _ _ _ _ z30 z31 (fu_s hfu5 a33 (by decide)) hI hH (rg_w r32 (by decide)) (lv_sub hl [3, 4, 5, 1, 0] rfl)
  refine lv_iconst (v := (0 : Int32)) hx hb dX9_geeseWithin_0 (by decide) ?_
  refine lv_istore_n (lv' := [(3, .int (0 : Int32)), (0, .ref q), (1, .int p1), (2, .int p2)]) hx hb dX9_geeseWithin_1 rfl hl (by decide) rfl (fun ls hl => ?_)
  refine lv_iconst (v := (0 : Int32)) hx hb dX9_geeseWithin_2 (by decide) ?_
  refine lv_istore (lv' := [(4, .int (0 : Int32)), (3, .int (0 : Int32)), (0, .ref q), (1, .int p1), (2, .int p2)]) hx hb dX9_geeseWithin_3 hl (by decide) rfl (fun ls hl => ?_)
  exact cut5 5 _ _ _ _ (0 : Int32) (0 : Int32) (fu_i 5 rl_0 (by decide)) hI hH (rg_w rl_0 (by decide)) (lv_sub hl [2, 3, 4, 1, 0] rfl)
set_option maxHeartbeats 4000000 in
set_option maxRecDepth 100000 in
theorem t_X9_bestChange (l : Launch) (E : gE) (J : Nat → Nat) (τ : Nat → Nat) (L : List Nat) (f : gF) (hI : tI E L τ f) {q : Nat} (mq : q ∈ L) (tq : τ q = 0) (p1 : Int32) : tMi l E J yX9_bestChange cX9_bestChange 6 .int (gRm (6) 0 0) [.ref q, .int p1] L f (tPi E L τ [19, 20, 21, 23] f (fun r f1 => rg r (-2147483648) 2147483647)) := by
  refine tMi.intro (by decide) (Nat.le_of_ble_eq_true rfl) ?_
  intro p e s m below meth c A ls C hr hA hO hH hl
  have C : gC E cX9_bestChange 6 RX9 p s m _ meth c := C
  have hl : lv_has ls 6 [(0, .ref q), (1, .int p1)] := hl
  have hx := C.1
  have hb := C.2.1
  have hI := hI.S [19, 20, 21, 23]
  obtain ⟨q_1, mq_1, tq_1, kq_1⟩ := t_fldr hI.1 mq tq td_0 (k := 1) rfl
  have cut24 : ∀ (n : Nat) (fh24 : gF) (H : Heap) (locs : List Loc) (ls : Array Slot) (v24_2 : Int32) (v24_3 : Int32) (v24_4 : Int32), 20 - v24_4.toInt < (n : Int) → tS E L τ [19, 20, 21, 23] f fh24 → gH E A L fh24 s.heap H locs → rg v24_2 (-1) 19 → rg v24_4 0 20 → lv_has ls 6 [(0, .ref q), (1, .int p1), (2, .int v24_2), (3, .int v24_3), (4, .int v24_4)] → W p l e (gRm (6) 0 0) s m [.ref q, .int p1].toArray below meth c H locs 0 0 (MQ below (gQi E A (tPi E L τ [19, 20, 21, 23] f (fun r f1 => rg r (-2147483648) 2147483647))) [.ref q, .int p1].toArray s (gRm (6) 0 0).cells (gRm (6) 0 0).slots A) (F0 m 24 ls []) := by
    intro n
    induction n with
    | zero =>
      intro fh24 H locs ls v24_2 v24_3 v24_4 hfu24 hI hH r_v24_2 r_v24_4 hl
      exact (fu_0 hfu24 r_v24_4).elim
    | succ n ih24 =>
      intro fh24 H locs ls v24_2 v24_3 v24_4 hfu24 hI hH r_v24_2 r_v24_4 hl
      refine lv_iload hx hb dX9_bestChange_24 (lv_at hl 4 rfl) ?_
      refine lv_aload_n hx hb dX9_bestChange_26 rfl (lv_at hl 0 rfl) ?_
      refine t_getX C hH hI.1 mq tq td_0 iX9 rfl 1 (by decide) wd414 rfl (hI.rf kq_1) dX9_bestChange_27 ?_
      refine t_Vi C hO hl.1 hA hH hI.1 (As := []) (rest := [.int v24_4]) (t_X3_cells l E J τ L fh24 hI.1 mq_1 tq_1) my_X3_cells wd459 mq_1 tq_1 td_3 rfl rfl rfl (Nat.le_of_ble_eq_true rfl) ⟨Nat.le_of_ble_eq_true rfl, Nat.le_of_ble_eq_true rfl⟩ ⟨rfl, rfl⟩ dX9_bestChange_30 (fun r2 L1 f1 H locs hp hH => ?_)
      obtain ⟨rfl, s3, h4⟩ := hp
      have hI := hI.call s3 (by decide)
      refine lv_icmp_ge (tgt := 88) hx hb dX9_bestChange_33 (by decide) (fun c5 => ?_) (fun c5 => ?_)
      · skip
        refine lv_iload_n hx hb dX9_bestChange_88 rfl (lv_at hl 2 rfl) ?_
        exact g_iret C hr hH (Nat.zero_le _) (Nat.zero_le _) dX9_bestChange_89 ⟨rfl, hI, (rg_w r_v24_2 (by decide))⟩
      · skip
        have r6 : rg v24_4 0 19 := rf_ltl (n_le c5) r_v24_4 h4 (by decide)
        have r7 : rg r2 1 20 := rf_ltr (n_le c5) r_v24_4 h4 (by decide)
        refine lv_iload_n hx hb dX9_bestChange_36 rfl (lv_at hl 1 rfl) ?_
        refine lv_iload hx hb dX9_bestChange_37 (lv_at hl 4 rfl) ?_
        refine t_Si C hO hl.1 hA hH (As := [.int p1, .int v24_4]) (rest := []) (t_X9_hasBit l E J τ L f1 hI.1 p1 v24_4) my_X9_hasBit wd457 rfl rfl (Nat.le_of_ble_eq_true rfl) ⟨Nat.le_of_ble_eq_true rfl, Nat.le_of_ble_eq_true rfl⟩ ⟨rfl, rfl⟩ dX9_bestChange_39 (fun r9 L1 f8 H locs hp hH => ?_)
        obtain ⟨rfl, s10, h11⟩ := hp
        have hI := hI.call s10 (by decide)
        refine lv_if_eq (tgt := 82) hx hb dX9_bestChange_42 (by decide) (fun c12 => ?_) (fun c12 => ?_)
        · skip
          have r13 : rg r9 0 0 := rf_eql (c_eq c12) h11 rl_0 (by decide)
          obtain ⟨z14, ez14⟩ : ∃ y : Int32, y = v24_4 + (1 : Int32) := ⟨_, rfl⟩
          have r15 : rg z14 1 20 := rg_add ez14 r6 rl_1 (by decide)
          have a16 : z14.toInt = v24_4.toInt + 1 := ai_add ez14 r6 tl_1 (by decide)
          refine lv_iinc (v := z14) (lv' := [(4, .int z14), (0, .ref q), (1, .int p1), (2, .int v24_2), (3, .int v24_3)]) hx hb dX9_bestChange_82 hl (k := 4) rfl (by rw [ez14]; rfl) (by decide) rfl (fun ls hl => ?_)
          refine lv_goto (tgt := 24) hx hb dX9_bestChange_85 (by decide) ?_
          exact ih24 _ _ _ _ v24_2 v24_3 z14 (fu_s hfu24 a16 (by decide)) hI hH r_v24_2 (rg_w r15 (by decide)) (lv_sub hl [1, 2, 3, 4, 0] rfl)
        · skip
          have r17 : rg r9 1 1 := rf_nel (n_eq c12) h11 rl_0 (by decide)
          refine lv_aload_n hx hb dX9_bestChange_45 rfl (lv_at hl 0 rfl) ?_
          refine lv_aload_n hx hb dX9_bestChange_46 rfl (lv_at hl 0 rfl) ?_
          refine t_getX C hH hI.1 mq tq td_0 iX9 rfl 1 (by decide) wd414 rfl (hI.rf kq_1) dX9_bestChange_47 ?_
          refine t_geti C hH hI.1 mq_1 tq_1 td_3 iX3 rfl 8 (by decide) wd426 rfl rfl dX9_bestChange_50 (fun z18 rz18 => ?_)
          refine lv_iconst (v := (1 : Int32)) hx hb dX9_bestChange_53 (by decide) ?_
          refine lv_iload hx hb dX9_bestChange_54 (lv_at hl 4 rfl) ?_
          refine lv_ishl hx hb dX9_bestChange_56 ?_
          refine lv_topi (fun z19 ez19 => ?_)
          have r20 : rg z19 1 524288 := rg_shl 0 19 ez19 r6 (by decide)
          refine lv_ixor hx hb dX9_bestChange_57 ?_
          refine lv_topi (fun z21 ez21 => ?_)
          refine lv_aload_n hx hb dX9_bestChange_58 rfl (lv_at hl 0 rfl) ?_
          refine t_getX C hH hI.1 mq tq td_0 iX9 rfl 1 (by decide) wd414 rfl (hI.rf kq_1) dX9_bestChange_59 ?_
          refine t_geti C hH hI.1 mq_1 tq_1 td_3 iX3 rfl 3 (by decide) wd427 rfl rfl dX9_bestChange_62 (fun z22 rz22 => ?_)
          refine t_Vi C hO hl.1 hA hH hI.1 (As := [.int z21, .int z22]) (rest := []) (t_X9_incomeUnder l E J τ L f8 hI.1 mq tq z21 z22) my_X9_incomeUnder wd463 mq tq td_0 rfl rfl rfl (Nat.le_of_ble_eq_true rfl) ⟨Nat.le_of_ble_eq_true rfl, Nat.le_of_ble_eq_true rfl⟩ ⟨rfl, rfl⟩ dX9_bestChange_65 (fun r24 L1 f23 H locs hp hH => ?_)
          obtain ⟨rfl, s25, h26⟩ := hp
          have hI := hI.call s25 (by decide)
          refine lv_istore (lv' := [(5, .int r24), (0, .ref q), (1, .int p1), (2, .int v24_2), (3, .int v24_3), (4, .int v24_4)]) hx hb dX9_bestChange_68 hl (by decide) rfl (fun ls hl => ?_)
          refine lv_iload hx hb dX9_bestChange_70 (lv_at hl 0 rfl) ?_
          refine lv_iload_n hx hb dX9_bestChange_72 rfl (lv_at hl 4 rfl) ?_
          refine lv_icmp_le (tgt := 82) hx hb dX9_bestChange_73 (by decide) (fun c27 => ?_) (fun c27 => ?_)
          · skip
            obtain ⟨z28, ez28⟩ : ∃ y : Int32, y = v24_4 + (1 : Int32) := ⟨_, rfl⟩
            have r29 : rg z28 1 20 := rg_add ez28 r6 rl_1 (by decide)
            have a30 : z28.toInt = v24_4.toInt + 1 := ai_add ez28 r6 tl_1 (by decide)
            refine lv_iinc (v := z28) (lv' := [(4, .int z28), (5, .int r24), (0, .ref q), (1, .int p1), (2, .int v24_2), (3, .int v24_3)]) hx hb dX9_bestChange_82 hl (k := 5) rfl (by rw [ez28]; rfl) (by decide) rfl (fun ls hl => ?_)
            refine lv_goto (tgt := 24) hx hb dX9_bestChange_85 (by decide) ?_
            exact ih24 _ _ _ _ v24_2 v24_3 z28 (fu_s hfu24 a30 (by decide)) hI hH r_v24_2 (rg_w r29 (by decide)) (lv_sub hl [2, 3, 4, 5, 0] rfl)
          · skip
            have r31 : rg v24_3 (-2147483648) 2147483646 := rf_ltl (n_le c27) (rg_all _) h26 (by decide)
            have r32 : rg r24 (-2147483647) 2147483647 := rf_ltr (n_le c27) (rg_all _) h26 (by decide)
            refine lv_iload hx hb dX9_bestChange_76 (lv_at hl 0 rfl) ?_
            refine lv_istore_n (lv' := [(3, .int r24), (5, .int r24), (0, .ref q), (1, .int p1), (2, .int v24_2), (4, .int v24_4)]) hx hb dX9_bestChange_78 rfl hl (by decide) rfl (fun ls hl => ?_)
            refine lv_iload hx hb dX9_bestChange_79 (lv_at hl 5 rfl) ?_
            refine lv_istore_n (lv' := [(2, .int v24_4), (3, .int r24), (5, .int r24), (0, .ref q), (1, .int p1), (4, .int v24_4)]) hx hb dX9_bestChange_81 rfl hl (by decide) rfl (fun ls hl => ?_)
            obtain ⟨z33, ez33⟩ : ∃ y : Int32, y = v24_4 + (1 : Int32) := ⟨_, rfl⟩
            have r34 : rg z33 1 20 := rg_add ez33 r6 rl_1 (by decide)
            have a35 : z33.toInt = v24_4.toInt + 1 := ai_add ez33 r6 tl_1 (by decide)
            refine lv_iinc (v := z33) (lv' := [(4, .int z33), (2, .int v24_4), (3, .int r24), (5, .int r24), (0, .ref q), (1, .int p1)]) hx hb dX9_bestChange_82 hl (k := 5) rfl (by rw [ez33]; rfl) (by decide) rfl (fun ls hl => ?_)
            refine lv_goto (tgt := 24) hx hb dX9_bestChange_85 (by decide) ?_
            exact ih24 _ _ _ _ v24_4 r24 z33 (fu_s hfu24 a35 (by decide)) hI hH (rg_w r6 (by decide)) (rg_w r34 (by decide)) (lv_sub hl [4, 5, 1, 2, 0] rfl)
  refine lv_iconst (v := (-1 : Int32)) hx hb dX9_bestChange_0 (by decide) ?_
  refine lv_istore_n (lv' := [(2, .int (-1 : Int32)), (0, .ref q), (1, .int p1)]) hx hb dX9_bestChange_1 rfl hl (by decide) rfl (fun ls hl => ?_)
  refine lv_aload_n hx hb dX9_bestChange_2 rfl (lv_at hl 1 rfl) ?_
  refine lv_aload_n hx hb dX9_bestChange_3 rfl (lv_at hl 1 rfl) ?_
  refine t_getX C hH hI.1 mq tq td_0 iX9 rfl 1 (by decide) wd414 rfl (hI.rf kq_1) dX9_bestChange_4 ?_
  refine t_geti C hH hI.1 mq_1 tq_1 td_3 iX3 rfl 8 (by decide) wd426 rfl rfl dX9_bestChange_7 (fun z36 rz36 => ?_)
  refine lv_aload_n hx hb dX9_bestChange_10 rfl (lv_at hl 1 rfl) ?_
  refine t_getX C hH hI.1 mq tq td_0 iX9 rfl 1 (by decide) wd414 rfl (hI.rf kq_1) dX9_bestChange_11 ?_
  refine t_geti C hH hI.1 mq_1 tq_1 td_3 iX3 rfl 3 (by decide) wd427 rfl rfl dX9_bestChange_14 (fun z37 rz37 => ?_)
  refine t_Vi C hO hl.1 hA hH hI.1 (As := [.int z36, .int z37]) (rest := []) (t_X9_incomeUnder l E J τ L f hI.1 mq tq z36 z37) my_X9_incomeUnder wd463 mq tq td_0 rfl rfl rfl (Nat.le_of_ble_eq_true rfl) ⟨Nat.le_of_ble_eq_true rfl, Nat.le_of_ble_eq_true rfl⟩ ⟨rfl, rfl⟩ dX9_bestChange_17 (fun r39 L1 f38 H locs hp hH => ?_)
  obtain ⟨rfl, s40, h41⟩ := hp
  have hI := hI.call s40 (by decide)
  refine lv_istore_n (lv' := [(3, .int r39), (2, .int (-1 : Int32)), (0, .ref q), (1, .int p1)]) hx hb dX9_bestChange_20 rfl hl (by decide) rfl (fun ls hl => ?_)
  refine lv_iconst (v := (0 : Int32)) hx hb dX9_bestChange_21 (by decide) ?_
  refine lv_istore (lv' := [(4, .int (0 : Int32)), (3, .int r39), (2, .int (-1 : Int32)), (0, .ref q), (1, .int p1)]) hx hb dX9_bestChange_22 hl (by decide) rfl (fun ls hl => ?_)
  exact cut24 21 _ _ _ _ (-1 : Int32) r39 (0 : Int32) (fu_i 21 rl_0 (by decide)) hI hH (rg_w rl_m1 (by decide)) (rg_w rl_0 (by decide)) (lv_sub hl [3, 4, 2, 1, 0] rfl)
set_option maxHeartbeats 4000000 in
set_option maxRecDepth 100000 in
theorem t_X9_gain (l : Launch) (E : gE) (J : Nat → Nat) (τ : Nat → Nat) (L : List Nat) (f : gF) (hI : tI E L τ f) {q : Nat} (mq : q ∈ L) (tq : τ q = 0) (p1 : Int32) (rp1 : rg p1 0 5) (p2 : Int32) (rp2 : rg p2 0 5) (p3 : Int32) (p4 : Int32) : tMi l E J yX9_gain cX9_gain 9 .int (gRm (5) 0 0) [.ref q, .int p1, .int p2, .int p3, .int p4] L f (tPi E L τ [19, 20, 21, 23] f (fun r f1 => rg r (-2147483648) 2147483647)) := by
  refine tMi.intro (by decide) (Nat.le_of_ble_eq_true rfl) ?_
  intro p e s m below meth c A ls C hr hA hO hH hl
  have C : gC E cX9_gain 9 RX9 p s m _ meth c := C
  have hl : lv_has ls 9 [(0, .ref q), (1, .int p1), (2, .int p2), (3, .int p3), (4, .int p4)] := hl
  have hx := C.1
  have hb := C.2.1
  have hI := hI.S [19, 20, 21, 23]
  obtain ⟨q_1, mq_1, tq_1, kq_1⟩ := t_fldr hI.1 mq tq td_0 (k := 1) rfl
  obtain ⟨q_1_13, mq_1_13, tq_1_13, kq_1_13⟩ := t_fldr hI.1 mq_1 tq_1 td_3 (k := 13) rfl
  obtain ⟨q_1_15, mq_1_15, tq_1_15, kq_1_15⟩ := t_fldr hI.1 mq_1 tq_1 td_3 (k := 15) rfl
  refine lv_iconst (v := (1 : Int32)) hx hb dX9_gain_0 (by decide) ?_
  refine lv_aload_n hx hb dX9_gain_1 rfl (lv_at hl 0 rfl) ?_
  refine t_getX C hH hI.1 mq tq td_0 iX9 rfl 1 (by decide) wd414 rfl (hI.rf kq_1) dX9_gain_2 ?_
  refine t_getX C hH hI.1 mq_1 tq_1 td_3 iX3 rfl 13 (by decide) wd464 rfl (hI.rf kq_1_13) dX9_gain_5 ?_
  refine lv_iload_n hx hb dX9_gain_8 rfl (lv_at hl 1 rfl) ?_
  refine t_aldR C hH hI.1 mq_1_13 tq_1_13 td_7 (rg_in rp1 (by decide)) dX9_gain_9 (fun z1 rz1 => ?_)
  refine lv_ishl hx hb dX9_gain_10 ?_
  refine lv_topi (fun z2 ez2 => ?_)
  have r3 : rg z2 1 524288 := rg_shl 0 19 ez2 rz1 (by decide)
  refine lv_istore (lv' := [(5, .int z2), (0, .ref q), (1, .int p1), (2, .int p2), (3, .int p3), (4, .int p4)]) hx hb dX9_gain_11 hl (by decide) rfl (fun ls hl => ?_)
  refine lv_iconst (v := (1 : Int32)) hx hb dX9_gain_13 (by decide) ?_
  refine lv_aload_n hx hb dX9_gain_14 rfl (lv_at hl 1 rfl) ?_
  refine t_getX C hH hI.1 mq tq td_0 iX9 rfl 1 (by decide) wd414 rfl (hI.rf kq_1) dX9_gain_15 ?_
  refine t_getX C hH hI.1 mq_1 tq_1 td_3 iX3 rfl 13 (by decide) wd464 rfl (hI.rf kq_1_13) dX9_gain_18 ?_
  refine lv_iload_n hx hb dX9_gain_21 rfl (lv_at hl 3 rfl) ?_
  refine t_aldR C hH hI.1 mq_1_13 tq_1_13 td_7 (rg_in rp2 (by decide)) dX9_gain_22 (fun z4 rz4 => ?_)
  refine lv_ishl hx hb dX9_gain_23 ?_
  refine lv_topi (fun z5 ez5 => ?_)
  have r6 : rg z5 1 524288 := rg_shl 0 19 ez5 rz4 (by decide)
  refine lv_istore (lv' := [(6, .int z5), (5, .int z2), (0, .ref q), (1, .int p1), (2, .int p2), (3, .int p3), (4, .int p4)]) hx hb dX9_gain_24 hl (by decide) rfl (fun ls hl => ?_)
  refine lv_aload_n hx hb dX9_gain_26 rfl (lv_at hl 2 rfl) ?_
  refine t_getX C hH hI.1 mq tq td_0 iX9 rfl 1 (by decide) wd414 rfl (hI.rf kq_1) dX9_gain_27 ?_
  refine t_geti C hH hI.1 mq_1 tq_1 td_3 iX3 rfl 8 (by decide) wd426 rfl rfl dX9_gain_30 (fun z7 rz7 => ?_)
  refine lv_iload hx hb dX9_gain_33 (lv_at hl 1 rfl) ?_
  refine lv_iconst (v := (-1 : Int32)) hx hb dX9_gain_35 (by decide) ?_
  refine lv_ixor hx hb dX9_gain_36 ?_
  refine lv_topi (fun z8 ez8 => ?_)
  refine lv_iand hx hb dX9_gain_37 ?_
  refine lv_topi (fun z9 ez9 => ?_)
  refine lv_iload hx hb dX9_gain_38 (lv_at hl 0 rfl) ?_
  refine lv_iconst (v := (-1 : Int32)) hx hb dX9_gain_40 (by decide) ?_
  refine lv_ixor hx hb dX9_gain_41 ?_
  refine lv_topi (fun z10 ez10 => ?_)
  refine lv_iand hx hb dX9_gain_42 ?_
  refine lv_topi (fun z11 ez11 => ?_)
  refine lv_istore (lv' := [(7, .int z11), (6, .int z5), (5, .int z2), (0, .ref q), (1, .int p1), (2, .int p2), (3, .int p3), (4, .int p4)]) hx hb dX9_gain_43 hl (by decide) rfl (fun ls hl => ?_)
  refine lv_iload hx hb dX9_gain_45 (lv_at hl 0 rfl) ?_
  refine lv_iload_n hx hb dX9_gain_47 rfl (lv_at hl 6 rfl) ?_
  refine lv_iconst (v := (1 : Int32)) hx hb dX9_gain_48 (by decide) ?_
  refine lv_icmp_ne (tgt := 57) hx hb dX9_gain_49 (by decide) (fun c12 => ?_) (fun c12 => ?_)
  · skip
    refine lv_iconst (v := (0 : Int32)) hx hb dX9_gain_57 (by decide) ?_
    refine lv_ior hx hb dX9_gain_58 ?_
    refine lv_topi (fun z13 ez13 => ?_)
    refine lv_istore (lv' := [(7, .int z13), (6, .int z5), (5, .int z2), (0, .ref q), (1, .int p1), (2, .int p2), (3, .int p3), (4, .int p4)]) hx hb dX9_gain_59 hl (by decide) rfl (fun ls hl => ?_)
    refine lv_iload hx hb dX9_gain_61 (lv_at hl 0 rfl) ?_
    refine lv_iload hx hb dX9_gain_63 (lv_at hl 7 rfl) ?_
    refine lv_iconst (v := (1 : Int32)) hx hb dX9_gain_65 (by decide) ?_
    refine lv_icmp_ne (tgt := 74) hx hb dX9_gain_66 (by decide) (fun c14 => ?_) (fun c14 => ?_)
    · skip
      refine lv_iconst (v := (0 : Int32)) hx hb dX9_gain_74 (by decide) ?_
      refine lv_ior hx hb dX9_gain_75 ?_
      refine lv_topi (fun z15 ez15 => ?_)
      refine lv_istore (lv' := [(7, .int z15), (6, .int z5), (5, .int z2), (0, .ref q), (1, .int p1), (2, .int p2), (3, .int p3), (4, .int p4)]) hx hb dX9_gain_76 hl (by decide) rfl (fun ls hl => ?_)
      refine lv_aload_n hx hb dX9_gain_78 rfl (lv_at hl 3 rfl) ?_
      refine lv_iload hx hb dX9_gain_79 (lv_at hl 0 rfl) ?_
      refine lv_aload_n hx hb dX9_gain_81 rfl (lv_at hl 3 rfl) ?_
      refine t_getX C hH hI.1 mq tq td_0 iX9 rfl 1 (by decide) wd414 rfl (hI.rf kq_1) dX9_gain_82 ?_
      refine t_geti C hH hI.1 mq_1 tq_1 td_3 iX3 rfl 3 (by decide) wd427 rfl rfl dX9_gain_85 (fun z16 rz16 => ?_)
      refine t_Vi C hO hl.1 hA hH hI.1 (As := [.int z15, .int z16]) (rest := []) (t_X9_servedUnder l E J τ L f hI.1 mq tq z15 z16) my_X9_servedUnder wd435 mq tq td_0 rfl rfl rfl (Nat.le_of_ble_eq_true rfl) ⟨Nat.le_of_ble_eq_true rfl, Nat.le_of_ble_eq_true rfl⟩ ⟨rfl, rfl⟩ dX9_gain_88 (fun r18 L1 f17 H locs hp hH => ?_)
      obtain ⟨rfl, s19, h20⟩ := hp
      have hI := hI.call s19 (by decide)
      refine lv_iload_n hx hb dX9_gain_91 rfl (lv_at hl 4 rfl) ?_
      refine t_Si C hO hl.1 hA hH (As := [.int r18, .int p1]) (rest := []) (t_hasBit62 l E J τ L f17 hI.1 r18 h20 p1 rp1) my_X9_hasBit wd457 rfl rfl (Nat.le_of_ble_eq_true rfl) ⟨Nat.le_of_ble_eq_true rfl, Nat.le_of_ble_eq_true rfl⟩ ⟨rfl, rfl⟩ dX9_gain_92 (fun r22 L1 f21 H locs hp hH => ?_)
      obtain ⟨rfl, s23, h24⟩ := hp
      have hI := hI.call s23 (by decide)
      refine lv_if_eq (tgt := 110) hx hb dX9_gain_95 (by decide) (fun c25 => ?_) (fun c25 => ?_)
      · skip
        have r26 : rg r22 0 0 := rf_eql (c_eq c25) h24.1 rl_0 (by decide)
        have r27 : rg r18 0 62 := h24.2 c25
        refine lv_iconst (v := (0 : Int32)) hx hb dX9_gain_110 (by decide) ?_
        refine lv_istore (lv' := [(8, .int (0 : Int32)), (7, .int z15), (6, .int z5), (5, .int z2), (0, .ref q), (1, .int p1), (2, .int p2), (3, .int p3), (4, .int p4)]) hx hb dX9_gain_111 hl (by decide) rfl (fun ls hl => ?_)
        refine lv_iload_n hx hb dX9_gain_113 rfl (lv_at hl 7 rfl) ?_
        refine lv_iconst (v := (1 : Int32)) hx hb dX9_gain_114 (by decide) ?_
        refine lv_icmp_ne (tgt := 125) hx hb dX9_gain_115 (by decide) (fun c28 => ?_) (fun c28 => ?_)
        · skip
          refine lv_iload hx hb dX9_gain_125 (lv_at hl 0 rfl) ?_
          exact g_iret C hr hH (Nat.zero_le _) (Nat.zero_le _) dX9_gain_127 ⟨rfl, hI, (rg_w rl_0 (by decide))⟩
        · skip
          have r29 : rg p3 1 1 := rf_eql (c_eq c28) (rg_all _) rl_1 (by decide)
          refine lv_iload hx hb dX9_gain_118 (lv_at hl 0 rfl) ?_
          refine lv_iconst (v := (5 : Int32)) hx hb dX9_gain_120 (by decide) ?_
          refine lv_isub hx hb dX9_gain_121 ?_
          refine lv_topi (fun z30 ez30 => ?_)
          obtain rfl : z30 = (-5 : Int32) := ez30.trans (by decide)
          refine lv_goto (tgt := 127) hx hb dX9_gain_122 (by decide) ?_
          exact g_iret C hr hH (Nat.zero_le _) (Nat.zero_le _) dX9_gain_127 ⟨rfl, hI, (rg_w rl_m5 (by decide))⟩
      · skip
        have r31 : rg r22 1 1 := rf_nel (n_eq c25) h24.1 rl_0 (by decide)
        refine lv_aload_n hx hb dX9_gain_98 rfl (lv_at hl 3 rfl) ?_
        refine t_getX C hH hI.1 mq tq td_0 iX9 rfl 1 (by decide) wd414 rfl (hI.rf kq_1) dX9_gain_99 ?_
        refine t_getX C hH hI.1 mq_1 tq_1 td_3 iX3 rfl 15 (by decide) wd465 rfl (hI.rf kq_1_15) dX9_gain_102 ?_
        refine lv_iload_n hx hb dX9_gain_105 rfl (lv_at hl 4 rfl) ?_
        refine t_ald C hH hI.1 mq_1_15 tq_1_15 td_9 (rg_in rp1 (by decide)) dX9_gain_106 (fun z32v az32 _ => ?_)
        refine lv_topi (fun z32 ez32 => ?_)
        refine lv_goto (tgt := 111) hx hb dX9_gain_107 (by decide) ?_
        refine lv_istore (lv' := [(8, .int z32), (7, .int z15), (6, .int z5), (5, .int z2), (0, .ref q), (1, .int p1), (2, .int p2), (3, .int p3), (4, .int p4)]) hx hb dX9_gain_111 hl (by decide) rfl (fun ls hl => ?_)
        refine lv_iload_n hx hb dX9_gain_113 rfl (lv_at hl 7 rfl) ?_
        refine lv_iconst (v := (1 : Int32)) hx hb dX9_gain_114 (by decide) ?_
        refine lv_icmp_ne (tgt := 125) hx hb dX9_gain_115 (by decide) (fun c33 => ?_) (fun c33 => ?_)
        · skip
          refine lv_iload hx hb dX9_gain_125 (lv_at hl 0 rfl) ?_
          exact g_iret C hr hH (Nat.zero_le _) (Nat.zero_le _) dX9_gain_127 ⟨rfl, hI, (rg_all _)⟩
        · skip
          have r34 : rg p3 1 1 := rf_eql (c_eq c33) (rg_all _) rl_1 (by decide)
          refine lv_iload hx hb dX9_gain_118 (lv_at hl 0 rfl) ?_
          refine lv_iconst (v := (5 : Int32)) hx hb dX9_gain_120 (by decide) ?_
          refine lv_isub hx hb dX9_gain_121 ?_
          refine lv_topi (fun z35 ez35 => ?_)
          refine lv_goto (tgt := 127) hx hb dX9_gain_122 (by decide) ?_
          exact g_iret C hr hH (Nat.zero_le _) (Nat.zero_le _) dX9_gain_127 ⟨rfl, hI, (rg_all _)⟩
    · skip
      have r36 : rg p4 1 1 := rf_eql (c_eq c14) (rg_all _) rl_1 (by decide)
      refine lv_iload hx hb dX9_gain_69 (lv_at hl 1 rfl) ?_
      refine lv_goto (tgt := 75) hx hb dX9_gain_71 (by decide) ?_
      refine lv_ior hx hb dX9_gain_75 ?_
      refine lv_topi (fun z37 ez37 => ?_)
      refine lv_istore (lv' := [(7, .int z37), (6, .int z5), (5, .int z2), (0, .ref q), (1, .int p1), (2, .int p2), (3, .int p3), (4, .int p4)]) hx hb dX9_gain_76 hl (by decide) rfl (fun ls hl => ?_)
      refine lv_aload_n hx hb dX9_gain_78 rfl (lv_at hl 3 rfl) ?_
      refine lv_iload hx hb dX9_gain_79 (lv_at hl 0 rfl) ?_
      refine lv_aload_n hx hb dX9_gain_81 rfl (lv_at hl 3 rfl) ?_
      refine t_getX C hH hI.1 mq tq td_0 iX9 rfl 1 (by decide) wd414 rfl (hI.rf kq_1) dX9_gain_82 ?_
      refine t_geti C hH hI.1 mq_1 tq_1 td_3 iX3 rfl 3 (by decide) wd427 rfl rfl dX9_gain_85 (fun z38 rz38 => ?_)
      refine t_Vi C hO hl.1 hA hH hI.1 (As := [.int z37, .int z38]) (rest := []) (t_X9_servedUnder l E J τ L f hI.1 mq tq z37 z38) my_X9_servedUnder wd435 mq tq td_0 rfl rfl rfl (Nat.le_of_ble_eq_true rfl) ⟨Nat.le_of_ble_eq_true rfl, Nat.le_of_ble_eq_true rfl⟩ ⟨rfl, rfl⟩ dX9_gain_88 (fun r40 L1 f39 H locs hp hH => ?_)
      obtain ⟨rfl, s41, h42⟩ := hp
      have hI := hI.call s41 (by decide)
      refine lv_iload_n hx hb dX9_gain_91 rfl (lv_at hl 4 rfl) ?_
      refine t_Si C hO hl.1 hA hH (As := [.int r40, .int p1]) (rest := []) (t_hasBit62 l E J τ L f39 hI.1 r40 h42 p1 rp1) my_X9_hasBit wd457 rfl rfl (Nat.le_of_ble_eq_true rfl) ⟨Nat.le_of_ble_eq_true rfl, Nat.le_of_ble_eq_true rfl⟩ ⟨rfl, rfl⟩ dX9_gain_92 (fun r44 L1 f43 H locs hp hH => ?_)
      obtain ⟨rfl, s45, h46⟩ := hp
      have hI := hI.call s45 (by decide)
      refine lv_if_eq (tgt := 110) hx hb dX9_gain_95 (by decide) (fun c47 => ?_) (fun c47 => ?_)
      · skip
        have r48 : rg r44 0 0 := rf_eql (c_eq c47) h46.1 rl_0 (by decide)
        have r49 : rg r40 0 62 := h46.2 c47
        refine lv_iconst (v := (0 : Int32)) hx hb dX9_gain_110 (by decide) ?_
        refine lv_istore (lv' := [(8, .int (0 : Int32)), (7, .int z37), (6, .int z5), (5, .int z2), (0, .ref q), (1, .int p1), (2, .int p2), (3, .int p3), (4, .int p4)]) hx hb dX9_gain_111 hl (by decide) rfl (fun ls hl => ?_)
        refine lv_iload_n hx hb dX9_gain_113 rfl (lv_at hl 7 rfl) ?_
        refine lv_iconst (v := (1 : Int32)) hx hb dX9_gain_114 (by decide) ?_
        refine lv_icmp_ne (tgt := 125) hx hb dX9_gain_115 (by decide) (fun c50 => ?_) (fun c50 => ?_)
        · skip
          refine lv_iload hx hb dX9_gain_125 (lv_at hl 0 rfl) ?_
          exact g_iret C hr hH (Nat.zero_le _) (Nat.zero_le _) dX9_gain_127 ⟨rfl, hI, (rg_w rl_0 (by decide))⟩
        · skip
          have r51 : rg p3 1 1 := rf_eql (c_eq c50) (rg_all _) rl_1 (by decide)
          refine lv_iload hx hb dX9_gain_118 (lv_at hl 0 rfl) ?_
          refine lv_iconst (v := (5 : Int32)) hx hb dX9_gain_120 (by decide) ?_
          refine lv_isub hx hb dX9_gain_121 ?_
          refine lv_topi (fun z52 ez52 => ?_)
          obtain rfl : z52 = (-5 : Int32) := ez52.trans (by decide)
          refine lv_goto (tgt := 127) hx hb dX9_gain_122 (by decide) ?_
          exact g_iret C hr hH (Nat.zero_le _) (Nat.zero_le _) dX9_gain_127 ⟨rfl, hI, (rg_w rl_m5 (by decide))⟩
      · skip
        have r53 : rg r44 1 1 := rf_nel (n_eq c47) h46.1 rl_0 (by decide)
        refine lv_aload_n hx hb dX9_gain_98 rfl (lv_at hl 3 rfl) ?_
        refine t_getX C hH hI.1 mq tq td_0 iX9 rfl 1 (by decide) wd414 rfl (hI.rf kq_1) dX9_gain_99 ?_
        refine t_getX C hH hI.1 mq_1 tq_1 td_3 iX3 rfl 15 (by decide) wd465 rfl (hI.rf kq_1_15) dX9_gain_102 ?_
        refine lv_iload_n hx hb dX9_gain_105 rfl (lv_at hl 4 rfl) ?_
        refine t_ald C hH hI.1 mq_1_15 tq_1_15 td_9 (rg_in rp1 (by decide)) dX9_gain_106 (fun z54v az54 _ => ?_)
        refine lv_topi (fun z54 ez54 => ?_)
        refine lv_goto (tgt := 111) hx hb dX9_gain_107 (by decide) ?_
        refine lv_istore (lv' := [(8, .int z54), (7, .int z37), (6, .int z5), (5, .int z2), (0, .ref q), (1, .int p1), (2, .int p2), (3, .int p3), (4, .int p4)]) hx hb dX9_gain_111 hl (by decide) rfl (fun ls hl => ?_)
        refine lv_iload_n hx hb dX9_gain_113 rfl (lv_at hl 7 rfl) ?_
        refine lv_iconst (v := (1 : Int32)) hx hb dX9_gain_114 (by decide) ?_
        refine lv_icmp_ne (tgt := 125) hx hb dX9_gain_115 (by decide) (fun c55 => ?_) (fun c55 => ?_)
        · skip
          refine lv_iload hx hb dX9_gain_125 (lv_at hl 0 rfl) ?_
          exact g_iret C hr hH (Nat.zero_le _) (Nat.zero_le _) dX9_gain_127 ⟨rfl, hI, (rg_all _)⟩
        · skip
          have r56 : rg p3 1 1 := rf_eql (c_eq c55) (rg_all _) rl_1 (by decide)
          refine lv_iload hx hb dX9_gain_118 (lv_at hl 0 rfl) ?_
          refine lv_iconst (v := (5 : Int32)) hx hb dX9_gain_120 (by decide) ?_
          refine lv_isub hx hb dX9_gain_121 ?_
          refine lv_topi (fun z57 ez57 => ?_)
          refine lv_goto (tgt := 127) hx hb dX9_gain_122 (by decide) ?_
          exact g_iret C hr hH (Nat.zero_le _) (Nat.zero_le _) dX9_gain_127 ⟨rfl, hI, (rg_all _)⟩
  · skip
    have r58 : rg p3 1 1 := rf_eql (c_eq c12) (rg_all _) rl_1 (by decide)
    refine lv_iload hx hb dX9_gain_52 (lv_at hl 2 rfl) ?_
    refine lv_goto (tgt := 58) hx hb dX9_gain_54 (by decide) ?_
    refine lv_ior hx hb dX9_gain_58 ?_
    refine lv_topi (fun z59 ez59 => ?_)
    refine lv_istore (lv' := [(7, .int z59), (6, .int z5), (5, .int z2), (0, .ref q), (1, .int p1), (2, .int p2), (3, .int p3), (4, .int p4)]) hx hb dX9_gain_59 hl (by decide) rfl (fun ls hl => ?_)
    refine lv_iload hx hb dX9_gain_61 (lv_at hl 0 rfl) ?_
    refine lv_iload hx hb dX9_gain_63 (lv_at hl 7 rfl) ?_
    refine lv_iconst (v := (1 : Int32)) hx hb dX9_gain_65 (by decide) ?_
    refine lv_icmp_ne (tgt := 74) hx hb dX9_gain_66 (by decide) (fun c60 => ?_) (fun c60 => ?_)
    · skip
      refine lv_iconst (v := (0 : Int32)) hx hb dX9_gain_74 (by decide) ?_
      refine lv_ior hx hb dX9_gain_75 ?_
      refine lv_topi (fun z61 ez61 => ?_)
      refine lv_istore (lv' := [(7, .int z61), (6, .int z5), (5, .int z2), (0, .ref q), (1, .int p1), (2, .int p2), (3, .int p3), (4, .int p4)]) hx hb dX9_gain_76 hl (by decide) rfl (fun ls hl => ?_)
      refine lv_aload_n hx hb dX9_gain_78 rfl (lv_at hl 3 rfl) ?_
      refine lv_iload hx hb dX9_gain_79 (lv_at hl 0 rfl) ?_
      refine lv_aload_n hx hb dX9_gain_81 rfl (lv_at hl 3 rfl) ?_
      refine t_getX C hH hI.1 mq tq td_0 iX9 rfl 1 (by decide) wd414 rfl (hI.rf kq_1) dX9_gain_82 ?_
      refine t_geti C hH hI.1 mq_1 tq_1 td_3 iX3 rfl 3 (by decide) wd427 rfl rfl dX9_gain_85 (fun z62 rz62 => ?_)
      refine t_Vi C hO hl.1 hA hH hI.1 (As := [.int z61, .int z62]) (rest := []) (t_X9_servedUnder l E J τ L f hI.1 mq tq z61 z62) my_X9_servedUnder wd435 mq tq td_0 rfl rfl rfl (Nat.le_of_ble_eq_true rfl) ⟨Nat.le_of_ble_eq_true rfl, Nat.le_of_ble_eq_true rfl⟩ ⟨rfl, rfl⟩ dX9_gain_88 (fun r64 L1 f63 H locs hp hH => ?_)
      obtain ⟨rfl, s65, h66⟩ := hp
      have hI := hI.call s65 (by decide)
      refine lv_iload_n hx hb dX9_gain_91 rfl (lv_at hl 4 rfl) ?_
      refine t_Si C hO hl.1 hA hH (As := [.int r64, .int p1]) (rest := []) (t_hasBit62 l E J τ L f63 hI.1 r64 h66 p1 rp1) my_X9_hasBit wd457 rfl rfl (Nat.le_of_ble_eq_true rfl) ⟨Nat.le_of_ble_eq_true rfl, Nat.le_of_ble_eq_true rfl⟩ ⟨rfl, rfl⟩ dX9_gain_92 (fun r68 L1 f67 H locs hp hH => ?_)
      obtain ⟨rfl, s69, h70⟩ := hp
      have hI := hI.call s69 (by decide)
      refine lv_if_eq (tgt := 110) hx hb dX9_gain_95 (by decide) (fun c71 => ?_) (fun c71 => ?_)
      · skip
        have r72 : rg r68 0 0 := rf_eql (c_eq c71) h70.1 rl_0 (by decide)
        have r73 : rg r64 0 62 := h70.2 c71
        refine lv_iconst (v := (0 : Int32)) hx hb dX9_gain_110 (by decide) ?_
        refine lv_istore (lv' := [(8, .int (0 : Int32)), (7, .int z61), (6, .int z5), (5, .int z2), (0, .ref q), (1, .int p1), (2, .int p2), (3, .int p3), (4, .int p4)]) hx hb dX9_gain_111 hl (by decide) rfl (fun ls hl => ?_)
        refine lv_iload_n hx hb dX9_gain_113 rfl (lv_at hl 7 rfl) ?_
        refine lv_iconst (v := (1 : Int32)) hx hb dX9_gain_114 (by decide) ?_
        refine lv_icmp_ne (tgt := 125) hx hb dX9_gain_115 (by decide) (fun c74 => ?_) (fun c74 => ?_)
        · skip
          exact (rg_no (show rg p3 2 0 from rf_nel (n_eq c74) r58 rl_1 (by decide)) (by decide)).elim
        · skip
          refine lv_iload hx hb dX9_gain_118 (lv_at hl 0 rfl) ?_
          refine lv_iconst (v := (5 : Int32)) hx hb dX9_gain_120 (by decide) ?_
          refine lv_isub hx hb dX9_gain_121 ?_
          refine lv_topi (fun z75 ez75 => ?_)
          obtain rfl : z75 = (-5 : Int32) := ez75.trans (by decide)
          refine lv_goto (tgt := 127) hx hb dX9_gain_122 (by decide) ?_
          exact g_iret C hr hH (Nat.zero_le _) (Nat.zero_le _) dX9_gain_127 ⟨rfl, hI, (rg_w rl_m5 (by decide))⟩
      · skip
        have r76 : rg r68 1 1 := rf_nel (n_eq c71) h70.1 rl_0 (by decide)
        refine lv_aload_n hx hb dX9_gain_98 rfl (lv_at hl 3 rfl) ?_
        refine t_getX C hH hI.1 mq tq td_0 iX9 rfl 1 (by decide) wd414 rfl (hI.rf kq_1) dX9_gain_99 ?_
        refine t_getX C hH hI.1 mq_1 tq_1 td_3 iX3 rfl 15 (by decide) wd465 rfl (hI.rf kq_1_15) dX9_gain_102 ?_
        refine lv_iload_n hx hb dX9_gain_105 rfl (lv_at hl 4 rfl) ?_
        refine t_ald C hH hI.1 mq_1_15 tq_1_15 td_9 (rg_in rp1 (by decide)) dX9_gain_106 (fun z77v az77 _ => ?_)
        refine lv_topi (fun z77 ez77 => ?_)
        refine lv_goto (tgt := 111) hx hb dX9_gain_107 (by decide) ?_
        refine lv_istore (lv' := [(8, .int z77), (7, .int z61), (6, .int z5), (5, .int z2), (0, .ref q), (1, .int p1), (2, .int p2), (3, .int p3), (4, .int p4)]) hx hb dX9_gain_111 hl (by decide) rfl (fun ls hl => ?_)
        refine lv_iload_n hx hb dX9_gain_113 rfl (lv_at hl 7 rfl) ?_
        refine lv_iconst (v := (1 : Int32)) hx hb dX9_gain_114 (by decide) ?_
        refine lv_icmp_ne (tgt := 125) hx hb dX9_gain_115 (by decide) (fun c78 => ?_) (fun c78 => ?_)
        · skip
          exact (rg_no (show rg p3 2 0 from rf_nel (n_eq c78) r58 rl_1 (by decide)) (by decide)).elim
        · skip
          refine lv_iload hx hb dX9_gain_118 (lv_at hl 0 rfl) ?_
          refine lv_iconst (v := (5 : Int32)) hx hb dX9_gain_120 (by decide) ?_
          refine lv_isub hx hb dX9_gain_121 ?_
          refine lv_topi (fun z79 ez79 => ?_)
          refine lv_goto (tgt := 127) hx hb dX9_gain_122 (by decide) ?_
          exact g_iret C hr hH (Nat.zero_le _) (Nat.zero_le _) dX9_gain_127 ⟨rfl, hI, (rg_all _)⟩
    · skip
      have r80 : rg p4 1 1 := rf_eql (c_eq c60) (rg_all _) rl_1 (by decide)
      refine lv_iload hx hb dX9_gain_69 (lv_at hl 1 rfl) ?_
      refine lv_goto (tgt := 75) hx hb dX9_gain_71 (by decide) ?_
      refine lv_ior hx hb dX9_gain_75 ?_
      refine lv_topi (fun z81 ez81 => ?_)
      refine lv_istore (lv' := [(7, .int z81), (6, .int z5), (5, .int z2), (0, .ref q), (1, .int p1), (2, .int p2), (3, .int p3), (4, .int p4)]) hx hb dX9_gain_76 hl (by decide) rfl (fun ls hl => ?_)
      refine lv_aload_n hx hb dX9_gain_78 rfl (lv_at hl 3 rfl) ?_
      refine lv_iload hx hb dX9_gain_79 (lv_at hl 0 rfl) ?_
      refine lv_aload_n hx hb dX9_gain_81 rfl (lv_at hl 3 rfl) ?_
      refine t_getX C hH hI.1 mq tq td_0 iX9 rfl 1 (by decide) wd414 rfl (hI.rf kq_1) dX9_gain_82 ?_
      refine t_geti C hH hI.1 mq_1 tq_1 td_3 iX3 rfl 3 (by decide) wd427 rfl rfl dX9_gain_85 (fun z82 rz82 => ?_)
      refine t_Vi C hO hl.1 hA hH hI.1 (As := [.int z81, .int z82]) (rest := []) (t_X9_servedUnder l E J τ L f hI.1 mq tq z81 z82) my_X9_servedUnder wd435 mq tq td_0 rfl rfl rfl (Nat.le_of_ble_eq_true rfl) ⟨Nat.le_of_ble_eq_true rfl, Nat.le_of_ble_eq_true rfl⟩ ⟨rfl, rfl⟩ dX9_gain_88 (fun r84 L1 f83 H locs hp hH => ?_)
      obtain ⟨rfl, s85, h86⟩ := hp
      have hI := hI.call s85 (by decide)
      refine lv_iload_n hx hb dX9_gain_91 rfl (lv_at hl 4 rfl) ?_
      refine t_Si C hO hl.1 hA hH (As := [.int r84, .int p1]) (rest := []) (t_hasBit62 l E J τ L f83 hI.1 r84 h86 p1 rp1) my_X9_hasBit wd457 rfl rfl (Nat.le_of_ble_eq_true rfl) ⟨Nat.le_of_ble_eq_true rfl, Nat.le_of_ble_eq_true rfl⟩ ⟨rfl, rfl⟩ dX9_gain_92 (fun r88 L1 f87 H locs hp hH => ?_)
      obtain ⟨rfl, s89, h90⟩ := hp
      have hI := hI.call s89 (by decide)
      refine lv_if_eq (tgt := 110) hx hb dX9_gain_95 (by decide) (fun c91 => ?_) (fun c91 => ?_)
      · skip
        have r92 : rg r88 0 0 := rf_eql (c_eq c91) h90.1 rl_0 (by decide)
        have r93 : rg r84 0 62 := h90.2 c91
        refine lv_iconst (v := (0 : Int32)) hx hb dX9_gain_110 (by decide) ?_
        refine lv_istore (lv' := [(8, .int (0 : Int32)), (7, .int z81), (6, .int z5), (5, .int z2), (0, .ref q), (1, .int p1), (2, .int p2), (3, .int p3), (4, .int p4)]) hx hb dX9_gain_111 hl (by decide) rfl (fun ls hl => ?_)
        refine lv_iload_n hx hb dX9_gain_113 rfl (lv_at hl 7 rfl) ?_
        refine lv_iconst (v := (1 : Int32)) hx hb dX9_gain_114 (by decide) ?_
        refine lv_icmp_ne (tgt := 125) hx hb dX9_gain_115 (by decide) (fun c94 => ?_) (fun c94 => ?_)
        · skip
          exact (rg_no (show rg p3 2 0 from rf_nel (n_eq c94) r58 rl_1 (by decide)) (by decide)).elim
        · skip
          refine lv_iload hx hb dX9_gain_118 (lv_at hl 0 rfl) ?_
          refine lv_iconst (v := (5 : Int32)) hx hb dX9_gain_120 (by decide) ?_
          refine lv_isub hx hb dX9_gain_121 ?_
          refine lv_topi (fun z95 ez95 => ?_)
          obtain rfl : z95 = (-5 : Int32) := ez95.trans (by decide)
          refine lv_goto (tgt := 127) hx hb dX9_gain_122 (by decide) ?_
          exact g_iret C hr hH (Nat.zero_le _) (Nat.zero_le _) dX9_gain_127 ⟨rfl, hI, (rg_w rl_m5 (by decide))⟩
      · skip
        have r96 : rg r88 1 1 := rf_nel (n_eq c91) h90.1 rl_0 (by decide)
        refine lv_aload_n hx hb dX9_gain_98 rfl (lv_at hl 3 rfl) ?_
        refine t_getX C hH hI.1 mq tq td_0 iX9 rfl 1 (by decide) wd414 rfl (hI.rf kq_1) dX9_gain_99 ?_
        refine t_getX C hH hI.1 mq_1 tq_1 td_3 iX3 rfl 15 (by decide) wd465 rfl (hI.rf kq_1_15) dX9_gain_102 ?_
        refine lv_iload_n hx hb dX9_gain_105 rfl (lv_at hl 4 rfl) ?_
        refine t_ald C hH hI.1 mq_1_15 tq_1_15 td_9 (rg_in rp1 (by decide)) dX9_gain_106 (fun z97v az97 _ => ?_)
        refine lv_topi (fun z97 ez97 => ?_)
        refine lv_goto (tgt := 111) hx hb dX9_gain_107 (by decide) ?_
        refine lv_istore (lv' := [(8, .int z97), (7, .int z81), (6, .int z5), (5, .int z2), (0, .ref q), (1, .int p1), (2, .int p2), (3, .int p3), (4, .int p4)]) hx hb dX9_gain_111 hl (by decide) rfl (fun ls hl => ?_)
        refine lv_iload_n hx hb dX9_gain_113 rfl (lv_at hl 7 rfl) ?_
        refine lv_iconst (v := (1 : Int32)) hx hb dX9_gain_114 (by decide) ?_
        refine lv_icmp_ne (tgt := 125) hx hb dX9_gain_115 (by decide) (fun c98 => ?_) (fun c98 => ?_)
        · skip
          exact (rg_no (show rg p3 2 0 from rf_nel (n_eq c98) r58 rl_1 (by decide)) (by decide)).elim
        · skip
          refine lv_iload hx hb dX9_gain_118 (lv_at hl 0 rfl) ?_
          refine lv_iconst (v := (5 : Int32)) hx hb dX9_gain_120 (by decide) ?_
          refine lv_isub hx hb dX9_gain_121 ?_
          refine lv_topi (fun z99 ez99 => ?_)
          refine lv_goto (tgt := 127) hx hb dX9_gain_122 (by decide) ?_
          exact g_iret C hr hH (Nat.zero_le _) (Nat.zero_le _) dX9_gain_127 ⟨rfl, hI, (rg_all _)⟩
set_option maxHeartbeats 4000000 in
set_option maxRecDepth 100000 in
theorem t_X9_atRest (l : Launch) (E : gE) (J : Nat → Nat) (τ : Nat → Nat) (L : List Nat) (f : gF) (hI : tI E L τ f) {q : Nat} (mq : q ∈ L) (tq : τ q = 0) (p1 : Int32) (rp1 : rg p1 0 5) (p2 : Int32) (rp2 : rg p2 0 5) (p3 : Int32) (p4 : Int32) : tMi l E J yX9_atRest cX9_atRest 5 .boolean (gRm (6) 0 0) [.ref q, .int p1, .int p2, .int p3, .int p4] L f (tPi E L τ [19, 20, 21, 23] f (fun r f1 => rg r 0 1)) := by
  refine tMi.intro (by decide) (Nat.le_of_ble_eq_true rfl) ?_
  intro p e s m below meth c A ls C hr hA hO hH hl
  have C : gC E cX9_atRest 5 RX9 p s m _ meth c := C
  have hl : lv_has ls 5 [(0, .ref q), (1, .int p1), (2, .int p2), (3, .int p3), (4, .int p4)] := hl
  have hx := C.1
  have hb := C.2.1
  have hI := hI.S [19, 20, 21, 23]
  refine lv_aload_n hx hb dX9_atRest_0 rfl (lv_at hl 0 rfl) ?_
  refine lv_iload_n hx hb dX9_atRest_1 rfl (lv_at hl 1 rfl) ?_
  refine lv_iload_n hx hb dX9_atRest_2 rfl (lv_at hl 2 rfl) ?_
  refine lv_iload_n hx hb dX9_atRest_3 rfl (lv_at hl 3 rfl) ?_
  refine lv_iload hx hb dX9_atRest_4 (lv_at hl 4 rfl) ?_
  refine t_Vi C hO hl.1 hA hH hI.1 (As := [.int p1, .int p2, .int p3, .int p4]) (rest := []) (t_X9_gain l E J τ L f hI.1 mq tq p1 rp1 p2 rp2 p3 p4) my_X9_gain wd469 mq tq td_0 rfl rfl rfl (Nat.le_of_ble_eq_true rfl) ⟨Nat.le_of_ble_eq_true rfl, Nat.le_of_ble_eq_true rfl⟩ ⟨rfl, rfl⟩ dX9_atRest_6 (fun r2 L1 f1 H locs hp hH => ?_)
  obtain ⟨rfl, s3, h4⟩ := hp
  have hI := hI.call s3 (by decide)
  refine lv_aload_n hx hb dX9_atRest_9 rfl (lv_at hl 0 rfl) ?_
  refine lv_iload_n hx hb dX9_atRest_10 rfl (lv_at hl 1 rfl) ?_
  refine lv_iload_n hx hb dX9_atRest_11 rfl (lv_at hl 2 rfl) ?_
  refine lv_iconst (v := (1 : Int32)) hx hb dX9_atRest_12 (by decide) ?_
  refine lv_iload_n hx hb dX9_atRest_13 rfl (lv_at hl 3 rfl) ?_
  refine lv_isub hx hb dX9_atRest_14 ?_
  refine lv_topi (fun z5 ez5 => ?_)
  refine lv_iload hx hb dX9_atRest_15 (lv_at hl 4 rfl) ?_
  refine t_Vi C hO hl.1 hA hH hI.1 (As := [.int p1, .int p2, .int z5, .int p4]) (rest := [.int r2]) (t_X9_gain l E J τ L f1 hI.1 mq tq p1 rp1 p2 rp2 z5 p4) my_X9_gain wd469 mq tq td_0 rfl rfl rfl (Nat.le_of_ble_eq_true rfl) ⟨Nat.le_of_ble_eq_true rfl, Nat.le_of_ble_eq_true rfl⟩ ⟨rfl, rfl⟩ dX9_atRest_17 (fun r7 L1 f6 H locs hp hH => ?_)
  obtain ⟨rfl, s8, h9⟩ := hp
  have hI := hI.call s8 (by decide)
  refine lv_icmp_lt (tgt := 50) hx hb dX9_atRest_20 (by decide) (fun c10 => ?_) (fun c10 => ?_)
  · skip
    have r11 : rg r2 (-2147483648) 2147483646 := rf_ltl (c_lt c10) h4 h9 (by decide)
    have r12 : rg r7 (-2147483647) 2147483647 := rf_ltr (c_lt c10) h4 h9 (by decide)
    refine lv_iconst (v := (0 : Int32)) hx hb dX9_atRest_50 (by decide) ?_
    exact g_zret C hr (rg_z (rg_w rl_0 (by decide))) hH (Nat.zero_le _) (Nat.zero_le _) dX9_atRest_51 ⟨rfl, hI, (rg_w rl_0 (by decide))⟩
  · skip
    refine lv_aload_n hx hb dX9_atRest_23 rfl (lv_at hl 0 rfl) ?_
    refine lv_iload_n hx hb dX9_atRest_24 rfl (lv_at hl 2 rfl) ?_
    refine lv_iload_n hx hb dX9_atRest_25 rfl (lv_at hl 1 rfl) ?_
    refine lv_iload hx hb dX9_atRest_26 (lv_at hl 4 rfl) ?_
    refine lv_iload_n hx hb dX9_atRest_28 rfl (lv_at hl 3 rfl) ?_
    refine t_Vi C hO hl.1 hA hH hI.1 (As := [.int p2, .int p1, .int p4, .int p3]) (rest := []) (t_X9_gain l E J τ L f6 hI.1 mq tq p2 rp2 p1 rp1 p4 p3) my_X9_gain wd469 mq tq td_0 rfl rfl rfl (Nat.le_of_ble_eq_true rfl) ⟨Nat.le_of_ble_eq_true rfl, Nat.le_of_ble_eq_true rfl⟩ ⟨rfl, rfl⟩ dX9_atRest_29 (fun r14 L1 f13 H locs hp hH => ?_)
    obtain ⟨rfl, s15, h16⟩ := hp
    have hI := hI.call s15 (by decide)
    refine lv_aload_n hx hb dX9_atRest_32 rfl (lv_at hl 0 rfl) ?_
    refine lv_iload_n hx hb dX9_atRest_33 rfl (lv_at hl 2 rfl) ?_
    refine lv_iload_n hx hb dX9_atRest_34 rfl (lv_at hl 1 rfl) ?_
    refine lv_iconst (v := (1 : Int32)) hx hb dX9_atRest_35 (by decide) ?_
    refine lv_iload hx hb dX9_atRest_36 (lv_at hl 4 rfl) ?_
    refine lv_isub hx hb dX9_atRest_38 ?_
    refine lv_topi (fun z17 ez17 => ?_)
    refine lv_iload_n hx hb dX9_atRest_39 rfl (lv_at hl 3 rfl) ?_
    refine t_Vi C hO hl.1 hA hH hI.1 (As := [.int p2, .int p1, .int z17, .int p3]) (rest := [.int r14]) (t_X9_gain l E J τ L f13 hI.1 mq tq p2 rp2 p1 rp1 z17 p3) my_X9_gain wd469 mq tq td_0 rfl rfl rfl (Nat.le_of_ble_eq_true rfl) ⟨Nat.le_of_ble_eq_true rfl, Nat.le_of_ble_eq_true rfl⟩ ⟨rfl, rfl⟩ dX9_atRest_40 (fun r19 L1 f18 H locs hp hH => ?_)
    obtain ⟨rfl, s20, h21⟩ := hp
    have hI := hI.call s20 (by decide)
    refine lv_icmp_lt (tgt := 50) hx hb dX9_atRest_43 (by decide) (fun c22 => ?_) (fun c22 => ?_)
    · skip
      have r23 : rg r14 (-2147483648) 2147483646 := rf_ltl (c_lt c22) h16 h21 (by decide)
      have r24 : rg r19 (-2147483647) 2147483647 := rf_ltr (c_lt c22) h16 h21 (by decide)
      refine lv_iconst (v := (0 : Int32)) hx hb dX9_atRest_50 (by decide) ?_
      exact g_zret C hr (rg_z (rg_w rl_0 (by decide))) hH (Nat.zero_le _) (Nat.zero_le _) dX9_atRest_51 ⟨rfl, hI, (rg_w rl_0 (by decide))⟩
    · skip
      refine lv_iconst (v := (1 : Int32)) hx hb dX9_atRest_46 (by decide) ?_
      refine lv_goto (tgt := 51) hx hb dX9_atRest_47 (by decide) ?_
      exact g_zret C hr (rg_z (rg_w rl_1 (by decide))) hH (Nat.zero_le _) (Nat.zero_le _) dX9_atRest_51 ⟨rfl, hI, (rg_w rl_1 (by decide))⟩
set_option maxHeartbeats 4000000 in
set_option maxRecDepth 100000 in
theorem t_X9_rowRefusal (l : Launch) (E : gE) (J : Nat → Nat) (τ : Nat → Nat) (L : List Nat) (f : gF) (hI : tI E L τ f) {q : Nat} (mq : q ∈ L) (tq : τ q = 0) (p1 : Int32) : tMi l E J yX9_rowRefusal cX9_rowRefusal 2 .int (gRm (2) 0 0) [.ref q, .int p1] L f (tPi E L τ [] f (fun r f1 => rg r (-6) 0 ∧ (r = 0 → rg p1 0 3))) := by
  refine tMi.intro (by decide) (Nat.le_of_ble_eq_true rfl) ?_
  intro p e s m below meth c A ls C hr hA hO hH hl
  have C : gC E cX9_rowRefusal 2 RX9 p s m _ meth c := C
  have hl : lv_has ls 2 [(0, .ref q), (1, .int p1)] := hl
  have hx := C.1
  have hb := C.2.1
  have hI := hI.S []
  obtain ⟨q_1, mq_1, tq_1, kq_1⟩ := t_fldr hI.1 mq tq td_0 (k := 1) rfl
  obtain ⟨q_4, mq_4, tq_4, kq_4⟩ := t_fldr hI.1 mq tq td_0 (k := 4) rfl
  refine lv_iload_n hx hb dX9_rowRefusal_0 rfl (lv_at hl 1 rfl) ?_
  refine t_Si C hO hl.1 hA hH (As := [.int p1]) (rest := []) (t_X9_isSlot l E J τ L f hI.1 p1) my_X9_isSlot wd472 rfl rfl (Nat.le_of_ble_eq_true rfl) ⟨Nat.le_of_ble_eq_true rfl, Nat.le_of_ble_eq_true rfl⟩ ⟨rfl, rfl⟩ dX9_rowRefusal_1 (fun r2 L1 f1 H locs hp hH => ?_)
  obtain ⟨rfl, s3, h4⟩ := hp
  have hI := hI.call s3 (by decide)
  refine lv_if_eq (tgt := 17) hx hb dX9_rowRefusal_4 (by decide) (fun c5 => ?_) (fun c5 => ?_)
  · skip
    have r6 : rg r2 0 0 := rf_eql (c_eq c5) h4.1 rl_0 (by decide)
    refine lv_bipush (v := (-2 : Int32)) hx hb dX9_rowRefusal_17 (by decide) ?_
    exact g_iret C hr hH (Nat.zero_le _) (Nat.zero_le _) dX9_rowRefusal_19 ⟨rfl, hI, ⟨(rg_w rl_m2 (by decide)), (fun h => absurd h (by decide))⟩⟩
  · skip
    have r7 : rg r2 1 1 := rf_nel (n_eq c5) h4.1 rl_0 (by decide)
    have r8 : rg p1 0 3 := h4.2 c5
    refine lv_aload_n hx hb dX9_rowRefusal_7 rfl (lv_at hl 0 rfl) ?_
    refine t_getX C hH hI.1 mq tq td_0 iX9 rfl 1 (by decide) wd414 rfl (hI.rf kq_1) dX9_rowRefusal_8 ?_
    refine t_Vi C hO hl.1 hA hH hI.1 (As := []) (rest := []) (t_X3_isNone l E J τ L f1 hI.1 mq_1 tq_1) my_X3_isNone wd473 mq_1 tq_1 td_3 rfl rfl rfl (Nat.le_of_ble_eq_true rfl) ⟨Nat.le_of_ble_eq_true rfl, Nat.le_of_ble_eq_true rfl⟩ ⟨rfl, rfl⟩ dX9_rowRefusal_11 (fun r10 L1 f9 H locs hp hH => ?_)
    obtain ⟨rfl, s11, h12⟩ := hp
    have hI := hI.call s11 (by decide)
    refine lv_if_eq (tgt := 20) hx hb dX9_rowRefusal_14 (by decide) (fun c13 => ?_) (fun c13 => ?_)
    · skip
      have r14 : rg r10 0 0 := rf_eql (c_eq c13) h12 rl_0 (by decide)
      refine lv_aload_n hx hb dX9_rowRefusal_20 rfl (lv_at hl 0 rfl) ?_
      refine t_getX C hH hI.1 mq tq td_0 iX9 rfl 4 (by decide) wd419 rfl (hI.rf kq_4) dX9_rowRefusal_21 ?_
      refine lv_iload_n hx hb dX9_rowRefusal_24 rfl (lv_at hl 1 rfl) ?_
      refine t_aald C hH hI.1 mq_4 tq_4 td_16 rfl (rg_in r8 (by decide)) dX9_rowRefusal_25 (fun q15 mq15 tq15 => ?_)
      refine t_Vi C hO hl.1 hA hH hI.1 (As := []) (rest := []) (t_X6_isNothing l E J τ L f9 hI.1 mq15 tq15) my_X6_isNothing wd424 mq15 tq15 td_17 rfl rfl rfl (Nat.le_of_ble_eq_true rfl) ⟨Nat.le_of_ble_eq_true rfl, Nat.le_of_ble_eq_true rfl⟩ ⟨rfl, rfl⟩ dX9_rowRefusal_26 (fun r17 L1 f16 H locs hp hH => ?_)
      obtain ⟨rfl, s18, h19⟩ := hp
      have hI := hI.call s18 (by decide)
      refine lv_if_eq (tgt := 37) hx hb dX9_rowRefusal_29 (by decide) (fun c20 => ?_) (fun c20 => ?_)
      · skip
        have r21 : rg r17 0 0 := rf_eql (c_eq c20) h19 rl_0 (by decide)
        refine lv_iconst (v := (0 : Int32)) hx hb dX9_rowRefusal_37 (by decide) ?_
        exact g_iret C hr hH (Nat.zero_le _) (Nat.zero_le _) dX9_rowRefusal_38 ⟨rfl, hI, ⟨(rg_w rl_0 (by decide)), (fun _ => r8)⟩⟩
      · skip
        have r22 : rg r17 1 1 := rf_nel (n_eq c20) h19 rl_0 (by decide)
        refine lv_bipush (v := (-6 : Int32)) hx hb dX9_rowRefusal_32 (by decide) ?_
        refine lv_goto (tgt := 38) hx hb dX9_rowRefusal_34 (by decide) ?_
        exact g_iret C hr hH (Nat.zero_le _) (Nat.zero_le _) dX9_rowRefusal_38 ⟨rfl, hI, ⟨(rg_w rl_m6 (by decide)), (fun h => absurd h (by decide))⟩⟩
    · skip
      have r23 : rg r10 1 1 := rf_nel (n_eq c13) h12 rl_0 (by decide)
      refine lv_bipush (v := (-2 : Int32)) hx hb dX9_rowRefusal_17 (by decide) ?_
      exact g_iret C hr hH (Nat.zero_le _) (Nat.zero_le _) dX9_rowRefusal_19 ⟨rfl, hI, ⟨(rg_w rl_m2 (by decide)), (fun h => absurd h (by decide))⟩⟩
set_option maxHeartbeats 4000000 in
set_option maxRecDepth 100000 in
theorem t_X9_sightRefusal (l : Launch) (E : gE) (J : Nat → Nat) (τ : Nat → Nat) (L : List Nat) (f : gF) (hI : tI E L τ f) {q : Nat} (mq : q ∈ L) (tq : τ q = 0) (p1 : Int32) : tMi l E J yX9_sightRefusal cX9_sightRefusal 3 .int (gRm (3) 0 0) [.ref q, .int p1] L f (tPi E L τ [] f (fun r f1 => rg r (-6) 0 ∧ (r = 0 → rg p1 0 3) ∧ (r = 0 → ∀ b, rowAt f q p1 b → sightOK f b))) := by
  refine tMi.intro (by decide) (Nat.le_of_ble_eq_true rfl) ?_
  intro p e s m below meth c A ls C hr hA hO hH hl
  have C : gC E cX9_sightRefusal 3 RX9 p s m _ meth c := C
  have hl : lv_has ls 3 [(0, .ref q), (1, .int p1)] := hl
  have hx := C.1
  have hb := C.2.1
  have hI := hI.S []
  obtain ⟨q_7, mq_7, tq_7, kq_7⟩ := t_fldr hI.1 mq tq td_0 (k := 7) rfl
  obtain ⟨q_4, mq_4, tq_4, kq_4⟩ := t_fldr hI.1 mq tq td_0 (k := 4) rfl
  have hI0 := hI.1
  refine lv_aload_n hx hb dX9_sightRefusal_0 rfl (lv_at hl 0 rfl) ?_
  refine lv_iload_n hx hb dX9_sightRefusal_1 rfl (lv_at hl 1 rfl) ?_
  refine t_Vi C hO hl.1 hA hH hI.1 (As := [.int p1]) (rest := []) (t_X9_rowRefusal l E J τ L f hI.1 mq tq p1) my_X9_rowRefusal wd477 mq tq td_0 rfl rfl rfl (Nat.le_of_ble_eq_true rfl) ⟨Nat.le_of_ble_eq_true rfl, Nat.le_of_ble_eq_true rfl⟩ ⟨rfl, rfl⟩ dX9_sightRefusal_2 (fun r2 L1 f1 H locs hp hH => ?_)
  obtain ⟨rfl, s3, h4⟩ := hp
  have hI := hI.call s3 (by decide)
  refine lv_istore_n (lv' := [(2, .int r2), (0, .ref q), (1, .int p1)]) hx hb dX9_sightRefusal_5 rfl hl (by decide) rfl (fun ls hl => ?_)
  refine lv_iload_n hx hb dX9_sightRefusal_6 rfl (lv_at hl 0 rfl) ?_
  refine lv_if_eq (tgt := 12) hx hb dX9_sightRefusal_7 (by decide) (fun c5 => ?_) (fun c5 => ?_)
  · skip
    have r6 : rg r2 0 0 := rf_eql (c_eq c5) h4.1 rl_0 (by decide)
    have r7 : rg p1 0 3 := h4.2 c5
    refine lv_aload_n hx hb dX9_sightRefusal_12 rfl (lv_at hl 1 rfl) ?_
    refine t_getX C hH hI.1 mq tq td_0 iX9 rfl 7 (by decide) wd478 rfl (hI.rf kq_7) dX9_sightRefusal_13 ?_
    refine lv_aload_n hx hb dX9_sightRefusal_16 rfl (lv_at hl 1 rfl) ?_
    refine t_getX C hH hI.1 mq tq td_0 iX9 rfl 4 (by decide) wd419 rfl (hI.rf kq_4) dX9_sightRefusal_17 ?_
    refine lv_iload_n hx hb dX9_sightRefusal_20 rfl (lv_at hl 2 rfl) ?_
    refine t_aaldX C hH hI.1 mq_4 tq_4 td_16 rfl (rg_in r7 (by decide)) dX9_sightRefusal_21 (fun q8v q8 q8a q8b mq8 tq8 => ?_)
    have wq8 : rowAt f q p1 q8 := ⟨_, _, _, _, kq_4, ((hI.fr _ mq_4 (t_lim tq_4 rfl)).symm.trans q8a), q8b⟩
    refine t_Vi C hO hl.1 hA hH hI.1 (As := [.ref q8]) (rest := []) (t_X0_areSights l E J τ L f1 hI.1 mq_7 tq_7 mq8 tq8) my_X0_areSights wd482 mq_7 tq_7 td_27 rfl rfl rfl (Nat.le_of_ble_eq_true rfl) ⟨Nat.le_of_ble_eq_true rfl, Nat.le_of_ble_eq_true rfl⟩ ⟨rfl, rfl⟩ dX9_sightRefusal_22 (fun r10 L1 f9 H locs hp hH => ?_)
    obtain ⟨rfl, s11, h12⟩ := hp
    have hJ := hI
    have hI := hI.call s11 (by decide)
    refine lv_if_eq (tgt := 32) hx hb dX9_sightRefusal_25 (by decide) (fun c13 => ?_) (fun c13 => ?_)
    · skip
      have r14 : rg r10 0 0 := rf_eql (c_eq c13) h12.1 rl_0 (by decide)
      refine lv_bipush (v := (-2 : Int32)) hx hb dX9_sightRefusal_32 (by decide) ?_
      exact g_iret C hr hH (Nat.zero_le _) (Nat.zero_le _) dX9_sightRefusal_34 ⟨rfl, hI, ⟨(rg_w rl_m2 (by decide)), (fun h => absurd h (by decide)), (fun h => absurd h (by decide))⟩⟩
    · skip
      have r15 : rg r10 1 1 := rf_nel (n_eq c13) h12.1 rl_0 (by decide)
      refine lv_iconst (v := (0 : Int32)) hx hb dX9_sightRefusal_28 (by decide) ?_
      refine lv_goto (tgt := 34) hx hb dX9_sightRefusal_29 (by decide) ?_
      exact g_iret C hr hH (Nat.zero_le _) (Nat.zero_le _) dX9_sightRefusal_34 ⟨rfl, hI, ⟨(rg_w rl_0 (by decide)), (fun _ => r7), (fun _ b hb => by rw [hb.inj wq8]; exact (h12.2 c13).B hJ mq8 tq8 rfl)⟩⟩
  · skip
    have r16 : rg r2 (-6) (-1) := rf_nel (n_eq c5) h4.1 rl_0 (by decide)
    refine lv_iload_n hx hb dX9_sightRefusal_10 rfl (lv_at hl 0 rfl) ?_
    exact g_iret C hr hH (Nat.zero_le _) (Nat.zero_le _) dX9_sightRefusal_11 ⟨rfl, hI, ⟨(rg_w r16 (by decide)), (fun h => rg_w (h4.2 h) (by decide)), (fun h => absurd h c5)⟩⟩
set_option maxHeartbeats 4000000 in
set_option maxRecDepth 100000 in
theorem t_X9_reportRefusal (l : Launch) (E : gE) (J : Nat → Nat) (τ : Nat → Nat) (L : List Nat) (f : gF) (hI : tI E L τ f) {q : Nat} (mq : q ∈ L) (tq : τ q = 0) (p1 : Int32) : tMi l E J yX9_reportRefusal cX9_reportRefusal 3 .int (gRm (3) 0 0) [.ref q, .int p1] L f (tPi E L τ [] f (fun r f1 => rg r (-6) 0 ∧ (r = 0 → rg p1 0 3))) := by
  refine tMi.intro (by decide) (Nat.le_of_ble_eq_true rfl) ?_
  intro p e s m below meth c A ls C hr hA hO hH hl
  have C : gC E cX9_reportRefusal 3 RX9 p s m _ meth c := C
  have hl : lv_has ls 3 [(0, .ref q), (1, .int p1)] := hl
  have hx := C.1
  have hb := C.2.1
  have hI := hI.S []
  obtain ⟨q_7, mq_7, tq_7, kq_7⟩ := t_fldr hI.1 mq tq td_0 (k := 7) rfl
  obtain ⟨q_4, mq_4, tq_4, kq_4⟩ := t_fldr hI.1 mq tq td_0 (k := 4) rfl
  refine lv_aload_n hx hb dX9_reportRefusal_0 rfl (lv_at hl 0 rfl) ?_
  refine lv_iload_n hx hb dX9_reportRefusal_1 rfl (lv_at hl 1 rfl) ?_
  refine t_Vi C hO hl.1 hA hH hI.1 (As := [.int p1]) (rest := []) (t_X9_rowRefusal l E J τ L f hI.1 mq tq p1) my_X9_rowRefusal wd477 mq tq td_0 rfl rfl rfl (Nat.le_of_ble_eq_true rfl) ⟨Nat.le_of_ble_eq_true rfl, Nat.le_of_ble_eq_true rfl⟩ ⟨rfl, rfl⟩ dX9_reportRefusal_2 (fun r2 L1 f1 H locs hp hH => ?_)
  obtain ⟨rfl, s3, h4⟩ := hp
  have hI := hI.call s3 (by decide)
  refine lv_istore_n (lv' := [(2, .int r2), (0, .ref q), (1, .int p1)]) hx hb dX9_reportRefusal_5 rfl hl (by decide) rfl (fun ls hl => ?_)
  refine lv_iload_n hx hb dX9_reportRefusal_6 rfl (lv_at hl 0 rfl) ?_
  refine lv_if_eq (tgt := 12) hx hb dX9_reportRefusal_7 (by decide) (fun c5 => ?_) (fun c5 => ?_)
  · skip
    have r6 : rg r2 0 0 := rf_eql (c_eq c5) h4.1 rl_0 (by decide)
    have r7 : rg p1 0 3 := h4.2 c5
    refine lv_aload_n hx hb dX9_reportRefusal_12 rfl (lv_at hl 1 rfl) ?_
    refine t_getX C hH hI.1 mq tq td_0 iX9 rfl 7 (by decide) wd478 rfl (hI.rf kq_7) dX9_reportRefusal_13 ?_
    refine lv_aload_n hx hb dX9_reportRefusal_16 rfl (lv_at hl 1 rfl) ?_
    refine t_getX C hH hI.1 mq tq td_0 iX9 rfl 4 (by decide) wd419 rfl (hI.rf kq_4) dX9_reportRefusal_17 ?_
    refine lv_iload_n hx hb dX9_reportRefusal_20 rfl (lv_at hl 2 rfl) ?_
    refine t_aald C hH hI.1 mq_4 tq_4 td_16 rfl (rg_in r7 (by decide)) dX9_reportRefusal_21 (fun q8 mq8 tq8 => ?_)
    refine t_Vi C hO hl.1 hA hH hI.1 (As := [.ref q8]) (rest := []) (t_X0_areReports l E J τ L f1 hI.1 mq_7 tq_7 mq8 tq8) my_X0_areReports wd486 mq_7 tq_7 td_27 rfl rfl rfl (Nat.le_of_ble_eq_true rfl) ⟨Nat.le_of_ble_eq_true rfl, Nat.le_of_ble_eq_true rfl⟩ ⟨rfl, rfl⟩ dX9_reportRefusal_22 (fun r10 L1 f9 H locs hp hH => ?_)
    obtain ⟨rfl, s11, h12⟩ := hp
    have hI := hI.call s11 (by decide)
    refine lv_if_eq (tgt := 32) hx hb dX9_reportRefusal_25 (by decide) (fun c13 => ?_) (fun c13 => ?_)
    · skip
      have r14 : rg r10 0 0 := rf_eql (c_eq c13) h12 rl_0 (by decide)
      refine lv_bipush (v := (-2 : Int32)) hx hb dX9_reportRefusal_32 (by decide) ?_
      exact g_iret C hr hH (Nat.zero_le _) (Nat.zero_le _) dX9_reportRefusal_34 ⟨rfl, hI, ⟨(rg_w rl_m2 (by decide)), (fun h => absurd h (by decide))⟩⟩
    · skip
      have r15 : rg r10 1 1 := rf_nel (n_eq c13) h12 rl_0 (by decide)
      refine lv_iconst (v := (0 : Int32)) hx hb dX9_reportRefusal_28 (by decide) ?_
      refine lv_goto (tgt := 34) hx hb dX9_reportRefusal_29 (by decide) ?_
      exact g_iret C hr hH (Nat.zero_le _) (Nat.zero_le _) dX9_reportRefusal_34 ⟨rfl, hI, ⟨(rg_w rl_0 (by decide)), (fun _ => r7)⟩⟩
  · skip
    have r16 : rg r2 (-6) (-1) := rf_nel (n_eq c5) h4.1 rl_0 (by decide)
    refine lv_iload_n hx hb dX9_reportRefusal_10 rfl (lv_at hl 0 rfl) ?_
    exact g_iret C hr hH (Nat.zero_le _) (Nat.zero_le _) dX9_reportRefusal_11 ⟨rfl, hI, ⟨(rg_w r16 (by decide)), (fun h => rg_w (h4.2 h) (by decide))⟩⟩
set_option maxHeartbeats 4000000 in
set_option maxRecDepth 100000 in
theorem t_X9_laws (l : Launch) (E : gE) (J : Nat → Nat) (τ : Nat → Nat) (L : List Nat) (f : gF) (hI : tI E L τ f) {q : Nat} (mq : q ∈ L) (tq : τ q = 0) (p1 : Int32) : tMi l E J yX9_laws cX9_laws 3 .int (gRm (6) 0 0) [.ref q, .int p1] L f (tPi E L τ [19, 20, 21] f (fun r f1 => rg r (-2147483648) 2147483647)) := by
  refine tMi.intro (by decide) (Nat.le_of_ble_eq_true rfl) ?_
  intro p e s m below meth c A ls C hr hA hO hH hl
  have C : gC E cX9_laws 3 RX9 p s m _ meth c := C
  have hl : lv_has ls 3 [(0, .ref q), (1, .int p1)] := hl
  have hx := C.1
  have hb := C.2.1
  have hI := hI.S [19, 20, 21]
  obtain ⟨q_7, mq_7, tq_7, kq_7⟩ := t_fldr hI.1 mq tq td_0 (k := 7) rfl
  obtain ⟨q_4, mq_4, tq_4, kq_4⟩ := t_fldr hI.1 mq tq td_0 (k := 4) rfl
  have hI0 := hI.1
  refine lv_aload_n hx hb dX9_laws_0 rfl (lv_at hl 0 rfl) ?_
  refine lv_iload_n hx hb dX9_laws_1 rfl (lv_at hl 1 rfl) ?_
  refine t_Vi C hO hl.1 hA hH hI.1 (As := [.int p1]) (rest := []) (t_X9_sightRefusal l E J τ L f hI.1 mq tq p1) my_X9_sightRefusal wd490 mq tq td_0 rfl rfl rfl (Nat.le_of_ble_eq_true rfl) ⟨Nat.le_of_ble_eq_true rfl, Nat.le_of_ble_eq_true rfl⟩ ⟨rfl, rfl⟩ dX9_laws_2 (fun r2 L1 f1 H locs hp hH => ?_)
  obtain ⟨rfl, s3, h4⟩ := hp
  have hJ := hI
  have hI := hI.call s3 (by decide)
  refine lv_istore_n (lv' := [(2, .int r2), (0, .ref q), (1, .int p1)]) hx hb dX9_laws_5 rfl hl (by decide) rfl (fun ls hl => ?_)
  refine lv_iload_n hx hb dX9_laws_6 rfl (lv_at hl 0 rfl) ?_
  refine lv_if_eq (tgt := 14) hx hb dX9_laws_7 (by decide) (fun c5 => ?_) (fun c5 => ?_)
  · skip
    have r6 : rg r2 0 0 := rf_eql (c_eq c5) h4.1 rl_0 (by decide)
    have r7 : rg p1 0 3 := h4.2.1 c5
    refine lv_aload_n hx hb dX9_laws_14 rfl (lv_at hl 1 rfl) ?_
    refine t_getX C hH hI.1 mq tq td_0 iX9 rfl 7 (by decide) wd478 rfl (hI.rf kq_7) dX9_laws_15 ?_
    refine lv_aload_n hx hb dX9_laws_18 rfl (lv_at hl 1 rfl) ?_
    refine t_getX C hH hI.1 mq tq td_0 iX9 rfl 4 (by decide) wd419 rfl (hI.rf kq_4) dX9_laws_19 ?_
    refine lv_iload_n hx hb dX9_laws_22 rfl (lv_at hl 2 rfl) ?_
    refine t_aaldX C hH hI.1 mq_4 tq_4 td_16 rfl (rg_in r7 (by decide)) dX9_laws_23 (fun q8v q8 q8a q8b mq8 tq8 => ?_)
    have wq8 : rowAt f q p1 q8 := ⟨_, _, _, _, kq_4, ((hI.fr _ mq_4 (t_lim tq_4 rfl)).symm.trans q8a), q8b⟩
    refine t_Vi C hO hl.1 hA hH hI.1 (As := [.ref q8]) (rest := []) (t_X0_lawsFitting l E J τ L f1 hI.1 mq_7 tq_7 mq8 tq8 (((h4.2.2 c5) _ wq8).S hI0 hI mq8 tq8 rfl)) my_X0_lawsFitting wd494 mq_7 tq_7 td_27 rfl rfl rfl (Nat.le_of_ble_eq_true rfl) ⟨Nat.le_of_ble_eq_true rfl, Nat.le_of_ble_eq_true rfl⟩ ⟨rfl, rfl⟩ dX9_laws_24 (fun r10 L1 f9 H locs hp hH => ?_)
    obtain ⟨rfl, s11, h12⟩ := hp
    have hI := hI.call s11 (by decide)
    exact g_iret C hr hH (Nat.zero_le _) (Nat.zero_le _) dX9_laws_27 ⟨rfl, hI, h12⟩
  · skip
    have r13 : rg r2 (-6) (-1) := rf_nel (n_eq c5) h4.1 rl_0 (by decide)
    refine lv_iload_n hx hb dX9_laws_10 rfl (lv_at hl 0 rfl) ?_
    refine lv_goto (tgt := 27) hx hb dX9_laws_11 (by decide) ?_
    exact g_iret C hr hH (Nat.zero_le _) (Nat.zero_le _) dX9_laws_27 ⟨rfl, hI, (rg_w r13 (by decide))⟩
set_option maxHeartbeats 4000000 in
set_option maxRecDepth 100000 in
theorem t_X9_ask (l : Launch) (E : gE) (J : Nat → Nat) (τ : Nat → Nat) (L : List Nat) (f : gF) (hI : tI E L τ f) {q : Nat} (mq : q ∈ L) (tq : τ q = 0) (p1 : Int32) : tMi l E J yX9_ask cX9_ask 3 .int (gRm (6) 0 0) [.ref q, .int p1] L f (tPi E L τ [19, 20, 21, 29] f (fun r f1 => rg r (-2147483648) 2147483647)) := by
  refine tMi.intro (by decide) (Nat.le_of_ble_eq_true rfl) ?_
  intro p e s m below meth c A ls C hr hA hO hH hl
  have C : gC E cX9_ask 3 RX9 p s m _ meth c := C
  have hl : lv_has ls 3 [(0, .ref q), (1, .int p1)] := hl
  have hx := C.1
  have hb := C.2.1
  have hI := hI.S [19, 20, 21, 29]
  obtain ⟨q_7, mq_7, tq_7, kq_7⟩ := t_fldr hI.1 mq tq td_0 (k := 7) rfl
  obtain ⟨q_4, mq_4, tq_4, kq_4⟩ := t_fldr hI.1 mq tq td_0 (k := 4) rfl
  have hI0 := hI.1
  refine lv_aload_n hx hb dX9_ask_0 rfl (lv_at hl 0 rfl) ?_
  refine lv_iload_n hx hb dX9_ask_1 rfl (lv_at hl 1 rfl) ?_
  refine t_Vi C hO hl.1 hA hH hI.1 (As := [.int p1]) (rest := []) (t_X9_sightRefusal l E J τ L f hI.1 mq tq p1) my_X9_sightRefusal wd490 mq tq td_0 rfl rfl rfl (Nat.le_of_ble_eq_true rfl) ⟨Nat.le_of_ble_eq_true rfl, Nat.le_of_ble_eq_true rfl⟩ ⟨rfl, rfl⟩ dX9_ask_2 (fun r2 L1 f1 H locs hp hH => ?_)
  obtain ⟨rfl, s3, h4⟩ := hp
  have hJ := hI
  have hI := hI.call s3 (by decide)
  refine lv_istore_n (lv' := [(2, .int r2), (0, .ref q), (1, .int p1)]) hx hb dX9_ask_5 rfl hl (by decide) rfl (fun ls hl => ?_)
  refine lv_iload_n hx hb dX9_ask_6 rfl (lv_at hl 0 rfl) ?_
  refine lv_if_eq (tgt := 14) hx hb dX9_ask_7 (by decide) (fun c5 => ?_) (fun c5 => ?_)
  · skip
    have r6 : rg r2 0 0 := rf_eql (c_eq c5) h4.1 rl_0 (by decide)
    have r7 : rg p1 0 3 := h4.2.1 c5
    refine lv_aload_n hx hb dX9_ask_14 rfl (lv_at hl 1 rfl) ?_
    refine t_getX C hH hI.1 mq tq td_0 iX9 rfl 7 (by decide) wd478 rfl (hI.rf kq_7) dX9_ask_15 ?_
    refine lv_aload_n hx hb dX9_ask_18 rfl (lv_at hl 1 rfl) ?_
    refine t_getX C hH hI.1 mq tq td_0 iX9 rfl 7 (by decide) wd478 rfl (hI.rf kq_7) dX9_ask_19 ?_
    refine lv_aload_n hx hb dX9_ask_22 rfl (lv_at hl 1 rfl) ?_
    refine t_getX C hH hI.1 mq tq td_0 iX9 rfl 4 (by decide) wd419 rfl (hI.rf kq_4) dX9_ask_23 ?_
    refine lv_iload_n hx hb dX9_ask_26 rfl (lv_at hl 2 rfl) ?_
    refine t_aaldX C hH hI.1 mq_4 tq_4 td_16 rfl (rg_in r7 (by decide)) dX9_ask_27 (fun q8v q8 q8a q8b mq8 tq8 => ?_)
    have wq8 : rowAt f q p1 q8 := ⟨_, _, _, _, kq_4, ((hI.fr _ mq_4 (t_lim tq_4 rfl)).symm.trans q8a), q8b⟩
    refine t_Vi C hO hl.1 hA hH hI.1 (As := [.ref q8]) (rest := [.ref q_7]) (t_X0_lawsFitting l E J τ L f1 hI.1 mq_7 tq_7 mq8 tq8 (((h4.2.2 c5) _ wq8).S hI0 hI mq8 tq8 rfl)) my_X0_lawsFitting wd494 mq_7 tq_7 td_27 rfl rfl rfl (Nat.le_of_ble_eq_true rfl) ⟨Nat.le_of_ble_eq_true rfl, Nat.le_of_ble_eq_true rfl⟩ ⟨rfl, rfl⟩ dX9_ask_28 (fun r10 L1 f9 H locs hp hH => ?_)
    obtain ⟨rfl, s11, h12⟩ := hp
    have hI := hI.call s11 (by decide)
    refine t_Vi C hO hl.1 hA hH hI.1 (As := [.int r10]) (rest := []) (t_X0_flightToAsk l E J τ L f9 hI.1 mq_7 tq_7 r10) my_X0_flightToAsk wd498 mq_7 tq_7 td_27 rfl rfl rfl (Nat.le_of_ble_eq_true rfl) ⟨Nat.le_of_ble_eq_true rfl, Nat.le_of_ble_eq_true rfl⟩ ⟨rfl, rfl⟩ dX9_ask_31 (fun r14 L1 f13 H locs hp hH => ?_)
    obtain ⟨rfl, s15, h16⟩ := hp
    have hI := hI.call s15 (by decide)
    exact g_iret C hr hH (Nat.zero_le _) (Nat.zero_le _) dX9_ask_34 ⟨rfl, hI, (rg_w h16 (by decide))⟩
  · skip
    have r17 : rg r2 (-6) (-1) := rf_nel (n_eq c5) h4.1 rl_0 (by decide)
    refine lv_iload_n hx hb dX9_ask_10 rfl (lv_at hl 0 rfl) ?_
    refine lv_goto (tgt := 34) hx hb dX9_ask_11 (by decide) ?_
    exact g_iret C hr hH (Nat.zero_le _) (Nat.zero_le _) dX9_ask_34 ⟨rfl, hI, (rg_w r17 (by decide))⟩
set_option maxHeartbeats 4000000 in
set_option maxRecDepth 100000 in
theorem t_X9_flight (l : Launch) (E : gE) (J : Nat → Nat) (τ : Nat → Nat) (L : List Nat) (f : gF) (hI : tI E L τ f) {q : Nat} (mq : q ∈ L) (tq : τ q = 0) (p1 : Int32) (p2 : Int32) : tMi l E J yX9_flight cX9_flight 3 .int (gRm (2) 0 0) [.ref q, .int p1, .int p2] L f (tPi E L τ [] f (fun r f1 => rg r (-2147483648) 2147483647)) := by
  refine tMi.intro (by decide) (Nat.le_of_ble_eq_true rfl) ?_
  intro p e s m below meth c A ls C hr hA hO hH hl
  have C : gC E cX9_flight 3 RX9 p s m _ meth c := C
  have hl : lv_has ls 3 [(0, .ref q), (1, .int p1), (2, .int p2)] := hl
  have hx := C.1
  have hb := C.2.1
  have hI := hI.S []
  obtain ⟨q_1, mq_1, tq_1, kq_1⟩ := t_fldr hI.1 mq tq td_0 (k := 1) rfl
  obtain ⟨q_1_10, mq_1_10, tq_1_10, kq_1_10⟩ := t_fldr hI.1 mq_1 tq_1 td_3 (k := 10) rfl
  obtain ⟨q_1_11, mq_1_11, tq_1_11, kq_1_11⟩ := t_fldr hI.1 mq_1 tq_1 td_3 (k := 11) rfl
  obtain ⟨q_1_12, mq_1_12, tq_1_12, kq_1_12⟩ := t_fldr hI.1 mq_1 tq_1 td_3 (k := 12) rfl
  refine lv_aload_n hx hb dX9_flight_0 rfl (lv_at hl 0 rfl) ?_
  refine t_getX C hH hI.1 mq tq td_0 iX9 rfl 1 (by decide) wd414 rfl (hI.rf kq_1) dX9_flight_1 ?_
  refine lv_iload_n hx hb dX9_flight_4 rfl (lv_at hl 1 rfl) ?_
  refine t_Vi C hO hl.1 hA hH hI.1 (As := [.int p1]) (rest := []) (t_X3_hasFlight l E J τ L f hI.1 mq_1 tq_1 p1) my_X3_hasFlight wd502 mq_1 tq_1 td_3 rfl rfl rfl (Nat.le_of_ble_eq_true rfl) ⟨Nat.le_of_ble_eq_true rfl, Nat.le_of_ble_eq_true rfl⟩ ⟨rfl, rfl⟩ dX9_flight_5 (fun r2 L1 f1 H locs hp hH => ?_)
  obtain ⟨rfl, s3, h4⟩ := hp
  have hI := hI.call s3 (by decide)
  refine lv_if_ne (tgt := 14) hx hb dX9_flight_8 (by decide) (fun c5 => ?_) (fun c5 => ?_)
  · skip
    have r6 : rg r2 1 1 := rf_nel (n_eq c5) h4.1 rl_0 (by decide)
    have r7 : rg p1 0 3 := h4.2 c5
    refine lv_iload_n hx hb dX9_flight_14 rfl (lv_at hl 2 rfl) ?_
    rcases g_sw p2 0 2 (by decide) with c8 | ⟨j, hj, ej⟩
    · refine lv_tableOut (tgt := 70) hx hb dX9_flight_15 c8 (by decide) ?_
      refine lv_bipush (v := (-2 : Int32)) hx hb dX9_flight_70 (by decide) ?_
      exact g_iret C hr hH (Nat.zero_le _) (Nat.zero_le _) dX9_flight_72 ⟨rfl, hI, (rg_w rl_m2 (by decide))⟩
    · rcases (show j = 0 ∨ j = 1 ∨ j = 2 by omega) with rfl | rfl | rfl
      · have y9 : p2 = (0 : Int32) := g_swE ej (by decide)
        have r10 : rg p2 0 0 := by rw [y9]; exact rl_0
        refine lv_tableIn (tgt := 40) (off := 25) hx hb dX9_flight_15 (by rw [y9]; decide) (by rw [y9]; decide) (by rw [y9]; decide) (by decide) ?_
        refine lv_aload_n hx hb dX9_flight_40 rfl (lv_at hl 0 rfl) ?_
        refine t_getX C hH hI.1 mq tq td_0 iX9 rfl 1 (by decide) wd414 rfl (hI.rf kq_1) dX9_flight_41 ?_
        refine t_getX C hH hI.1 mq_1 tq_1 td_3 iX3 rfl 10 (by decide) wd503 rfl (hI.rf kq_1_10) dX9_flight_44 ?_
        refine lv_iload_n hx hb dX9_flight_47 rfl (lv_at hl 1 rfl) ?_
        refine t_aldR C hH hI.1 mq_1_10 tq_1_10 td_4 (rg_in r7 (by decide)) dX9_flight_48 (fun z11 rz11 => ?_)
        exact g_iret C hr hH (Nat.zero_le _) (Nat.zero_le _) dX9_flight_49 ⟨rfl, hI, (rg_w rz11 (by decide))⟩
      · have y12 : p2 = (1 : Int32) := g_swE ej (by decide)
        have r13 : rg p2 1 1 := by rw [y12]; exact rl_1
        refine lv_tableIn (tgt := 50) (off := 35) hx hb dX9_flight_15 (by rw [y12]; decide) (by rw [y12]; decide) (by rw [y12]; decide) (by decide) ?_
        refine lv_aload_n hx hb dX9_flight_50 rfl (lv_at hl 0 rfl) ?_
        refine t_getX C hH hI.1 mq tq td_0 iX9 rfl 1 (by decide) wd414 rfl (hI.rf kq_1) dX9_flight_51 ?_
        refine t_getX C hH hI.1 mq_1 tq_1 td_3 iX3 rfl 11 (by decide) wd504 rfl (hI.rf kq_1_11) dX9_flight_54 ?_
        refine lv_iload_n hx hb dX9_flight_57 rfl (lv_at hl 1 rfl) ?_
        refine t_aldR C hH hI.1 mq_1_11 tq_1_11 td_5 (rg_in r7 (by decide)) dX9_flight_58 (fun z14 rz14 => ?_)
        exact g_iret C hr hH (Nat.zero_le _) (Nat.zero_le _) dX9_flight_59 ⟨rfl, hI, (rg_w rz14 (by decide))⟩
      · have y15 : p2 = (2 : Int32) := g_swE ej (by decide)
        have r16 : rg p2 2 2 := by rw [y15]; exact rl_2
        refine lv_tableIn (tgt := 60) (off := 45) hx hb dX9_flight_15 (by rw [y15]; decide) (by rw [y15]; decide) (by rw [y15]; decide) (by decide) ?_
        refine lv_aload_n hx hb dX9_flight_60 rfl (lv_at hl 0 rfl) ?_
        refine t_getX C hH hI.1 mq tq td_0 iX9 rfl 1 (by decide) wd414 rfl (hI.rf kq_1) dX9_flight_61 ?_
        refine t_getX C hH hI.1 mq_1 tq_1 td_3 iX3 rfl 12 (by decide) wd458 rfl (hI.rf kq_1_12) dX9_flight_64 ?_
        refine lv_iload_n hx hb dX9_flight_67 rfl (lv_at hl 1 rfl) ?_
        refine t_ald C hH hI.1 mq_1_12 tq_1_12 td_6 (rg_in r7 (by decide)) dX9_flight_68 (fun z17v az17 _ => ?_)
        refine lv_topi (fun z17 ez17 => ?_)
        exact g_iret C hr hH (Nat.zero_le _) (Nat.zero_le _) dX9_flight_69 ⟨rfl, hI, (rg_all _)⟩
  · skip
    have r18 : rg r2 0 0 := rf_eql (c_eq c5) h4.1 rl_0 (by decide)
    refine lv_bipush (v := (-2 : Int32)) hx hb dX9_flight_11 (by decide) ?_
    exact g_iret C hr hH (Nat.zero_le _) (Nat.zero_le _) dX9_flight_13 ⟨rfl, hI, (rg_w rl_m2 (by decide))⟩
set_option maxHeartbeats 4000000 in
set_option maxRecDepth 100000 in
theorem t_X9_member (l : Launch) (E : gE) (J : Nat → Nat) (τ : Nat → Nat) (L : List Nat) (f : gF) (hI : tI E L τ f) {q : Nat} (mq : q ∈ L) (tq : τ q = 0) (p1 : Int32) (p2 : Int32) : tMi l E J yX9_member cX9_member 3 .int (gRm (2) 0 0) [.ref q, .int p1, .int p2] L f (tPi E L τ [] f (fun r f1 => rg r (-2147483648) 2147483647)) := by
  refine tMi.intro (by decide) (Nat.le_of_ble_eq_true rfl) ?_
  intro p e s m below meth c A ls C hr hA hO hH hl
  have C : gC E cX9_member 3 RX9 p s m _ meth c := C
  have hl : lv_has ls 3 [(0, .ref q), (1, .int p1), (2, .int p2)] := hl
  have hx := C.1
  have hb := C.2.1
  have hI := hI.S []
  obtain ⟨q_1, mq_1, tq_1, kq_1⟩ := t_fldr hI.1 mq tq td_0 (k := 1) rfl
  obtain ⟨q_1_13, mq_1_13, tq_1_13, kq_1_13⟩ := t_fldr hI.1 mq_1 tq_1 td_3 (k := 13) rfl
  obtain ⟨q_1_14, mq_1_14, tq_1_14, kq_1_14⟩ := t_fldr hI.1 mq_1 tq_1 td_3 (k := 14) rfl
  obtain ⟨q_1_15, mq_1_15, tq_1_15, kq_1_15⟩ := t_fldr hI.1 mq_1 tq_1 td_3 (k := 15) rfl
  refine lv_aload_n hx hb dX9_member_0 rfl (lv_at hl 0 rfl) ?_
  refine t_getX C hH hI.1 mq tq td_0 iX9 rfl 1 (by decide) wd414 rfl (hI.rf kq_1) dX9_member_1 ?_
  refine lv_iload_n hx hb dX9_member_4 rfl (lv_at hl 1 rfl) ?_
  refine t_Vi C hO hl.1 hA hH hI.1 (As := [.int p1]) (rest := []) (t_X3_hasMember l E J τ L f hI.1 mq_1 tq_1 p1) my_X3_hasMember wd418 mq_1 tq_1 td_3 rfl rfl rfl (Nat.le_of_ble_eq_true rfl) ⟨Nat.le_of_ble_eq_true rfl, Nat.le_of_ble_eq_true rfl⟩ ⟨rfl, rfl⟩ dX9_member_5 (fun r2 L1 f1 H locs hp hH => ?_)
  obtain ⟨rfl, s3, h4⟩ := hp
  have hI := hI.call s3 (by decide)
  refine lv_if_ne (tgt := 14) hx hb dX9_member_8 (by decide) (fun c5 => ?_) (fun c5 => ?_)
  · skip
    have r6 : rg r2 1 1 := rf_nel (n_eq c5) h4.1 rl_0 (by decide)
    have r7 : rg p1 0 5 := h4.2 c5
    refine lv_iload_n hx hb dX9_member_14 rfl (lv_at hl 2 rfl) ?_
    rcases g_sw p2 0 2 (by decide) with c8 | ⟨j, hj, ej⟩
    · refine lv_tableOut (tgt := 70) hx hb dX9_member_15 c8 (by decide) ?_
      refine lv_bipush (v := (-2 : Int32)) hx hb dX9_member_70 (by decide) ?_
      exact g_iret C hr hH (Nat.zero_le _) (Nat.zero_le _) dX9_member_72 ⟨rfl, hI, (rg_w rl_m2 (by decide))⟩
    · rcases (show j = 0 ∨ j = 1 ∨ j = 2 by omega) with rfl | rfl | rfl
      · have y9 : p2 = (0 : Int32) := g_swE ej (by decide)
        have r10 : rg p2 0 0 := by rw [y9]; exact rl_0
        refine lv_tableIn (tgt := 40) (off := 25) hx hb dX9_member_15 (by rw [y9]; decide) (by rw [y9]; decide) (by rw [y9]; decide) (by decide) ?_
        refine lv_aload_n hx hb dX9_member_40 rfl (lv_at hl 0 rfl) ?_
        refine t_getX C hH hI.1 mq tq td_0 iX9 rfl 1 (by decide) wd414 rfl (hI.rf kq_1) dX9_member_41 ?_
        refine t_getX C hH hI.1 mq_1 tq_1 td_3 iX3 rfl 13 (by decide) wd464 rfl (hI.rf kq_1_13) dX9_member_44 ?_
        refine lv_iload_n hx hb dX9_member_47 rfl (lv_at hl 1 rfl) ?_
        refine t_aldR C hH hI.1 mq_1_13 tq_1_13 td_7 (rg_in r7 (by decide)) dX9_member_48 (fun z11 rz11 => ?_)
        exact g_iret C hr hH (Nat.zero_le _) (Nat.zero_le _) dX9_member_49 ⟨rfl, hI, (rg_w rz11 (by decide))⟩
      · have y12 : p2 = (1 : Int32) := g_swE ej (by decide)
        have r13 : rg p2 1 1 := by rw [y12]; exact rl_1
        refine lv_tableIn (tgt := 50) (off := 35) hx hb dX9_member_15 (by rw [y12]; decide) (by rw [y12]; decide) (by rw [y12]; decide) (by decide) ?_
        refine lv_aload_n hx hb dX9_member_50 rfl (lv_at hl 0 rfl) ?_
        refine t_getX C hH hI.1 mq tq td_0 iX9 rfl 1 (by decide) wd414 rfl (hI.rf kq_1) dX9_member_51 ?_
        refine t_getX C hH hI.1 mq_1 tq_1 td_3 iX3 rfl 14 (by decide) wd438 rfl (hI.rf kq_1_14) dX9_member_54 ?_
        refine lv_iload_n hx hb dX9_member_57 rfl (lv_at hl 1 rfl) ?_
        refine t_ald C hH hI.1 mq_1_14 tq_1_14 td_8 (rg_in r7 (by decide)) dX9_member_58 (fun z14v az14 _ => ?_)
        refine lv_topi (fun z14 ez14 => ?_)
        exact g_iret C hr hH (Nat.zero_le _) (Nat.zero_le _) dX9_member_59 ⟨rfl, hI, (rg_all _)⟩
      · have y15 : p2 = (2 : Int32) := g_swE ej (by decide)
        have r16 : rg p2 2 2 := by rw [y15]; exact rl_2
        refine lv_tableIn (tgt := 60) (off := 45) hx hb dX9_member_15 (by rw [y15]; decide) (by rw [y15]; decide) (by rw [y15]; decide) (by decide) ?_
        refine lv_aload_n hx hb dX9_member_60 rfl (lv_at hl 0 rfl) ?_
        refine t_getX C hH hI.1 mq tq td_0 iX9 rfl 1 (by decide) wd414 rfl (hI.rf kq_1) dX9_member_61 ?_
        refine t_getX C hH hI.1 mq_1 tq_1 td_3 iX3 rfl 15 (by decide) wd465 rfl (hI.rf kq_1_15) dX9_member_64 ?_
        refine lv_iload_n hx hb dX9_member_67 rfl (lv_at hl 1 rfl) ?_
        refine t_ald C hH hI.1 mq_1_15 tq_1_15 td_9 (rg_in r7 (by decide)) dX9_member_68 (fun z17v az17 _ => ?_)
        refine lv_topi (fun z17 ez17 => ?_)
        exact g_iret C hr hH (Nat.zero_le _) (Nat.zero_le _) dX9_member_69 ⟨rfl, hI, (rg_all _)⟩
  · skip
    have r18 : rg r2 0 0 := rf_eql (c_eq c5) h4.1 rl_0 (by decide)
    refine lv_bipush (v := (-2 : Int32)) hx hb dX9_member_11 (by decide) ?_
    exact g_iret C hr hH (Nat.zero_le _) (Nat.zero_le _) dX9_member_13 ⟨rfl, hI, (rg_w rl_m2 (by decide))⟩
set_option maxHeartbeats 4000000 in
set_option maxRecDepth 100000 in
theorem t_X9_lamps (l : Launch) (E : gE) (J : Nat → Nat) (τ : Nat → Nat) (L : List Nat) (f : gF) (hI : tI E L τ f) {q : Nat} (mq : q ∈ L) (tq : τ q = 0) : tMi l E J yX9_lamps cX9_lamps 1 .int (gRm (2) 0 0) [.ref q] L f (tPi E L τ [] f (fun r f1 => rg r (-2147483648) 2147483647)) := by
  refine tMi.intro (by decide) (Nat.le_of_ble_eq_true rfl) ?_
  intro p e s m below meth c A ls C hr hA hO hH hl
  have C : gC E cX9_lamps 1 RX9 p s m _ meth c := C
  have hl : lv_has ls 1 [(0, .ref q)] := hl
  have hx := C.1
  have hb := C.2.1
  have hI := hI.S []
  obtain ⟨q_1, mq_1, tq_1, kq_1⟩ := t_fldr hI.1 mq tq td_0 (k := 1) rfl
  refine lv_aload_n hx hb dX9_lamps_0 rfl (lv_at hl 0 rfl) ?_
  refine t_getX C hH hI.1 mq tq td_0 iX9 rfl 1 (by decide) wd414 rfl (hI.rf kq_1) dX9_lamps_1 ?_
  refine t_Vi C hO hl.1 hA hH hI.1 (As := []) (rest := []) (t_X3_isNone l E J τ L f hI.1 mq_1 tq_1) my_X3_isNone wd473 mq_1 tq_1 td_3 rfl rfl rfl (Nat.le_of_ble_eq_true rfl) ⟨Nat.le_of_ble_eq_true rfl, Nat.le_of_ble_eq_true rfl⟩ ⟨rfl, rfl⟩ dX9_lamps_4 (fun r2 L1 f1 H locs hp hH => ?_)
  obtain ⟨rfl, s3, h4⟩ := hp
  have hI := hI.call s3 (by decide)
  refine lv_if_eq (tgt := 15) hx hb dX9_lamps_7 (by decide) (fun c5 => ?_) (fun c5 => ?_)
  · skip
    have r6 : rg r2 0 0 := rf_eql (c_eq c5) h4 rl_0 (by decide)
    refine lv_aload_n hx hb dX9_lamps_15 rfl (lv_at hl 0 rfl) ?_
    refine t_getX C hH hI.1 mq tq td_0 iX9 rfl 1 (by decide) wd414 rfl (hI.rf kq_1) dX9_lamps_16 ?_
    refine t_geti C hH hI.1 mq_1 tq_1 td_3 iX3 rfl 8 (by decide) wd426 rfl rfl dX9_lamps_19 (fun z7 rz7 => ?_)
    exact g_iret C hr hH (Nat.zero_le _) (Nat.zero_le _) dX9_lamps_22 ⟨rfl, hI, rz7⟩
  · skip
    have r8 : rg r2 1 1 := rf_nel (n_eq c5) h4 rl_0 (by decide)
    refine lv_bipush (v := (-2 : Int32)) hx hb dX9_lamps_10 (by decide) ?_
    refine lv_goto (tgt := 22) hx hb dX9_lamps_12 (by decide) ?_
    exact g_iret C hr hH (Nat.zero_le _) (Nat.zero_le _) dX9_lamps_22 ⟨rfl, hI, (rg_w rl_m2 (by decide))⟩
set_option maxHeartbeats 4000000 in
set_option maxRecDepth 100000 in
theorem t_X9_at (l : Launch) (E : gE) (J : Nat → Nat) (τ : Nat → Nat) (L : List Nat) (f : gF) (hI : tI E L τ f) {q : Nat} (mq : q ∈ L) (tq : τ q = 0) (p1 : Int32) (p2 : Int32) : tMi l E J yX9_at cX9_at 3 .int (gRm (5) 0 0) [.ref q, .int p1, .int p2] L f (tPi E L τ [19, 20, 21] f (fun r f1 => rg r (-2147483648) 2147483647)) := by
  refine tMi.intro (by decide) (Nat.le_of_ble_eq_true rfl) ?_
  intro p e s m below meth c A ls C hr hA hO hH hl
  have C : gC E cX9_at 3 RX9 p s m _ meth c := C
  have hl : lv_has ls 3 [(0, .ref q), (1, .int p1), (2, .int p2)] := hl
  have hx := C.1
  have hb := C.2.1
  have hI := hI.S [19, 20, 21]
  obtain ⟨q_1, mq_1, tq_1, kq_1⟩ := t_fldr hI.1 mq tq td_0 (k := 1) rfl
  obtain ⟨q_5, mq_5, tq_5, kq_5⟩ := t_fldr hI.1 mq tq td_0 (k := 5) rfl
  refine lv_aload_n hx hb dX9_at_0 rfl (lv_at hl 0 rfl) ?_
  refine t_getX C hH hI.1 mq tq td_0 iX9 rfl 1 (by decide) wd414 rfl (hI.rf kq_1) dX9_at_1 ?_
  refine lv_iload_n hx hb dX9_at_4 rfl (lv_at hl 1 rfl) ?_
  refine t_Vi C hO hl.1 hA hH hI.1 (As := [.int p1]) (rest := []) (t_X3_hasFlight l E J τ L f hI.1 mq_1 tq_1 p1) my_X3_hasFlight wd502 mq_1 tq_1 td_3 rfl rfl rfl (Nat.le_of_ble_eq_true rfl) ⟨Nat.le_of_ble_eq_true rfl, Nat.le_of_ble_eq_true rfl⟩ ⟨rfl, rfl⟩ dX9_at_5 (fun r2 L1 f1 H locs hp hH => ?_)
  obtain ⟨rfl, s3, h4⟩ := hp
  have hI := hI.call s3 (by decide)
  refine lv_if_eq (tgt := 18) hx hb dX9_at_8 (by decide) (fun c5 => ?_) (fun c5 => ?_)
  · skip
    have r6 : rg r2 0 0 := rf_eql (c_eq c5) h4.1 rl_0 (by decide)
    refine lv_bipush (v := (-2 : Int32)) hx hb dX9_at_18 (by decide) ?_
    exact g_iret C hr hH (Nat.zero_le _) (Nat.zero_le _) dX9_at_20 ⟨rfl, hI, (rg_w rl_m2 (by decide))⟩
  · skip
    have r7 : rg r2 1 1 := rf_nel (n_eq c5) h4.1 rl_0 (by decide)
    have r8 : rg p1 0 3 := h4.2 c5
    refine lv_iload_n hx hb dX9_at_11 rfl (lv_at hl 2 rfl) ?_
    refine t_Si C hO hl.1 hA hH (As := [.int p2]) (rest := []) (t_X9_isStep l E J τ L f1 hI.1 p2) my_X9_isStep wd507 rfl rfl (Nat.le_of_ble_eq_true rfl) ⟨Nat.le_of_ble_eq_true rfl, Nat.le_of_ble_eq_true rfl⟩ ⟨rfl, rfl⟩ dX9_at_12 (fun r10 L1 f9 H locs hp hH => ?_)
    obtain ⟨rfl, s11, h12⟩ := hp
    have hI := hI.call s11 (by decide)
    refine lv_if_ne (tgt := 21) hx hb dX9_at_15 (by decide) (fun c13 => ?_) (fun c13 => ?_)
    · skip
      have r14 : rg r10 1 1 := rf_nel (n_eq c13) h12.1 rl_0 (by decide)
      have r15 : rg p2 0 40 := h12.2 c13
      refine lv_aload_n hx hb dX9_at_21 rfl (lv_at hl 0 rfl) ?_
      refine lv_iload_n hx hb dX9_at_22 rfl (lv_at hl 1 rfl) ?_
      refine t_Vv C hO hl.1 hA hH hI.1 (As := [.int p1]) (rest := []) (t_X9_followNow l E J τ L f9 hI.1 mq tq p1 r8) my_X9_followNow wd454 mq tq td_0 rfl rfl rfl (Nat.le_of_ble_eq_true rfl) ⟨Nat.le_of_ble_eq_true rfl, Nat.le_of_ble_eq_true rfl⟩ ⟨rfl, rfl⟩ dX9_at_23 (fun L1 f16 H locs hp hH => ?_)
      obtain ⟨rfl, s18, h19⟩ := hp
      have hI := hI.call s18 (by decide)
      refine lv_aload_n hx hb dX9_at_26 rfl (lv_at hl 0 rfl) ?_
      refine t_getX C hH hI.1 mq tq td_0 iX9 rfl 5 (by decide) wd425 rfl (hI.rf kq_5) dX9_at_27 ?_
      refine lv_iload_n hx hb dX9_at_30 rfl (lv_at hl 2 rfl) ?_
      refine t_Vi C hO hl.1 hA hH hI.1 (As := [.int p2]) (rest := []) (t_X7_cellAt l E J τ L f16 hI.1 mq_5 tq_5 p2 (rg_w r15 (by decide))) my_X7_cellAt wd456 mq_5 tq_5 td_19 rfl rfl rfl (Nat.le_of_ble_eq_true rfl) ⟨Nat.le_of_ble_eq_true rfl, Nat.le_of_ble_eq_true rfl⟩ ⟨rfl, rfl⟩ dX9_at_31 (fun r21 L1 f20 H locs hp hH => ?_)
      obtain ⟨rfl, s22, h23⟩ := hp
      have hI := hI.call s22 (by decide)
      exact g_iret C hr hH (Nat.zero_le _) (Nat.zero_le _) dX9_at_34 ⟨rfl, hI, (rg_w h23 (by decide))⟩
    · skip
      have r24 : rg r10 0 0 := rf_eql (c_eq c13) h12.1 rl_0 (by decide)
      refine lv_bipush (v := (-2 : Int32)) hx hb dX9_at_18 (by decide) ?_
      exact g_iret C hr hH (Nat.zero_le _) (Nat.zero_le _) dX9_at_20 ⟨rfl, hI, (rg_w rl_m2 (by decide))⟩
set_option maxHeartbeats 4000000 in
set_option maxRecDepth 100000 in
theorem t_X9_heads (l : Launch) (E : gE) (J : Nat → Nat) (τ : Nat → Nat) (L : List Nat) (f : gF) (hI : tI E L τ f) {q : Nat} (mq : q ∈ L) (tq : τ q = 0) (p1 : Int32) (p2 : Int32) : tMi l E J yX9_heads cX9_heads 3 .int (gRm (5) 0 0) [.ref q, .int p1, .int p2] L f (tPi E L τ [19, 20, 21] f (fun r f1 => rg r (-2147483648) 2147483647)) := by
  refine tMi.intro (by decide) (Nat.le_of_ble_eq_true rfl) ?_
  intro p e s m below meth c A ls C hr hA hO hH hl
  have C : gC E cX9_heads 3 RX9 p s m _ meth c := C
  have hl : lv_has ls 3 [(0, .ref q), (1, .int p1), (2, .int p2)] := hl
  have hx := C.1
  have hb := C.2.1
  have hI := hI.S [19, 20, 21]
  obtain ⟨q_1, mq_1, tq_1, kq_1⟩ := t_fldr hI.1 mq tq td_0 (k := 1) rfl
  obtain ⟨q_5, mq_5, tq_5, kq_5⟩ := t_fldr hI.1 mq tq td_0 (k := 5) rfl
  refine lv_aload_n hx hb dX9_heads_0 rfl (lv_at hl 0 rfl) ?_
  refine t_getX C hH hI.1 mq tq td_0 iX9 rfl 1 (by decide) wd414 rfl (hI.rf kq_1) dX9_heads_1 ?_
  refine lv_iload_n hx hb dX9_heads_4 rfl (lv_at hl 1 rfl) ?_
  refine t_Vi C hO hl.1 hA hH hI.1 (As := [.int p1]) (rest := []) (t_X3_hasFlight l E J τ L f hI.1 mq_1 tq_1 p1) my_X3_hasFlight wd502 mq_1 tq_1 td_3 rfl rfl rfl (Nat.le_of_ble_eq_true rfl) ⟨Nat.le_of_ble_eq_true rfl, Nat.le_of_ble_eq_true rfl⟩ ⟨rfl, rfl⟩ dX9_heads_5 (fun r2 L1 f1 H locs hp hH => ?_)
  obtain ⟨rfl, s3, h4⟩ := hp
  have hI := hI.call s3 (by decide)
  refine lv_if_eq (tgt := 18) hx hb dX9_heads_8 (by decide) (fun c5 => ?_) (fun c5 => ?_)
  · skip
    have r6 : rg r2 0 0 := rf_eql (c_eq c5) h4.1 rl_0 (by decide)
    refine lv_bipush (v := (-2 : Int32)) hx hb dX9_heads_18 (by decide) ?_
    exact g_iret C hr hH (Nat.zero_le _) (Nat.zero_le _) dX9_heads_20 ⟨rfl, hI, (rg_w rl_m2 (by decide))⟩
  · skip
    have r7 : rg r2 1 1 := rf_nel (n_eq c5) h4.1 rl_0 (by decide)
    have r8 : rg p1 0 3 := h4.2 c5
    refine lv_iload_n hx hb dX9_heads_11 rfl (lv_at hl 2 rfl) ?_
    refine t_Si C hO hl.1 hA hH (As := [.int p2]) (rest := []) (t_X9_isStep l E J τ L f1 hI.1 p2) my_X9_isStep wd507 rfl rfl (Nat.le_of_ble_eq_true rfl) ⟨Nat.le_of_ble_eq_true rfl, Nat.le_of_ble_eq_true rfl⟩ ⟨rfl, rfl⟩ dX9_heads_12 (fun r10 L1 f9 H locs hp hH => ?_)
    obtain ⟨rfl, s11, h12⟩ := hp
    have hI := hI.call s11 (by decide)
    refine lv_if_ne (tgt := 21) hx hb dX9_heads_15 (by decide) (fun c13 => ?_) (fun c13 => ?_)
    · skip
      have r14 : rg r10 1 1 := rf_nel (n_eq c13) h12.1 rl_0 (by decide)
      have r15 : rg p2 0 40 := h12.2 c13
      refine lv_aload_n hx hb dX9_heads_21 rfl (lv_at hl 0 rfl) ?_
      refine lv_iload_n hx hb dX9_heads_22 rfl (lv_at hl 1 rfl) ?_
      refine t_Vv C hO hl.1 hA hH hI.1 (As := [.int p1]) (rest := []) (t_X9_followNow l E J τ L f9 hI.1 mq tq p1 r8) my_X9_followNow wd454 mq tq td_0 rfl rfl rfl (Nat.le_of_ble_eq_true rfl) ⟨Nat.le_of_ble_eq_true rfl, Nat.le_of_ble_eq_true rfl⟩ ⟨rfl, rfl⟩ dX9_heads_23 (fun L1 f16 H locs hp hH => ?_)
      obtain ⟨rfl, s18, h19⟩ := hp
      have hI := hI.call s18 (by decide)
      refine lv_aload_n hx hb dX9_heads_26 rfl (lv_at hl 0 rfl) ?_
      refine t_getX C hH hI.1 mq tq td_0 iX9 rfl 5 (by decide) wd425 rfl (hI.rf kq_5) dX9_heads_27 ?_
      refine lv_iload_n hx hb dX9_heads_30 rfl (lv_at hl 2 rfl) ?_
      refine t_Vi C hO hl.1 hA hH hI.1 (As := [.int p2]) (rest := []) (t_X7_headingAt l E J τ L f16 hI.1 mq_5 tq_5 p2 (rg_w r15 (by decide))) my_X7_headingAt wd511 mq_5 tq_5 td_19 rfl rfl rfl (Nat.le_of_ble_eq_true rfl) ⟨Nat.le_of_ble_eq_true rfl, Nat.le_of_ble_eq_true rfl⟩ ⟨rfl, rfl⟩ dX9_heads_31 (fun r21 L1 f20 H locs hp hH => ?_)
      obtain ⟨rfl, s22, h23⟩ := hp
      have hI := hI.call s22 (by decide)
      exact g_iret C hr hH (Nat.zero_le _) (Nat.zero_le _) dX9_heads_34 ⟨rfl, hI, h23⟩
    · skip
      have r24 : rg r10 0 0 := rf_eql (c_eq c13) h12.1 rl_0 (by decide)
      refine lv_bipush (v := (-2 : Int32)) hx hb dX9_heads_18 (by decide) ?_
      exact g_iret C hr hH (Nat.zero_le _) (Nat.zero_le _) dX9_heads_20 ⟨rfl, hI, (rg_w rl_m2 (by decide))⟩
set_option maxHeartbeats 4000000 in
set_option maxRecDepth 100000 in
theorem t_X9_out (l : Launch) (E : gE) (J : Nat → Nat) (τ : Nat → Nat) (L : List Nat) (f : gF) (hI : tI E L τ f) {q : Nat} (mq : q ∈ L) (tq : τ q = 0) (p1 : Int32) : tMi l E J yX9_out cX9_out 2 .int (gRm (5) 0 0) [.ref q, .int p1] L f (tPi E L τ [19, 20, 21] f (fun r f1 => rg r (-2147483648) 2147483647)) := by
  refine tMi.intro (by decide) (Nat.le_of_ble_eq_true rfl) ?_
  intro p e s m below meth c A ls C hr hA hO hH hl
  have C : gC E cX9_out 2 RX9 p s m _ meth c := C
  have hl : lv_has ls 2 [(0, .ref q), (1, .int p1)] := hl
  have hx := C.1
  have hb := C.2.1
  have hI := hI.S [19, 20, 21]
  obtain ⟨q_1, mq_1, tq_1, kq_1⟩ := t_fldr hI.1 mq tq td_0 (k := 1) rfl
  obtain ⟨q_5, mq_5, tq_5, kq_5⟩ := t_fldr hI.1 mq tq td_0 (k := 5) rfl
  refine lv_aload_n hx hb dX9_out_0 rfl (lv_at hl 0 rfl) ?_
  refine t_getX C hH hI.1 mq tq td_0 iX9 rfl 1 (by decide) wd414 rfl (hI.rf kq_1) dX9_out_1 ?_
  refine lv_iload_n hx hb dX9_out_4 rfl (lv_at hl 1 rfl) ?_
  refine t_Vi C hO hl.1 hA hH hI.1 (As := [.int p1]) (rest := []) (t_X3_hasFlight l E J τ L f hI.1 mq_1 tq_1 p1) my_X3_hasFlight wd502 mq_1 tq_1 td_3 rfl rfl rfl (Nat.le_of_ble_eq_true rfl) ⟨Nat.le_of_ble_eq_true rfl, Nat.le_of_ble_eq_true rfl⟩ ⟨rfl, rfl⟩ dX9_out_5 (fun r2 L1 f1 H locs hp hH => ?_)
  obtain ⟨rfl, s3, h4⟩ := hp
  have hI := hI.call s3 (by decide)
  refine lv_if_ne (tgt := 14) hx hb dX9_out_8 (by decide) (fun c5 => ?_) (fun c5 => ?_)
  · skip
    have r6 : rg r2 1 1 := rf_nel (n_eq c5) h4.1 rl_0 (by decide)
    have r7 : rg p1 0 3 := h4.2 c5
    refine lv_aload_n hx hb dX9_out_14 rfl (lv_at hl 0 rfl) ?_
    refine lv_iload_n hx hb dX9_out_15 rfl (lv_at hl 1 rfl) ?_
    refine t_Vv C hO hl.1 hA hH hI.1 (As := [.int p1]) (rest := []) (t_X9_followNow l E J τ L f1 hI.1 mq tq p1 r7) my_X9_followNow wd454 mq tq td_0 rfl rfl rfl (Nat.le_of_ble_eq_true rfl) ⟨Nat.le_of_ble_eq_true rfl, Nat.le_of_ble_eq_true rfl⟩ ⟨rfl, rfl⟩ dX9_out_16 (fun L1 f8 H locs hp hH => ?_)
    obtain ⟨rfl, s10, h11⟩ := hp
    have hI := hI.call s10 (by decide)
    refine lv_aload_n hx hb dX9_out_19 rfl (lv_at hl 0 rfl) ?_
    refine t_getX C hH hI.1 mq tq td_0 iX9 rfl 5 (by decide) wd425 rfl (hI.rf kq_5) dX9_out_20 ?_
    refine t_Vi C hO hl.1 hA hH hI.1 (As := []) (rest := []) (t_X7_outStep l E J τ L f8 hI.1 mq_5 tq_5) my_X7_outStep wd512 mq_5 tq_5 td_19 rfl rfl rfl (Nat.le_of_ble_eq_true rfl) ⟨Nat.le_of_ble_eq_true rfl, Nat.le_of_ble_eq_true rfl⟩ ⟨rfl, rfl⟩ dX9_out_23 (fun r13 L1 f12 H locs hp hH => ?_)
    obtain ⟨rfl, s14, h15⟩ := hp
    have hI := hI.call s14 (by decide)
    exact g_iret C hr hH (Nat.zero_le _) (Nat.zero_le _) dX9_out_26 ⟨rfl, hI, h15⟩
  · skip
    have r16 : rg r2 0 0 := rf_eql (c_eq c5) h4.1 rl_0 (by decide)
    refine lv_bipush (v := (-2 : Int32)) hx hb dX9_out_11 (by decide) ?_
    exact g_iret C hr hH (Nat.zero_le _) (Nat.zero_le _) dX9_out_13 ⟨rfl, hI, (rg_w rl_m2 (by decide))⟩
set_option maxHeartbeats 4000000 in
set_option maxRecDepth 100000 in
theorem t_X9_bends (l : Launch) (E : gE) (J : Nat → Nat) (τ : Nat → Nat) (L : List Nat) (f : gF) (hI : tI E L τ f) {q : Nat} (mq : q ∈ L) (tq : τ q = 0) (p1 : Int32) : tMi l E J yX9_bends cX9_bends 2 .int (gRm (5) 0 0) [.ref q, .int p1] L f (tPi E L τ [19, 20, 21] f (fun r f1 => rg r (-2147483648) 2147483647)) := by
  refine tMi.intro (by decide) (Nat.le_of_ble_eq_true rfl) ?_
  intro p e s m below meth c A ls C hr hA hO hH hl
  have C : gC E cX9_bends 2 RX9 p s m _ meth c := C
  have hl : lv_has ls 2 [(0, .ref q), (1, .int p1)] := hl
  have hx := C.1
  have hb := C.2.1
  have hI := hI.S [19, 20, 21]
  obtain ⟨q_1, mq_1, tq_1, kq_1⟩ := t_fldr hI.1 mq tq td_0 (k := 1) rfl
  obtain ⟨q_5, mq_5, tq_5, kq_5⟩ := t_fldr hI.1 mq tq td_0 (k := 5) rfl
  refine lv_aload_n hx hb dX9_bends_0 rfl (lv_at hl 0 rfl) ?_
  refine t_getX C hH hI.1 mq tq td_0 iX9 rfl 1 (by decide) wd414 rfl (hI.rf kq_1) dX9_bends_1 ?_
  refine lv_iload_n hx hb dX9_bends_4 rfl (lv_at hl 1 rfl) ?_
  refine t_Vi C hO hl.1 hA hH hI.1 (As := [.int p1]) (rest := []) (t_X3_hasFlight l E J τ L f hI.1 mq_1 tq_1 p1) my_X3_hasFlight wd502 mq_1 tq_1 td_3 rfl rfl rfl (Nat.le_of_ble_eq_true rfl) ⟨Nat.le_of_ble_eq_true rfl, Nat.le_of_ble_eq_true rfl⟩ ⟨rfl, rfl⟩ dX9_bends_5 (fun r2 L1 f1 H locs hp hH => ?_)
  obtain ⟨rfl, s3, h4⟩ := hp
  have hI := hI.call s3 (by decide)
  refine lv_if_ne (tgt := 14) hx hb dX9_bends_8 (by decide) (fun c5 => ?_) (fun c5 => ?_)
  · skip
    have r6 : rg r2 1 1 := rf_nel (n_eq c5) h4.1 rl_0 (by decide)
    have r7 : rg p1 0 3 := h4.2 c5
    refine lv_aload_n hx hb dX9_bends_14 rfl (lv_at hl 0 rfl) ?_
    refine lv_iload_n hx hb dX9_bends_15 rfl (lv_at hl 1 rfl) ?_
    refine t_Vv C hO hl.1 hA hH hI.1 (As := [.int p1]) (rest := []) (t_X9_followNow l E J τ L f1 hI.1 mq tq p1 r7) my_X9_followNow wd454 mq tq td_0 rfl rfl rfl (Nat.le_of_ble_eq_true rfl) ⟨Nat.le_of_ble_eq_true rfl, Nat.le_of_ble_eq_true rfl⟩ ⟨rfl, rfl⟩ dX9_bends_16 (fun L1 f8 H locs hp hH => ?_)
    obtain ⟨rfl, s10, h11⟩ := hp
    have hI := hI.call s10 (by decide)
    refine lv_aload_n hx hb dX9_bends_19 rfl (lv_at hl 0 rfl) ?_
    refine t_getX C hH hI.1 mq tq td_0 iX9 rfl 5 (by decide) wd425 rfl (hI.rf kq_5) dX9_bends_20 ?_
    refine t_geti C hH hI.1 mq_5 tq_5 td_19 iX7 rfl 9 (by decide) wd513 rfl rfl dX9_bends_23 (fun z12 rz12 => ?_)
    exact g_iret C hr hH (Nat.zero_le _) (Nat.zero_le _) dX9_bends_26 ⟨rfl, hI, rz12⟩
  · skip
    have r13 : rg r2 0 0 := rf_eql (c_eq c5) h4.1 rl_0 (by decide)
    refine lv_bipush (v := (-2 : Int32)) hx hb dX9_bends_11 (by decide) ?_
    exact g_iret C hr hH (Nat.zero_le _) (Nat.zero_le _) dX9_bends_13 ⟨rfl, hI, (rg_w rl_m2 (by decide))⟩
set_option maxHeartbeats 4000000 in
set_option maxRecDepth 100000 in
theorem t_X9_way (l : Launch) (E : gE) (J : Nat → Nat) (τ : Nat → Nat) (L : List Nat) (f : gF) (hI : tI E L τ f) {q : Nat} (mq : q ∈ L) (tq : τ q = 0) (p1 : Int32) : tMi l E J yX9_way cX9_way 2 .int (gRm (5) 0 0) [.ref q, .int p1] L f (tPi E L τ [19, 20, 21] f (fun r f1 => rg r (-2147483648) 2147483647)) := by
  refine tMi.intro (by decide) (Nat.le_of_ble_eq_true rfl) ?_
  intro p e s m below meth c A ls C hr hA hO hH hl
  have C : gC E cX9_way 2 RX9 p s m _ meth c := C
  have hl : lv_has ls 2 [(0, .ref q), (1, .int p1)] := hl
  have hx := C.1
  have hb := C.2.1
  have hI := hI.S [19, 20, 21]
  obtain ⟨q_1, mq_1, tq_1, kq_1⟩ := t_fldr hI.1 mq tq td_0 (k := 1) rfl
  obtain ⟨q_5, mq_5, tq_5, kq_5⟩ := t_fldr hI.1 mq tq td_0 (k := 5) rfl
  refine lv_aload_n hx hb dX9_way_0 rfl (lv_at hl 0 rfl) ?_
  refine t_getX C hH hI.1 mq tq td_0 iX9 rfl 1 (by decide) wd414 rfl (hI.rf kq_1) dX9_way_1 ?_
  refine lv_iload_n hx hb dX9_way_4 rfl (lv_at hl 1 rfl) ?_
  refine t_Vi C hO hl.1 hA hH hI.1 (As := [.int p1]) (rest := []) (t_X3_hasFlight l E J τ L f hI.1 mq_1 tq_1 p1) my_X3_hasFlight wd502 mq_1 tq_1 td_3 rfl rfl rfl (Nat.le_of_ble_eq_true rfl) ⟨Nat.le_of_ble_eq_true rfl, Nat.le_of_ble_eq_true rfl⟩ ⟨rfl, rfl⟩ dX9_way_5 (fun r2 L1 f1 H locs hp hH => ?_)
  obtain ⟨rfl, s3, h4⟩ := hp
  have hI := hI.call s3 (by decide)
  refine lv_if_ne (tgt := 14) hx hb dX9_way_8 (by decide) (fun c5 => ?_) (fun c5 => ?_)
  · skip
    have r6 : rg r2 1 1 := rf_nel (n_eq c5) h4.1 rl_0 (by decide)
    have r7 : rg p1 0 3 := h4.2 c5
    refine lv_aload_n hx hb dX9_way_14 rfl (lv_at hl 0 rfl) ?_
    refine lv_iload_n hx hb dX9_way_15 rfl (lv_at hl 1 rfl) ?_
    refine t_Vv C hO hl.1 hA hH hI.1 (As := [.int p1]) (rest := []) (t_X9_followNow l E J τ L f1 hI.1 mq tq p1 r7) my_X9_followNow wd454 mq tq td_0 rfl rfl rfl (Nat.le_of_ble_eq_true rfl) ⟨Nat.le_of_ble_eq_true rfl, Nat.le_of_ble_eq_true rfl⟩ ⟨rfl, rfl⟩ dX9_way_16 (fun L1 f8 H locs hp hH => ?_)
    obtain ⟨rfl, s10, h11⟩ := hp
    have hI := hI.call s10 (by decide)
    refine lv_aload_n hx hb dX9_way_19 rfl (lv_at hl 0 rfl) ?_
    refine t_getX C hH hI.1 mq tq td_0 iX9 rfl 5 (by decide) wd425 rfl (hI.rf kq_5) dX9_way_20 ?_
    refine t_Vi C hO hl.1 hA hH hI.1 (As := []) (rest := []) (t_X7_wayBits l E J τ L f8 hI.1 mq_5 tq_5) my_X7_wayBits wd455 mq_5 tq_5 td_19 rfl rfl rfl (Nat.le_of_ble_eq_true rfl) ⟨Nat.le_of_ble_eq_true rfl, Nat.le_of_ble_eq_true rfl⟩ ⟨rfl, rfl⟩ dX9_way_23 (fun r13 L1 f12 H locs hp hH => ?_)
    obtain ⟨rfl, s14, h15⟩ := hp
    have hI := hI.call s14 (by decide)
    exact g_iret C hr hH (Nat.zero_le _) (Nat.zero_le _) dX9_way_26 ⟨rfl, hI, h15⟩
  · skip
    have r16 : rg r2 0 0 := rf_eql (c_eq c5) h4.1 rl_0 (by decide)
    refine lv_bipush (v := (-2 : Int32)) hx hb dX9_way_11 (by decide) ?_
    exact g_iret C hr hH (Nat.zero_le _) (Nat.zero_le _) dX9_way_13 ⟨rfl, hI, (rg_w rl_m2 (by decide))⟩
set_option maxHeartbeats 4000000 in
set_option maxRecDepth 100000 in
theorem t_X9_over (l : Launch) (E : gE) (J : Nat → Nat) (τ : Nat → Nat) (L : List Nat) (f : gF) (hI : tI E L τ f) {q : Nat} (mq : q ∈ L) (tq : τ q = 0) (p1 : Int32) : tMi l E J yX9_over cX9_over 2 .int (gRm (6) 0 0) [.ref q, .int p1] L f (tPi E L τ [19, 20, 21] f (fun r f1 => rg r (-2147483648) 2147483647)) := by
  refine tMi.intro (by decide) (Nat.le_of_ble_eq_true rfl) ?_
  intro p e s m below meth c A ls C hr hA hO hH hl
  have C : gC E cX9_over 2 RX9 p s m _ meth c := C
  have hl : lv_has ls 2 [(0, .ref q), (1, .int p1)] := hl
  have hx := C.1
  have hb := C.2.1
  have hI := hI.S [19, 20, 21]
  obtain ⟨q_1, mq_1, tq_1, kq_1⟩ := t_fldr hI.1 mq tq td_0 (k := 1) rfl
  refine lv_aload_n hx hb dX9_over_0 rfl (lv_at hl 0 rfl) ?_
  refine t_getX C hH hI.1 mq tq td_0 iX9 rfl 1 (by decide) wd414 rfl (hI.rf kq_1) dX9_over_1 ?_
  refine lv_iload_n hx hb dX9_over_4 rfl (lv_at hl 1 rfl) ?_
  refine t_Vi C hO hl.1 hA hH hI.1 (As := [.int p1]) (rest := []) (t_X3_hasCell l E J τ L f hI.1 mq_1 tq_1 p1) my_X3_hasCell wd517 mq_1 tq_1 td_3 rfl rfl rfl (Nat.le_of_ble_eq_true rfl) ⟨Nat.le_of_ble_eq_true rfl, Nat.le_of_ble_eq_true rfl⟩ ⟨rfl, rfl⟩ dX9_over_5 (fun r2 L1 f1 H locs hp hH => ?_)
  obtain ⟨rfl, s3, h4⟩ := hp
  have hI := hI.call s3 (by decide)
  refine lv_if_ne (tgt := 14) hx hb dX9_over_8 (by decide) (fun c5 => ?_) (fun c5 => ?_)
  · skip
    have r6 : rg r2 1 1 := rf_nel (n_eq c5) h4.1 rl_0 (by decide)
    have r7 : rg p1 0 19 := h4.2 c5
    refine lv_aload_n hx hb dX9_over_14 rfl (lv_at hl 0 rfl) ?_
    refine lv_iconst (v := (1 : Int32)) hx hb dX9_over_15 (by decide) ?_
    refine lv_iload_n hx hb dX9_over_16 rfl (lv_at hl 1 rfl) ?_
    refine lv_ishl hx hb dX9_over_17 ?_
    refine lv_topi (fun z8 ez8 => ?_)
    have r9 : rg z8 1 524288 := rg_shl 0 19 ez8 r7 (by decide)
    refine t_Vi C hO hl.1 hA hH hI.1 (As := [.int z8]) (rest := []) (t_X9_flightsOver l E J τ L f1 hI.1 mq tq z8) my_X9_flightsOver wd521 mq tq td_0 rfl rfl rfl (Nat.le_of_ble_eq_true rfl) ⟨Nat.le_of_ble_eq_true rfl, Nat.le_of_ble_eq_true rfl⟩ ⟨rfl, rfl⟩ dX9_over_18 (fun r11 L1 f10 H locs hp hH => ?_)
    obtain ⟨rfl, s12, h13⟩ := hp
    have hI := hI.call s12 (by decide)
    exact g_iret C hr hH (Nat.zero_le _) (Nat.zero_le _) dX9_over_21 ⟨rfl, hI, h13⟩
  · skip
    have r14 : rg r2 0 0 := rf_eql (c_eq c5) h4.1 rl_0 (by decide)
    refine lv_bipush (v := (-2 : Int32)) hx hb dX9_over_11 (by decide) ?_
    exact g_iret C hr hH (Nat.zero_le _) (Nat.zero_le _) dX9_over_13 ⟨rfl, hI, (rg_w rl_m2 (by decide))⟩
set_option maxHeartbeats 4000000 in
set_option maxRecDepth 100000 in
theorem t_X9_geese (l : Launch) (E : gE) (J : Nat → Nat) (τ : Nat → Nat) (L : List Nat) (f : gF) (hI : tI E L τ f) {q : Nat} (mq : q ∈ L) (tq : τ q = 0) (p1 : Int32) (p2 : Int32) : tMi l E J yX9_geese cX9_geese 3 .int (gRm (6) 0 0) [.ref q, .int p1, .int p2] L f (tPi E L τ [19, 20, 21] f (fun r f1 => rg r (-2147483648) 2147483647)) := by
  refine tMi.intro (by decide) (Nat.le_of_ble_eq_true rfl) ?_
  intro p e s m below meth c A ls C hr hA hO hH hl
  have C : gC E cX9_geese 3 RX9 p s m _ meth c := C
  have hl : lv_has ls 3 [(0, .ref q), (1, .int p1), (2, .int p2)] := hl
  have hx := C.1
  have hb := C.2.1
  have hI := hI.S [19, 20, 21]
  obtain ⟨q_1, mq_1, tq_1, kq_1⟩ := t_fldr hI.1 mq tq td_0 (k := 1) rfl
  refine lv_aload_n hx hb dX9_geese_0 rfl (lv_at hl 0 rfl) ?_
  refine t_getX C hH hI.1 mq tq td_0 iX9 rfl 1 (by decide) wd414 rfl (hI.rf kq_1) dX9_geese_1 ?_
  refine lv_iload_n hx hb dX9_geese_4 rfl (lv_at hl 1 rfl) ?_
  refine t_Vi C hO hl.1 hA hH hI.1 (As := [.int p1]) (rest := []) (t_X3_hasCell l E J τ L f hI.1 mq_1 tq_1 p1) my_X3_hasCell wd517 mq_1 tq_1 td_3 rfl rfl rfl (Nat.le_of_ble_eq_true rfl) ⟨Nat.le_of_ble_eq_true rfl, Nat.le_of_ble_eq_true rfl⟩ ⟨rfl, rfl⟩ dX9_geese_5 (fun r2 L1 f1 H locs hp hH => ?_)
  obtain ⟨rfl, s3, h4⟩ := hp
  have hI := hI.call s3 (by decide)
  refine lv_if_eq (tgt := 18) hx hb dX9_geese_8 (by decide) (fun c5 => ?_) (fun c5 => ?_)
  · skip
    have r6 : rg r2 0 0 := rf_eql (c_eq c5) h4.1 rl_0 (by decide)
    refine lv_bipush (v := (-2 : Int32)) hx hb dX9_geese_18 (by decide) ?_
    exact g_iret C hr hH (Nat.zero_le _) (Nat.zero_le _) dX9_geese_20 ⟨rfl, hI, (rg_w rl_m2 (by decide))⟩
  · skip
    have r7 : rg r2 1 1 := rf_nel (n_eq c5) h4.1 rl_0 (by decide)
    have r8 : rg p1 0 19 := h4.2 c5
    refine lv_iload_n hx hb dX9_geese_11 rfl (lv_at hl 2 rfl) ?_
    refine t_Si C hO hl.1 hA hH (As := [.int p2]) (rest := []) (t_X9_isStep l E J τ L f1 hI.1 p2) my_X9_isStep wd507 rfl rfl (Nat.le_of_ble_eq_true rfl) ⟨Nat.le_of_ble_eq_true rfl, Nat.le_of_ble_eq_true rfl⟩ ⟨rfl, rfl⟩ dX9_geese_12 (fun r10 L1 f9 H locs hp hH => ?_)
    obtain ⟨rfl, s11, h12⟩ := hp
    have hI := hI.call s11 (by decide)
    refine lv_if_ne (tgt := 21) hx hb dX9_geese_15 (by decide) (fun c13 => ?_) (fun c13 => ?_)
    · skip
      have r14 : rg r10 1 1 := rf_nel (n_eq c13) h12.1 rl_0 (by decide)
      have r15 : rg p2 0 40 := h12.2 c13
      refine lv_aload_n hx hb dX9_geese_21 rfl (lv_at hl 0 rfl) ?_
      refine lv_iconst (v := (1 : Int32)) hx hb dX9_geese_22 (by decide) ?_
      refine lv_iload_n hx hb dX9_geese_23 rfl (lv_at hl 1 rfl) ?_
      refine lv_ishl hx hb dX9_geese_24 ?_
      refine lv_topi (fun z16 ez16 => ?_)
      have r17 : rg z16 1 524288 := rg_shl 0 19 ez16 r8 (by decide)
      refine lv_iload_n hx hb dX9_geese_25 rfl (lv_at hl 2 rfl) ?_
      refine t_Vi C hO hl.1 hA hH hI.1 (As := [.int z16, .int p2]) (rest := []) (t_X9_geeseWithin l E J τ L f9 hI.1 mq tq z16 p2 r15) my_X9_geeseWithin wd525 mq tq td_0 rfl rfl rfl (Nat.le_of_ble_eq_true rfl) ⟨Nat.le_of_ble_eq_true rfl, Nat.le_of_ble_eq_true rfl⟩ ⟨rfl, rfl⟩ dX9_geese_26 (fun r19 L1 f18 H locs hp hH => ?_)
      obtain ⟨rfl, s20, h21⟩ := hp
      have hI := hI.call s20 (by decide)
      exact g_iret C hr hH (Nat.zero_le _) (Nat.zero_le _) dX9_geese_29 ⟨rfl, hI, h21⟩
    · skip
      have r22 : rg r10 0 0 := rf_eql (c_eq c13) h12.1 rl_0 (by decide)
      refine lv_bipush (v := (-2 : Int32)) hx hb dX9_geese_18 (by decide) ?_
      exact g_iret C hr hH (Nat.zero_le _) (Nat.zero_le _) dX9_geese_20 ⟨rfl, hI, (rg_w rl_m2 (by decide))⟩
set_option maxHeartbeats 4000000 in
set_option maxRecDepth 100000 in
theorem t_X9_hears (l : Launch) (E : gE) (J : Nat → Nat) (τ : Nat → Nat) (L : List Nat) (f : gF) (hI : tI E L τ f) {q : Nat} (mq : q ∈ L) (tq : τ q = 0) (p1 : Int32) (p2 : Int32) : tMi l E J yX9_hears cX9_hears 3 .int (gRm (5) 0 0) [.ref q, .int p1, .int p2] L f (tPi E L τ [19, 20, 21] f (fun r f1 => rg r (-2147483648) 2147483647)) := by
  refine tMi.intro (by decide) (Nat.le_of_ble_eq_true rfl) ?_
  intro p e s m below meth c A ls C hr hA hO hH hl
  have C : gC E cX9_hears 3 RX9 p s m _ meth c := C
  have hl : lv_has ls 3 [(0, .ref q), (1, .int p1), (2, .int p2)] := hl
  have hx := C.1
  have hb := C.2.1
  have hI := hI.S [19, 20, 21]
  obtain ⟨q_1, mq_1, tq_1, kq_1⟩ := t_fldr hI.1 mq tq td_0 (k := 1) rfl
  obtain ⟨q_5, mq_5, tq_5, kq_5⟩ := t_fldr hI.1 mq tq td_0 (k := 5) rfl
  refine lv_aload_n hx hb dX9_hears_0 rfl (lv_at hl 0 rfl) ?_
  refine t_getX C hH hI.1 mq tq td_0 iX9 rfl 1 (by decide) wd414 rfl (hI.rf kq_1) dX9_hears_1 ?_
  refine lv_iload_n hx hb dX9_hears_4 rfl (lv_at hl 1 rfl) ?_
  refine t_Vi C hO hl.1 hA hH hI.1 (As := [.int p1]) (rest := []) (t_X3_hasMember l E J τ L f hI.1 mq_1 tq_1 p1) my_X3_hasMember wd418 mq_1 tq_1 td_3 rfl rfl rfl (Nat.le_of_ble_eq_true rfl) ⟨Nat.le_of_ble_eq_true rfl, Nat.le_of_ble_eq_true rfl⟩ ⟨rfl, rfl⟩ dX9_hears_5 (fun r2 L1 f1 H locs hp hH => ?_)
  obtain ⟨rfl, s3, h4⟩ := hp
  have hI := hI.call s3 (by decide)
  refine lv_if_eq (tgt := 22) hx hb dX9_hears_8 (by decide) (fun c5 => ?_) (fun c5 => ?_)
  · skip
    have r6 : rg r2 0 0 := rf_eql (c_eq c5) h4.1 rl_0 (by decide)
    refine lv_bipush (v := (-2 : Int32)) hx hb dX9_hears_22 (by decide) ?_
    exact g_iret C hr hH (Nat.zero_le _) (Nat.zero_le _) dX9_hears_24 ⟨rfl, hI, (rg_w rl_m2 (by decide))⟩
  · skip
    have r7 : rg r2 1 1 := rf_nel (n_eq c5) h4.1 rl_0 (by decide)
    have r8 : rg p1 0 5 := h4.2 c5
    refine lv_aload_n hx hb dX9_hears_11 rfl (lv_at hl 0 rfl) ?_
    refine t_getX C hH hI.1 mq tq td_0 iX9 rfl 1 (by decide) wd414 rfl (hI.rf kq_1) dX9_hears_12 ?_
    refine lv_iload_n hx hb dX9_hears_15 rfl (lv_at hl 2 rfl) ?_
    refine t_Vi C hO hl.1 hA hH hI.1 (As := [.int p2]) (rest := []) (t_X3_hasFlight l E J τ L f1 hI.1 mq_1 tq_1 p2) my_X3_hasFlight wd502 mq_1 tq_1 td_3 rfl rfl rfl (Nat.le_of_ble_eq_true rfl) ⟨Nat.le_of_ble_eq_true rfl, Nat.le_of_ble_eq_true rfl⟩ ⟨rfl, rfl⟩ dX9_hears_16 (fun r10 L1 f9 H locs hp hH => ?_)
    obtain ⟨rfl, s11, h12⟩ := hp
    have hI := hI.call s11 (by decide)
    refine lv_if_ne (tgt := 25) hx hb dX9_hears_19 (by decide) (fun c13 => ?_) (fun c13 => ?_)
    · skip
      have r14 : rg r10 1 1 := rf_nel (n_eq c13) h12.1 rl_0 (by decide)
      have r15 : rg p2 0 3 := h12.2 c13
      refine lv_aload_n hx hb dX9_hears_25 rfl (lv_at hl 0 rfl) ?_
      refine lv_iload_n hx hb dX9_hears_26 rfl (lv_at hl 2 rfl) ?_
      refine t_Vv C hO hl.1 hA hH hI.1 (As := [.int p2]) (rest := []) (t_X9_followNow l E J τ L f9 hI.1 mq tq p2 r15) my_X9_followNow wd454 mq tq td_0 rfl rfl rfl (Nat.le_of_ble_eq_true rfl) ⟨Nat.le_of_ble_eq_true rfl, Nat.le_of_ble_eq_true rfl⟩ ⟨rfl, rfl⟩ dX9_hears_27 (fun L1 f16 H locs hp hH => ?_)
      obtain ⟨rfl, s18, h19⟩ := hp
      have hI := hI.call s18 (by decide)
      refine lv_aload_n hx hb dX9_hears_30 rfl (lv_at hl 0 rfl) ?_
      refine t_getX C hH hI.1 mq tq td_0 iX9 rfl 5 (by decide) wd425 rfl (hI.rf kq_5) dX9_hears_31 ?_
      refine lv_aload_n hx hb dX9_hears_34 rfl (lv_at hl 0 rfl) ?_
      refine t_getX C hH hI.1 mq tq td_0 iX9 rfl 1 (by decide) wd414 rfl (hI.rf kq_1) dX9_hears_35 ?_
      refine lv_iload_n hx hb dX9_hears_38 rfl (lv_at hl 1 rfl) ?_
      refine t_Vi C hO hl.1 hA hH hI.1 (As := [.int p1]) (rest := [.ref q_5]) (t_X3_earshot l E J τ L f16 hI.1 mq_1 tq_1 p1 r8) my_X3_earshot wd439 mq_1 tq_1 td_3 rfl rfl rfl (Nat.le_of_ble_eq_true rfl) ⟨Nat.le_of_ble_eq_true rfl, Nat.le_of_ble_eq_true rfl⟩ ⟨rfl, rfl⟩ dX9_hears_39 (fun r21 L1 f20 H locs hp hH => ?_)
      obtain ⟨rfl, s22, h23⟩ := hp
      have hI := hI.call s22 (by decide)
      refine t_Vi C hO hl.1 hA hH hI.1 (As := [.int r21]) (rest := []) (t_X7_stepsWithin l E J τ L f20 hI.1 mq_5 tq_5 r21) my_X7_stepsWithin wd529 mq_5 tq_5 td_19 rfl rfl rfl (Nat.le_of_ble_eq_true rfl) ⟨Nat.le_of_ble_eq_true rfl, Nat.le_of_ble_eq_true rfl⟩ ⟨rfl, rfl⟩ dX9_hears_42 (fun r25 L1 f24 H locs hp hH => ?_)
      obtain ⟨rfl, s26, h27⟩ := hp
      have hI := hI.call s26 (by decide)
      exact g_iret C hr hH (Nat.zero_le _) (Nat.zero_le _) dX9_hears_45 ⟨rfl, hI, h27⟩
    · skip
      have r28 : rg r10 0 0 := rf_eql (c_eq c13) h12.1 rl_0 (by decide)
      refine lv_bipush (v := (-2 : Int32)) hx hb dX9_hears_22 (by decide) ?_
      exact g_iret C hr hH (Nat.zero_le _) (Nat.zero_le _) dX9_hears_24 ⟨rfl, hI, (rg_w rl_m2 (by decide))⟩
set_option maxHeartbeats 4000000 in
set_option maxRecDepth 100000 in
theorem t_X9_heard (l : Launch) (E : gE) (J : Nat → Nat) (τ : Nat → Nat) (L : List Nat) (f : gF) (hI : tI E L τ f) {q : Nat} (mq : q ∈ L) (tq : τ q = 0) (p1 : Int32) : tMi l E J yX9_heard cX9_heard 2 .int (gRm (5) 0 0) [.ref q, .int p1] L f (tPi E L τ [19, 20, 21, 23] f (fun r f1 => rg r (-2147483648) 2147483647)) := by
  refine tMi.intro (by decide) (Nat.le_of_ble_eq_true rfl) ?_
  intro p e s m below meth c A ls C hr hA hO hH hl
  have C : gC E cX9_heard 2 RX9 p s m _ meth c := C
  have hl : lv_has ls 2 [(0, .ref q), (1, .int p1)] := hl
  have hx := C.1
  have hb := C.2.1
  have hI := hI.S [19, 20, 21, 23]
  obtain ⟨q_1, mq_1, tq_1, kq_1⟩ := t_fldr hI.1 mq tq td_0 (k := 1) rfl
  obtain ⟨q_5, mq_5, tq_5, kq_5⟩ := t_fldr hI.1 mq tq td_0 (k := 5) rfl
  obtain ⟨q_1_13, mq_1_13, tq_1_13, kq_1_13⟩ := t_fldr hI.1 mq_1 tq_1 td_3 (k := 13) rfl
  refine lv_aload_n hx hb dX9_heard_0 rfl (lv_at hl 0 rfl) ?_
  refine t_getX C hH hI.1 mq tq td_0 iX9 rfl 1 (by decide) wd414 rfl (hI.rf kq_1) dX9_heard_1 ?_
  refine lv_iload_n hx hb dX9_heard_4 rfl (lv_at hl 1 rfl) ?_
  refine t_Vi C hO hl.1 hA hH hI.1 (As := [.int p1]) (rest := []) (t_X3_hasMember l E J τ L f hI.1 mq_1 tq_1 p1) my_X3_hasMember wd418 mq_1 tq_1 td_3 rfl rfl rfl (Nat.le_of_ble_eq_true rfl) ⟨Nat.le_of_ble_eq_true rfl, Nat.le_of_ble_eq_true rfl⟩ ⟨rfl, rfl⟩ dX9_heard_5 (fun r2 L1 f1 H locs hp hH => ?_)
  obtain ⟨rfl, s3, h4⟩ := hp
  have hI := hI.call s3 (by decide)
  refine lv_if_ne (tgt := 14) hx hb dX9_heard_8 (by decide) (fun c5 => ?_) (fun c5 => ?_)
  · skip
    have r6 : rg r2 1 1 := rf_nel (n_eq c5) h4.1 rl_0 (by decide)
    have r7 : rg p1 0 5 := h4.2 c5
    refine lv_aload_n hx hb dX9_heard_14 rfl (lv_at hl 0 rfl) ?_
    refine t_Vv C hO hl.1 hA hH hI.1 (As := []) (rest := []) (t_X9_passNow l E J τ L f1 hI.1 mq tq) my_X9_passNow wd443 mq tq td_0 rfl rfl rfl (Nat.le_of_ble_eq_true rfl) ⟨Nat.le_of_ble_eq_true rfl, Nat.le_of_ble_eq_true rfl⟩ ⟨rfl, rfl⟩ dX9_heard_15 (fun L1 f8 H locs hp hH => ?_)
    obtain ⟨rfl, s10, h11⟩ := hp
    have hI := hI.call s10 (by decide)
    refine lv_aload_n hx hb dX9_heard_18 rfl (lv_at hl 0 rfl) ?_
    refine t_getX C hH hI.1 mq tq td_0 iX9 rfl 5 (by decide) wd425 rfl (hI.rf kq_5) dX9_heard_19 ?_
    refine lv_aload_n hx hb dX9_heard_22 rfl (lv_at hl 0 rfl) ?_
    refine t_getX C hH hI.1 mq tq td_0 iX9 rfl 1 (by decide) wd414 rfl (hI.rf kq_1) dX9_heard_23 ?_
    refine t_getX C hH hI.1 mq_1 tq_1 td_3 iX3 rfl 13 (by decide) wd464 rfl (hI.rf kq_1_13) dX9_heard_26 ?_
    refine lv_iload_n hx hb dX9_heard_29 rfl (lv_at hl 1 rfl) ?_
    refine t_aldR C hH hI.1 mq_1_13 tq_1_13 td_7 (rg_in r7 (by decide)) dX9_heard_30 (fun z12 rz12 => ?_)
    refine t_Vi C hO hl.1 hA hH hI.1 (As := [.int z12]) (rest := []) (t_X7_heardIn l E J τ L f8 hI.1 mq_5 tq_5 z12 rz12) my_X7_heardIn wd530 mq_5 tq_5 td_19 rfl rfl rfl (Nat.le_of_ble_eq_true rfl) ⟨Nat.le_of_ble_eq_true rfl, Nat.le_of_ble_eq_true rfl⟩ ⟨rfl, rfl⟩ dX9_heard_31 (fun r14 L1 f13 H locs hp hH => ?_)
    obtain ⟨rfl, s15, h16⟩ := hp
    have hI := hI.call s15 (by decide)
    exact g_iret C hr hH (Nat.zero_le _) (Nat.zero_le _) dX9_heard_34 ⟨rfl, hI, h16⟩
  · skip
    have r17 : rg r2 0 0 := rf_eql (c_eq c5) h4.1 rl_0 (by decide)
    refine lv_bipush (v := (-2 : Int32)) hx hb dX9_heard_11 (by decide) ?_
    exact g_iret C hr hH (Nat.zero_le _) (Nat.zero_le _) dX9_heard_13 ⟨rfl, hI, (rg_w rl_m2 (by decide))⟩
set_option maxHeartbeats 4000000 in
set_option maxRecDepth 100000 in
theorem t_X9_ears (l : Launch) (E : gE) (J : Nat → Nat) (τ : Nat → Nat) (L : List Nat) (f : gF) (hI : tI E L τ f) {q : Nat} (mq : q ∈ L) (tq : τ q = 0) (p1 : Int32) : tMi l E J yX9_ears cX9_ears 2 .int (gRm (5) 0 0) [.ref q, .int p1] L f (tPi E L τ [19, 20, 21, 23] f (fun r f1 => rg r (-2147483648) 2147483647)) := by
  refine tMi.intro (by decide) (Nat.le_of_ble_eq_true rfl) ?_
  intro p e s m below meth c A ls C hr hA hO hH hl
  have C : gC E cX9_ears 2 RX9 p s m _ meth c := C
  have hl : lv_has ls 2 [(0, .ref q), (1, .int p1)] := hl
  have hx := C.1
  have hb := C.2.1
  have hI := hI.S [19, 20, 21, 23]
  obtain ⟨q_1, mq_1, tq_1, kq_1⟩ := t_fldr hI.1 mq tq td_0 (k := 1) rfl
  obtain ⟨q_5, mq_5, tq_5, kq_5⟩ := t_fldr hI.1 mq tq td_0 (k := 5) rfl
  refine lv_aload_n hx hb dX9_ears_0 rfl (lv_at hl 0 rfl) ?_
  refine t_getX C hH hI.1 mq tq td_0 iX9 rfl 1 (by decide) wd414 rfl (hI.rf kq_1) dX9_ears_1 ?_
  refine lv_iload_n hx hb dX9_ears_4 rfl (lv_at hl 1 rfl) ?_
  refine t_Vi C hO hl.1 hA hH hI.1 (As := [.int p1]) (rest := []) (t_X3_hasCell l E J τ L f hI.1 mq_1 tq_1 p1) my_X3_hasCell wd517 mq_1 tq_1 td_3 rfl rfl rfl (Nat.le_of_ble_eq_true rfl) ⟨Nat.le_of_ble_eq_true rfl, Nat.le_of_ble_eq_true rfl⟩ ⟨rfl, rfl⟩ dX9_ears_5 (fun r2 L1 f1 H locs hp hH => ?_)
  obtain ⟨rfl, s3, h4⟩ := hp
  have hI := hI.call s3 (by decide)
  refine lv_if_ne (tgt := 14) hx hb dX9_ears_8 (by decide) (fun c5 => ?_) (fun c5 => ?_)
  · skip
    have r6 : rg r2 1 1 := rf_nel (n_eq c5) h4.1 rl_0 (by decide)
    have r7 : rg p1 0 19 := h4.2 c5
    refine lv_aload_n hx hb dX9_ears_14 rfl (lv_at hl 0 rfl) ?_
    refine t_Vv C hO hl.1 hA hH hI.1 (As := []) (rest := []) (t_X9_passNow l E J τ L f1 hI.1 mq tq) my_X9_passNow wd443 mq tq td_0 rfl rfl rfl (Nat.le_of_ble_eq_true rfl) ⟨Nat.le_of_ble_eq_true rfl, Nat.le_of_ble_eq_true rfl⟩ ⟨rfl, rfl⟩ dX9_ears_15 (fun L1 f8 H locs hp hH => ?_)
    obtain ⟨rfl, s10, h11⟩ := hp
    have hI := hI.call s10 (by decide)
    refine lv_aload_n hx hb dX9_ears_18 rfl (lv_at hl 0 rfl) ?_
    refine t_getX C hH hI.1 mq tq td_0 iX9 rfl 5 (by decide) wd425 rfl (hI.rf kq_5) dX9_ears_19 ?_
    refine lv_iload_n hx hb dX9_ears_22 rfl (lv_at hl 1 rfl) ?_
    refine t_Vi C hO hl.1 hA hH hI.1 (As := [.int p1]) (rest := []) (t_X7_heardIn l E J τ L f8 hI.1 mq_5 tq_5 p1 r7) my_X7_heardIn wd530 mq_5 tq_5 td_19 rfl rfl rfl (Nat.le_of_ble_eq_true rfl) ⟨Nat.le_of_ble_eq_true rfl, Nat.le_of_ble_eq_true rfl⟩ ⟨rfl, rfl⟩ dX9_ears_23 (fun r13 L1 f12 H locs hp hH => ?_)
    obtain ⟨rfl, s14, h15⟩ := hp
    have hI := hI.call s14 (by decide)
    exact g_iret C hr hH (Nat.zero_le _) (Nat.zero_le _) dX9_ears_26 ⟨rfl, hI, h15⟩
  · skip
    have r16 : rg r2 0 0 := rf_eql (c_eq c5) h4.1 rl_0 (by decide)
    refine lv_bipush (v := (-2 : Int32)) hx hb dX9_ears_11 (by decide) ?_
    exact g_iret C hr hH (Nat.zero_le _) (Nat.zero_le _) dX9_ears_13 ⟨rfl, hI, (rg_w rl_m2 (by decide))⟩
set_option maxHeartbeats 4000000 in
set_option maxRecDepth 100000 in
theorem t_X9_loud (l : Launch) (E : gE) (J : Nat → Nat) (τ : Nat → Nat) (L : List Nat) (f : gF) (hI : tI E L τ f) {q : Nat} (mq : q ∈ L) (tq : τ q = 0) : tMi l E J yX9_loud cX9_loud 3 .int (gRm (5) 0 0) [.ref q] L f (tPi E L τ [19, 20, 21, 23] f (fun r f1 => rg r (-2147483648) 2147483647)) := by
  refine tMi.intro (by decide) (Nat.le_of_ble_eq_true rfl) ?_
  intro p e s m below meth c A ls C hr hA hO hH hl
  have C : gC E cX9_loud 3 RX9 p s m _ meth c := C
  have hl : lv_has ls 3 [(0, .ref q)] := hl
  have hx := C.1
  have hb := C.2.1
  have hI := hI.S [19, 20, 21, 23]
  obtain ⟨q_1, mq_1, tq_1, kq_1⟩ := t_fldr hI.1 mq tq td_0 (k := 1) rfl
  obtain ⟨q_5, mq_5, tq_5, kq_5⟩ := t_fldr hI.1 mq tq td_0 (k := 5) rfl
  have cut21 : ∀ (n : Nat) (fh21 : gF) (H : Heap) (locs : List Loc) (ls : Array Slot) (v21_1 : Int32) (v21_2 : Int32), 20 - v21_2.toInt < (n : Int) → tS E L τ [19, 20, 21, 23] f fh21 → gH E A L fh21 s.heap H locs → rg v21_1 0 19 → rg v21_2 1 20 → lv_has ls 3 [(0, .ref q), (1, .int v21_1), (2, .int v21_2)] → W p l e (gRm (5) 0 0) s m [.ref q].toArray below meth c H locs 0 0 (MQ below (gQi E A (tPi E L τ [19, 20, 21, 23] f (fun r f1 => rg r (-2147483648) 2147483647))) [.ref q].toArray s (gRm (5) 0 0).cells (gRm (5) 0 0).slots A) (F0 m 21 ls []) := by
    intro n
    induction n with
    | zero =>
      intro fh21 H locs ls v21_1 v21_2 hfu21 hI hH r_v21_1 r_v21_2 hl
      exact (fu_0 hfu21 r_v21_2).elim
    | succ n ih21 =>
      intro fh21 H locs ls v21_1 v21_2 hfu21 hI hH r_v21_1 r_v21_2 hl
      refine lv_iload_n hx hb dX9_loud_21 rfl (lv_at hl 2 rfl) ?_
      refine lv_aload_n hx hb dX9_loud_22 rfl (lv_at hl 0 rfl) ?_
      refine t_getX C hH hI.1 mq tq td_0 iX9 rfl 1 (by decide) wd414 rfl (hI.rf kq_1) dX9_loud_23 ?_
      refine t_Vi C hO hl.1 hA hH hI.1 (As := []) (rest := [.int v21_2]) (t_X3_cells l E J τ L fh21 hI.1 mq_1 tq_1) my_X3_cells wd459 mq_1 tq_1 td_3 rfl rfl rfl (Nat.le_of_ble_eq_true rfl) ⟨Nat.le_of_ble_eq_true rfl, Nat.le_of_ble_eq_true rfl⟩ ⟨rfl, rfl⟩ dX9_loud_26 (fun r2 L1 f1 H locs hp hH => ?_)
      obtain ⟨rfl, s3, h4⟩ := hp
      have hI := hI.call s3 (by decide)
      refine lv_icmp_ge (tgt := 59) hx hb dX9_loud_29 (by decide) (fun c5 => ?_) (fun c5 => ?_)
      · skip
        refine lv_iload_n hx hb dX9_loud_59 rfl (lv_at hl 1 rfl) ?_
        exact g_iret C hr hH (Nat.zero_le _) (Nat.zero_le _) dX9_loud_60 ⟨rfl, hI, (rg_w r_v21_1 (by decide))⟩
      · skip
        have r6 : rg v21_2 1 19 := rf_ltl (n_le c5) r_v21_2 h4 (by decide)
        have r7 : rg r2 2 20 := rf_ltr (n_le c5) r_v21_2 h4 (by decide)
        refine lv_aload_n hx hb dX9_loud_32 rfl (lv_at hl 0 rfl) ?_
        refine t_getX C hH hI.1 mq tq td_0 iX9 rfl 5 (by decide) wd425 rfl (hI.rf kq_5) dX9_loud_33 ?_
        refine lv_iload_n hx hb dX9_loud_36 rfl (lv_at hl 2 rfl) ?_
        refine t_Vi C hO hl.1 hA hH hI.1 (As := [.int v21_2]) (rest := []) (t_X7_heardIn l E J τ L f1 hI.1 mq_5 tq_5 v21_2 (rg_w r6 (by decide))) my_X7_heardIn wd530 mq_5 tq_5 td_19 rfl rfl rfl (Nat.le_of_ble_eq_true rfl) ⟨Nat.le_of_ble_eq_true rfl, Nat.le_of_ble_eq_true rfl⟩ ⟨rfl, rfl⟩ dX9_loud_37 (fun r9 L1 f8 H locs hp hH => ?_)
        obtain ⟨rfl, s10, h11⟩ := hp
        have hI := hI.call s10 (by decide)
        refine lv_aload_n hx hb dX9_loud_40 rfl (lv_at hl 0 rfl) ?_
        refine t_getX C hH hI.1 mq tq td_0 iX9 rfl 5 (by decide) wd425 rfl (hI.rf kq_5) dX9_loud_41 ?_
        refine lv_iload_n hx hb dX9_loud_44 rfl (lv_at hl 1 rfl) ?_
        refine t_Vi C hO hl.1 hA hH hI.1 (As := [.int v21_1]) (rest := [.int r9]) (t_X7_heardIn l E J τ L f8 hI.1 mq_5 tq_5 v21_1 r_v21_1) my_X7_heardIn wd530 mq_5 tq_5 td_19 rfl rfl rfl (Nat.le_of_ble_eq_true rfl) ⟨Nat.le_of_ble_eq_true rfl, Nat.le_of_ble_eq_true rfl⟩ ⟨rfl, rfl⟩ dX9_loud_45 (fun r13 L1 f12 H locs hp hH => ?_)
        obtain ⟨rfl, s14, h15⟩ := hp
        have hI := hI.call s14 (by decide)
        refine lv_icmp_le (tgt := 53) hx hb dX9_loud_48 (by decide) (fun c16 => ?_) (fun c16 => ?_)
        · skip
          obtain ⟨z17, ez17⟩ : ∃ y : Int32, y = v21_2 + (1 : Int32) := ⟨_, rfl⟩
          have r18 : rg z17 2 20 := rg_add ez17 r6 rl_1 (by decide)
          have a19 : z17.toInt = v21_2.toInt + 1 := ai_add ez17 r6 tl_1 (by decide)
          refine lv_iinc (v := z17) (lv' := [(2, .int z17), (0, .ref q), (1, .int v21_1)]) hx hb dX9_loud_53 hl (k := 2) rfl (by rw [ez17]; rfl) (by decide) rfl (fun ls hl => ?_)
          refine lv_goto (tgt := 21) hx hb dX9_loud_56 (by decide) ?_
          exact ih21 _ _ _ _ v21_1 z17 (fu_s hfu21 a19 (by decide)) hI hH r_v21_1 (rg_w r18 (by decide)) (lv_sub hl [1, 2, 0] rfl)
        · skip
          have r20 : rg r13 (-2147483648) 2147483646 := rf_ltl (n_le c16) h15 h11 (by decide)
          have r21 : rg r9 (-2147483647) 2147483647 := rf_ltr (n_le c16) h15 h11 (by decide)
          refine lv_iload_n hx hb dX9_loud_51 rfl (lv_at hl 2 rfl) ?_
          refine lv_istore_n (lv' := [(1, .int v21_2), (0, .ref q), (2, .int v21_2)]) hx hb dX9_loud_52 rfl hl (by decide) rfl (fun ls hl => ?_)
          obtain ⟨z22, ez22⟩ : ∃ y : Int32, y = v21_2 + (1 : Int32) := ⟨_, rfl⟩
          have r23 : rg z22 2 20 := rg_add ez22 r6 rl_1 (by decide)
          have a24 : z22.toInt = v21_2.toInt + 1 := ai_add ez22 r6 tl_1 (by decide)
          refine lv_iinc (v := z22) (lv' := [(2, .int z22), (1, .int v21_2), (0, .ref q)]) hx hb dX9_loud_53 hl (k := 2) rfl (by rw [ez22]; rfl) (by decide) rfl (fun ls hl => ?_)
          refine lv_goto (tgt := 21) hx hb dX9_loud_56 (by decide) ?_
          exact ih21 _ _ _ _ v21_2 z22 (fu_s hfu21 a24 (by decide)) hI hH (rg_w r6 (by decide)) (rg_w r23 (by decide)) (lv_sub hl [2, 1, 0] rfl)
  refine lv_aload_n hx hb dX9_loud_0 rfl (lv_at hl 0 rfl) ?_
  refine t_getX C hH hI.1 mq tq td_0 iX9 rfl 1 (by decide) wd414 rfl (hI.rf kq_1) dX9_loud_1 ?_
  refine t_Vi C hO hl.1 hA hH hI.1 (As := []) (rest := []) (t_X3_isNone l E J τ L f hI.1 mq_1 tq_1) my_X3_isNone wd473 mq_1 tq_1 td_3 rfl rfl rfl (Nat.le_of_ble_eq_true rfl) ⟨Nat.le_of_ble_eq_true rfl, Nat.le_of_ble_eq_true rfl⟩ ⟨rfl, rfl⟩ dX9_loud_4 (fun r26 L1 f25 H locs hp hH => ?_)
  obtain ⟨rfl, s27, h28⟩ := hp
  have hI := hI.call s27 (by decide)
  refine lv_if_eq (tgt := 13) hx hb dX9_loud_7 (by decide) (fun c29 => ?_) (fun c29 => ?_)
  · skip
    have r30 : rg r26 0 0 := rf_eql (c_eq c29) h28 rl_0 (by decide)
    refine lv_aload_n hx hb dX9_loud_13 rfl (lv_at hl 0 rfl) ?_
    refine t_Vv C hO hl.1 hA hH hI.1 (As := []) (rest := []) (t_X9_passNow l E J τ L f25 hI.1 mq tq) my_X9_passNow wd443 mq tq td_0 rfl rfl rfl (Nat.le_of_ble_eq_true rfl) ⟨Nat.le_of_ble_eq_true rfl, Nat.le_of_ble_eq_true rfl⟩ ⟨rfl, rfl⟩ dX9_loud_14 (fun L1 f31 H locs hp hH => ?_)
    obtain ⟨rfl, s33, h34⟩ := hp
    have hI := hI.call s33 (by decide)
    refine lv_iconst (v := (0 : Int32)) hx hb dX9_loud_17 (by decide) ?_
    refine lv_istore_n (lv' := [(1, .int (0 : Int32)), (0, .ref q)]) hx hb dX9_loud_18 rfl hl (by decide) rfl (fun ls hl => ?_)
    refine lv_iconst (v := (1 : Int32)) hx hb dX9_loud_19 (by decide) ?_
    refine lv_istore_n (lv' := [(2, .int (1 : Int32)), (1, .int (0 : Int32)), (0, .ref q)]) hx hb dX9_loud_20 rfl hl (by decide) rfl (fun ls hl => ?_)
    exact cut21 20 _ _ _ _ (0 : Int32) (1 : Int32) (fu_i 20 rl_1 (by decide)) hI hH (rg_w rl_0 (by decide)) (rg_w rl_1 (by decide)) (lv_sub hl [2, 1, 0] rfl)
  · skip
    have r35 : rg r26 1 1 := rf_nel (n_eq c29) h28 rl_0 (by decide)
    refine lv_bipush (v := (-2 : Int32)) hx hb dX9_loud_10 (by decide) ?_
    exact g_iret C hr hH (Nat.zero_le _) (Nat.zero_le _) dX9_loud_12 ⟨rfl, hI, (rg_w rl_m2 (by decide))⟩
set_option maxHeartbeats 4000000 in
set_option maxRecDepth 100000 in
theorem t_X9_quiet (l : Launch) (E : gE) (J : Nat → Nat) (τ : Nat → Nat) (L : List Nat) (f : gF) (hI : tI E L τ f) {q : Nat} (mq : q ∈ L) (tq : τ q = 0) : tMi l E J yX9_quiet cX9_quiet 3 .int (gRm (5) 0 0) [.ref q] L f (tPi E L τ [19, 20, 21, 23] f (fun r f1 => rg r (-2147483648) 2147483647)) := by
  refine tMi.intro (by decide) (Nat.le_of_ble_eq_true rfl) ?_
  intro p e s m below meth c A ls C hr hA hO hH hl
  have C : gC E cX9_quiet 3 RX9 p s m _ meth c := C
  have hl : lv_has ls 3 [(0, .ref q)] := hl
  have hx := C.1
  have hb := C.2.1
  have hI := hI.S [19, 20, 21, 23]
  obtain ⟨q_1, mq_1, tq_1, kq_1⟩ := t_fldr hI.1 mq tq td_0 (k := 1) rfl
  obtain ⟨q_5, mq_5, tq_5, kq_5⟩ := t_fldr hI.1 mq tq td_0 (k := 5) rfl
  have cut21 : ∀ (n : Nat) (fh21 : gF) (H : Heap) (locs : List Loc) (ls : Array Slot) (v21_1 : Int32) (v21_2 : Int32), 20 - v21_2.toInt < (n : Int) → tS E L τ [19, 20, 21, 23] f fh21 → gH E A L fh21 s.heap H locs → rg v21_2 0 20 → lv_has ls 3 [(0, .ref q), (1, .int v21_1), (2, .int v21_2)] → W p l e (gRm (5) 0 0) s m [.ref q].toArray below meth c H locs 0 0 (MQ below (gQi E A (tPi E L τ [19, 20, 21, 23] f (fun r f1 => rg r (-2147483648) 2147483647))) [.ref q].toArray s (gRm (5) 0 0).cells (gRm (5) 0 0).slots A) (F0 m 21 ls []) := by
    intro n
    induction n with
    | zero =>
      intro fh21 H locs ls v21_1 v21_2 hfu21 hI hH r_v21_2 hl
      exact (fu_0 hfu21 r_v21_2).elim
    | succ n ih21 =>
      intro fh21 H locs ls v21_1 v21_2 hfu21 hI hH r_v21_2 hl
      refine lv_iload_n hx hb dX9_quiet_21 rfl (lv_at hl 2 rfl) ?_
      refine lv_aload_n hx hb dX9_quiet_22 rfl (lv_at hl 0 rfl) ?_
      refine t_getX C hH hI.1 mq tq td_0 iX9 rfl 1 (by decide) wd414 rfl (hI.rf kq_1) dX9_quiet_23 ?_
      refine t_Vi C hO hl.1 hA hH hI.1 (As := []) (rest := [.int v21_2]) (t_X3_cells l E J τ L fh21 hI.1 mq_1 tq_1) my_X3_cells wd459 mq_1 tq_1 td_3 rfl rfl rfl (Nat.le_of_ble_eq_true rfl) ⟨Nat.le_of_ble_eq_true rfl, Nat.le_of_ble_eq_true rfl⟩ ⟨rfl, rfl⟩ dX9_quiet_26 (fun r2 L1 f1 H locs hp hH => ?_)
      obtain ⟨rfl, s3, h4⟩ := hp
      have hI := hI.call s3 (by decide)
      refine lv_icmp_ge (tgt := 55) hx hb dX9_quiet_29 (by decide) (fun c5 => ?_) (fun c5 => ?_)
      · skip
        refine lv_iload_n hx hb dX9_quiet_55 rfl (lv_at hl 1 rfl) ?_
        exact g_iret C hr hH (Nat.zero_le _) (Nat.zero_le _) dX9_quiet_56 ⟨rfl, hI, (rg_all _)⟩
      · skip
        have r6 : rg v21_2 0 19 := rf_ltl (n_le c5) r_v21_2 h4 (by decide)
        have r7 : rg r2 1 20 := rf_ltr (n_le c5) r_v21_2 h4 (by decide)
        refine lv_aload_n hx hb dX9_quiet_32 rfl (lv_at hl 0 rfl) ?_
        refine t_getX C hH hI.1 mq tq td_0 iX9 rfl 5 (by decide) wd425 rfl (hI.rf kq_5) dX9_quiet_33 ?_
        refine lv_iload_n hx hb dX9_quiet_36 rfl (lv_at hl 2 rfl) ?_
        refine t_Vi C hO hl.1 hA hH hI.1 (As := [.int v21_2]) (rest := []) (t_X7_heardIn l E J τ L f1 hI.1 mq_5 tq_5 v21_2 r6) my_X7_heardIn wd530 mq_5 tq_5 td_19 rfl rfl rfl (Nat.le_of_ble_eq_true rfl) ⟨Nat.le_of_ble_eq_true rfl, Nat.le_of_ble_eq_true rfl⟩ ⟨rfl, rfl⟩ dX9_quiet_37 (fun r9 L1 f8 H locs hp hH => ?_)
        obtain ⟨rfl, s10, h11⟩ := hp
        have hI := hI.call s10 (by decide)
        refine lv_if_ne (tgt := 49) hx hb dX9_quiet_40 (by decide) (fun c12 => ?_) (fun c12 => ?_)
        · skip
          obtain ⟨z13, ez13⟩ : ∃ y : Int32, y = v21_2 + (1 : Int32) := ⟨_, rfl⟩
          have r14 : rg z13 1 20 := rg_add ez13 r6 rl_1 (by decide)
          have a15 : z13.toInt = v21_2.toInt + 1 := ai_add ez13 r6 tl_1 (by decide)
          refine lv_iinc (v := z13) (lv' := [(2, .int z13), (0, .ref q), (1, .int v21_1)]) hx hb dX9_quiet_49 hl (k := 2) rfl (by rw [ez13]; rfl) (by decide) rfl (fun ls hl => ?_)
          refine lv_goto (tgt := 21) hx hb dX9_quiet_52 (by decide) ?_
          exact ih21 _ _ _ _ v21_1 z13 (fu_s hfu21 a15 (by decide)) hI hH (rg_w r14 (by decide)) (lv_sub hl [1, 2, 0] rfl)
        · skip
          have r16 : rg r9 0 0 := rf_eql (c_eq c12) h11 rl_0 (by decide)
          refine lv_iload_n hx hb dX9_quiet_43 rfl (lv_at hl 1 rfl) ?_
          refine lv_iconst (v := (1 : Int32)) hx hb dX9_quiet_44 (by decide) ?_
          refine lv_iload_n hx hb dX9_quiet_45 rfl (lv_at hl 2 rfl) ?_
          refine lv_ishl hx hb dX9_quiet_46 ?_
          refine lv_topi (fun z17 ez17 => ?_)
          have r18 : rg z17 1 524288 := rg_shl 0 19 ez17 r6 (by decide)
          refine lv_ior hx hb dX9_quiet_47 ?_
          refine lv_topi (fun z19 ez19 => ?_)
          refine lv_istore_n (lv' := [(1, .int z19), (0, .ref q), (2, .int v21_2)]) hx hb dX9_quiet_48 rfl hl (by decide) rfl (fun ls hl => ?_)
          obtain ⟨z20, ez20⟩ : ∃ y : Int32, y = v21_2 + (1 : Int32) := ⟨_, rfl⟩
          have r21 : rg z20 1 20 := rg_add ez20 r6 rl_1 (by decide)
          have a22 : z20.toInt = v21_2.toInt + 1 := ai_add ez20 r6 tl_1 (by decide)
          refine lv_iinc (v := z20) (lv' := [(2, .int z20), (1, .int z19), (0, .ref q)]) hx hb dX9_quiet_49 hl (k := 2) rfl (by rw [ez20]; rfl) (by decide) rfl (fun ls hl => ?_)
          refine lv_goto (tgt := 21) hx hb dX9_quiet_52 (by decide) ?_
          exact ih21 _ _ _ _ z19 z20 (fu_s hfu21 a22 (by decide)) hI hH (rg_w r21 (by decide)) (lv_sub hl [2, 1, 0] rfl)
  refine lv_aload_n hx hb dX9_quiet_0 rfl (lv_at hl 0 rfl) ?_
  refine t_getX C hH hI.1 mq tq td_0 iX9 rfl 1 (by decide) wd414 rfl (hI.rf kq_1) dX9_quiet_1 ?_
  refine t_Vi C hO hl.1 hA hH hI.1 (As := []) (rest := []) (t_X3_isNone l E J τ L f hI.1 mq_1 tq_1) my_X3_isNone wd473 mq_1 tq_1 td_3 rfl rfl rfl (Nat.le_of_ble_eq_true rfl) ⟨Nat.le_of_ble_eq_true rfl, Nat.le_of_ble_eq_true rfl⟩ ⟨rfl, rfl⟩ dX9_quiet_4 (fun r24 L1 f23 H locs hp hH => ?_)
  obtain ⟨rfl, s25, h26⟩ := hp
  have hI := hI.call s25 (by decide)
  refine lv_if_eq (tgt := 13) hx hb dX9_quiet_7 (by decide) (fun c27 => ?_) (fun c27 => ?_)
  · skip
    have r28 : rg r24 0 0 := rf_eql (c_eq c27) h26 rl_0 (by decide)
    refine lv_aload_n hx hb dX9_quiet_13 rfl (lv_at hl 0 rfl) ?_
    refine t_Vv C hO hl.1 hA hH hI.1 (As := []) (rest := []) (t_X9_passNow l E J τ L f23 hI.1 mq tq) my_X9_passNow wd443 mq tq td_0 rfl rfl rfl (Nat.le_of_ble_eq_true rfl) ⟨Nat.le_of_ble_eq_true rfl, Nat.le_of_ble_eq_true rfl⟩ ⟨rfl, rfl⟩ dX9_quiet_14 (fun L1 f29 H locs hp hH => ?_)
    obtain ⟨rfl, s31, h32⟩ := hp
    have hI := hI.call s31 (by decide)
    refine lv_iconst (v := (0 : Int32)) hx hb dX9_quiet_17 (by decide) ?_
    refine lv_istore_n (lv' := [(1, .int (0 : Int32)), (0, .ref q)]) hx hb dX9_quiet_18 rfl hl (by decide) rfl (fun ls hl => ?_)
    refine lv_iconst (v := (0 : Int32)) hx hb dX9_quiet_19 (by decide) ?_
    refine lv_istore_n (lv' := [(2, .int (0 : Int32)), (1, .int (0 : Int32)), (0, .ref q)]) hx hb dX9_quiet_20 rfl hl (by decide) rfl (fun ls hl => ?_)
    exact cut21 21 _ _ _ _ (0 : Int32) (0 : Int32) (fu_i 21 rl_0 (by decide)) hI hH (rg_w rl_0 (by decide)) (lv_sub hl [2, 1, 0] rfl)
  · skip
    have r33 : rg r24 1 1 := rf_nel (n_eq c27) h26 rl_0 (by decide)
    refine lv_bipush (v := (-2 : Int32)) hx hb dX9_quiet_10 (by decide) ?_
    exact g_iret C hr hH (Nat.zero_le _) (Nat.zero_le _) dX9_quiet_12 ⟨rfl, hI, (rg_w rl_m2 (by decide))⟩
set_option maxHeartbeats 4000000 in
set_option maxRecDepth 100000 in
theorem t_X9_served (l : Launch) (E : gE) (J : Nat → Nat) (τ : Nat → Nat) (L : List Nat) (f : gF) (hI : tI E L τ f) {q : Nat} (mq : q ∈ L) (tq : τ q = 0) : tMi l E J yX9_served cX9_served 1 .int (gRm (5) 0 0) [.ref q] L f (tPi E L τ [19, 20, 21, 23] f (fun r f1 => rg r (-2147483648) 2147483647)) := by
  refine tMi.intro (by decide) (Nat.le_of_ble_eq_true rfl) ?_
  intro p e s m below meth c A ls C hr hA hO hH hl
  have C : gC E cX9_served 1 RX9 p s m _ meth c := C
  have hl : lv_has ls 1 [(0, .ref q)] := hl
  have hx := C.1
  have hb := C.2.1
  have hI := hI.S [19, 20, 21, 23]
  obtain ⟨q_1, mq_1, tq_1, kq_1⟩ := t_fldr hI.1 mq tq td_0 (k := 1) rfl
  refine lv_aload_n hx hb dX9_served_0 rfl (lv_at hl 0 rfl) ?_
  refine t_getX C hH hI.1 mq tq td_0 iX9 rfl 1 (by decide) wd414 rfl (hI.rf kq_1) dX9_served_1 ?_
  refine t_Vi C hO hl.1 hA hH hI.1 (As := []) (rest := []) (t_X3_isNone l E J τ L f hI.1 mq_1 tq_1) my_X3_isNone wd473 mq_1 tq_1 td_3 rfl rfl rfl (Nat.le_of_ble_eq_true rfl) ⟨Nat.le_of_ble_eq_true rfl, Nat.le_of_ble_eq_true rfl⟩ ⟨rfl, rfl⟩ dX9_served_4 (fun r2 L1 f1 H locs hp hH => ?_)
  obtain ⟨rfl, s3, h4⟩ := hp
  have hI := hI.call s3 (by decide)
  refine lv_if_eq (tgt := 15) hx hb dX9_served_7 (by decide) (fun c5 => ?_) (fun c5 => ?_)
  · skip
    have r6 : rg r2 0 0 := rf_eql (c_eq c5) h4 rl_0 (by decide)
    refine lv_aload_n hx hb dX9_served_15 rfl (lv_at hl 0 rfl) ?_
    refine lv_aload_n hx hb dX9_served_16 rfl (lv_at hl 0 rfl) ?_
    refine t_getX C hH hI.1 mq tq td_0 iX9 rfl 1 (by decide) wd414 rfl (hI.rf kq_1) dX9_served_17 ?_
    refine t_geti C hH hI.1 mq_1 tq_1 td_3 iX3 rfl 8 (by decide) wd426 rfl rfl dX9_served_20 (fun z7 rz7 => ?_)
    refine lv_aload_n hx hb dX9_served_23 rfl (lv_at hl 0 rfl) ?_
    refine t_getX C hH hI.1 mq tq td_0 iX9 rfl 1 (by decide) wd414 rfl (hI.rf kq_1) dX9_served_24 ?_
    refine t_geti C hH hI.1 mq_1 tq_1 td_3 iX3 rfl 3 (by decide) wd427 rfl rfl dX9_served_27 (fun z8 rz8 => ?_)
    refine t_Vi C hO hl.1 hA hH hI.1 (As := [.int z7, .int z8]) (rest := []) (t_X9_servedUnder l E J τ L f1 hI.1 mq tq z7 z8) my_X9_servedUnder wd435 mq tq td_0 rfl rfl rfl (Nat.le_of_ble_eq_true rfl) ⟨Nat.le_of_ble_eq_true rfl, Nat.le_of_ble_eq_true rfl⟩ ⟨rfl, rfl⟩ dX9_served_30 (fun r10 L1 f9 H locs hp hH => ?_)
    obtain ⟨rfl, s11, h12⟩ := hp
    have hI := hI.call s11 (by decide)
    exact g_iret C hr hH (Nat.zero_le _) (Nat.zero_le _) dX9_served_33 ⟨rfl, hI, (rg_w h12 (by decide))⟩
  · skip
    have r13 : rg r2 1 1 := rf_nel (n_eq c5) h4 rl_0 (by decide)
    refine lv_bipush (v := (-2 : Int32)) hx hb dX9_served_10 (by decide) ?_
    refine lv_goto (tgt := 33) hx hb dX9_served_12 (by decide) ?_
    exact g_iret C hr hH (Nat.zero_le _) (Nat.zero_le _) dX9_served_33 ⟨rfl, hI, (rg_w rl_m2 (by decide))⟩
set_option maxHeartbeats 4000000 in
set_option maxRecDepth 100000 in
theorem t_X9_income (l : Launch) (E : gE) (J : Nat → Nat) (τ : Nat → Nat) (L : List Nat) (f : gF) (hI : tI E L τ f) {q : Nat} (mq : q ∈ L) (tq : τ q = 0) : tMi l E J yX9_income cX9_income 1 .int (gRm (6) 0 0) [.ref q] L f (tPi E L τ [19, 20, 21, 23] f (fun r f1 => rg r (-2147483648) 2147483647)) := by
  refine tMi.intro (by decide) (Nat.le_of_ble_eq_true rfl) ?_
  intro p e s m below meth c A ls C hr hA hO hH hl
  have C : gC E cX9_income 1 RX9 p s m _ meth c := C
  have hl : lv_has ls 1 [(0, .ref q)] := hl
  have hx := C.1
  have hb := C.2.1
  have hI := hI.S [19, 20, 21, 23]
  obtain ⟨q_1, mq_1, tq_1, kq_1⟩ := t_fldr hI.1 mq tq td_0 (k := 1) rfl
  refine lv_aload_n hx hb dX9_income_0 rfl (lv_at hl 0 rfl) ?_
  refine t_getX C hH hI.1 mq tq td_0 iX9 rfl 1 (by decide) wd414 rfl (hI.rf kq_1) dX9_income_1 ?_
  refine t_Vi C hO hl.1 hA hH hI.1 (As := []) (rest := []) (t_X3_isNone l E J τ L f hI.1 mq_1 tq_1) my_X3_isNone wd473 mq_1 tq_1 td_3 rfl rfl rfl (Nat.le_of_ble_eq_true rfl) ⟨Nat.le_of_ble_eq_true rfl, Nat.le_of_ble_eq_true rfl⟩ ⟨rfl, rfl⟩ dX9_income_4 (fun r2 L1 f1 H locs hp hH => ?_)
  obtain ⟨rfl, s3, h4⟩ := hp
  have hI := hI.call s3 (by decide)
  refine lv_if_eq (tgt := 15) hx hb dX9_income_7 (by decide) (fun c5 => ?_) (fun c5 => ?_)
  · skip
    have r6 : rg r2 0 0 := rf_eql (c_eq c5) h4 rl_0 (by decide)
    refine lv_aload_n hx hb dX9_income_15 rfl (lv_at hl 0 rfl) ?_
    refine lv_aload_n hx hb dX9_income_16 rfl (lv_at hl 0 rfl) ?_
    refine t_getX C hH hI.1 mq tq td_0 iX9 rfl 1 (by decide) wd414 rfl (hI.rf kq_1) dX9_income_17 ?_
    refine t_geti C hH hI.1 mq_1 tq_1 td_3 iX3 rfl 8 (by decide) wd426 rfl rfl dX9_income_20 (fun z7 rz7 => ?_)
    refine lv_aload_n hx hb dX9_income_23 rfl (lv_at hl 0 rfl) ?_
    refine t_getX C hH hI.1 mq tq td_0 iX9 rfl 1 (by decide) wd414 rfl (hI.rf kq_1) dX9_income_24 ?_
    refine t_geti C hH hI.1 mq_1 tq_1 td_3 iX3 rfl 3 (by decide) wd427 rfl rfl dX9_income_27 (fun z8 rz8 => ?_)
    refine t_Vi C hO hl.1 hA hH hI.1 (As := [.int z7, .int z8]) (rest := []) (t_X9_incomeUnder l E J τ L f1 hI.1 mq tq z7 z8) my_X9_incomeUnder wd463 mq tq td_0 rfl rfl rfl (Nat.le_of_ble_eq_true rfl) ⟨Nat.le_of_ble_eq_true rfl, Nat.le_of_ble_eq_true rfl⟩ ⟨rfl, rfl⟩ dX9_income_30 (fun r10 L1 f9 H locs hp hH => ?_)
    obtain ⟨rfl, s11, h12⟩ := hp
    have hI := hI.call s11 (by decide)
    exact g_iret C hr hH (Nat.zero_le _) (Nat.zero_le _) dX9_income_33 ⟨rfl, hI, h12⟩
  · skip
    have r13 : rg r2 1 1 := rf_nel (n_eq c5) h4 rl_0 (by decide)
    refine lv_bipush (v := (-2 : Int32)) hx hb dX9_income_10 (by decide) ?_
    refine lv_goto (tgt := 33) hx hb dX9_income_12 (by decide) ?_
    exact g_iret C hr hH (Nat.zero_le _) (Nat.zero_le _) dX9_income_33 ⟨rfl, hI, (rg_w rl_m2 (by decide))⟩
set_option maxHeartbeats 4000000 in
set_option maxRecDepth 100000 in
theorem t_X9_unpaid (l : Launch) (E : gE) (J : Nat → Nat) (τ : Nat → Nat) (L : List Nat) (f : gF) (hI : tI E L τ f) {q : Nat} (mq : q ∈ L) (tq : τ q = 0) : tMi l E J yX9_unpaid cX9_unpaid 1 .int (gRm (6) 0 0) [.ref q] L f (tPi E L τ [19, 20, 21, 23] f (fun r f1 => rg r (-2147483648) 2147483647)) := by
  refine tMi.intro (by decide) (Nat.le_of_ble_eq_true rfl) ?_
  intro p e s m below meth c A ls C hr hA hO hH hl
  have C : gC E cX9_unpaid 1 RX9 p s m _ meth c := C
  have hl : lv_has ls 1 [(0, .ref q)] := hl
  have hx := C.1
  have hb := C.2.1
  have hI := hI.S [19, 20, 21, 23]
  obtain ⟨q_1, mq_1, tq_1, kq_1⟩ := t_fldr hI.1 mq tq td_0 (k := 1) rfl
  refine lv_aload_n hx hb dX9_unpaid_0 rfl (lv_at hl 0 rfl) ?_
  refine t_getX C hH hI.1 mq tq td_0 iX9 rfl 1 (by decide) wd414 rfl (hI.rf kq_1) dX9_unpaid_1 ?_
  refine t_Vi C hO hl.1 hA hH hI.1 (As := []) (rest := []) (t_X3_isNone l E J τ L f hI.1 mq_1 tq_1) my_X3_isNone wd473 mq_1 tq_1 td_3 rfl rfl rfl (Nat.le_of_ble_eq_true rfl) ⟨Nat.le_of_ble_eq_true rfl, Nat.le_of_ble_eq_true rfl⟩ ⟨rfl, rfl⟩ dX9_unpaid_4 (fun r2 L1 f1 H locs hp hH => ?_)
  obtain ⟨rfl, s3, h4⟩ := hp
  have hI := hI.call s3 (by decide)
  refine lv_if_eq (tgt := 15) hx hb dX9_unpaid_7 (by decide) (fun c5 => ?_) (fun c5 => ?_)
  · skip
    have r6 : rg r2 0 0 := rf_eql (c_eq c5) h4 rl_0 (by decide)
    refine lv_aload_n hx hb dX9_unpaid_15 rfl (lv_at hl 0 rfl) ?_
    refine t_Vi C hO hl.1 hA hH hI.1 (As := []) (rest := []) (t_X9_unpaidBits l E J τ L f1 hI.1 mq tq) my_X9_unpaidBits wd534 mq tq td_0 rfl rfl rfl (Nat.le_of_ble_eq_true rfl) ⟨Nat.le_of_ble_eq_true rfl, Nat.le_of_ble_eq_true rfl⟩ ⟨rfl, rfl⟩ dX9_unpaid_16 (fun r8 L1 f7 H locs hp hH => ?_)
    obtain ⟨rfl, s9, h10⟩ := hp
    have hI := hI.call s9 (by decide)
    exact g_iret C hr hH (Nat.zero_le _) (Nat.zero_le _) dX9_unpaid_19 ⟨rfl, hI, h10⟩
  · skip
    have r11 : rg r2 1 1 := rf_nel (n_eq c5) h4 rl_0 (by decide)
    refine lv_bipush (v := (-2 : Int32)) hx hb dX9_unpaid_10 (by decide) ?_
    refine lv_goto (tgt := 19) hx hb dX9_unpaid_12 (by decide) ?_
    exact g_iret C hr hH (Nat.zero_le _) (Nat.zero_le _) dX9_unpaid_19 ⟨rfl, hI, (rg_w rl_m2 (by decide))⟩
set_option maxHeartbeats 4000000 in
set_option maxRecDepth 100000 in
theorem t_X9_first (l : Launch) (E : gE) (J : Nat → Nat) (τ : Nat → Nat) (L : List Nat) (f : gF) (hI : tI E L τ f) {q : Nat} (mq : q ∈ L) (tq : τ q = 0) : tMi l E J yX9_first cX9_first 5 .int (gRm (5) 0 0) [.ref q] L f (tPi E L τ [19, 20, 21] f (fun r f1 => rg r (-2147483648) 2147483647)) := by
  refine tMi.intro (by decide) (Nat.le_of_ble_eq_true rfl) ?_
  intro p e s m below meth c A ls C hr hA hO hH hl
  have C : gC E cX9_first 5 RX9 p s m _ meth c := C
  have hl : lv_has ls 5 [(0, .ref q)] := hl
  have hx := C.1
  have hb := C.2.1
  have hI := hI.S [19, 20, 21]
  obtain ⟨q_1, mq_1, tq_1, kq_1⟩ := t_fldr hI.1 mq tq td_0 (k := 1) rfl
  obtain ⟨q_5, mq_5, tq_5, kq_5⟩ := t_fldr hI.1 mq tq td_0 (k := 5) rfl
  have cut22 : ∀ (n : Nat) (fh22 : gF) (H : Heap) (locs : List Loc) (ls : Array Slot) (v22_1 : Int32) (v22_2 : Int32) (v22_3 : Int32), 4 - v22_3.toInt < (n : Int) → tS E L τ [19, 20, 21] f fh22 → gH E A L fh22 s.heap H locs → rg v22_2 (-1) 40 → rg v22_3 0 4 → lv_has ls 5 [(0, .ref q), (1, .int v22_1), (2, .int v22_2), (3, .int v22_3)] → W p l e (gRm (5) 0 0) s m [.ref q].toArray below meth c H locs 0 0 (MQ below (gQi E A (tPi E L τ [19, 20, 21] f (fun r f1 => rg r (-2147483648) 2147483647))) [.ref q].toArray s (gRm (5) 0 0).cells (gRm (5) 0 0).slots A) (F0 m 22 ls []) := by
    intro n
    induction n with
    | zero =>
      intro fh22 H locs ls v22_1 v22_2 v22_3 hfu22 hI hH r_v22_2 r_v22_3 hl
      exact (fu_0 hfu22 r_v22_3).elim
    | succ n ih22 =>
      intro fh22 H locs ls v22_1 v22_2 v22_3 hfu22 hI hH r_v22_2 r_v22_3 hl
      refine lv_iload_n hx hb dX9_first_22 rfl (lv_at hl 3 rfl) ?_
      refine lv_aload_n hx hb dX9_first_23 rfl (lv_at hl 0 rfl) ?_
      refine t_getX C hH hI.1 mq tq td_0 iX9 rfl 1 (by decide) wd414 rfl (hI.rf kq_1) dX9_first_24 ?_
      refine t_geti C hH hI.1 mq_1 tq_1 td_3 iX3 rfl 6 (by decide) wd450 rfl rfl dX9_first_27 (fun z1 rz1 => ?_)
      refine lv_icmp_ge (tgt := 74) hx hb dX9_first_30 (by decide) (fun c2 => ?_) (fun c2 => ?_)
      · skip
        refine lv_iload_n hx hb dX9_first_74 rfl (lv_at hl 2 rfl) ?_
        exact g_iret C hr hH (Nat.zero_le _) (Nat.zero_le _) dX9_first_75 ⟨rfl, hI, (rg_w r_v22_2 (by decide))⟩
      · skip
        have r3 : rg v22_3 0 3 := rf_ltl (n_le c2) r_v22_3 rz1 (by decide)
        have r4 : rg z1 1 4 := rf_ltr (n_le c2) r_v22_3 rz1 (by decide)
        refine lv_aload_n hx hb dX9_first_33 rfl (lv_at hl 0 rfl) ?_
        refine lv_iload_n hx hb dX9_first_34 rfl (lv_at hl 3 rfl) ?_
        refine t_Vv C hO hl.1 hA hH hI.1 (As := [.int v22_3]) (rest := []) (t_X9_followNow l E J τ L fh22 hI.1 mq tq v22_3 r3) my_X9_followNow wd454 mq tq td_0 rfl rfl rfl (Nat.le_of_ble_eq_true rfl) ⟨Nat.le_of_ble_eq_true rfl, Nat.le_of_ble_eq_true rfl⟩ ⟨rfl, rfl⟩ dX9_first_35 (fun L1 f5 H locs hp hH => ?_)
        obtain ⟨rfl, s7, h8⟩ := hp
        have hI := hI.call s7 (by decide)
        refine lv_aload_n hx hb dX9_first_38 rfl (lv_at hl 0 rfl) ?_
        refine t_getX C hH hI.1 mq tq td_0 iX9 rfl 5 (by decide) wd425 rfl (hI.rf kq_5) dX9_first_39 ?_
        refine lv_iload_n hx hb dX9_first_42 rfl (lv_at hl 1 rfl) ?_
        refine t_Vi C hO hl.1 hA hH hI.1 (As := [.int v22_1]) (rest := []) (t_X7_firstWithin l E J τ L f5 hI.1 mq_5 tq_5 v22_1) my_X7_firstWithin wd538 mq_5 tq_5 td_19 rfl rfl rfl (Nat.le_of_ble_eq_true rfl) ⟨Nat.le_of_ble_eq_true rfl, Nat.le_of_ble_eq_true rfl⟩ ⟨rfl, rfl⟩ dX9_first_43 (fun r10 L1 f9 H locs hp hH => ?_)
        obtain ⟨rfl, s11, h12⟩ := hp
        have hI := hI.call s11 (by decide)
        refine lv_istore (lv' := [(4, .int r10), (0, .ref q), (1, .int v22_1), (2, .int v22_2), (3, .int v22_3)]) hx hb dX9_first_46 hl (by decide) rfl (fun ls hl => ?_)
        refine lv_iload hx hb dX9_first_48 (lv_at hl 0 rfl) ?_
        refine lv_iconst (v := (-1 : Int32)) hx hb dX9_first_50 (by decide) ?_
        refine lv_icmp_eq (tgt := 68) hx hb dX9_first_51 (by decide) (fun c13 => ?_) (fun c13 => ?_)
        · skip
          have r14 : rg r10 (-1) (-1) := rf_eql (c_eq c13) h12 rl_m1 (by decide)
          obtain ⟨z15, ez15⟩ : ∃ y : Int32, y = v22_3 + (1 : Int32) := ⟨_, rfl⟩
          have r16 : rg z15 1 4 := rg_add ez15 r3 rl_1 (by decide)
          have a17 : z15.toInt = v22_3.toInt + 1 := ai_add ez15 r3 tl_1 (by decide)
          refine lv_iinc (v := z15) (lv' := [(3, .int z15), (4, .int r10), (0, .ref q), (1, .int v22_1), (2, .int v22_2)]) hx hb dX9_first_68 hl (k := 4) rfl (by rw [ez15]; rfl) (by decide) rfl (fun ls hl => ?_)
          refine lv_goto (tgt := 22) hx hb dX9_first_71 (by decide) ?_
          exact ih22 _ _ _ _ v22_1 v22_2 z15 (fu_s hfu22 a17 (by decide)) hI hH r_v22_2 (rg_w r16 (by decide)) (lv_sub hl [2, 3, 4, 0] rfl)
        · skip
          have r18 : rg r10 0 40 := rf_nel (n_eq c13) h12 rl_m1 (by decide)
          refine lv_iload_n hx hb dX9_first_54 rfl (lv_at hl 3 rfl) ?_
          refine lv_iconst (v := (-1 : Int32)) hx hb dX9_first_55 (by decide) ?_
          refine lv_icmp_eq (tgt := 65) hx hb dX9_first_56 (by decide) (fun c19 => ?_) (fun c19 => ?_)
          · skip
            have r20 : rg v22_2 (-1) (-1) := rf_eql (c_eq c19) r_v22_2 rl_m1 (by decide)
            refine lv_iload hx hb dX9_first_65 (lv_at hl 0 rfl) ?_
            refine lv_istore_n (lv' := [(2, .int r10), (4, .int r10), (0, .ref q), (1, .int v22_1), (3, .int v22_3)]) hx hb dX9_first_67 rfl hl (by decide) rfl (fun ls hl => ?_)
            obtain ⟨z21, ez21⟩ : ∃ y : Int32, y = v22_3 + (1 : Int32) := ⟨_, rfl⟩
            have r22 : rg z21 1 4 := rg_add ez21 r3 rl_1 (by decide)
            have a23 : z21.toInt = v22_3.toInt + 1 := ai_add ez21 r3 tl_1 (by decide)
            refine lv_iinc (v := z21) (lv' := [(3, .int z21), (2, .int r10), (4, .int r10), (0, .ref q), (1, .int v22_1)]) hx hb dX9_first_68 hl (k := 4) rfl (by rw [ez21]; rfl) (by decide) rfl (fun ls hl => ?_)
            refine lv_goto (tgt := 22) hx hb dX9_first_71 (by decide) ?_
            exact ih22 _ _ _ _ v22_1 r10 z21 (fu_s hfu22 a23 (by decide)) hI hH (rg_w r18 (by decide)) (rg_w r22 (by decide)) (lv_sub hl [3, 4, 1, 0] rfl)
          · skip
            have r24 : rg v22_2 0 40 := rf_nel (n_eq c19) r_v22_2 rl_m1 (by decide)
            refine lv_iload hx hb dX9_first_59 (lv_at hl 0 rfl) ?_
            refine lv_iload_n hx hb dX9_first_61 rfl (lv_at hl 3 rfl) ?_
            refine lv_icmp_ge (tgt := 68) hx hb dX9_first_62 (by decide) (fun c25 => ?_) (fun c25 => ?_)
            · skip
              obtain ⟨z26, ez26⟩ : ∃ y : Int32, y = v22_3 + (1 : Int32) := ⟨_, rfl⟩
              have r27 : rg z26 1 4 := rg_add ez26 r3 rl_1 (by decide)
              have a28 : z26.toInt = v22_3.toInt + 1 := ai_add ez26 r3 tl_1 (by decide)
              refine lv_iinc (v := z26) (lv' := [(3, .int z26), (4, .int r10), (0, .ref q), (1, .int v22_1), (2, .int v22_2)]) hx hb dX9_first_68 hl (k := 4) rfl (by rw [ez26]; rfl) (by decide) rfl (fun ls hl => ?_)
              refine lv_goto (tgt := 22) hx hb dX9_first_71 (by decide) ?_
              exact ih22 _ _ _ _ v22_1 v22_2 z26 (fu_s hfu22 a28 (by decide)) hI hH (rg_w r24 (by decide)) (rg_w r27 (by decide)) (lv_sub hl [2, 3, 4, 0] rfl)
            · skip
              have r29 : rg r10 0 39 := rf_ltl (n_le c25) r18 r24 (by decide)
              have r30 : rg v22_2 1 40 := rf_ltr (n_le c25) r18 r24 (by decide)
              refine lv_iload hx hb dX9_first_65 (lv_at hl 0 rfl) ?_
              refine lv_istore_n (lv' := [(2, .int r10), (4, .int r10), (0, .ref q), (1, .int v22_1), (3, .int v22_3)]) hx hb dX9_first_67 rfl hl (by decide) rfl (fun ls hl => ?_)
              obtain ⟨z31, ez31⟩ : ∃ y : Int32, y = v22_3 + (1 : Int32) := ⟨_, rfl⟩
              have r32 : rg z31 1 4 := rg_add ez31 r3 rl_1 (by decide)
              have a33 : z31.toInt = v22_3.toInt + 1 := ai_add ez31 r3 tl_1 (by decide)
              refine lv_iinc (v := z31) (lv' := [(3, .int z31), (2, .int r10), (4, .int r10), (0, .ref q), (1, .int v22_1)]) hx hb dX9_first_68 hl (k := 4) rfl (by rw [ez31]; rfl) (by decide) rfl (fun ls hl => ?_)
              refine lv_goto (tgt := 22) hx hb dX9_first_71 (by decide) ?_
              exact ih22 _ _ _ _ v22_1 r10 z31 (fu_s hfu22 a33 (by decide)) hI hH (rg_w r29 (by decide)) (rg_w r32 (by decide)) (lv_sub hl [3, 4, 1, 0] rfl)
  refine lv_aload_n hx hb dX9_first_0 rfl (lv_at hl 0 rfl) ?_
  refine t_getX C hH hI.1 mq tq td_0 iX9 rfl 1 (by decide) wd414 rfl (hI.rf kq_1) dX9_first_1 ?_
  refine t_Vi C hO hl.1 hA hH hI.1 (As := []) (rest := []) (t_X3_isNone l E J τ L f hI.1 mq_1 tq_1) my_X3_isNone wd473 mq_1 tq_1 td_3 rfl rfl rfl (Nat.le_of_ble_eq_true rfl) ⟨Nat.le_of_ble_eq_true rfl, Nat.le_of_ble_eq_true rfl⟩ ⟨rfl, rfl⟩ dX9_first_4 (fun r35 L1 f34 H locs hp hH => ?_)
  obtain ⟨rfl, s36, h37⟩ := hp
  have hI := hI.call s36 (by decide)
  refine lv_if_eq (tgt := 13) hx hb dX9_first_7 (by decide) (fun c38 => ?_) (fun c38 => ?_)
  · skip
    have r39 : rg r35 0 0 := rf_eql (c_eq c38) h37 rl_0 (by decide)
    refine lv_aload_n hx hb dX9_first_13 rfl (lv_at hl 0 rfl) ?_
    refine t_Vi C hO hl.1 hA hH hI.1 (As := []) (rest := []) (t_X9_earshotOfUnpaid l E J τ L f34 hI.1 mq tq) my_X9_earshotOfUnpaid wd542 mq tq td_0 rfl rfl rfl (Nat.le_of_ble_eq_true rfl) ⟨Nat.le_of_ble_eq_true rfl, Nat.le_of_ble_eq_true rfl⟩ ⟨rfl, rfl⟩ dX9_first_14 (fun r41 L1 f40 H locs hp hH => ?_)
    obtain ⟨rfl, s42, h43⟩ := hp
    have hI := hI.call s42 (by decide)
    refine lv_istore_n (lv' := [(1, .int r41), (0, .ref q)]) hx hb dX9_first_17 rfl hl (by decide) rfl (fun ls hl => ?_)
    refine lv_iconst (v := (-1 : Int32)) hx hb dX9_first_18 (by decide) ?_
    refine lv_istore_n (lv' := [(2, .int (-1 : Int32)), (1, .int r41), (0, .ref q)]) hx hb dX9_first_19 rfl hl (by decide) rfl (fun ls hl => ?_)
    refine lv_iconst (v := (0 : Int32)) hx hb dX9_first_20 (by decide) ?_
    refine lv_istore_n (lv' := [(3, .int (0 : Int32)), (2, .int (-1 : Int32)), (1, .int r41), (0, .ref q)]) hx hb dX9_first_21 rfl hl (by decide) rfl (fun ls hl => ?_)
    exact cut22 5 _ _ _ _ r41 (-1 : Int32) (0 : Int32) (fu_i 5 rl_0 (by decide)) hI hH (rg_w rl_m1 (by decide)) (rg_w rl_0 (by decide)) (lv_sub hl [3, 2, 1, 0] rfl)
  · skip
    have r44 : rg r35 1 1 := rf_nel (n_eq c38) h37 rl_0 (by decide)
    refine lv_bipush (v := (-2 : Int32)) hx hb dX9_first_10 (by decide) ?_
    exact g_iret C hr hH (Nat.zero_le _) (Nat.zero_le _) dX9_first_12 ⟨rfl, hI, (rg_w rl_m2 (by decide))⟩
set_option maxHeartbeats 4000000 in
set_option maxRecDepth 100000 in
theorem t_X9_lacks (l : Launch) (E : gE) (J : Nat → Nat) (τ : Nat → Nat) (L : List Nat) (f : gF) (hI : tI E L τ f) {q : Nat} (mq : q ∈ L) (tq : τ q = 0) : tMi l E J yX9_lacks cX9_lacks 5 .int (gRm (5) 0 0) [.ref q] L f (tPi E L τ [19, 20, 21, 23] f (fun r f1 => rg r (-2147483648) 2147483647)) := by
  refine tMi.intro (by decide) (Nat.le_of_ble_eq_true rfl) ?_
  intro p e s m below meth c A ls C hr hA hO hH hl
  have C : gC E cX9_lacks 5 RX9 p s m _ meth c := C
  have hl : lv_has ls 5 [(0, .ref q)] := hl
  have hx := C.1
  have hb := C.2.1
  have hI := hI.S [19, 20, 21, 23]
  obtain ⟨q_1, mq_1, tq_1, kq_1⟩ := t_fldr hI.1 mq tq td_0 (k := 1) rfl
  obtain ⟨q_1_14, mq_1_14, tq_1_14, kq_1_14⟩ := t_fldr hI.1 mq_1 tq_1 td_3 (k := 14) rfl
  obtain ⟨q_5, mq_5, tq_5, kq_5⟩ := t_fldr hI.1 mq tq td_0 (k := 5) rfl
  obtain ⟨q_1_13, mq_1_13, tq_1_13, kq_1_13⟩ := t_fldr hI.1 mq_1 tq_1 td_3 (k := 13) rfl
  have cut23 : ∀ (n : Nat) (fh23 : gF) (H : Heap) (locs : List Loc) (ls : Array Slot) (v23_1 : Int32) (v23_2 : Int32) (v23_3 : Int32), 6 - v23_3.toInt < (n : Int) → tS E L τ [19, 20, 21, 23] f fh23 → gH E A L fh23 s.heap H locs → rg v23_1 (-1) 5 → rg v23_2 0 2147483647 → rg v23_3 0 6 → lv_has ls 5 [(0, .ref q), (1, .int v23_1), (2, .int v23_2), (3, .int v23_3)] → W p l e (gRm (5) 0 0) s m [.ref q].toArray below meth c H locs 0 0 (MQ below (gQi E A (tPi E L τ [19, 20, 21, 23] f (fun r f1 => rg r (-2147483648) 2147483647))) [.ref q].toArray s (gRm (5) 0 0).cells (gRm (5) 0 0).slots A) (F0 m 23 ls []) := by
    intro n
    induction n with
    | zero =>
      intro fh23 H locs ls v23_1 v23_2 v23_3 hfu23 hI hH r_v23_1 r_v23_2 r_v23_3 hl
      exact (fu_0 hfu23 r_v23_3).elim
    | succ n ih23 =>
      intro fh23 H locs ls v23_1 v23_2 v23_3 hfu23 hI hH r_v23_1 r_v23_2 r_v23_3 hl
      refine lv_iload_n hx hb dX9_lacks_23 rfl (lv_at hl 3 rfl) ?_
      refine lv_aload_n hx hb dX9_lacks_24 rfl (lv_at hl 0 rfl) ?_
      refine t_getX C hH hI.1 mq tq td_0 iX9 rfl 1 (by decide) wd414 rfl (hI.rf kq_1) dX9_lacks_25 ?_
      refine t_geti C hH hI.1 mq_1 tq_1 td_3 iX3 rfl 7 (by decide) wd437 rfl rfl dX9_lacks_28 (fun z1 rz1 => ?_)
      refine lv_icmp_ge (tgt := 79) hx hb dX9_lacks_31 (by decide) (fun c2 => ?_) (fun c2 => ?_)
      · skip
        refine lv_iload_n hx hb dX9_lacks_79 rfl (lv_at hl 1 rfl) ?_
        exact g_iret C hr hH (Nat.zero_le _) (Nat.zero_le _) dX9_lacks_80 ⟨rfl, hI, (rg_w r_v23_1 (by decide))⟩
      · skip
        have r3 : rg v23_3 0 5 := rf_ltl (n_le c2) r_v23_3 rz1 (by decide)
        have r4 : rg z1 1 6 := rf_ltr (n_le c2) r_v23_3 rz1 (by decide)
        refine lv_aload_n hx hb dX9_lacks_34 rfl (lv_at hl 0 rfl) ?_
        refine t_getX C hH hI.1 mq tq td_0 iX9 rfl 1 (by decide) wd414 rfl (hI.rf kq_1) dX9_lacks_35 ?_
        refine t_getX C hH hI.1 mq_1 tq_1 td_3 iX3 rfl 14 (by decide) wd438 rfl (hI.rf kq_1_14) dX9_lacks_38 ?_
        refine lv_iload_n hx hb dX9_lacks_41 rfl (lv_at hl 3 rfl) ?_
        refine t_ald C hH hI.1 mq_1_14 tq_1_14 td_8 (rg_in r3 (by decide)) dX9_lacks_42 (fun z5v az5 _ => ?_)
        refine lv_topi (fun z5 ez5 => ?_)
        refine lv_aload_n hx hb dX9_lacks_43 rfl (lv_at hl 0 rfl) ?_
        refine t_getX C hH hI.1 mq tq td_0 iX9 rfl 5 (by decide) wd425 rfl (hI.rf kq_5) dX9_lacks_44 ?_
        refine lv_aload_n hx hb dX9_lacks_47 rfl (lv_at hl 0 rfl) ?_
        refine t_getX C hH hI.1 mq tq td_0 iX9 rfl 1 (by decide) wd414 rfl (hI.rf kq_1) dX9_lacks_48 ?_
        refine t_getX C hH hI.1 mq_1 tq_1 td_3 iX3 rfl 13 (by decide) wd464 rfl (hI.rf kq_1_13) dX9_lacks_51 ?_
        refine lv_iload_n hx hb dX9_lacks_54 rfl (lv_at hl 3 rfl) ?_
        refine t_aldR C hH hI.1 mq_1_13 tq_1_13 td_7 (rg_in r3 (by decide)) dX9_lacks_55 (fun z6 rz6 => ?_)
        refine t_Vi C hO hl.1 hA hH hI.1 (As := [.int z6]) (rest := [.int z5]) (t_X7_heardIn l E J τ L fh23 hI.1 mq_5 tq_5 z6 rz6) my_X7_heardIn wd530 mq_5 tq_5 td_19 rfl rfl rfl (Nat.le_of_ble_eq_true rfl) ⟨Nat.le_of_ble_eq_true rfl, Nat.le_of_ble_eq_true rfl⟩ ⟨rfl, rfl⟩ dX9_lacks_56 (fun r8 L1 f7 H locs hp hH => ?_)
        obtain ⟨rfl, s9, h10⟩ := hp
        have hI := hI.call s9 (by decide)
        refine lv_isub hx hb dX9_lacks_59 ?_
        refine lv_topi (fun z11 ez11 => ?_)
        refine lv_istore (lv' := [(4, .int z11), (0, .ref q), (1, .int v23_1), (2, .int v23_2), (3, .int v23_3)]) hx hb dX9_lacks_60 hl (by decide) rfl (fun ls hl => ?_)
        refine lv_iload hx hb dX9_lacks_62 (lv_at hl 0 rfl) ?_
        refine lv_iload_n hx hb dX9_lacks_64 rfl (lv_at hl 3 rfl) ?_
        refine lv_icmp_le (tgt := 73) hx hb dX9_lacks_65 (by decide) (fun c12 => ?_) (fun c12 => ?_)
        · skip
          obtain ⟨z13, ez13⟩ : ∃ y : Int32, y = v23_3 + (1 : Int32) := ⟨_, rfl⟩
          have r14 : rg z13 1 6 := rg_add ez13 r3 rl_1 (by decide)
          have a15 : z13.toInt = v23_3.toInt + 1 := ai_add ez13 r3 tl_1 (by decide)
          refine lv_iinc (v := z13) (lv' := [(3, .int z13), (4, .int z11), (0, .ref q), (1, .int v23_1), (2, .int v23_2)]) hx hb dX9_lacks_73 hl (k := 4) rfl (by rw [ez13]; rfl) (by decide) rfl (fun ls hl => ?_)
          refine lv_goto (tgt := 23) hx hb dX9_lacks_76 (by decide) ?_
          exact ih23 _ _ _ _ v23_1 v23_2 z13 (fu_s hfu23 a15 (by decide)) hI hH r_v23_1 r_v23_2 (rg_w r14 (by decide)) (lv_sub hl [2, 3, 4, 0] rfl)
        · skip
          have r16 : rg v23_2 0 2147483646 := rf_ltl (n_le c12) r_v23_2 (rg_all _) (by decide)
          have r17 : rg z11 1 2147483647 := rf_ltr (n_le c12) r_v23_2 (rg_all _) (by decide)
          refine lv_iload hx hb dX9_lacks_68 (lv_at hl 0 rfl) ?_
          refine lv_istore_n (lv' := [(2, .int z11), (4, .int z11), (0, .ref q), (1, .int v23_1), (3, .int v23_3)]) hx hb dX9_lacks_70 rfl hl (by decide) rfl (fun ls hl => ?_)
          refine lv_iload_n hx hb dX9_lacks_71 rfl (lv_at hl 4 rfl) ?_
          refine lv_istore_n (lv' := [(1, .int v23_3), (2, .int z11), (4, .int z11), (0, .ref q), (3, .int v23_3)]) hx hb dX9_lacks_72 rfl hl (by decide) rfl (fun ls hl => ?_)
          obtain ⟨z18, ez18⟩ : ∃ y : Int32, y = v23_3 + (1 : Int32) := ⟨_, rfl⟩
          have r19 : rg z18 1 6 := rg_add ez18 r3 rl_1 (by decide)
          have a20 : z18.toInt = v23_3.toInt + 1 := ai_add ez18 r3 tl_1 (by decide)
          refine lv_iinc (v := z18) (lv' := [(3, .int z18), (1, .int v23_3), (2, .int z11), (4, .int z11), (0, .ref q)]) hx hb dX9_lacks_73 hl (k := 4) rfl (by rw [ez18]; rfl) (by decide) rfl (fun ls hl => ?_)
          refine lv_goto (tgt := 23) hx hb dX9_lacks_76 (by decide) ?_
          exact ih23 _ _ _ _ v23_3 z11 z18 (fu_s hfu23 a20 (by decide)) hI hH (rg_w r3 (by decide)) (rg_w r17 (by decide)) (rg_w r19 (by decide)) (lv_sub hl [4, 1, 2, 0] rfl)
  refine lv_aload_n hx hb dX9_lacks_0 rfl (lv_at hl 0 rfl) ?_
  refine t_getX C hH hI.1 mq tq td_0 iX9 rfl 1 (by decide) wd414 rfl (hI.rf kq_1) dX9_lacks_1 ?_
  refine t_Vi C hO hl.1 hA hH hI.1 (As := []) (rest := []) (t_X3_isNone l E J τ L f hI.1 mq_1 tq_1) my_X3_isNone wd473 mq_1 tq_1 td_3 rfl rfl rfl (Nat.le_of_ble_eq_true rfl) ⟨Nat.le_of_ble_eq_true rfl, Nat.le_of_ble_eq_true rfl⟩ ⟨rfl, rfl⟩ dX9_lacks_4 (fun r22 L1 f21 H locs hp hH => ?_)
  obtain ⟨rfl, s23, h24⟩ := hp
  have hI := hI.call s23 (by decide)
  refine lv_if_eq (tgt := 13) hx hb dX9_lacks_7 (by decide) (fun c25 => ?_) (fun c25 => ?_)
  · skip
    have r26 : rg r22 0 0 := rf_eql (c_eq c25) h24 rl_0 (by decide)
    refine lv_aload_n hx hb dX9_lacks_13 rfl (lv_at hl 0 rfl) ?_
    refine t_Vv C hO hl.1 hA hH hI.1 (As := []) (rest := []) (t_X9_passNow l E J τ L f21 hI.1 mq tq) my_X9_passNow wd443 mq tq td_0 rfl rfl rfl (Nat.le_of_ble_eq_true rfl) ⟨Nat.le_of_ble_eq_true rfl, Nat.le_of_ble_eq_true rfl⟩ ⟨rfl, rfl⟩ dX9_lacks_14 (fun L1 f27 H locs hp hH => ?_)
    obtain ⟨rfl, s29, h30⟩ := hp
    have hI := hI.call s29 (by decide)
    refine lv_iconst (v := (-1 : Int32)) hx hb dX9_lacks_17 (by decide) ?_
    refine lv_istore_n (lv' := [(1, .int (-1 : Int32)), (0, .ref q)]) hx hb dX9_lacks_18 rfl hl (by decide) rfl (fun ls hl => ?_)
    refine lv_iconst (v := (0 : Int32)) hx hb dX9_lacks_19 (by decide) ?_
    refine lv_istore_n (lv' := [(2, .int (0 : Int32)), (1, .int (-1 : Int32)), (0, .ref q)]) hx hb dX9_lacks_20 rfl hl (by decide) rfl (fun ls hl => ?_)
    refine lv_iconst (v := (0 : Int32)) hx hb dX9_lacks_21 (by decide) ?_
    refine lv_istore_n (lv' := [(3, .int (0 : Int32)), (2, .int (0 : Int32)), (1, .int (-1 : Int32)), (0, .ref q)]) hx hb dX9_lacks_22 rfl hl (by decide) rfl (fun ls hl => ?_)
    exact cut23 7 _ _ _ _ (-1 : Int32) (0 : Int32) (0 : Int32) (fu_i 7 rl_0 (by decide)) hI hH (rg_w rl_m1 (by decide)) (rg_w rl_0 (by decide)) (rg_w rl_0 (by decide)) (lv_sub hl [3, 2, 1, 0] rfl)
  · skip
    have r31 : rg r22 1 1 := rf_nel (n_eq c25) h24 rl_0 (by decide)
    refine lv_bipush (v := (-2 : Int32)) hx hb dX9_lacks_10 (by decide) ?_
    exact g_iret C hr hH (Nat.zero_le _) (Nat.zero_le _) dX9_lacks_12 ⟨rfl, hI, (rg_w rl_m2 (by decide))⟩
set_option maxHeartbeats 4000000 in
set_option maxRecDepth 100000 in
theorem t_X9_near (l : Launch) (E : gE) (J : Nat → Nat) (τ : Nat → Nat) (L : List Nat) (f : gF) (hI : tI E L τ f) {q : Nat} (mq : q ∈ L) (tq : τ q = 0) (p1 : Int32) : tMi l E J yX9_near cX9_near 2 .int (gRm (6) 0 0) [.ref q, .int p1] L f (tPi E L τ [19, 20, 21] f (fun r f1 => rg r (-2147483648) 2147483647)) := by
  refine tMi.intro (by decide) (Nat.le_of_ble_eq_true rfl) ?_
  intro p e s m below meth c A ls C hr hA hO hH hl
  have C : gC E cX9_near 2 RX9 p s m _ meth c := C
  have hl : lv_has ls 2 [(0, .ref q), (1, .int p1)] := hl
  have hx := C.1
  have hb := C.2.1
  have hI := hI.S [19, 20, 21]
  obtain ⟨q_1, mq_1, tq_1, kq_1⟩ := t_fldr hI.1 mq tq td_0 (k := 1) rfl
  refine lv_aload_n hx hb dX9_near_0 rfl (lv_at hl 0 rfl) ?_
  refine t_getX C hH hI.1 mq tq td_0 iX9 rfl 1 (by decide) wd414 rfl (hI.rf kq_1) dX9_near_1 ?_
  refine lv_iload_n hx hb dX9_near_4 rfl (lv_at hl 1 rfl) ?_
  refine t_Vi C hO hl.1 hA hH hI.1 (As := [.int p1]) (rest := []) (t_X3_hasMember l E J τ L f hI.1 mq_1 tq_1 p1) my_X3_hasMember wd418 mq_1 tq_1 td_3 rfl rfl rfl (Nat.le_of_ble_eq_true rfl) ⟨Nat.le_of_ble_eq_true rfl, Nat.le_of_ble_eq_true rfl⟩ ⟨rfl, rfl⟩ dX9_near_5 (fun r2 L1 f1 H locs hp hH => ?_)
  obtain ⟨rfl, s3, h4⟩ := hp
  have hI := hI.call s3 (by decide)
  refine lv_if_ne (tgt := 14) hx hb dX9_near_8 (by decide) (fun c5 => ?_) (fun c5 => ?_)
  · skip
    have r6 : rg r2 1 1 := rf_nel (n_eq c5) h4.1 rl_0 (by decide)
    have r7 : rg p1 0 5 := h4.2 c5
    refine lv_aload_n hx hb dX9_near_14 rfl (lv_at hl 0 rfl) ?_
    refine lv_aload_n hx hb dX9_near_15 rfl (lv_at hl 0 rfl) ?_
    refine t_getX C hH hI.1 mq tq td_0 iX9 rfl 1 (by decide) wd414 rfl (hI.rf kq_1) dX9_near_16 ?_
    refine lv_iload_n hx hb dX9_near_19 rfl (lv_at hl 1 rfl) ?_
    refine t_Vi C hO hl.1 hA hH hI.1 (As := [.int p1]) (rest := [.ref q]) (t_X3_earshot l E J τ L f1 hI.1 mq_1 tq_1 p1 r7) my_X3_earshot wd439 mq_1 tq_1 td_3 rfl rfl rfl (Nat.le_of_ble_eq_true rfl) ⟨Nat.le_of_ble_eq_true rfl, Nat.le_of_ble_eq_true rfl⟩ ⟨rfl, rfl⟩ dX9_near_20 (fun r9 L1 f8 H locs hp hH => ?_)
    obtain ⟨rfl, s10, h11⟩ := hp
    have hI := hI.call s10 (by decide)
    refine t_Vi C hO hl.1 hA hH hI.1 (As := [.int r9]) (rest := []) (t_X9_flightsOver l E J τ L f8 hI.1 mq tq r9) my_X9_flightsOver wd521 mq tq td_0 rfl rfl rfl (Nat.le_of_ble_eq_true rfl) ⟨Nat.le_of_ble_eq_true rfl, Nat.le_of_ble_eq_true rfl⟩ ⟨rfl, rfl⟩ dX9_near_23 (fun r13 L1 f12 H locs hp hH => ?_)
    obtain ⟨rfl, s14, h15⟩ := hp
    have hI := hI.call s14 (by decide)
    exact g_iret C hr hH (Nat.zero_le _) (Nat.zero_le _) dX9_near_26 ⟨rfl, hI, h15⟩
  · skip
    have r16 : rg r2 0 0 := rf_eql (c_eq c5) h4.1 rl_0 (by decide)
    refine lv_bipush (v := (-2 : Int32)) hx hb dX9_near_11 (by decide) ?_
    exact g_iret C hr hH (Nat.zero_le _) (Nat.zero_le _) dX9_near_13 ⟨rfl, hI, (rg_w rl_m2 (by decide))⟩
set_option maxHeartbeats 4000000 in
set_option maxRecDepth 100000 in
theorem t_X9_lone (l : Launch) (E : gE) (J : Nat → Nat) (τ : Nat → Nat) (L : List Nat) (f : gF) (hI : tI E L τ f) {q : Nat} (mq : q ∈ L) (tq : τ q = 0) : tMi l E J yX9_lone cX9_lone 1 .int (gRm (5) 0 0) [.ref q] L f (tPi E L τ [19, 20, 21, 23] f (fun r f1 => rg r (-2147483648) 2147483647)) := by
  refine tMi.intro (by decide) (Nat.le_of_ble_eq_true rfl) ?_
  intro p e s m below meth c A ls C hr hA hO hH hl
  have C : gC E cX9_lone 1 RX9 p s m _ meth c := C
  have hl : lv_has ls 1 [(0, .ref q)] := hl
  have hx := C.1
  have hb := C.2.1
  have hI := hI.S [19, 20, 21, 23]
  obtain ⟨q_1, mq_1, tq_1, kq_1⟩ := t_fldr hI.1 mq tq td_0 (k := 1) rfl
  obtain ⟨q_5, mq_5, tq_5, kq_5⟩ := t_fldr hI.1 mq tq td_0 (k := 5) rfl
  refine lv_aload_n hx hb dX9_lone_0 rfl (lv_at hl 0 rfl) ?_
  refine t_getX C hH hI.1 mq tq td_0 iX9 rfl 1 (by decide) wd414 rfl (hI.rf kq_1) dX9_lone_1 ?_
  refine t_Vi C hO hl.1 hA hH hI.1 (As := []) (rest := []) (t_X3_isNone l E J τ L f hI.1 mq_1 tq_1) my_X3_isNone wd473 mq_1 tq_1 td_3 rfl rfl rfl (Nat.le_of_ble_eq_true rfl) ⟨Nat.le_of_ble_eq_true rfl, Nat.le_of_ble_eq_true rfl⟩ ⟨rfl, rfl⟩ dX9_lone_4 (fun r2 L1 f1 H locs hp hH => ?_)
  obtain ⟨rfl, s3, h4⟩ := hp
  have hI := hI.call s3 (by decide)
  refine lv_if_eq (tgt := 13) hx hb dX9_lone_7 (by decide) (fun c5 => ?_) (fun c5 => ?_)
  · skip
    have r6 : rg r2 0 0 := rf_eql (c_eq c5) h4 rl_0 (by decide)
    refine lv_aload_n hx hb dX9_lone_13 rfl (lv_at hl 0 rfl) ?_
    refine t_Vv C hO hl.1 hA hH hI.1 (As := []) (rest := []) (t_X9_passNow l E J τ L f1 hI.1 mq tq) my_X9_passNow wd443 mq tq td_0 rfl rfl rfl (Nat.le_of_ble_eq_true rfl) ⟨Nat.le_of_ble_eq_true rfl, Nat.le_of_ble_eq_true rfl⟩ ⟨rfl, rfl⟩ dX9_lone_14 (fun L1 f7 H locs hp hH => ?_)
    obtain ⟨rfl, s9, h10⟩ := hp
    have hI := hI.call s9 (by decide)
    refine lv_aload_n hx hb dX9_lone_17 rfl (lv_at hl 0 rfl) ?_
    refine t_getX C hH hI.1 mq tq td_0 iX9 rfl 5 (by decide) wd425 rfl (hI.rf kq_5) dX9_lone_18 ?_
    refine t_Vi C hO hl.1 hA hH hI.1 (As := []) (rest := []) (t_X7_deafBits l E J τ L f7 hI.1 mq_5 tq_5) my_X7_deafBits wd448 mq_5 tq_5 td_19 rfl rfl rfl (Nat.le_of_ble_eq_true rfl) ⟨Nat.le_of_ble_eq_true rfl, Nat.le_of_ble_eq_true rfl⟩ ⟨rfl, rfl⟩ dX9_lone_21 (fun r12 L1 f11 H locs hp hH => ?_)
    obtain ⟨rfl, s13, h14⟩ := hp
    have hI := hI.call s13 (by decide)
    exact g_iret C hr hH (Nat.zero_le _) (Nat.zero_le _) dX9_lone_24 ⟨rfl, hI, (rg_w h14 (by decide))⟩
  · skip
    have r15 : rg r2 1 1 := rf_nel (n_eq c5) h4 rl_0 (by decide)
    refine lv_bipush (v := (-2 : Int32)) hx hb dX9_lone_10 (by decide) ?_
    exact g_iret C hr hH (Nat.zero_le _) (Nat.zero_le _) dX9_lone_12 ⟨rfl, hI, (rg_w rl_m2 (by decide))⟩
set_option maxHeartbeats 4000000 in
set_option maxRecDepth 100000 in
theorem t_X9_meets (l : Launch) (E : gE) (J : Nat → Nat) (τ : Nat → Nat) (L : List Nat) (f : gF) (hI : tI E L τ f) {q : Nat} (mq : q ∈ L) (tq : τ q = 0) (p1 : Int32) (p2 : Int32) : tMi l E J yX9_meets cX9_meets 3 .int (gRm (5) 0 0) [.ref q, .int p1, .int p2] L f (tPi E L τ [19, 20, 21, 22] f (fun r f1 => rg r (-2147483648) 2147483647)) := by
  refine tMi.intro (by decide) (Nat.le_of_ble_eq_true rfl) ?_
  intro p e s m below meth c A ls C hr hA hO hH hl
  have C : gC E cX9_meets 3 RX9 p s m _ meth c := C
  have hl : lv_has ls 3 [(0, .ref q), (1, .int p1), (2, .int p2)] := hl
  have hx := C.1
  have hb := C.2.1
  have hI := hI.S [19, 20, 21, 22]
  obtain ⟨q_1, mq_1, tq_1, kq_1⟩ := t_fldr hI.1 mq tq td_0 (k := 1) rfl
  obtain ⟨q_5, mq_5, tq_5, kq_5⟩ := t_fldr hI.1 mq tq td_0 (k := 5) rfl
  refine lv_aload_n hx hb dX9_meets_0 rfl (lv_at hl 0 rfl) ?_
  refine t_getX C hH hI.1 mq tq td_0 iX9 rfl 1 (by decide) wd414 rfl (hI.rf kq_1) dX9_meets_1 ?_
  refine lv_iload_n hx hb dX9_meets_4 rfl (lv_at hl 1 rfl) ?_
  refine t_Vi C hO hl.1 hA hH hI.1 (As := [.int p1]) (rest := []) (t_X3_hasFlight l E J τ L f hI.1 mq_1 tq_1 p1) my_X3_hasFlight wd502 mq_1 tq_1 td_3 rfl rfl rfl (Nat.le_of_ble_eq_true rfl) ⟨Nat.le_of_ble_eq_true rfl, Nat.le_of_ble_eq_true rfl⟩ ⟨rfl, rfl⟩ dX9_meets_5 (fun r2 L1 f1 H locs hp hH => ?_)
  obtain ⟨rfl, s3, h4⟩ := hp
  have hI := hI.call s3 (by decide)
  refine lv_if_eq (tgt := 22) hx hb dX9_meets_8 (by decide) (fun c5 => ?_) (fun c5 => ?_)
  · skip
    have r6 : rg r2 0 0 := rf_eql (c_eq c5) h4.1 rl_0 (by decide)
    refine lv_bipush (v := (-2 : Int32)) hx hb dX9_meets_22 (by decide) ?_
    exact g_iret C hr hH (Nat.zero_le _) (Nat.zero_le _) dX9_meets_24 ⟨rfl, hI, (rg_w rl_m2 (by decide))⟩
  · skip
    have r7 : rg r2 1 1 := rf_nel (n_eq c5) h4.1 rl_0 (by decide)
    have r8 : rg p1 0 3 := h4.2 c5
    refine lv_aload_n hx hb dX9_meets_11 rfl (lv_at hl 0 rfl) ?_
    refine t_getX C hH hI.1 mq tq td_0 iX9 rfl 1 (by decide) wd414 rfl (hI.rf kq_1) dX9_meets_12 ?_
    refine lv_iload_n hx hb dX9_meets_15 rfl (lv_at hl 2 rfl) ?_
    refine t_Vi C hO hl.1 hA hH hI.1 (As := [.int p2]) (rest := []) (t_X3_hasFlight l E J τ L f1 hI.1 mq_1 tq_1 p2) my_X3_hasFlight wd502 mq_1 tq_1 td_3 rfl rfl rfl (Nat.le_of_ble_eq_true rfl) ⟨Nat.le_of_ble_eq_true rfl, Nat.le_of_ble_eq_true rfl⟩ ⟨rfl, rfl⟩ dX9_meets_16 (fun r10 L1 f9 H locs hp hH => ?_)
    obtain ⟨rfl, s11, h12⟩ := hp
    have hI := hI.call s11 (by decide)
    refine lv_if_ne (tgt := 25) hx hb dX9_meets_19 (by decide) (fun c13 => ?_) (fun c13 => ?_)
    · skip
      have r14 : rg r10 1 1 := rf_nel (n_eq c13) h12.1 rl_0 (by decide)
      have r15 : rg p2 0 3 := h12.2 c13
      refine lv_aload_n hx hb dX9_meets_25 rfl (lv_at hl 0 rfl) ?_
      refine lv_iload_n hx hb dX9_meets_26 rfl (lv_at hl 1 rfl) ?_
      refine t_Vv C hO hl.1 hA hH hI.1 (As := [.int p1]) (rest := []) (t_X9_followNow l E J τ L f9 hI.1 mq tq p1 r8) my_X9_followNow wd454 mq tq td_0 rfl rfl rfl (Nat.le_of_ble_eq_true rfl) ⟨Nat.le_of_ble_eq_true rfl, Nat.le_of_ble_eq_true rfl⟩ ⟨rfl, rfl⟩ dX9_meets_27 (fun L1 f16 H locs hp hH => ?_)
      obtain ⟨rfl, s18, h19⟩ := hp
      have hI := hI.call s18 (by decide)
      refine lv_aload_n hx hb dX9_meets_30 rfl (lv_at hl 0 rfl) ?_
      refine t_getX C hH hI.1 mq tq td_0 iX9 rfl 5 (by decide) wd425 rfl (hI.rf kq_5) dX9_meets_31 ?_
      refine t_Vv C hO hl.1 hA hH hI.1 (As := []) (rest := []) (t_X7_keepTrack l E J τ L f16 hI.1 mq_5 tq_5) my_X7_keepTrack wd546 mq_5 tq_5 td_19 rfl rfl rfl (Nat.le_of_ble_eq_true rfl) ⟨Nat.le_of_ble_eq_true rfl, Nat.le_of_ble_eq_true rfl⟩ ⟨rfl, rfl⟩ dX9_meets_34 (fun L1 f20 H locs hp hH => ?_)
      obtain ⟨rfl, s22, h23⟩ := hp
      have hI := hI.call s22 (by decide)
      refine lv_aload_n hx hb dX9_meets_37 rfl (lv_at hl 0 rfl) ?_
      refine lv_iload_n hx hb dX9_meets_38 rfl (lv_at hl 2 rfl) ?_
      refine t_Vv C hO hl.1 hA hH hI.1 (As := [.int p2]) (rest := []) (t_X9_followNow l E J τ L f20 hI.1 mq tq p2 r15) my_X9_followNow wd454 mq tq td_0 rfl rfl rfl (Nat.le_of_ble_eq_true rfl) ⟨Nat.le_of_ble_eq_true rfl, Nat.le_of_ble_eq_true rfl⟩ ⟨rfl, rfl⟩ dX9_meets_39 (fun L1 f24 H locs hp hH => ?_)
      obtain ⟨rfl, s26, h27⟩ := hp
      have hI := hI.call s26 (by decide)
      refine lv_aload_n hx hb dX9_meets_42 rfl (lv_at hl 0 rfl) ?_
      refine t_getX C hH hI.1 mq tq td_0 iX9 rfl 5 (by decide) wd425 rfl (hI.rf kq_5) dX9_meets_43 ?_
      refine t_Vi C hO hl.1 hA hH hI.1 (As := []) (rest := []) (t_X7_firstMeeting l E J τ L f24 hI.1 mq_5 tq_5) my_X7_firstMeeting wd550 mq_5 tq_5 td_19 rfl rfl rfl (Nat.le_of_ble_eq_true rfl) ⟨Nat.le_of_ble_eq_true rfl, Nat.le_of_ble_eq_true rfl⟩ ⟨rfl, rfl⟩ dX9_meets_46 (fun r29 L1 f28 H locs hp hH => ?_)
      obtain ⟨rfl, s30, h31⟩ := hp
      have hI := hI.call s30 (by decide)
      exact g_iret C hr hH (Nat.zero_le _) (Nat.zero_le _) dX9_meets_49 ⟨rfl, hI, (rg_w h31 (by decide))⟩
    · skip
      have r32 : rg r10 0 0 := rf_eql (c_eq c13) h12.1 rl_0 (by decide)
      refine lv_bipush (v := (-2 : Int32)) hx hb dX9_meets_22 (by decide) ?_
      exact g_iret C hr hH (Nat.zero_le _) (Nat.zero_le _) dX9_meets_24 ⟨rfl, hI, (rg_w rl_m2 (by decide))⟩
set_option maxHeartbeats 4000000 in
set_option maxRecDepth 100000 in
theorem t_X9_spare (l : Launch) (E : gE) (J : Nat → Nat) (τ : Nat → Nat) (L : List Nat) (f : gF) (hI : tI E L τ f) {q : Nat} (mq : q ∈ L) (tq : τ q = 0) : tMi l E J yX9_spare cX9_spare 4 .int (gRm (5) 0 0) [.ref q] L f (tPi E L τ [19, 20, 21, 23] f (fun r f1 => rg r (-2147483648) 2147483647)) := by
  refine tMi.intro (by decide) (Nat.le_of_ble_eq_true rfl) ?_
  intro p e s m below meth c A ls C hr hA hO hH hl
  have C : gC E cX9_spare 4 RX9 p s m _ meth c := C
  have hl : lv_has ls 4 [(0, .ref q)] := hl
  have hx := C.1
  have hb := C.2.1
  have hI := hI.S [19, 20, 21, 23]
  obtain ⟨q_1, mq_1, tq_1, kq_1⟩ := t_fldr hI.1 mq tq td_0 (k := 1) rfl
  obtain ⟨q_5, mq_5, tq_5, kq_5⟩ := t_fldr hI.1 mq tq td_0 (k := 5) rfl
  obtain ⟨q_1_13, mq_1_13, tq_1_13, kq_1_13⟩ := t_fldr hI.1 mq_1 tq_1 td_3 (k := 13) rfl
  obtain ⟨q_1_14, mq_1_14, tq_1_14, kq_1_14⟩ := t_fldr hI.1 mq_1 tq_1 td_3 (k := 14) rfl
  have cut36 : ∀ (n : Nat) (fh36 : gF) (H : Heap) (locs : List Loc) (ls : Array Slot) (v36_1 : Int32) (v36_2 : Int32) (v36_3 : Int32), 6 - v36_3.toInt < (n : Int) → tS E L τ [19, 20, 21, 23] f fh36 → gH E A L fh36 s.heap H locs → rg v36_1 0 63 → rg v36_3 0 6 → lv_has ls 4 [(0, .ref q), (1, .int v36_1), (2, .int v36_2), (3, .int v36_3)] → W p l e (gRm (5) 0 0) s m [.ref q].toArray below meth c H locs 0 0 (MQ below (gQi E A (tPi E L τ [19, 20, 21, 23] f (fun r f1 => rg r (-2147483648) 2147483647))) [.ref q].toArray s (gRm (5) 0 0).cells (gRm (5) 0 0).slots A) (F0 m 36 ls []) := by
    intro n
    induction n with
    | zero =>
      intro fh36 H locs ls v36_1 v36_2 v36_3 hfu36 hI hH r_v36_1 r_v36_3 hl
      exact (fu_0 hfu36 r_v36_3).elim
    | succ n ih36 =>
      intro fh36 H locs ls v36_1 v36_2 v36_3 hfu36 hI hH r_v36_1 r_v36_3 hl
      refine lv_iload_n hx hb dX9_spare_36 rfl (lv_at hl 3 rfl) ?_
      refine lv_aload_n hx hb dX9_spare_37 rfl (lv_at hl 0 rfl) ?_
      refine t_getX C hH hI.1 mq tq td_0 iX9 rfl 1 (by decide) wd414 rfl (hI.rf kq_1) dX9_spare_38 ?_
      refine t_geti C hH hI.1 mq_1 tq_1 td_3 iX3 rfl 7 (by decide) wd437 rfl rfl dX9_spare_41 (fun z1 rz1 => ?_)
      refine lv_icmp_ge (tgt := 90) hx hb dX9_spare_44 (by decide) (fun c2 => ?_) (fun c2 => ?_)
      · skip
        refine lv_iload_n hx hb dX9_spare_90 rfl (lv_at hl 2 rfl) ?_
        exact g_iret C hr hH (Nat.zero_le _) (Nat.zero_le _) dX9_spare_91 ⟨rfl, hI, (rg_all _)⟩
      · skip
        have r3 : rg v36_3 0 5 := rf_ltl (n_le c2) r_v36_3 rz1 (by decide)
        have r4 : rg z1 1 6 := rf_ltr (n_le c2) r_v36_3 rz1 (by decide)
        refine lv_iload_n hx hb dX9_spare_47 rfl (lv_at hl 1 rfl) ?_
        refine lv_iload_n hx hb dX9_spare_48 rfl (lv_at hl 3 rfl) ?_
        refine t_Si C hO hl.1 hA hH (As := [.int v36_1, .int v36_3]) (rest := []) (t_hasBit62 l E J τ L fh36 hI.1 v36_1 r_v36_1 v36_3 r3) my_X9_hasBit wd457 rfl rfl (Nat.le_of_ble_eq_true rfl) ⟨Nat.le_of_ble_eq_true rfl, Nat.le_of_ble_eq_true rfl⟩ ⟨rfl, rfl⟩ dX9_spare_49 (fun r6 L1 f5 H locs hp hH => ?_)
        obtain ⟨rfl, s7, h8⟩ := hp
        have hI := hI.call s7 (by decide)
        refine lv_if_eq (tgt := 84) hx hb dX9_spare_52 (by decide) (fun c9 => ?_) (fun c9 => ?_)
        · skip
          have r10 : rg r6 0 0 := rf_eql (c_eq c9) h8.1 rl_0 (by decide)
          have r11 : rg v36_1 0 62 := h8.2 c9
          obtain ⟨z12, ez12⟩ : ∃ y : Int32, y = v36_3 + (1 : Int32) := ⟨_, rfl⟩
          have r13 : rg z12 1 6 := rg_add ez12 r3 rl_1 (by decide)
          have a14 : z12.toInt = v36_3.toInt + 1 := ai_add ez12 r3 tl_1 (by decide)
          refine lv_iinc (v := z12) (lv' := [(3, .int z12), (0, .ref q), (1, .int v36_1), (2, .int v36_2)]) hx hb dX9_spare_84 hl (k := 3) rfl (by rw [ez12]; rfl) (by decide) rfl (fun ls hl => ?_)
          refine lv_goto (tgt := 36) hx hb dX9_spare_87 (by decide) ?_
          exact ih36 _ _ _ _ v36_1 v36_2 z12 (fu_s hfu36 a14 (by decide)) hI hH (rg_w r11 (by decide)) (rg_w r13 (by decide)) (lv_sub hl [1, 2, 3, 0] rfl)
        · skip
          have r15 : rg r6 1 1 := rf_nel (n_eq c9) h8.1 rl_0 (by decide)
          refine lv_iload_n hx hb dX9_spare_55 rfl (lv_at hl 2 rfl) ?_
          refine lv_aload_n hx hb dX9_spare_56 rfl (lv_at hl 0 rfl) ?_
          refine t_getX C hH hI.1 mq tq td_0 iX9 rfl 5 (by decide) wd425 rfl (hI.rf kq_5) dX9_spare_57 ?_
          refine lv_aload_n hx hb dX9_spare_60 rfl (lv_at hl 0 rfl) ?_
          refine t_getX C hH hI.1 mq tq td_0 iX9 rfl 1 (by decide) wd414 rfl (hI.rf kq_1) dX9_spare_61 ?_
          refine t_getX C hH hI.1 mq_1 tq_1 td_3 iX3 rfl 13 (by decide) wd464 rfl (hI.rf kq_1_13) dX9_spare_64 ?_
          refine lv_iload_n hx hb dX9_spare_67 rfl (lv_at hl 3 rfl) ?_
          refine t_aldR C hH hI.1 mq_1_13 tq_1_13 td_7 (rg_in r3 (by decide)) dX9_spare_68 (fun z16 rz16 => ?_)
          refine t_Vi C hO hl.1 hA hH hI.1 (As := [.int z16]) (rest := [.int v36_2]) (t_X7_heardIn l E J τ L f5 hI.1 mq_5 tq_5 z16 rz16) my_X7_heardIn wd530 mq_5 tq_5 td_19 rfl rfl rfl (Nat.le_of_ble_eq_true rfl) ⟨Nat.le_of_ble_eq_true rfl, Nat.le_of_ble_eq_true rfl⟩ ⟨rfl, rfl⟩ dX9_spare_69 (fun r18 L1 f17 H locs hp hH => ?_)
          obtain ⟨rfl, s19, h20⟩ := hp
          have hI := hI.call s19 (by decide)
          refine lv_aload_n hx hb dX9_spare_72 rfl (lv_at hl 0 rfl) ?_
          refine t_getX C hH hI.1 mq tq td_0 iX9 rfl 1 (by decide) wd414 rfl (hI.rf kq_1) dX9_spare_73 ?_
          refine t_getX C hH hI.1 mq_1 tq_1 td_3 iX3 rfl 14 (by decide) wd438 rfl (hI.rf kq_1_14) dX9_spare_76 ?_
          refine lv_iload_n hx hb dX9_spare_79 rfl (lv_at hl 3 rfl) ?_
          refine t_ald C hH hI.1 mq_1_14 tq_1_14 td_8 (rg_in r3 (by decide)) dX9_spare_80 (fun z21v az21 _ => ?_)
          refine lv_topi (fun z21 ez21 => ?_)
          refine lv_isub hx hb dX9_spare_81 ?_
          refine lv_topi (fun z22 ez22 => ?_)
          refine lv_iadd hx hb dX9_spare_82 ?_
          refine lv_topi (fun z23 ez23 => ?_)
          refine lv_istore_n (lv' := [(2, .int z23), (0, .ref q), (1, .int v36_1), (3, .int v36_3)]) hx hb dX9_spare_83 rfl hl (by decide) rfl (fun ls hl => ?_)
          obtain ⟨z24, ez24⟩ : ∃ y : Int32, y = v36_3 + (1 : Int32) := ⟨_, rfl⟩
          have r25 : rg z24 1 6 := rg_add ez24 r3 rl_1 (by decide)
          have a26 : z24.toInt = v36_3.toInt + 1 := ai_add ez24 r3 tl_1 (by decide)
          refine lv_iinc (v := z24) (lv' := [(3, .int z24), (2, .int z23), (0, .ref q), (1, .int v36_1)]) hx hb dX9_spare_84 hl (k := 3) rfl (by rw [ez24]; rfl) (by decide) rfl (fun ls hl => ?_)
          refine lv_goto (tgt := 36) hx hb dX9_spare_87 (by decide) ?_
          exact ih36 _ _ _ _ v36_1 z23 z24 (fu_s hfu36 a26 (by decide)) hI hH r_v36_1 (rg_w r25 (by decide)) (lv_sub hl [2, 3, 1, 0] rfl)
  refine lv_aload_n hx hb dX9_spare_0 rfl (lv_at hl 0 rfl) ?_
  refine t_getX C hH hI.1 mq tq td_0 iX9 rfl 1 (by decide) wd414 rfl (hI.rf kq_1) dX9_spare_1 ?_
  refine t_Vi C hO hl.1 hA hH hI.1 (As := []) (rest := []) (t_X3_isNone l E J τ L f hI.1 mq_1 tq_1) my_X3_isNone wd473 mq_1 tq_1 td_3 rfl rfl rfl (Nat.le_of_ble_eq_true rfl) ⟨Nat.le_of_ble_eq_true rfl, Nat.le_of_ble_eq_true rfl⟩ ⟨rfl, rfl⟩ dX9_spare_4 (fun r28 L1 f27 H locs hp hH => ?_)
  obtain ⟨rfl, s29, h30⟩ := hp
  have hI := hI.call s29 (by decide)
  refine lv_if_eq (tgt := 13) hx hb dX9_spare_7 (by decide) (fun c31 => ?_) (fun c31 => ?_)
  · skip
    have r32 : rg r28 0 0 := rf_eql (c_eq c31) h30 rl_0 (by decide)
    refine lv_aload_n hx hb dX9_spare_13 rfl (lv_at hl 0 rfl) ?_
    refine lv_aload_n hx hb dX9_spare_14 rfl (lv_at hl 0 rfl) ?_
    refine t_getX C hH hI.1 mq tq td_0 iX9 rfl 1 (by decide) wd414 rfl (hI.rf kq_1) dX9_spare_15 ?_
    refine t_geti C hH hI.1 mq_1 tq_1 td_3 iX3 rfl 8 (by decide) wd426 rfl rfl dX9_spare_18 (fun z33 rz33 => ?_)
    refine lv_aload_n hx hb dX9_spare_21 rfl (lv_at hl 0 rfl) ?_
    refine t_getX C hH hI.1 mq tq td_0 iX9 rfl 1 (by decide) wd414 rfl (hI.rf kq_1) dX9_spare_22 ?_
    refine t_geti C hH hI.1 mq_1 tq_1 td_3 iX3 rfl 3 (by decide) wd427 rfl rfl dX9_spare_25 (fun z34 rz34 => ?_)
    refine t_Vi C hO hl.1 hA hH hI.1 (As := [.int z33, .int z34]) (rest := []) (t_X9_servedUnder l E J τ L f27 hI.1 mq tq z33 z34) my_X9_servedUnder wd435 mq tq td_0 rfl rfl rfl (Nat.le_of_ble_eq_true rfl) ⟨Nat.le_of_ble_eq_true rfl, Nat.le_of_ble_eq_true rfl⟩ ⟨rfl, rfl⟩ dX9_spare_28 (fun r36 L1 f35 H locs hp hH => ?_)
    obtain ⟨rfl, s37, h38⟩ := hp
    have hI := hI.call s37 (by decide)
    refine lv_istore_n (lv' := [(1, .int r36), (0, .ref q)]) hx hb dX9_spare_31 rfl hl (by decide) rfl (fun ls hl => ?_)
    refine lv_iconst (v := (0 : Int32)) hx hb dX9_spare_32 (by decide) ?_
    refine lv_istore_n (lv' := [(2, .int (0 : Int32)), (1, .int r36), (0, .ref q)]) hx hb dX9_spare_33 rfl hl (by decide) rfl (fun ls hl => ?_)
    refine lv_iconst (v := (0 : Int32)) hx hb dX9_spare_34 (by decide) ?_
    refine lv_istore_n (lv' := [(3, .int (0 : Int32)), (2, .int (0 : Int32)), (1, .int r36), (0, .ref q)]) hx hb dX9_spare_35 rfl hl (by decide) rfl (fun ls hl => ?_)
    exact cut36 7 _ _ _ _ r36 (0 : Int32) (0 : Int32) (fu_i 7 rl_0 (by decide)) hI hH h38 (rg_w rl_0 (by decide)) (lv_sub hl [3, 2, 1, 0] rfl)
  · skip
    have r39 : rg r28 1 1 := rf_nel (n_eq c31) h30 rl_0 (by decide)
    refine lv_bipush (v := (-2 : Int32)) hx hb dX9_spare_10 (by decide) ?_
    exact g_iret C hr hH (Nat.zero_le _) (Nat.zero_le _) dX9_spare_12 ⟨rfl, hI, (rg_w rl_m2 (by decide))⟩
set_option maxHeartbeats 4000000 in
set_option maxRecDepth 100000 in
theorem t_X9_calls (l : Launch) (E : gE) (J : Nat → Nat) (τ : Nat → Nat) (L : List Nat) (f : gF) (hI : tI E L τ f) {q : Nat} (mq : q ∈ L) (tq : τ q = 0) (p1 : Int32) : tMi l E J yX9_calls cX9_calls 2 .int (gRm (6) 0 0) [.ref q, .int p1] L f (tPi E L τ [19, 20, 21] f (fun r f1 => rg r (-2147483648) 2147483647)) := by
  refine tMi.intro (by decide) (Nat.le_of_ble_eq_true rfl) ?_
  intro p e s m below meth c A ls C hr hA hO hH hl
  have C : gC E cX9_calls 2 RX9 p s m _ meth c := C
  have hl : lv_has ls 2 [(0, .ref q), (1, .int p1)] := hl
  have hx := C.1
  have hb := C.2.1
  have hI := hI.S [19, 20, 21]
  obtain ⟨q_1, mq_1, tq_1, kq_1⟩ := t_fldr hI.1 mq tq td_0 (k := 1) rfl
  refine lv_aload_n hx hb dX9_calls_0 rfl (lv_at hl 0 rfl) ?_
  refine t_getX C hH hI.1 mq tq td_0 iX9 rfl 1 (by decide) wd414 rfl (hI.rf kq_1) dX9_calls_1 ?_
  refine t_Vi C hO hl.1 hA hH hI.1 (As := []) (rest := []) (t_X3_isNone l E J τ L f hI.1 mq_1 tq_1) my_X3_isNone wd473 mq_1 tq_1 td_3 rfl rfl rfl (Nat.le_of_ble_eq_true rfl) ⟨Nat.le_of_ble_eq_true rfl, Nat.le_of_ble_eq_true rfl⟩ ⟨rfl, rfl⟩ dX9_calls_4 (fun r2 L1 f1 H locs hp hH => ?_)
  obtain ⟨rfl, s3, h4⟩ := hp
  have hI := hI.call s3 (by decide)
  refine lv_if_ne (tgt := 17) hx hb dX9_calls_7 (by decide) (fun c5 => ?_) (fun c5 => ?_)
  · skip
    have r6 : rg r2 1 1 := rf_nel (n_eq c5) h4 rl_0 (by decide)
    refine lv_bipush (v := (-2 : Int32)) hx hb dX9_calls_17 (by decide) ?_
    exact g_iret C hr hH (Nat.zero_le _) (Nat.zero_le _) dX9_calls_19 ⟨rfl, hI, (rg_w rl_m2 (by decide))⟩
  · skip
    have r7 : rg r2 0 0 := rf_eql (c_eq c5) h4 rl_0 (by decide)
    refine lv_iload_n hx hb dX9_calls_10 rfl (lv_at hl 1 rfl) ?_
    refine t_Si C hO hl.1 hA hH (As := [.int p1]) (rest := []) (t_X9_isStep l E J τ L f1 hI.1 p1) my_X9_isStep wd507 rfl rfl (Nat.le_of_ble_eq_true rfl) ⟨Nat.le_of_ble_eq_true rfl, Nat.le_of_ble_eq_true rfl⟩ ⟨rfl, rfl⟩ dX9_calls_11 (fun r9 L1 f8 H locs hp hH => ?_)
    obtain ⟨rfl, s10, h11⟩ := hp
    have hI := hI.call s10 (by decide)
    refine lv_if_ne (tgt := 20) hx hb dX9_calls_14 (by decide) (fun c12 => ?_) (fun c12 => ?_)
    · skip
      have r13 : rg r9 1 1 := rf_nel (n_eq c12) h11.1 rl_0 (by decide)
      have r14 : rg p1 0 40 := h11.2 c12
      refine lv_aload_n hx hb dX9_calls_20 rfl (lv_at hl 0 rfl) ?_
      refine lv_aload_n hx hb dX9_calls_21 rfl (lv_at hl 0 rfl) ?_
      refine t_getX C hH hI.1 mq tq td_0 iX9 rfl 1 (by decide) wd414 rfl (hI.rf kq_1) dX9_calls_22 ?_
      refine t_Vi C hO hl.1 hA hH hI.1 (As := []) (rest := [.ref q]) (t_X3_allCells l E J τ L f8 hI.1 mq_1 tq_1) my_X3_allCells wd554 mq_1 tq_1 td_3 rfl rfl rfl (Nat.le_of_ble_eq_true rfl) ⟨Nat.le_of_ble_eq_true rfl, Nat.le_of_ble_eq_true rfl⟩ ⟨rfl, rfl⟩ dX9_calls_25 (fun r16 L1 f15 H locs hp hH => ?_)
      obtain ⟨rfl, s17, h18⟩ := hp
      have hI := hI.call s17 (by decide)
      refine lv_iload_n hx hb dX9_calls_28 rfl (lv_at hl 1 rfl) ?_
      refine t_Vi C hO hl.1 hA hH hI.1 (As := [.int r16, .int p1]) (rest := []) (t_X9_geeseWithin l E J τ L f15 hI.1 mq tq r16 p1 r14) my_X9_geeseWithin wd525 mq tq td_0 rfl rfl rfl (Nat.le_of_ble_eq_true rfl) ⟨Nat.le_of_ble_eq_true rfl, Nat.le_of_ble_eq_true rfl⟩ ⟨rfl, rfl⟩ dX9_calls_29 (fun r20 L1 f19 H locs hp hH => ?_)
      obtain ⟨rfl, s21, h22⟩ := hp
      have hI := hI.call s21 (by decide)
      exact g_iret C hr hH (Nat.zero_le _) (Nat.zero_le _) dX9_calls_32 ⟨rfl, hI, h22⟩
    · skip
      have r23 : rg r9 0 0 := rf_eql (c_eq c12) h11.1 rl_0 (by decide)
      refine lv_bipush (v := (-2 : Int32)) hx hb dX9_calls_17 (by decide) ?_
      exact g_iret C hr hH (Nat.zero_le _) (Nat.zero_le _) dX9_calls_19 ⟨rfl, hI, (rg_w rl_m2 (by decide))⟩
set_option maxHeartbeats 4000000 in
set_option maxRecDepth 100000 in
theorem t_X9_farthest (l : Launch) (E : gE) (J : Nat → Nat) (τ : Nat → Nat) (L : List Nat) (f : gF) (hI : tI E L τ f) {q : Nat} (mq : q ∈ L) (tq : τ q = 0) (p1 : Int32) : tMi l E J yX9_farthest cX9_farthest 6 .int (gRm (5) 0 0) [.ref q, .int p1] L f (tPi E L τ [19, 20, 21] f (fun r f1 => rg r (-2147483648) 2147483647)) := by
  refine tMi.intro (by decide) (Nat.le_of_ble_eq_true rfl) ?_
  intro p e s m below meth c A ls C hr hA hO hH hl
  have C : gC E cX9_farthest 6 RX9 p s m _ meth c := C
  have hl : lv_has ls 6 [(0, .ref q), (1, .int p1)] := hl
  have hx := C.1
  have hb := C.2.1
  have hI := hI.S [19, 20, 21]
  obtain ⟨q_1, mq_1, tq_1, kq_1⟩ := t_fldr hI.1 mq tq td_0 (k := 1) rfl
  obtain ⟨q_5, mq_5, tq_5, kq_5⟩ := t_fldr hI.1 mq tq td_0 (k := 5) rfl
  obtain ⟨q_1_10, mq_1_10, tq_1_10, kq_1_10⟩ := t_fldr hI.1 mq_1 tq_1 td_3 (k := 10) rfl
  have cut43 : ∀ (n : Nat) (fh43 : gF) (H : Heap) (locs : List Loc) (ls : Array Slot) (v43_2 : Int32) (v43_3 : Int32) (v43_4 : Int32) (v43_5 : Int32), 20 - v43_5.toInt < (n : Int) → tS E L τ [19, 20, 21] f fh43 → gH E A L fh43 s.heap H locs → rg v43_3 0 19 → rg v43_4 0 19 → rg v43_5 0 20 → rg p1 0 3 → lv_has ls 6 [(0, .ref q), (1, .int p1), (2, .int v43_2), (3, .int v43_3), (4, .int v43_4), (5, .int v43_5)] → W p l e (gRm (5) 0 0) s m [.ref q, .int p1].toArray below meth c H locs 0 0 (MQ below (gQi E A (tPi E L τ [19, 20, 21] f (fun r f1 => rg r (-2147483648) 2147483647))) [.ref q, .int p1].toArray s (gRm (5) 0 0).cells (gRm (5) 0 0).slots A) (F0 m 43 ls []) := by
    intro n
    induction n with
    | zero =>
      intro fh43 H locs ls v43_2 v43_3 v43_4 v43_5 hfu43 hI hH r_v43_3 r_v43_4 r_v43_5 r43_p1 hl
      exact (fu_0 hfu43 r_v43_5).elim
    | succ n ih43 =>
      intro fh43 H locs ls v43_2 v43_3 v43_4 v43_5 hfu43 hI hH r_v43_3 r_v43_4 r_v43_5 r43_p1 hl
      refine lv_iload hx hb dX9_farthest_43 (lv_at hl 5 rfl) ?_
      refine lv_aload_n hx hb dX9_farthest_45 rfl (lv_at hl 0 rfl) ?_
      refine t_getX C hH hI.1 mq tq td_0 iX9 rfl 1 (by decide) wd414 rfl (hI.rf kq_1) dX9_farthest_46 ?_
      refine t_Vi C hO hl.1 hA hH hI.1 (As := []) (rest := [.int v43_5]) (t_X3_cells l E J τ L fh43 hI.1 mq_1 tq_1) my_X3_cells wd459 mq_1 tq_1 td_3 rfl rfl rfl (Nat.le_of_ble_eq_true rfl) ⟨Nat.le_of_ble_eq_true rfl, Nat.le_of_ble_eq_true rfl⟩ ⟨rfl, rfl⟩ dX9_farthest_49 (fun r2 L1 f1 H locs hp hH => ?_)
      obtain ⟨rfl, s3, h4⟩ := hp
      have hI := hI.call s3 (by decide)
      refine lv_icmp_ge (tgt := 97) hx hb dX9_farthest_52 (by decide) (fun c5 => ?_) (fun c5 => ?_)
      · skip
        refine lv_iload hx hb dX9_farthest_97 (lv_at hl 4 rfl) ?_
        exact g_iret C hr hH (Nat.zero_le _) (Nat.zero_le _) dX9_farthest_99 ⟨rfl, hI, (rg_w r_v43_4 (by decide))⟩
      · skip
        have r6 : rg v43_5 0 19 := rf_ltl (n_le c5) r_v43_5 h4 (by decide)
        have r7 : rg r2 1 20 := rf_ltr (n_le c5) r_v43_5 h4 (by decide)
        refine lv_iload_n hx hb dX9_farthest_55 rfl (lv_at hl 2 rfl) ?_
        refine lv_iload hx hb dX9_farthest_56 (lv_at hl 5 rfl) ?_
        refine t_Si C hO hl.1 hA hH (As := [.int v43_2, .int v43_5]) (rest := []) (t_X9_hasBit l E J τ L f1 hI.1 v43_2 v43_5) my_X9_hasBit wd457 rfl rfl (Nat.le_of_ble_eq_true rfl) ⟨Nat.le_of_ble_eq_true rfl, Nat.le_of_ble_eq_true rfl⟩ ⟨rfl, rfl⟩ dX9_farthest_58 (fun r9 L1 f8 H locs hp hH => ?_)
        obtain ⟨rfl, s10, h11⟩ := hp
        have hI := hI.call s10 (by decide)
        refine lv_if_eq (tgt := 91) hx hb dX9_farthest_61 (by decide) (fun c12 => ?_) (fun c12 => ?_)
        · skip
          have r13 : rg r9 0 0 := rf_eql (c_eq c12) h11 rl_0 (by decide)
          obtain ⟨z14, ez14⟩ : ∃ y : Int32, y = v43_5 + (1 : Int32) := ⟨_, rfl⟩
          have r15 : rg z14 1 20 := rg_add ez14 r6 rl_1 (by decide)
          have a16 : z14.toInt = v43_5.toInt + 1 := ai_add ez14 r6 tl_1 (by decide)
          refine lv_iinc (v := z14) (lv' := [(5, .int z14), (0, .ref q), (1, .int p1), (2, .int v43_2), (3, .int v43_3), (4, .int v43_4)]) hx hb dX9_farthest_91 hl (k := 5) rfl (by rw [ez14]; rfl) (by decide) rfl (fun ls hl => ?_)
          refine lv_goto (tgt := 43) hx hb dX9_farthest_94 (by decide) ?_
          exact ih43 _ _ _ _ v43_2 v43_3 v43_4 z14 (fu_s hfu43 a16 (by decide)) hI hH r_v43_3 r_v43_4 (rg_w r15 (by decide)) r43_p1 (lv_sub hl [1, 2, 3, 4, 5, 0] rfl)
        · skip
          have r17 : rg r9 1 1 := rf_nel (n_eq c12) h11 rl_0 (by decide)
          refine lv_aload_n hx hb dX9_farthest_64 rfl (lv_at hl 0 rfl) ?_
          refine t_getX C hH hI.1 mq tq td_0 iX9 rfl 1 (by decide) wd414 rfl (hI.rf kq_1) dX9_farthest_65 ?_
          refine lv_iload_n hx hb dX9_farthest_68 rfl (lv_at hl 3 rfl) ?_
          refine lv_iload hx hb dX9_farthest_69 (lv_at hl 5 rfl) ?_
          refine t_Vi C hO hl.1 hA hH hI.1 (As := [.int v43_3, .int v43_5]) (rest := []) (t_X3_distance l E J τ L f8 hI.1 mq_1 tq_1 v43_3 v43_5) my_X3_distance wd555 mq_1 tq_1 td_3 rfl rfl rfl (Nat.le_of_ble_eq_true rfl) ⟨Nat.le_of_ble_eq_true rfl, Nat.le_of_ble_eq_true rfl⟩ ⟨rfl, rfl⟩ dX9_farthest_71 (fun r19 L1 f18 H locs hp hH => ?_)
          obtain ⟨rfl, s20, h21⟩ := hp
          have hI := hI.call s20 (by decide)
          refine lv_aload_n hx hb dX9_farthest_74 rfl (lv_at hl 0 rfl) ?_
          refine t_getX C hH hI.1 mq tq td_0 iX9 rfl 1 (by decide) wd414 rfl (hI.rf kq_1) dX9_farthest_75 ?_
          refine lv_iload_n hx hb dX9_farthest_78 rfl (lv_at hl 3 rfl) ?_
          refine lv_iload hx hb dX9_farthest_79 (lv_at hl 4 rfl) ?_
          refine t_Vi C hO hl.1 hA hH hI.1 (As := [.int v43_3, .int v43_4]) (rest := [.int r19]) (t_X3_distance l E J τ L f18 hI.1 mq_1 tq_1 v43_3 v43_4) my_X3_distance wd555 mq_1 tq_1 td_3 rfl rfl rfl (Nat.le_of_ble_eq_true rfl) ⟨Nat.le_of_ble_eq_true rfl, Nat.le_of_ble_eq_true rfl⟩ ⟨rfl, rfl⟩ dX9_farthest_81 (fun r23 L1 f22 H locs hp hH => ?_)
          obtain ⟨rfl, s24, h25⟩ := hp
          have hI := hI.call s24 (by decide)
          refine lv_icmp_le (tgt := 91) hx hb dX9_farthest_84 (by decide) (fun c26 => ?_) (fun c26 => ?_)
          · skip
            obtain ⟨z27, ez27⟩ : ∃ y : Int32, y = v43_5 + (1 : Int32) := ⟨_, rfl⟩
            have r28 : rg z27 1 20 := rg_add ez27 r6 rl_1 (by decide)
            have a29 : z27.toInt = v43_5.toInt + 1 := ai_add ez27 r6 tl_1 (by decide)
            refine lv_iinc (v := z27) (lv' := [(5, .int z27), (0, .ref q), (1, .int p1), (2, .int v43_2), (3, .int v43_3), (4, .int v43_4)]) hx hb dX9_farthest_91 hl (k := 5) rfl (by rw [ez27]; rfl) (by decide) rfl (fun ls hl => ?_)
            refine lv_goto (tgt := 43) hx hb dX9_farthest_94 (by decide) ?_
            exact ih43 _ _ _ _ v43_2 v43_3 v43_4 z27 (fu_s hfu43 a29 (by decide)) hI hH r_v43_3 r_v43_4 (rg_w r28 (by decide)) r43_p1 (lv_sub hl [1, 2, 3, 4, 5, 0] rfl)
          · skip
            have r30 : rg r23 (-2147483648) 2147483646 := rf_ltl (n_le c26) h25 h21 (by decide)
            have r31 : rg r19 (-2147483647) 2147483647 := rf_ltr (n_le c26) h25 h21 (by decide)
            refine lv_iload hx hb dX9_farthest_87 (lv_at hl 5 rfl) ?_
            refine lv_istore (lv' := [(4, .int v43_5), (0, .ref q), (1, .int p1), (2, .int v43_2), (3, .int v43_3), (5, .int v43_5)]) hx hb dX9_farthest_89 hl (by decide) rfl (fun ls hl => ?_)
            obtain ⟨z32, ez32⟩ : ∃ y : Int32, y = v43_5 + (1 : Int32) := ⟨_, rfl⟩
            have r33 : rg z32 1 20 := rg_add ez32 r6 rl_1 (by decide)
            have a34 : z32.toInt = v43_5.toInt + 1 := ai_add ez32 r6 tl_1 (by decide)
            refine lv_iinc (v := z32) (lv' := [(5, .int z32), (4, .int v43_5), (0, .ref q), (1, .int p1), (2, .int v43_2), (3, .int v43_3)]) hx hb dX9_farthest_91 hl (k := 5) rfl (by rw [ez32]; rfl) (by decide) rfl (fun ls hl => ?_)
            refine lv_goto (tgt := 43) hx hb dX9_farthest_94 (by decide) ?_
            exact ih43 _ _ _ _ v43_2 v43_3 v43_5 z32 (fu_s hfu43 a34 (by decide)) hI hH r_v43_3 r6 (rg_w r33 (by decide)) r43_p1 (lv_sub hl [2, 3, 4, 5, 1, 0] rfl)
  refine lv_aload_n hx hb dX9_farthest_0 rfl (lv_at hl 0 rfl) ?_
  refine t_getX C hH hI.1 mq tq td_0 iX9 rfl 1 (by decide) wd414 rfl (hI.rf kq_1) dX9_farthest_1 ?_
  refine lv_iload_n hx hb dX9_farthest_4 rfl (lv_at hl 1 rfl) ?_
  refine t_Vi C hO hl.1 hA hH hI.1 (As := [.int p1]) (rest := []) (t_X3_hasFlight l E J τ L f hI.1 mq_1 tq_1 p1) my_X3_hasFlight wd502 mq_1 tq_1 td_3 rfl rfl rfl (Nat.le_of_ble_eq_true rfl) ⟨Nat.le_of_ble_eq_true rfl, Nat.le_of_ble_eq_true rfl⟩ ⟨rfl, rfl⟩ dX9_farthest_5 (fun r36 L1 f35 H locs hp hH => ?_)
  obtain ⟨rfl, s37, h38⟩ := hp
  have hI := hI.call s37 (by decide)
  refine lv_if_ne (tgt := 14) hx hb dX9_farthest_8 (by decide) (fun c39 => ?_) (fun c39 => ?_)
  · skip
    have r40 : rg r36 1 1 := rf_nel (n_eq c39) h38.1 rl_0 (by decide)
    have r41 : rg p1 0 3 := h38.2 c39
    refine lv_aload_n hx hb dX9_farthest_14 rfl (lv_at hl 0 rfl) ?_
    refine lv_iload_n hx hb dX9_farthest_15 rfl (lv_at hl 1 rfl) ?_
    refine t_Vv C hO hl.1 hA hH hI.1 (As := [.int p1]) (rest := []) (t_X9_followNow l E J τ L f35 hI.1 mq tq p1 r41) my_X9_followNow wd454 mq tq td_0 rfl rfl rfl (Nat.le_of_ble_eq_true rfl) ⟨Nat.le_of_ble_eq_true rfl, Nat.le_of_ble_eq_true rfl⟩ ⟨rfl, rfl⟩ dX9_farthest_16 (fun L1 f42 H locs hp hH => ?_)
    obtain ⟨rfl, s44, h45⟩ := hp
    have hI := hI.call s44 (by decide)
    refine lv_aload_n hx hb dX9_farthest_19 rfl (lv_at hl 0 rfl) ?_
    refine t_getX C hH hI.1 mq tq td_0 iX9 rfl 5 (by decide) wd425 rfl (hI.rf kq_5) dX9_farthest_20 ?_
    refine t_Vi C hO hl.1 hA hH hI.1 (As := []) (rest := []) (t_X7_wayBits l E J τ L f42 hI.1 mq_5 tq_5) my_X7_wayBits wd455 mq_5 tq_5 td_19 rfl rfl rfl (Nat.le_of_ble_eq_true rfl) ⟨Nat.le_of_ble_eq_true rfl, Nat.le_of_ble_eq_true rfl⟩ ⟨rfl, rfl⟩ dX9_farthest_23 (fun r47 L1 f46 H locs hp hH => ?_)
    obtain ⟨rfl, s48, h49⟩ := hp
    have hI := hI.call s48 (by decide)
    refine lv_istore_n (lv' := [(2, .int r47), (0, .ref q), (1, .int p1)]) hx hb dX9_farthest_26 rfl hl (by decide) rfl (fun ls hl => ?_)
    refine lv_aload_n hx hb dX9_farthest_27 rfl (lv_at hl 1 rfl) ?_
    refine t_getX C hH hI.1 mq tq td_0 iX9 rfl 1 (by decide) wd414 rfl (hI.rf kq_1) dX9_farthest_28 ?_
    refine t_getX C hH hI.1 mq_1 tq_1 td_3 iX3 rfl 10 (by decide) wd503 rfl (hI.rf kq_1_10) dX9_farthest_31 ?_
    refine lv_iload_n hx hb dX9_farthest_34 rfl (lv_at hl 2 rfl) ?_
    refine t_aldR C hH hI.1 mq_1_10 tq_1_10 td_4 (rg_in r41 (by decide)) dX9_farthest_35 (fun z50 rz50 => ?_)
    refine lv_istore_n (lv' := [(3, .int z50), (2, .int r47), (0, .ref q), (1, .int p1)]) hx hb dX9_farthest_36 rfl hl (by decide) rfl (fun ls hl => ?_)
    refine lv_iload_n hx hb dX9_farthest_37 rfl (lv_at hl 0 rfl) ?_
    refine lv_istore (lv' := [(4, .int z50), (3, .int z50), (2, .int r47), (0, .ref q), (1, .int p1)]) hx hb dX9_farthest_38 hl (by decide) rfl (fun ls hl => ?_)
    refine lv_iconst (v := (0 : Int32)) hx hb dX9_farthest_40 (by decide) ?_
    refine lv_istore (lv' := [(5, .int (0 : Int32)), (4, .int z50), (3, .int z50), (2, .int r47), (0, .ref q), (1, .int p1)]) hx hb dX9_farthest_41 hl (by decide) rfl (fun ls hl => ?_)
    exact cut43 21 _ _ _ _ r47 z50 z50 (0 : Int32) (fu_i 21 rl_0 (by decide)) hI hH rz50 rz50 (rg_w rl_0 (by decide)) r41 (lv_sub hl [4, 5, 3, 2, 1, 0] rfl)
  · skip
    have r51 : rg r36 0 0 := rf_eql (c_eq c39) h38.1 rl_0 (by decide)
    refine lv_bipush (v := (-2 : Int32)) hx hb dX9_farthest_11 (by decide) ?_
    exact g_iret C hr hH (Nat.zero_le _) (Nat.zero_le _) dX9_farthest_13 ⟨rfl, hI, (rg_w rl_m2 (by decide))⟩
set_option maxHeartbeats 4000000 in
set_option maxRecDepth 100000 in
theorem t_X9_fewest (l : Launch) (E : gE) (J : Nat → Nat) (τ : Nat → Nat) (L : List Nat) (f : gF) (hI : tI E L τ f) {q : Nat} (mq : q ∈ L) (tq : τ q = 0) (p1 : Int32) : tMi l E J yX9_fewest cX9_fewest 3 .int (gRm (6) 0 0) [.ref q, .int p1] L f (tPi E L τ [19, 20, 21, 23, 24, 25, 26] f (fun r f1 => rg r (-2147483648) 2147483647)) := by
  refine tMi.intro (by decide) (Nat.le_of_ble_eq_true rfl) ?_
  intro p e s m below meth c A ls C hr hA hO hH hl
  have C : gC E cX9_fewest 3 RX9 p s m _ meth c := C
  have hl : lv_has ls 3 [(0, .ref q), (1, .int p1)] := hl
  have hx := C.1
  have hb := C.2.1
  have hI := hI.S [19, 20, 21, 23, 24, 25, 26]
  obtain ⟨q_1, mq_1, tq_1, kq_1⟩ := t_fldr hI.1 mq tq td_0 (k := 1) rfl
  obtain ⟨q_6, mq_6, tq_6, kq_6⟩ := t_fldr hI.1 mq tq td_0 (k := 6) rfl
  obtain ⟨q_6_2, mq_6_2, tq_6_2, kq_6_2⟩ := t_fldr hI.1 mq_6 tq_6 td_24 (k := 2) rfl
  refine lv_aload_n hx hb dX9_fewest_0 rfl (lv_at hl 0 rfl) ?_
  refine t_getX C hH hI.1 mq tq td_0 iX9 rfl 1 (by decide) wd414 rfl (hI.rf kq_1) dX9_fewest_1 ?_
  refine lv_iload_n hx hb dX9_fewest_4 rfl (lv_at hl 1 rfl) ?_
  refine t_Vi C hO hl.1 hA hH hI.1 (As := [.int p1]) (rest := []) (t_X3_hasSet l E J τ L f hI.1 mq_1 tq_1 p1) my_X3_hasSet wd559 mq_1 tq_1 td_3 rfl rfl rfl (Nat.le_of_ble_eq_true rfl) ⟨Nat.le_of_ble_eq_true rfl, Nat.le_of_ble_eq_true rfl⟩ ⟨rfl, rfl⟩ dX9_fewest_5 (fun r2 L1 f1 H locs hp hH => ?_)
  obtain ⟨rfl, s3, h4⟩ := hp
  have hI := hI.call s3 (by decide)
  refine lv_if_ne (tgt := 14) hx hb dX9_fewest_8 (by decide) (fun c5 => ?_) (fun c5 => ?_)
  · skip
    have r6 : rg r2 1 1 := rf_nel (n_eq c5) h4.1 rl_0 (by decide)
    have r7 : rg p1 0 63 := h4.2 c5
    refine lv_aload_n hx hb dX9_fewest_14 rfl (lv_at hl 0 rfl) ?_
    refine t_getX C hH hI.1 mq tq td_0 iX9 rfl 6 (by decide) wd560 rfl (hI.rf kq_6) dX9_fewest_15 ?_
    refine t_Vv C hO hl.1 hA hH hI.1 (As := []) (rest := []) (t_X4_learn l E J τ L f1 hI.1 mq_6 tq_6) my_X4_learn wd564 mq_6 tq_6 td_24 rfl rfl rfl (Nat.le_of_ble_eq_true rfl) ⟨Nat.le_of_ble_eq_true rfl, Nat.le_of_ble_eq_true rfl⟩ ⟨rfl, rfl⟩ dX9_fewest_18 (fun L1 f8 H locs hp hH => ?_)
    obtain ⟨rfl, s10, h11⟩ := hp
    have hI := hI.call s10 (by decide)
    refine lv_aload_n hx hb dX9_fewest_21 rfl (lv_at hl 0 rfl) ?_
    refine t_getX C hH hI.1 mq tq td_0 iX9 rfl 6 (by decide) wd560 rfl (hI.rf kq_6) dX9_fewest_22 ?_
    refine lv_iload_n hx hb dX9_fewest_25 rfl (lv_at hl 1 rfl) ?_
    refine t_Vi C hO hl.1 hA hH hI.1 (As := [.int p1]) (rest := []) (t_X4_cheapest l E J τ L f8 hI.1 mq_6 tq_6 p1) my_X4_cheapest wd565 mq_6 tq_6 td_24 rfl rfl rfl (Nat.le_of_ble_eq_true rfl) ⟨Nat.le_of_ble_eq_true rfl, Nat.le_of_ble_eq_true rfl⟩ ⟨rfl, rfl⟩ dX9_fewest_26 (fun r13 L1 f12 H locs hp hH => ?_)
    obtain ⟨rfl, s14, h15⟩ := hp
    have hI := hI.call s14 (by decide)
    refine lv_istore_n (lv' := [(2, .int r13), (0, .ref q), (1, .int p1)]) hx hb dX9_fewest_29 rfl hl (by decide) rfl (fun ls hl => ?_)
    refine lv_iload_n hx hb dX9_fewest_30 rfl (lv_at hl 0 rfl) ?_
    refine lv_iconst (v := (-1 : Int32)) hx hb dX9_fewest_31 (by decide) ?_
    refine lv_icmp_ne (tgt := 39) hx hb dX9_fewest_32 (by decide) (fun c16 => ?_) (fun c16 => ?_)
    · skip
      have r17 : rg r13 0 63 := rf_nel (n_eq c16) h15 rl_m1 (by decide)
      refine lv_aload_n hx hb dX9_fewest_39 rfl (lv_at hl 1 rfl) ?_
      refine t_getX C hH hI.1 mq tq td_0 iX9 rfl 6 (by decide) wd560 rfl (hI.rf kq_6) dX9_fewest_40 ?_
      refine t_getX C hH hI.1 mq_6 tq_6 td_24 iX4 rfl 2 (by decide) wd566 rfl (hI.rf kq_6_2) dX9_fewest_43 ?_
      refine lv_iload_n hx hb dX9_fewest_46 rfl (lv_at hl 0 rfl) ?_
      refine t_ald C hH hI.1 mq_6_2 tq_6_2 td_25 (rg_in r17 (by decide)) dX9_fewest_47 (fun z18v az18 _ => ?_)
      refine lv_topi (fun z18 ez18 => ?_)
      exact g_iret C hr hH (Nat.zero_le _) (Nat.zero_le _) dX9_fewest_48 ⟨rfl, hI, (rg_all _)⟩
    · skip
      have r19 : rg r13 (-1) (-1) := rf_eql (c_eq c16) h15 rl_m1 (by decide)
      refine lv_iconst (v := (-1 : Int32)) hx hb dX9_fewest_35 (by decide) ?_
      refine lv_goto (tgt := 48) hx hb dX9_fewest_36 (by decide) ?_
      exact g_iret C hr hH (Nat.zero_le _) (Nat.zero_le _) dX9_fewest_48 ⟨rfl, hI, (rg_w rl_m1 (by decide))⟩
  · skip
    have r20 : rg r2 0 0 := rf_eql (c_eq c5) h4.1 rl_0 (by decide)
    refine lv_bipush (v := (-2 : Int32)) hx hb dX9_fewest_11 (by decide) ?_
    exact g_iret C hr hH (Nat.zero_le _) (Nat.zero_le _) dX9_fewest_13 ⟨rfl, hI, (rg_w rl_m2 (by decide))⟩
set_option maxHeartbeats 4000000 in
set_option maxRecDepth 100000 in
theorem t_X9_lights (l : Launch) (E : gE) (J : Nat → Nat) (τ : Nat → Nat) (L : List Nat) (f : gF) (hI : tI E L τ f) {q : Nat} (mq : q ∈ L) (tq : τ q = 0) (p1 : Int32) : tMi l E J yX9_lights cX9_lights 3 .int (gRm (6) 0 0) [.ref q, .int p1] L f (tPi E L τ [19, 20, 21, 23, 24, 25, 26] f (fun r f1 => rg r (-2147483648) 2147483647)) := by
  refine tMi.intro (by decide) (Nat.le_of_ble_eq_true rfl) ?_
  intro p e s m below meth c A ls C hr hA hO hH hl
  have C : gC E cX9_lights 3 RX9 p s m _ meth c := C
  have hl : lv_has ls 3 [(0, .ref q), (1, .int p1)] := hl
  have hx := C.1
  have hb := C.2.1
  have hI := hI.S [19, 20, 21, 23, 24, 25, 26]
  obtain ⟨q_1, mq_1, tq_1, kq_1⟩ := t_fldr hI.1 mq tq td_0 (k := 1) rfl
  obtain ⟨q_6, mq_6, tq_6, kq_6⟩ := t_fldr hI.1 mq tq td_0 (k := 6) rfl
  obtain ⟨q_6_3, mq_6_3, tq_6_3, kq_6_3⟩ := t_fldr hI.1 mq_6 tq_6 td_24 (k := 3) rfl
  refine lv_aload_n hx hb dX9_lights_0 rfl (lv_at hl 0 rfl) ?_
  refine t_getX C hH hI.1 mq tq td_0 iX9 rfl 1 (by decide) wd414 rfl (hI.rf kq_1) dX9_lights_1 ?_
  refine lv_iload_n hx hb dX9_lights_4 rfl (lv_at hl 1 rfl) ?_
  refine t_Vi C hO hl.1 hA hH hI.1 (As := [.int p1]) (rest := []) (t_X3_hasSet l E J τ L f hI.1 mq_1 tq_1 p1) my_X3_hasSet wd559 mq_1 tq_1 td_3 rfl rfl rfl (Nat.le_of_ble_eq_true rfl) ⟨Nat.le_of_ble_eq_true rfl, Nat.le_of_ble_eq_true rfl⟩ ⟨rfl, rfl⟩ dX9_lights_5 (fun r2 L1 f1 H locs hp hH => ?_)
  obtain ⟨rfl, s3, h4⟩ := hp
  have hI := hI.call s3 (by decide)
  refine lv_if_ne (tgt := 14) hx hb dX9_lights_8 (by decide) (fun c5 => ?_) (fun c5 => ?_)
  · skip
    have r6 : rg r2 1 1 := rf_nel (n_eq c5) h4.1 rl_0 (by decide)
    have r7 : rg p1 0 63 := h4.2 c5
    refine lv_aload_n hx hb dX9_lights_14 rfl (lv_at hl 0 rfl) ?_
    refine t_getX C hH hI.1 mq tq td_0 iX9 rfl 6 (by decide) wd560 rfl (hI.rf kq_6) dX9_lights_15 ?_
    refine t_Vv C hO hl.1 hA hH hI.1 (As := []) (rest := []) (t_X4_learn l E J τ L f1 hI.1 mq_6 tq_6) my_X4_learn wd564 mq_6 tq_6 td_24 rfl rfl rfl (Nat.le_of_ble_eq_true rfl) ⟨Nat.le_of_ble_eq_true rfl, Nat.le_of_ble_eq_true rfl⟩ ⟨rfl, rfl⟩ dX9_lights_18 (fun L1 f8 H locs hp hH => ?_)
    obtain ⟨rfl, s10, h11⟩ := hp
    have hI := hI.call s10 (by decide)
    refine lv_aload_n hx hb dX9_lights_21 rfl (lv_at hl 0 rfl) ?_
    refine t_getX C hH hI.1 mq tq td_0 iX9 rfl 6 (by decide) wd560 rfl (hI.rf kq_6) dX9_lights_22 ?_
    refine lv_iload_n hx hb dX9_lights_25 rfl (lv_at hl 1 rfl) ?_
    refine t_Vi C hO hl.1 hA hH hI.1 (As := [.int p1]) (rest := []) (t_X4_cheapest l E J τ L f8 hI.1 mq_6 tq_6 p1) my_X4_cheapest wd565 mq_6 tq_6 td_24 rfl rfl rfl (Nat.le_of_ble_eq_true rfl) ⟨Nat.le_of_ble_eq_true rfl, Nat.le_of_ble_eq_true rfl⟩ ⟨rfl, rfl⟩ dX9_lights_26 (fun r13 L1 f12 H locs hp hH => ?_)
    obtain ⟨rfl, s14, h15⟩ := hp
    have hI := hI.call s14 (by decide)
    refine lv_istore_n (lv' := [(2, .int r13), (0, .ref q), (1, .int p1)]) hx hb dX9_lights_29 rfl hl (by decide) rfl (fun ls hl => ?_)
    refine lv_iload_n hx hb dX9_lights_30 rfl (lv_at hl 0 rfl) ?_
    refine lv_iconst (v := (-1 : Int32)) hx hb dX9_lights_31 (by decide) ?_
    refine lv_icmp_ne (tgt := 39) hx hb dX9_lights_32 (by decide) (fun c16 => ?_) (fun c16 => ?_)
    · skip
      have r17 : rg r13 0 63 := rf_nel (n_eq c16) h15 rl_m1 (by decide)
      refine lv_aload_n hx hb dX9_lights_39 rfl (lv_at hl 1 rfl) ?_
      refine t_getX C hH hI.1 mq tq td_0 iX9 rfl 6 (by decide) wd560 rfl (hI.rf kq_6) dX9_lights_40 ?_
      refine t_getX C hH hI.1 mq_6 tq_6 td_24 iX4 rfl 3 (by decide) wd567 rfl (hI.rf kq_6_3) dX9_lights_43 ?_
      refine lv_iload_n hx hb dX9_lights_46 rfl (lv_at hl 0 rfl) ?_
      refine t_ald C hH hI.1 mq_6_3 tq_6_3 td_26 (rg_in r17 (by decide)) dX9_lights_47 (fun z18v az18 _ => ?_)
      refine lv_topi (fun z18 ez18 => ?_)
      exact g_iret C hr hH (Nat.zero_le _) (Nat.zero_le _) dX9_lights_48 ⟨rfl, hI, (rg_all _)⟩
    · skip
      have r19 : rg r13 (-1) (-1) := rf_eql (c_eq c16) h15 rl_m1 (by decide)
      refine lv_iconst (v := (-1 : Int32)) hx hb dX9_lights_35 (by decide) ?_
      refine lv_goto (tgt := 48) hx hb dX9_lights_36 (by decide) ?_
      exact g_iret C hr hH (Nat.zero_le _) (Nat.zero_le _) dX9_lights_48 ⟨rfl, hI, (rg_w rl_m1 (by decide))⟩
  · skip
    have r20 : rg r2 0 0 := rf_eql (c_eq c5) h4.1 rl_0 (by decide)
    refine lv_bipush (v := (-2 : Int32)) hx hb dX9_lights_11 (by decide) ?_
    exact g_iret C hr hH (Nat.zero_le _) (Nat.zero_le _) dX9_lights_13 ⟨rfl, hI, (rg_w rl_m2 (by decide))⟩
set_option maxHeartbeats 4000000 in
set_option maxRecDepth 100000 in
theorem t_X9_best (l : Launch) (E : gE) (J : Nat → Nat) (τ : Nat → Nat) (L : List Nat) (f : gF) (hI : tI E L τ f) {q : Nat} (mq : q ∈ L) (tq : τ q = 0) (p1 : Int32) : tMi l E J yX9_best cX9_best 2 .int (gRm (6) 0 0) [.ref q, .int p1] L f (tPi E L τ [19, 20, 21, 23, 24, 25, 26] f (fun r f1 => rg r (-2147483648) 2147483647)) := by
  refine tMi.intro (by decide) (Nat.le_of_ble_eq_true rfl) ?_
  intro p e s m below meth c A ls C hr hA hO hH hl
  have C : gC E cX9_best 2 RX9 p s m _ meth c := C
  have hl : lv_has ls 2 [(0, .ref q), (1, .int p1)] := hl
  have hx := C.1
  have hb := C.2.1
  have hI := hI.S [19, 20, 21, 23, 24, 25, 26]
  obtain ⟨q_1, mq_1, tq_1, kq_1⟩ := t_fldr hI.1 mq tq td_0 (k := 1) rfl
  obtain ⟨q_6, mq_6, tq_6, kq_6⟩ := t_fldr hI.1 mq tq td_0 (k := 6) rfl
  refine lv_aload_n hx hb dX9_best_0 rfl (lv_at hl 0 rfl) ?_
  refine t_getX C hH hI.1 mq tq td_0 iX9 rfl 1 (by decide) wd414 rfl (hI.rf kq_1) dX9_best_1 ?_
  refine t_Vi C hO hl.1 hA hH hI.1 (As := []) (rest := []) (t_X3_isNone l E J τ L f hI.1 mq_1 tq_1) my_X3_isNone wd473 mq_1 tq_1 td_3 rfl rfl rfl (Nat.le_of_ble_eq_true rfl) ⟨Nat.le_of_ble_eq_true rfl, Nat.le_of_ble_eq_true rfl⟩ ⟨rfl, rfl⟩ dX9_best_4 (fun r2 L1 f1 H locs hp hH => ?_)
  obtain ⟨rfl, s3, h4⟩ := hp
  have hI := hI.call s3 (by decide)
  refine lv_if_ne (tgt := 17) hx hb dX9_best_7 (by decide) (fun c5 => ?_) (fun c5 => ?_)
  · skip
    have r6 : rg r2 1 1 := rf_nel (n_eq c5) h4 rl_0 (by decide)
    refine lv_bipush (v := (-2 : Int32)) hx hb dX9_best_17 (by decide) ?_
    exact g_iret C hr hH (Nat.zero_le _) (Nat.zero_le _) dX9_best_19 ⟨rfl, hI, (rg_w rl_m2 (by decide))⟩
  · skip
    have r7 : rg r2 0 0 := rf_eql (c_eq c5) h4 rl_0 (by decide)
    refine lv_iload_n hx hb dX9_best_10 rfl (lv_at hl 1 rfl) ?_
    refine t_Si C hO hl.1 hA hH (As := [.int p1]) (rest := []) (t_X9_isLampCount l E J τ L f1 hI.1 p1) my_X9_isLampCount wd570 rfl rfl (Nat.le_of_ble_eq_true rfl) ⟨Nat.le_of_ble_eq_true rfl, Nat.le_of_ble_eq_true rfl⟩ ⟨rfl, rfl⟩ dX9_best_11 (fun r9 L1 f8 H locs hp hH => ?_)
    obtain ⟨rfl, s10, h11⟩ := hp
    have hI := hI.call s10 (by decide)
    refine lv_if_ne (tgt := 20) hx hb dX9_best_14 (by decide) (fun c12 => ?_) (fun c12 => ?_)
    · skip
      have r13 : rg r9 1 1 := rf_nel (n_eq c12) h11.1 rl_0 (by decide)
      have r14 : rg p1 0 3 := h11.2 c12
      refine lv_aload_n hx hb dX9_best_20 rfl (lv_at hl 0 rfl) ?_
      refine t_getX C hH hI.1 mq tq td_0 iX9 rfl 6 (by decide) wd560 rfl (hI.rf kq_6) dX9_best_21 ?_
      refine t_Vv C hO hl.1 hA hH hI.1 (As := []) (rest := []) (t_X4_learn l E J τ L f8 hI.1 mq_6 tq_6) my_X4_learn wd564 mq_6 tq_6 td_24 rfl rfl rfl (Nat.le_of_ble_eq_true rfl) ⟨Nat.le_of_ble_eq_true rfl, Nat.le_of_ble_eq_true rfl⟩ ⟨rfl, rfl⟩ dX9_best_24 (fun L1 f15 H locs hp hH => ?_)
      obtain ⟨rfl, s17, h18⟩ := hp
      have hI := hI.call s17 (by decide)
      refine lv_aload_n hx hb dX9_best_27 rfl (lv_at hl 0 rfl) ?_
      refine t_getX C hH hI.1 mq tq td_0 iX9 rfl 1 (by decide) wd414 rfl (hI.rf kq_1) dX9_best_28 ?_
      refine lv_aload_n hx hb dX9_best_31 rfl (lv_at hl 0 rfl) ?_
      refine t_getX C hH hI.1 mq tq td_0 iX9 rfl 6 (by decide) wd560 rfl (hI.rf kq_6) dX9_best_32 ?_
      refine lv_iload_n hx hb dX9_best_35 rfl (lv_at hl 1 rfl) ?_
      refine t_Vi C hO hl.1 hA hH hI.1 (As := [.int p1]) (rest := [.ref q_1]) (t_X4_richest l E J τ L f15 hI.1 mq_6 tq_6 p1) my_X4_richest wd574 mq_6 tq_6 td_24 rfl rfl rfl (Nat.le_of_ble_eq_true rfl) ⟨Nat.le_of_ble_eq_true rfl, Nat.le_of_ble_eq_true rfl⟩ ⟨rfl, rfl⟩ dX9_best_36 (fun r20 L1 f19 H locs hp hH => ?_)
      obtain ⟨rfl, s21, h22⟩ := hp
      have hI := hI.call s21 (by decide)
      refine t_Vi C hO hl.1 hA hH hI.1 (As := [.int r20]) (rest := []) (t_X3_paidBy l E J τ L f19 hI.1 mq_1 tq_1 r20) my_X3_paidBy wd436 mq_1 tq_1 td_3 rfl rfl rfl (Nat.le_of_ble_eq_true rfl) ⟨Nat.le_of_ble_eq_true rfl, Nat.le_of_ble_eq_true rfl⟩ ⟨rfl, rfl⟩ dX9_best_39 (fun r24 L1 f23 H locs hp hH => ?_)
      obtain ⟨rfl, s25, h26⟩ := hp
      have hI := hI.call s25 (by decide)
      exact g_iret C hr hH (Nat.zero_le _) (Nat.zero_le _) dX9_best_42 ⟨rfl, hI, h26⟩
    · skip
      have r27 : rg r9 0 0 := rf_eql (c_eq c12) h11.1 rl_0 (by decide)
      refine lv_bipush (v := (-2 : Int32)) hx hb dX9_best_17 (by decide) ?_
      exact g_iret C hr hH (Nat.zero_le _) (Nat.zero_le _) dX9_best_19 ⟨rfl, hI, (rg_w rl_m2 (by decide))⟩
set_option maxHeartbeats 4000000 in
set_option maxRecDepth 100000 in
theorem t_X9_bests (l : Launch) (E : gE) (J : Nat → Nat) (τ : Nat → Nat) (L : List Nat) (f : gF) (hI : tI E L τ f) {q : Nat} (mq : q ∈ L) (tq : τ q = 0) (p1 : Int32) : tMi l E J yX9_bests cX9_bests 2 .int (gRm (6) 0 0) [.ref q, .int p1] L f (tPi E L τ [19, 20, 21, 23, 24, 25, 26] f (fun r f1 => rg r (-2147483648) 2147483647)) := by
  refine tMi.intro (by decide) (Nat.le_of_ble_eq_true rfl) ?_
  intro p e s m below meth c A ls C hr hA hO hH hl
  have C : gC E cX9_bests 2 RX9 p s m _ meth c := C
  have hl : lv_has ls 2 [(0, .ref q), (1, .int p1)] := hl
  have hx := C.1
  have hb := C.2.1
  have hI := hI.S [19, 20, 21, 23, 24, 25, 26]
  obtain ⟨q_1, mq_1, tq_1, kq_1⟩ := t_fldr hI.1 mq tq td_0 (k := 1) rfl
  obtain ⟨q_6, mq_6, tq_6, kq_6⟩ := t_fldr hI.1 mq tq td_0 (k := 6) rfl
  obtain ⟨q_6_3, mq_6_3, tq_6_3, kq_6_3⟩ := t_fldr hI.1 mq_6 tq_6 td_24 (k := 3) rfl
  refine lv_aload_n hx hb dX9_bests_0 rfl (lv_at hl 0 rfl) ?_
  refine t_getX C hH hI.1 mq tq td_0 iX9 rfl 1 (by decide) wd414 rfl (hI.rf kq_1) dX9_bests_1 ?_
  refine t_Vi C hO hl.1 hA hH hI.1 (As := []) (rest := []) (t_X3_isNone l E J τ L f hI.1 mq_1 tq_1) my_X3_isNone wd473 mq_1 tq_1 td_3 rfl rfl rfl (Nat.le_of_ble_eq_true rfl) ⟨Nat.le_of_ble_eq_true rfl, Nat.le_of_ble_eq_true rfl⟩ ⟨rfl, rfl⟩ dX9_bests_4 (fun r2 L1 f1 H locs hp hH => ?_)
  obtain ⟨rfl, s3, h4⟩ := hp
  have hI := hI.call s3 (by decide)
  refine lv_if_ne (tgt := 17) hx hb dX9_bests_7 (by decide) (fun c5 => ?_) (fun c5 => ?_)
  · skip
    have r6 : rg r2 1 1 := rf_nel (n_eq c5) h4 rl_0 (by decide)
    refine lv_bipush (v := (-2 : Int32)) hx hb dX9_bests_17 (by decide) ?_
    exact g_iret C hr hH (Nat.zero_le _) (Nat.zero_le _) dX9_bests_19 ⟨rfl, hI, (rg_w rl_m2 (by decide))⟩
  · skip
    have r7 : rg r2 0 0 := rf_eql (c_eq c5) h4 rl_0 (by decide)
    refine lv_iload_n hx hb dX9_bests_10 rfl (lv_at hl 1 rfl) ?_
    refine t_Si C hO hl.1 hA hH (As := [.int p1]) (rest := []) (t_X9_isLampCount l E J τ L f1 hI.1 p1) my_X9_isLampCount wd570 rfl rfl (Nat.le_of_ble_eq_true rfl) ⟨Nat.le_of_ble_eq_true rfl, Nat.le_of_ble_eq_true rfl⟩ ⟨rfl, rfl⟩ dX9_bests_11 (fun r9 L1 f8 H locs hp hH => ?_)
    obtain ⟨rfl, s10, h11⟩ := hp
    have hI := hI.call s10 (by decide)
    refine lv_if_ne (tgt := 20) hx hb dX9_bests_14 (by decide) (fun c12 => ?_) (fun c12 => ?_)
    · skip
      have r13 : rg r9 1 1 := rf_nel (n_eq c12) h11.1 rl_0 (by decide)
      have r14 : rg p1 0 3 := h11.2 c12
      refine lv_aload_n hx hb dX9_bests_20 rfl (lv_at hl 0 rfl) ?_
      refine t_getX C hH hI.1 mq tq td_0 iX9 rfl 6 (by decide) wd560 rfl (hI.rf kq_6) dX9_bests_21 ?_
      refine t_Vv C hO hl.1 hA hH hI.1 (As := []) (rest := []) (t_X4_learn l E J τ L f8 hI.1 mq_6 tq_6) my_X4_learn wd564 mq_6 tq_6 td_24 rfl rfl rfl (Nat.le_of_ble_eq_true rfl) ⟨Nat.le_of_ble_eq_true rfl, Nat.le_of_ble_eq_true rfl⟩ ⟨rfl, rfl⟩ dX9_bests_24 (fun L1 f15 H locs hp hH => ?_)
      obtain ⟨rfl, s17, h18⟩ := hp
      have hI := hI.call s17 (by decide)
      refine lv_aload_n hx hb dX9_bests_27 rfl (lv_at hl 0 rfl) ?_
      refine t_getX C hH hI.1 mq tq td_0 iX9 rfl 6 (by decide) wd560 rfl (hI.rf kq_6) dX9_bests_28 ?_
      refine t_getX C hH hI.1 mq_6 tq_6 td_24 iX4 rfl 3 (by decide) wd567 rfl (hI.rf kq_6_3) dX9_bests_31 ?_
      refine lv_aload_n hx hb dX9_bests_34 rfl (lv_at hl 0 rfl) ?_
      refine t_getX C hH hI.1 mq tq td_0 iX9 rfl 6 (by decide) wd560 rfl (hI.rf kq_6) dX9_bests_35 ?_
      refine lv_iload_n hx hb dX9_bests_38 rfl (lv_at hl 1 rfl) ?_
      refine t_Vi C hO hl.1 hA hH hI.1 (As := [.int p1]) (rest := [.ref q_6_3]) (t_X4_richest l E J τ L f15 hI.1 mq_6 tq_6 p1) my_X4_richest wd574 mq_6 tq_6 td_24 rfl rfl rfl (Nat.le_of_ble_eq_true rfl) ⟨Nat.le_of_ble_eq_true rfl, Nat.le_of_ble_eq_true rfl⟩ ⟨rfl, rfl⟩ dX9_bests_39 (fun r20 L1 f19 H locs hp hH => ?_)
      obtain ⟨rfl, s21, h22⟩ := hp
      have hI := hI.call s21 (by decide)
      refine t_ald C hH hI.1 mq_6_3 tq_6_3 td_26 (rg_in h22 (by decide)) dX9_bests_42 (fun z23v az23 _ => ?_)
      refine lv_topi (fun z23 ez23 => ?_)
      exact g_iret C hr hH (Nat.zero_le _) (Nat.zero_le _) dX9_bests_43 ⟨rfl, hI, (rg_all _)⟩
    · skip
      have r24 : rg r9 0 0 := rf_eql (c_eq c12) h11.1 rl_0 (by decide)
      refine lv_bipush (v := (-2 : Int32)) hx hb dX9_bests_17 (by decide) ?_
      exact g_iret C hr hH (Nat.zero_le _) (Nat.zero_le _) dX9_bests_19 ⟨rfl, hI, (rg_w rl_m2 (by decide))⟩
set_option maxHeartbeats 4000000 in
set_option maxRecDepth 100000 in
theorem t_X9_most (l : Launch) (E : gE) (J : Nat → Nat) (τ : Nat → Nat) (L : List Nat) (f : gF) (hI : tI E L τ f) {q : Nat} (mq : q ∈ L) (tq : τ q = 0) (p1 : Int32) : tMi l E J yX9_most cX9_most 2 .int (gRm (6) 0 0) [.ref q, .int p1] L f (tPi E L τ [19, 20, 21, 23, 24, 25, 26] f (fun r f1 => rg r (-2147483648) 2147483647)) := by
  refine tMi.intro (by decide) (Nat.le_of_ble_eq_true rfl) ?_
  intro p e s m below meth c A ls C hr hA hO hH hl
  have C : gC E cX9_most 2 RX9 p s m _ meth c := C
  have hl : lv_has ls 2 [(0, .ref q), (1, .int p1)] := hl
  have hx := C.1
  have hb := C.2.1
  have hI := hI.S [19, 20, 21, 23, 24, 25, 26]
  obtain ⟨q_1, mq_1, tq_1, kq_1⟩ := t_fldr hI.1 mq tq td_0 (k := 1) rfl
  obtain ⟨q_6, mq_6, tq_6, kq_6⟩ := t_fldr hI.1 mq tq td_0 (k := 6) rfl
  refine lv_aload_n hx hb dX9_most_0 rfl (lv_at hl 0 rfl) ?_
  refine t_getX C hH hI.1 mq tq td_0 iX9 rfl 1 (by decide) wd414 rfl (hI.rf kq_1) dX9_most_1 ?_
  refine t_Vi C hO hl.1 hA hH hI.1 (As := []) (rest := []) (t_X3_isNone l E J τ L f hI.1 mq_1 tq_1) my_X3_isNone wd473 mq_1 tq_1 td_3 rfl rfl rfl (Nat.le_of_ble_eq_true rfl) ⟨Nat.le_of_ble_eq_true rfl, Nat.le_of_ble_eq_true rfl⟩ ⟨rfl, rfl⟩ dX9_most_4 (fun r2 L1 f1 H locs hp hH => ?_)
  obtain ⟨rfl, s3, h4⟩ := hp
  have hI := hI.call s3 (by decide)
  refine lv_if_ne (tgt := 17) hx hb dX9_most_7 (by decide) (fun c5 => ?_) (fun c5 => ?_)
  · skip
    have r6 : rg r2 1 1 := rf_nel (n_eq c5) h4 rl_0 (by decide)
    refine lv_bipush (v := (-2 : Int32)) hx hb dX9_most_17 (by decide) ?_
    exact g_iret C hr hH (Nat.zero_le _) (Nat.zero_le _) dX9_most_19 ⟨rfl, hI, (rg_w rl_m2 (by decide))⟩
  · skip
    have r7 : rg r2 0 0 := rf_eql (c_eq c5) h4 rl_0 (by decide)
    refine lv_iload_n hx hb dX9_most_10 rfl (lv_at hl 1 rfl) ?_
    refine t_Si C hO hl.1 hA hH (As := [.int p1]) (rest := []) (t_X9_isLampCount l E J τ L f1 hI.1 p1) my_X9_isLampCount wd570 rfl rfl (Nat.le_of_ble_eq_true rfl) ⟨Nat.le_of_ble_eq_true rfl, Nat.le_of_ble_eq_true rfl⟩ ⟨rfl, rfl⟩ dX9_most_11 (fun r9 L1 f8 H locs hp hH => ?_)
    obtain ⟨rfl, s10, h11⟩ := hp
    have hI := hI.call s10 (by decide)
    refine lv_if_ne (tgt := 20) hx hb dX9_most_14 (by decide) (fun c12 => ?_) (fun c12 => ?_)
    · skip
      have r13 : rg r9 1 1 := rf_nel (n_eq c12) h11.1 rl_0 (by decide)
      have r14 : rg p1 0 3 := h11.2 c12
      refine lv_aload_n hx hb dX9_most_20 rfl (lv_at hl 0 rfl) ?_
      refine t_getX C hH hI.1 mq tq td_0 iX9 rfl 6 (by decide) wd560 rfl (hI.rf kq_6) dX9_most_21 ?_
      refine t_Vv C hO hl.1 hA hH hI.1 (As := []) (rest := []) (t_X4_learn l E J τ L f8 hI.1 mq_6 tq_6) my_X4_learn wd564 mq_6 tq_6 td_24 rfl rfl rfl (Nat.le_of_ble_eq_true rfl) ⟨Nat.le_of_ble_eq_true rfl, Nat.le_of_ble_eq_true rfl⟩ ⟨rfl, rfl⟩ dX9_most_24 (fun L1 f15 H locs hp hH => ?_)
      obtain ⟨rfl, s17, h18⟩ := hp
      have hI := hI.call s17 (by decide)
      refine lv_aload_n hx hb dX9_most_27 rfl (lv_at hl 0 rfl) ?_
      refine t_getX C hH hI.1 mq tq td_0 iX9 rfl 6 (by decide) wd560 rfl (hI.rf kq_6) dX9_most_28 ?_
      refine lv_iload_n hx hb dX9_most_31 rfl (lv_at hl 1 rfl) ?_
      refine t_Vi C hO hl.1 hA hH hI.1 (As := [.int p1]) (rest := []) (t_X4_mostServed l E J τ L f15 hI.1 mq_6 tq_6 p1) my_X4_mostServed wd578 mq_6 tq_6 td_24 rfl rfl rfl (Nat.le_of_ble_eq_true rfl) ⟨Nat.le_of_ble_eq_true rfl, Nat.le_of_ble_eq_true rfl⟩ ⟨rfl, rfl⟩ dX9_most_32 (fun r20 L1 f19 H locs hp hH => ?_)
      obtain ⟨rfl, s21, h22⟩ := hp
      have hI := hI.call s21 (by decide)
      exact g_iret C hr hH (Nat.zero_le _) (Nat.zero_le _) dX9_most_35 ⟨rfl, hI, h22⟩
    · skip
      have r23 : rg r9 0 0 := rf_eql (c_eq c12) h11.1 rl_0 (by decide)
      refine lv_bipush (v := (-2 : Int32)) hx hb dX9_most_17 (by decide) ?_
      exact g_iret C hr hH (Nat.zero_le _) (Nat.zero_le _) dX9_most_19 ⟨rfl, hI, (rg_w rl_m2 (by decide))⟩
set_option maxHeartbeats 4000000 in
set_option maxRecDepth 100000 in
theorem t_X9_more (l : Launch) (E : gE) (J : Nat → Nat) (τ : Nat → Nat) (L : List Nat) (f : gF) (hI : tI E L τ f) {q : Nat} (mq : q ∈ L) (tq : τ q = 0) : tMi l E J yX9_more cX9_more 1 .int (gRm (7) 0 0) [.ref q] L f (tPi E L τ [19, 20, 21, 23] f (fun r f1 => rg r (-2147483648) 2147483647)) := by
  refine tMi.intro (by decide) (Nat.le_of_ble_eq_true rfl) ?_
  intro p e s m below meth c A ls C hr hA hO hH hl
  have C : gC E cX9_more 1 RX9 p s m _ meth c := C
  have hl : lv_has ls 1 [(0, .ref q)] := hl
  have hx := C.1
  have hb := C.2.1
  have hI := hI.S [19, 20, 21, 23]
  obtain ⟨q_1, mq_1, tq_1, kq_1⟩ := t_fldr hI.1 mq tq td_0 (k := 1) rfl
  refine lv_aload_n hx hb dX9_more_0 rfl (lv_at hl 0 rfl) ?_
  refine t_getX C hH hI.1 mq tq td_0 iX9 rfl 1 (by decide) wd414 rfl (hI.rf kq_1) dX9_more_1 ?_
  refine t_Vi C hO hl.1 hA hH hI.1 (As := []) (rest := []) (t_X3_isNone l E J τ L f hI.1 mq_1 tq_1) my_X3_isNone wd473 mq_1 tq_1 td_3 rfl rfl rfl (Nat.le_of_ble_eq_true rfl) ⟨Nat.le_of_ble_eq_true rfl, Nat.le_of_ble_eq_true rfl⟩ ⟨rfl, rfl⟩ dX9_more_4 (fun r2 L1 f1 H locs hp hH => ?_)
  obtain ⟨rfl, s3, h4⟩ := hp
  have hI := hI.call s3 (by decide)
  refine lv_if_eq (tgt := 15) hx hb dX9_more_7 (by decide) (fun c5 => ?_) (fun c5 => ?_)
  · skip
    have r6 : rg r2 0 0 := rf_eql (c_eq c5) h4 rl_0 (by decide)
    refine lv_aload_n hx hb dX9_more_15 rfl (lv_at hl 0 rfl) ?_
    refine lv_aload_n hx hb dX9_more_16 rfl (lv_at hl 0 rfl) ?_
    refine t_getX C hH hI.1 mq tq td_0 iX9 rfl 1 (by decide) wd414 rfl (hI.rf kq_1) dX9_more_17 ?_
    refine t_Vi C hO hl.1 hA hH hI.1 (As := []) (rest := [.ref q]) (t_X3_allCells l E J τ L f1 hI.1 mq_1 tq_1) my_X3_allCells wd554 mq_1 tq_1 td_3 rfl rfl rfl (Nat.le_of_ble_eq_true rfl) ⟨Nat.le_of_ble_eq_true rfl, Nat.le_of_ble_eq_true rfl⟩ ⟨rfl, rfl⟩ dX9_more_20 (fun r8 L1 f7 H locs hp hH => ?_)
    obtain ⟨rfl, s9, h10⟩ := hp
    have hI := hI.call s9 (by decide)
    refine lv_aload_n hx hb dX9_more_23 rfl (lv_at hl 0 rfl) ?_
    refine t_getX C hH hI.1 mq tq td_0 iX9 rfl 1 (by decide) wd414 rfl (hI.rf kq_1) dX9_more_24 ?_
    refine t_geti C hH hI.1 mq_1 tq_1 td_3 iX3 rfl 8 (by decide) wd426 rfl rfl dX9_more_27 (fun z11 rz11 => ?_)
    refine lv_iconst (v := (-1 : Int32)) hx hb dX9_more_30 (by decide) ?_
    refine lv_ixor hx hb dX9_more_31 ?_
    refine lv_topi (fun z12 ez12 => ?_)
    refine lv_iand hx hb dX9_more_32 ?_
    refine lv_topi (fun z13 ez13 => ?_)
    have r14 : rg z13 0 1048575 := rg_andl ez13 h10 (by decide)
    refine t_Vi C hO hl.1 hA hH hI.1 (As := [.int z13]) (rest := []) (t_X9_bestChange l E J τ L f7 hI.1 mq tq z13) my_X9_bestChange wd582 mq tq td_0 rfl rfl rfl (Nat.le_of_ble_eq_true rfl) ⟨Nat.le_of_ble_eq_true rfl, Nat.le_of_ble_eq_true rfl⟩ ⟨rfl, rfl⟩ dX9_more_33 (fun r16 L1 f15 H locs hp hH => ?_)
    obtain ⟨rfl, s17, h18⟩ := hp
    have hI := hI.call s17 (by decide)
    exact g_iret C hr hH (Nat.zero_le _) (Nat.zero_le _) dX9_more_36 ⟨rfl, hI, h18⟩
  · skip
    have r19 : rg r2 1 1 := rf_nel (n_eq c5) h4 rl_0 (by decide)
    refine lv_bipush (v := (-2 : Int32)) hx hb dX9_more_10 (by decide) ?_
    refine lv_goto (tgt := 36) hx hb dX9_more_12 (by decide) ?_
    exact g_iret C hr hH (Nat.zero_le _) (Nat.zero_le _) dX9_more_36 ⟨rfl, hI, (rg_w rl_m2 (by decide))⟩
set_option maxHeartbeats 4000000 in
set_option maxRecDepth 100000 in
theorem t_X9_less (l : Launch) (E : gE) (J : Nat → Nat) (τ : Nat → Nat) (L : List Nat) (f : gF) (hI : tI E L τ f) {q : Nat} (mq : q ∈ L) (tq : τ q = 0) : tMi l E J yX9_less cX9_less 1 .int (gRm (7) 0 0) [.ref q] L f (tPi E L τ [19, 20, 21, 23] f (fun r f1 => rg r (-2147483648) 2147483647)) := by
  refine tMi.intro (by decide) (Nat.le_of_ble_eq_true rfl) ?_
  intro p e s m below meth c A ls C hr hA hO hH hl
  have C : gC E cX9_less 1 RX9 p s m _ meth c := C
  have hl : lv_has ls 1 [(0, .ref q)] := hl
  have hx := C.1
  have hb := C.2.1
  have hI := hI.S [19, 20, 21, 23]
  obtain ⟨q_1, mq_1, tq_1, kq_1⟩ := t_fldr hI.1 mq tq td_0 (k := 1) rfl
  refine lv_aload_n hx hb dX9_less_0 rfl (lv_at hl 0 rfl) ?_
  refine t_getX C hH hI.1 mq tq td_0 iX9 rfl 1 (by decide) wd414 rfl (hI.rf kq_1) dX9_less_1 ?_
  refine t_Vi C hO hl.1 hA hH hI.1 (As := []) (rest := []) (t_X3_isNone l E J τ L f hI.1 mq_1 tq_1) my_X3_isNone wd473 mq_1 tq_1 td_3 rfl rfl rfl (Nat.le_of_ble_eq_true rfl) ⟨Nat.le_of_ble_eq_true rfl, Nat.le_of_ble_eq_true rfl⟩ ⟨rfl, rfl⟩ dX9_less_4 (fun r2 L1 f1 H locs hp hH => ?_)
  obtain ⟨rfl, s3, h4⟩ := hp
  have hI := hI.call s3 (by decide)
  refine lv_if_eq (tgt := 15) hx hb dX9_less_7 (by decide) (fun c5 => ?_) (fun c5 => ?_)
  · skip
    have r6 : rg r2 0 0 := rf_eql (c_eq c5) h4 rl_0 (by decide)
    refine lv_aload_n hx hb dX9_less_15 rfl (lv_at hl 0 rfl) ?_
    refine lv_aload_n hx hb dX9_less_16 rfl (lv_at hl 0 rfl) ?_
    refine t_getX C hH hI.1 mq tq td_0 iX9 rfl 1 (by decide) wd414 rfl (hI.rf kq_1) dX9_less_17 ?_
    refine t_geti C hH hI.1 mq_1 tq_1 td_3 iX3 rfl 8 (by decide) wd426 rfl rfl dX9_less_20 (fun z7 rz7 => ?_)
    refine t_Vi C hO hl.1 hA hH hI.1 (As := [.int z7]) (rest := []) (t_X9_bestChange l E J τ L f1 hI.1 mq tq z7) my_X9_bestChange wd582 mq tq td_0 rfl rfl rfl (Nat.le_of_ble_eq_true rfl) ⟨Nat.le_of_ble_eq_true rfl, Nat.le_of_ble_eq_true rfl⟩ ⟨rfl, rfl⟩ dX9_less_23 (fun r9 L1 f8 H locs hp hH => ?_)
    obtain ⟨rfl, s10, h11⟩ := hp
    have hI := hI.call s10 (by decide)
    exact g_iret C hr hH (Nat.zero_le _) (Nat.zero_le _) dX9_less_26 ⟨rfl, hI, h11⟩
  · skip
    have r12 : rg r2 1 1 := rf_nel (n_eq c5) h4 rl_0 (by decide)
    refine lv_bipush (v := (-2 : Int32)) hx hb dX9_less_10 (by decide) ?_
    refine lv_goto (tgt := 26) hx hb dX9_less_12 (by decide) ?_
    exact g_iret C hr hH (Nat.zero_le _) (Nat.zero_le _) dX9_less_26 ⟨rfl, hI, (rg_w rl_m2 (by decide))⟩
set_option maxHeartbeats 4000000 in
set_option maxRecDepth 100000 in
theorem t_X9_by (l : Launch) (E : gE) (J : Nat → Nat) (τ : Nat → Nat) (L : List Nat) (f : gF) (hI : tI E L τ f) {q : Nat} (mq : q ∈ L) (tq : τ q = 0) (p1 : Int32) : tMi l E J yX9_by cX9_by 2 .int (gRm (6) 0 0) [.ref q, .int p1] L f (tPi E L τ [19, 20, 21, 23] f (fun r f1 => rg r (-2147483648) 2147483647)) := by
  refine tMi.intro (by decide) (Nat.le_of_ble_eq_true rfl) ?_
  intro p e s m below meth c A ls C hr hA hO hH hl
  have C : gC E cX9_by 2 RX9 p s m _ meth c := C
  have hl : lv_has ls 2 [(0, .ref q), (1, .int p1)] := hl
  have hx := C.1
  have hb := C.2.1
  have hI := hI.S [19, 20, 21, 23]
  obtain ⟨q_1, mq_1, tq_1, kq_1⟩ := t_fldr hI.1 mq tq td_0 (k := 1) rfl
  refine lv_aload_n hx hb dX9_by_0 rfl (lv_at hl 0 rfl) ?_
  refine t_getX C hH hI.1 mq tq td_0 iX9 rfl 1 (by decide) wd414 rfl (hI.rf kq_1) dX9_by_1 ?_
  refine t_Vi C hO hl.1 hA hH hI.1 (As := []) (rest := []) (t_X3_isNone l E J τ L f hI.1 mq_1 tq_1) my_X3_isNone wd473 mq_1 tq_1 td_3 rfl rfl rfl (Nat.le_of_ble_eq_true rfl) ⟨Nat.le_of_ble_eq_true rfl, Nat.le_of_ble_eq_true rfl⟩ ⟨rfl, rfl⟩ dX9_by_4 (fun r2 L1 f1 H locs hp hH => ?_)
  obtain ⟨rfl, s3, h4⟩ := hp
  have hI := hI.call s3 (by decide)
  refine lv_if_ne (tgt := 19) hx hb dX9_by_7 (by decide) (fun c5 => ?_) (fun c5 => ?_)
  · skip
    have r6 : rg r2 1 1 := rf_nel (n_eq c5) h4 rl_0 (by decide)
    refine lv_bipush (v := (-2 : Int32)) hx hb dX9_by_19 (by decide) ?_
    exact g_iret C hr hH (Nat.zero_le _) (Nat.zero_le _) dX9_by_21 ⟨rfl, hI, (rg_w rl_m2 (by decide))⟩
  · skip
    have r7 : rg r2 0 0 := rf_eql (c_eq c5) h4 rl_0 (by decide)
    refine lv_iload_n hx hb dX9_by_10 rfl (lv_at hl 1 rfl) ?_
    refine lv_if_lt (tgt := 19) hx hb dX9_by_11 (by decide) (fun c8 => ?_) (fun c8 => ?_)
    · skip
      have r9 : rg p1 (-2147483648) (-1) := rf_ltl (c_lt c8) (rg_all _) rl_0 (by decide)
      refine lv_bipush (v := (-2 : Int32)) hx hb dX9_by_19 (by decide) ?_
      exact g_iret C hr hH (Nat.zero_le _) (Nat.zero_le _) dX9_by_21 ⟨rfl, hI, (rg_w rl_m2 (by decide))⟩
    · skip
      have r10 : rg p1 0 2147483647 := rf_ler (n_lt c8) rl_0 (rg_all _) (by decide)
      refine lv_iload_n hx hb dX9_by_14 rfl (lv_at hl 1 rfl) ?_
      refine lv_iconst (v := (4 : Int32)) hx hb dX9_by_15 (by decide) ?_
      refine lv_icmp_lt (tgt := 22) hx hb dX9_by_16 (by decide) (fun c11 => ?_) (fun c11 => ?_)
      · skip
        have r12 : rg p1 0 3 := rf_ltl (c_lt c11) r10 rl_4 (by decide)
        refine lv_aload_n hx hb dX9_by_22 rfl (lv_at hl 0 rfl) ?_
        refine lv_aload_n hx hb dX9_by_23 rfl (lv_at hl 0 rfl) ?_
        refine t_getX C hH hI.1 mq tq td_0 iX9 rfl 1 (by decide) wd414 rfl (hI.rf kq_1) dX9_by_24 ?_
        refine t_geti C hH hI.1 mq_1 tq_1 td_3 iX3 rfl 8 (by decide) wd426 rfl rfl dX9_by_27 (fun z13 rz13 => ?_)
        refine lv_iload_n hx hb dX9_by_30 rfl (lv_at hl 1 rfl) ?_
        refine t_Vi C hO hl.1 hA hH hI.1 (As := [.int z13, .int p1]) (rest := []) (t_X9_incomeUnder l E J τ L f1 hI.1 mq tq z13 p1) my_X9_incomeUnder wd463 mq tq td_0 rfl rfl rfl (Nat.le_of_ble_eq_true rfl) ⟨Nat.le_of_ble_eq_true rfl, Nat.le_of_ble_eq_true rfl⟩ ⟨rfl, rfl⟩ dX9_by_31 (fun r15 L1 f14 H locs hp hH => ?_)
        obtain ⟨rfl, s16, h17⟩ := hp
        have hI := hI.call s16 (by decide)
        exact g_iret C hr hH (Nat.zero_le _) (Nat.zero_le _) dX9_by_34 ⟨rfl, hI, h17⟩
      · skip
        have r18 : rg p1 4 2147483647 := rf_ler (n_lt c11) rl_4 r10 (by decide)
        refine lv_bipush (v := (-2 : Int32)) hx hb dX9_by_19 (by decide) ?_
        exact g_iret C hr hH (Nat.zero_le _) (Nat.zero_le _) dX9_by_21 ⟨rfl, hI, (rg_w rl_m2 (by decide))⟩
set_option maxHeartbeats 4000000 in
set_option maxRecDepth 100000 in
theorem t_X9_law (l : Launch) (E : gE) (J : Nat → Nat) (τ : Nat → Nat) (L : List Nat) (f : gF) (hI : tI E L τ f) {q : Nat} (mq : q ∈ L) (tq : τ q = 0) : tMi l E J yX9_law cX9_law 5 .int (gRm (6) 0 0) [.ref q] L f (tPi E L τ [19, 20, 21, 23] f (fun r f1 => rg r (-2147483648) 2147483647)) := by
  refine tMi.intro (by decide) (Nat.le_of_ble_eq_true rfl) ?_
  intro p e s m below meth c A ls C hr hA hO hH hl
  have C : gC E cX9_law 5 RX9 p s m _ meth c := C
  have hl : lv_has ls 5 [(0, .ref q)] := hl
  have hx := C.1
  have hb := C.2.1
  have hI := hI.S [19, 20, 21, 23]
  obtain ⟨q_1, mq_1, tq_1, kq_1⟩ := t_fldr hI.1 mq tq td_0 (k := 1) rfl
  have cut30 : ∀ (n : Nat) (fh30 : gF) (H : Heap) (locs : List Loc) (ls : Array Slot) (v30_1 : Int32) (v30_2 : Int32) (v30_3 : Int32), 4 - v30_3.toInt < (n : Int) → tS E L τ [19, 20, 21, 23] f fh30 → gH E A L fh30 s.heap H locs → rg v30_1 0 3 → rg v30_3 1 4 → lv_has ls 5 [(0, .ref q), (1, .int v30_1), (2, .int v30_2), (3, .int v30_3)] → W p l e (gRm (6) 0 0) s m [.ref q].toArray below meth c H locs 0 0 (MQ below (gQi E A (tPi E L τ [19, 20, 21, 23] f (fun r f1 => rg r (-2147483648) 2147483647))) [.ref q].toArray s (gRm (6) 0 0).cells (gRm (6) 0 0).slots A) (F0 m 30 ls []) := by
    intro n
    induction n with
    | zero =>
      intro fh30 H locs ls v30_1 v30_2 v30_3 hfu30 hI hH r_v30_1 r_v30_3 hl
      exact (fu_0 hfu30 r_v30_3).elim
    | succ n ih30 =>
      intro fh30 H locs ls v30_1 v30_2 v30_3 hfu30 hI hH r_v30_1 r_v30_3 hl
      refine lv_iload_n hx hb dX9_law_30 rfl (lv_at hl 3 rfl) ?_
      refine lv_iconst (v := (4 : Int32)) hx hb dX9_law_31 (by decide) ?_
      refine lv_icmp_ge (tgt := 66) hx hb dX9_law_32 (by decide) (fun c1 => ?_) (fun c1 => ?_)
      · skip
        have r2 : rg v30_3 4 4 := rf_ler (c_le c1) rl_4 r_v30_3 (by decide)
        refine lv_iload_n hx hb dX9_law_66 rfl (lv_at hl 1 rfl) ?_
        exact g_iret C hr hH (Nat.zero_le _) (Nat.zero_le _) dX9_law_67 ⟨rfl, hI, (rg_w r_v30_1 (by decide))⟩
      · skip
        have r3 : rg v30_3 1 3 := rf_ltl (n_le c1) r_v30_3 rl_4 (by decide)
        refine lv_aload_n hx hb dX9_law_35 rfl (lv_at hl 0 rfl) ?_
        refine lv_aload_n hx hb dX9_law_36 rfl (lv_at hl 0 rfl) ?_
        refine t_getX C hH hI.1 mq tq td_0 iX9 rfl 1 (by decide) wd414 rfl (hI.rf kq_1) dX9_law_37 ?_
        refine t_geti C hH hI.1 mq_1 tq_1 td_3 iX3 rfl 8 (by decide) wd426 rfl rfl dX9_law_40 (fun z4 rz4 => ?_)
        refine lv_iload_n hx hb dX9_law_43 rfl (lv_at hl 3 rfl) ?_
        refine t_Vi C hO hl.1 hA hH hI.1 (As := [.int z4, .int v30_3]) (rest := []) (t_X9_incomeUnder l E J τ L fh30 hI.1 mq tq z4 v30_3) my_X9_incomeUnder wd463 mq tq td_0 rfl rfl rfl (Nat.le_of_ble_eq_true rfl) ⟨Nat.le_of_ble_eq_true rfl, Nat.le_of_ble_eq_true rfl⟩ ⟨rfl, rfl⟩ dX9_law_44 (fun r6 L1 f5 H locs hp hH => ?_)
        obtain ⟨rfl, s7, h8⟩ := hp
        have hI := hI.call s7 (by decide)
        refine lv_istore (lv' := [(4, .int r6), (0, .ref q), (1, .int v30_1), (2, .int v30_2), (3, .int v30_3)]) hx hb dX9_law_47 hl (by decide) rfl (fun ls hl => ?_)
        refine lv_iload hx hb dX9_law_49 (lv_at hl 0 rfl) ?_
        refine lv_iload_n hx hb dX9_law_51 rfl (lv_at hl 3 rfl) ?_
        refine lv_icmp_le (tgt := 60) hx hb dX9_law_52 (by decide) (fun c9 => ?_) (fun c9 => ?_)
        · skip
          obtain ⟨z10, ez10⟩ : ∃ y : Int32, y = v30_3 + (1 : Int32) := ⟨_, rfl⟩
          have r11 : rg z10 2 4 := rg_add ez10 r3 rl_1 (by decide)
          have a12 : z10.toInt = v30_3.toInt + 1 := ai_add ez10 r3 tl_1 (by decide)
          refine lv_iinc (v := z10) (lv' := [(3, .int z10), (4, .int r6), (0, .ref q), (1, .int v30_1), (2, .int v30_2)]) hx hb dX9_law_60 hl (k := 4) rfl (by rw [ez10]; rfl) (by decide) rfl (fun ls hl => ?_)
          refine lv_goto (tgt := 30) hx hb dX9_law_63 (by decide) ?_
          exact ih30 _ _ _ _ v30_1 v30_2 z10 (fu_s hfu30 a12 (by decide)) hI hH r_v30_1 (rg_w r11 (by decide)) (lv_sub hl [2, 3, 4, 0] rfl)
        · skip
          have r13 : rg v30_2 (-2147483648) 2147483646 := rf_ltl (n_le c9) (rg_all _) h8 (by decide)
          have r14 : rg r6 (-2147483647) 2147483647 := rf_ltr (n_le c9) (rg_all _) h8 (by decide)
          refine lv_iload hx hb dX9_law_55 (lv_at hl 0 rfl) ?_
          refine lv_istore_n (lv' := [(2, .int r6), (4, .int r6), (0, .ref q), (1, .int v30_1), (3, .int v30_3)]) hx hb dX9_law_57 rfl hl (by decide) rfl (fun ls hl => ?_)
          refine lv_iload_n hx hb dX9_law_58 rfl (lv_at hl 4 rfl) ?_
          refine lv_istore_n (lv' := [(1, .int v30_3), (2, .int r6), (4, .int r6), (0, .ref q), (3, .int v30_3)]) hx hb dX9_law_59 rfl hl (by decide) rfl (fun ls hl => ?_)
          obtain ⟨z15, ez15⟩ : ∃ y : Int32, y = v30_3 + (1 : Int32) := ⟨_, rfl⟩
          have r16 : rg z15 2 4 := rg_add ez15 r3 rl_1 (by decide)
          have a17 : z15.toInt = v30_3.toInt + 1 := ai_add ez15 r3 tl_1 (by decide)
          refine lv_iinc (v := z15) (lv' := [(3, .int z15), (1, .int v30_3), (2, .int r6), (4, .int r6), (0, .ref q)]) hx hb dX9_law_60 hl (k := 4) rfl (by rw [ez15]; rfl) (by decide) rfl (fun ls hl => ?_)
          refine lv_goto (tgt := 30) hx hb dX9_law_63 (by decide) ?_
          exact ih30 _ _ _ _ v30_3 r6 z15 (fu_s hfu30 a17 (by decide)) hI hH (rg_w r3 (by decide)) (rg_w r16 (by decide)) (lv_sub hl [4, 1, 2, 0] rfl)
  refine lv_aload_n hx hb dX9_law_0 rfl (lv_at hl 0 rfl) ?_
  refine t_getX C hH hI.1 mq tq td_0 iX9 rfl 1 (by decide) wd414 rfl (hI.rf kq_1) dX9_law_1 ?_
  refine t_Vi C hO hl.1 hA hH hI.1 (As := []) (rest := []) (t_X3_isNone l E J τ L f hI.1 mq_1 tq_1) my_X3_isNone wd473 mq_1 tq_1 td_3 rfl rfl rfl (Nat.le_of_ble_eq_true rfl) ⟨Nat.le_of_ble_eq_true rfl, Nat.le_of_ble_eq_true rfl⟩ ⟨rfl, rfl⟩ dX9_law_4 (fun r19 L1 f18 H locs hp hH => ?_)
  obtain ⟨rfl, s20, h21⟩ := hp
  have hI := hI.call s20 (by decide)
  refine lv_if_eq (tgt := 13) hx hb dX9_law_7 (by decide) (fun c22 => ?_) (fun c22 => ?_)
  · skip
    have r23 : rg r19 0 0 := rf_eql (c_eq c22) h21 rl_0 (by decide)
    refine lv_iconst (v := (0 : Int32)) hx hb dX9_law_13 (by decide) ?_
    refine lv_istore_n (lv' := [(1, .int (0 : Int32)), (0, .ref q)]) hx hb dX9_law_14 rfl hl (by decide) rfl (fun ls hl => ?_)
    refine lv_aload_n hx hb dX9_law_15 rfl (lv_at hl 1 rfl) ?_
    refine lv_aload_n hx hb dX9_law_16 rfl (lv_at hl 1 rfl) ?_
    refine t_getX C hH hI.1 mq tq td_0 iX9 rfl 1 (by decide) wd414 rfl (hI.rf kq_1) dX9_law_17 ?_
    refine t_geti C hH hI.1 mq_1 tq_1 td_3 iX3 rfl 8 (by decide) wd426 rfl rfl dX9_law_20 (fun z24 rz24 => ?_)
    refine lv_iconst (v := (0 : Int32)) hx hb dX9_law_23 (by decide) ?_
    refine t_Vi C hO hl.1 hA hH hI.1 (As := [.int z24, .int (0 : Int32)]) (rest := []) (t_X9_incomeUnder l E J τ L f18 hI.1 mq tq z24 (0 : Int32)) my_X9_incomeUnder wd463 mq tq td_0 rfl rfl rfl (Nat.le_of_ble_eq_true rfl) ⟨Nat.le_of_ble_eq_true rfl, Nat.le_of_ble_eq_true rfl⟩ ⟨rfl, rfl⟩ dX9_law_24 (fun r26 L1 f25 H locs hp hH => ?_)
    obtain ⟨rfl, s27, h28⟩ := hp
    have hI := hI.call s27 (by decide)
    refine lv_istore_n (lv' := [(2, .int r26), (1, .int (0 : Int32)), (0, .ref q)]) hx hb dX9_law_27 rfl hl (by decide) rfl (fun ls hl => ?_)
    refine lv_iconst (v := (1 : Int32)) hx hb dX9_law_28 (by decide) ?_
    refine lv_istore_n (lv' := [(3, .int (1 : Int32)), (2, .int r26), (1, .int (0 : Int32)), (0, .ref q)]) hx hb dX9_law_29 rfl hl (by decide) rfl (fun ls hl => ?_)
    exact cut30 4 _ _ _ _ (0 : Int32) r26 (1 : Int32) (fu_i 4 rl_1 (by decide)) hI hH (rg_w rl_0 (by decide)) (rg_w rl_1 (by decide)) (lv_sub hl [3, 2, 1, 0] rfl)
  · skip
    have r29 : rg r19 1 1 := rf_nel (n_eq c22) h21 rl_0 (by decide)
    refine lv_bipush (v := (-2 : Int32)) hx hb dX9_law_10 (by decide) ?_
    exact g_iret C hr hH (Nat.zero_le _) (Nat.zero_le _) dX9_law_12 ⟨rfl, hI, (rg_w rl_m2 (by decide))⟩
set_option maxHeartbeats 4000000 in
set_option maxRecDepth 100000 in
theorem t_X9_began (l : Launch) (E : gE) (J : Nat → Nat) (τ : Nat → Nat) (L : List Nat) (f : gF) (hI : tI E L τ f) {q : Nat} (mq : q ∈ L) (tq : τ q = 0) (p1 : Int32) : tMi l E J yX9_began cX9_began 3 .int (gRm (4) 0 0) [.ref q, .int p1] L f (tPi E L τ [19, 20, 21, 28] f (fun r f1 => rg r (-2147483648) 2147483647)) := by
  refine tMi.intro (by decide) (Nat.le_of_ble_eq_true rfl) ?_
  intro p e s m below meth c A ls C hr hA hO hH hl
  have C : gC E cX9_began 3 RX9 p s m _ meth c := C
  have hl : lv_has ls 3 [(0, .ref q), (1, .int p1)] := hl
  have hx := C.1
  have hb := C.2.1
  have hI := hI.S [19, 20, 21, 28]
  obtain ⟨q_7, mq_7, tq_7, kq_7⟩ := t_fldr hI.1 mq tq td_0 (k := 7) rfl
  obtain ⟨q_4, mq_4, tq_4, kq_4⟩ := t_fldr hI.1 mq tq td_0 (k := 4) rfl
  refine lv_aload_n hx hb dX9_began_0 rfl (lv_at hl 0 rfl) ?_
  refine lv_iload_n hx hb dX9_began_1 rfl (lv_at hl 1 rfl) ?_
  refine t_Vi C hO hl.1 hA hH hI.1 (As := [.int p1]) (rest := []) (t_X9_reportRefusal l E J τ L f hI.1 mq tq p1) my_X9_reportRefusal wd586 mq tq td_0 rfl rfl rfl (Nat.le_of_ble_eq_true rfl) ⟨Nat.le_of_ble_eq_true rfl, Nat.le_of_ble_eq_true rfl⟩ ⟨rfl, rfl⟩ dX9_began_2 (fun r2 L1 f1 H locs hp hH => ?_)
  obtain ⟨rfl, s3, h4⟩ := hp
  have hI := hI.call s3 (by decide)
  refine lv_istore_n (lv' := [(2, .int r2), (0, .ref q), (1, .int p1)]) hx hb dX9_began_5 rfl hl (by decide) rfl (fun ls hl => ?_)
  refine lv_iload_n hx hb dX9_began_6 rfl (lv_at hl 0 rfl) ?_
  refine lv_if_eq (tgt := 14) hx hb dX9_began_7 (by decide) (fun c5 => ?_) (fun c5 => ?_)
  · skip
    have r6 : rg r2 0 0 := rf_eql (c_eq c5) h4.1 rl_0 (by decide)
    have r7 : rg p1 0 3 := h4.2 c5
    refine lv_aload_n hx hb dX9_began_14 rfl (lv_at hl 1 rfl) ?_
    refine t_getX C hH hI.1 mq tq td_0 iX9 rfl 7 (by decide) wd478 rfl (hI.rf kq_7) dX9_began_15 ?_
    refine lv_aload_n hx hb dX9_began_18 rfl (lv_at hl 1 rfl) ?_
    refine t_getX C hH hI.1 mq tq td_0 iX9 rfl 4 (by decide) wd419 rfl (hI.rf kq_4) dX9_began_19 ?_
    refine lv_iload_n hx hb dX9_began_22 rfl (lv_at hl 2 rfl) ?_
    refine t_aald C hH hI.1 mq_4 tq_4 td_16 rfl (rg_in r7 (by decide)) dX9_began_23 (fun q8 mq8 tq8 => ?_)
    refine t_Vi C hO hl.1 hA hH hI.1 (As := [.ref q8]) (rest := []) (t_X0_sift l E J τ L f1 hI.1 mq_7 tq_7 mq8 tq8) my_X0_sift wd590 mq_7 tq_7 td_27 rfl rfl rfl (Nat.le_of_ble_eq_true rfl) ⟨Nat.le_of_ble_eq_true rfl, Nat.le_of_ble_eq_true rfl⟩ ⟨rfl, rfl⟩ dX9_began_24 (fun r10 L1 f9 H locs hp hH => ?_)
    obtain ⟨rfl, s11, h12⟩ := hp
    have hI := hI.call s11 (by decide)
    exact g_iret C hr hH (Nat.zero_le _) (Nat.zero_le _) dX9_began_27 ⟨rfl, hI, h12⟩
  · skip
    have r13 : rg r2 (-6) (-1) := rf_nel (n_eq c5) h4.1 rl_0 (by decide)
    refine lv_iload_n hx hb dX9_began_10 rfl (lv_at hl 0 rfl) ?_
    refine lv_goto (tgt := 27) hx hb dX9_began_11 (by decide) ?_
    exact g_iret C hr hH (Nat.zero_le _) (Nat.zero_le _) dX9_began_27 ⟨rfl, hI, (rg_w r13 (by decide))⟩
set_option maxHeartbeats 4000000 in
set_option maxRecDepth 100000 in
theorem t_X9_spots (l : Launch) (E : gE) (J : Nat → Nat) (τ : Nat → Nat) (L : List Nat) (f : gF) (hI : tI E L τ f) {q : Nat} (mq : q ∈ L) (tq : τ q = 0) (p1 : Int32) : tMi l E J yX9_spots cX9_spots 3 .int (gRm (4) 0 0) [.ref q, .int p1] L f (tPi E L τ [19, 20, 21, 28] f (fun r f1 => rg r (-2147483648) 2147483647)) := by
  refine tMi.intro (by decide) (Nat.le_of_ble_eq_true rfl) ?_
  intro p e s m below meth c A ls C hr hA hO hH hl
  have C : gC E cX9_spots 3 RX9 p s m _ meth c := C
  have hl : lv_has ls 3 [(0, .ref q), (1, .int p1)] := hl
  have hx := C.1
  have hb := C.2.1
  have hI := hI.S [19, 20, 21, 28]
  obtain ⟨q_7, mq_7, tq_7, kq_7⟩ := t_fldr hI.1 mq tq td_0 (k := 7) rfl
  obtain ⟨q_4, mq_4, tq_4, kq_4⟩ := t_fldr hI.1 mq tq td_0 (k := 4) rfl
  refine lv_aload_n hx hb dX9_spots_0 rfl (lv_at hl 0 rfl) ?_
  refine lv_iload_n hx hb dX9_spots_1 rfl (lv_at hl 1 rfl) ?_
  refine t_Vi C hO hl.1 hA hH hI.1 (As := [.int p1]) (rest := []) (t_X9_reportRefusal l E J τ L f hI.1 mq tq p1) my_X9_reportRefusal wd586 mq tq td_0 rfl rfl rfl (Nat.le_of_ble_eq_true rfl) ⟨Nat.le_of_ble_eq_true rfl, Nat.le_of_ble_eq_true rfl⟩ ⟨rfl, rfl⟩ dX9_spots_2 (fun r2 L1 f1 H locs hp hH => ?_)
  obtain ⟨rfl, s3, h4⟩ := hp
  have hI := hI.call s3 (by decide)
  refine lv_istore_n (lv' := [(2, .int r2), (0, .ref q), (1, .int p1)]) hx hb dX9_spots_5 rfl hl (by decide) rfl (fun ls hl => ?_)
  refine lv_iload_n hx hb dX9_spots_6 rfl (lv_at hl 0 rfl) ?_
  refine lv_if_eq (tgt := 12) hx hb dX9_spots_7 (by decide) (fun c5 => ?_) (fun c5 => ?_)
  · skip
    have r6 : rg r2 0 0 := rf_eql (c_eq c5) h4.1 rl_0 (by decide)
    have r7 : rg p1 0 3 := h4.2 c5
    refine lv_aload_n hx hb dX9_spots_12 rfl (lv_at hl 1 rfl) ?_
    refine t_getX C hH hI.1 mq tq td_0 iX9 rfl 7 (by decide) wd478 rfl (hI.rf kq_7) dX9_spots_13 ?_
    refine lv_aload_n hx hb dX9_spots_16 rfl (lv_at hl 1 rfl) ?_
    refine t_getX C hH hI.1 mq tq td_0 iX9 rfl 4 (by decide) wd419 rfl (hI.rf kq_4) dX9_spots_17 ?_
    refine lv_iload_n hx hb dX9_spots_20 rfl (lv_at hl 2 rfl) ?_
    refine t_aald C hH hI.1 mq_4 tq_4 td_16 rfl (rg_in r7 (by decide)) dX9_spots_21 (fun q8 mq8 tq8 => ?_)
    refine t_Vi C hO hl.1 hA hH hI.1 (As := [.ref q8]) (rest := []) (t_X0_sift l E J τ L f1 hI.1 mq_7 tq_7 mq8 tq8) my_X0_sift wd590 mq_7 tq_7 td_27 rfl rfl rfl (Nat.le_of_ble_eq_true rfl) ⟨Nat.le_of_ble_eq_true rfl, Nat.le_of_ble_eq_true rfl⟩ ⟨rfl, rfl⟩ dX9_spots_22 (fun r10 L1 f9 H locs hp hH => ?_)
    obtain ⟨rfl, s11, h12⟩ := hp
    have hI := hI.call s11 (by decide)
    refine lv_pop hx hb dX9_spots_25 rfl ?_
    refine lv_aload_n hx hb dX9_spots_26 rfl (lv_at hl 1 rfl) ?_
    refine t_getX C hH hI.1 mq tq td_0 iX9 rfl 7 (by decide) wd478 rfl (hI.rf kq_7) dX9_spots_27 ?_
    refine t_Vi C hO hl.1 hA hH hI.1 (As := []) (rest := []) (t_X0_cellBits l E J τ L f9 hI.1 mq_7 tq_7) my_X0_cellBits wd594 mq_7 tq_7 td_27 rfl rfl rfl (Nat.le_of_ble_eq_true rfl) ⟨Nat.le_of_ble_eq_true rfl, Nat.le_of_ble_eq_true rfl⟩ ⟨rfl, rfl⟩ dX9_spots_30 (fun r14 L1 f13 H locs hp hH => ?_)
    obtain ⟨rfl, s15, h16⟩ := hp
    have hI := hI.call s15 (by decide)
    exact g_iret C hr hH (Nat.zero_le _) (Nat.zero_le _) dX9_spots_33 ⟨rfl, hI, h16⟩
  · skip
    have r17 : rg r2 (-6) (-1) := rf_nel (n_eq c5) h4.1 rl_0 (by decide)
    refine lv_iload_n hx hb dX9_spots_10 rfl (lv_at hl 0 rfl) ?_
    exact g_iret C hr hH (Nat.zero_le _) (Nat.zero_le _) dX9_spots_11 ⟨rfl, hI, (rg_w r17 (by decide))⟩
set_option maxHeartbeats 4000000 in
set_option maxRecDepth 100000 in
theorem t_X9_who (l : Launch) (E : gE) (J : Nat → Nat) (τ : Nat → Nat) (L : List Nat) (f : gF) (hI : tI E L τ f) {q : Nat} (mq : q ∈ L) (tq : τ q = 0) (p1 : Int32) : tMi l E J yX9_who cX9_who 3 .int (gRm (6) 0 0) [.ref q, .int p1] L f (tPi E L τ [19, 20, 21, 28] f (fun r f1 => rg r (-2147483648) 2147483647)) := by
  refine tMi.intro (by decide) (Nat.le_of_ble_eq_true rfl) ?_
  intro p e s m below meth c A ls C hr hA hO hH hl
  have C : gC E cX9_who 3 RX9 p s m _ meth c := C
  have hl : lv_has ls 3 [(0, .ref q), (1, .int p1)] := hl
  have hx := C.1
  have hb := C.2.1
  have hI := hI.S [19, 20, 21, 28]
  obtain ⟨q_7, mq_7, tq_7, kq_7⟩ := t_fldr hI.1 mq tq td_0 (k := 7) rfl
  obtain ⟨q_4, mq_4, tq_4, kq_4⟩ := t_fldr hI.1 mq tq td_0 (k := 4) rfl
  refine lv_aload_n hx hb dX9_who_0 rfl (lv_at hl 0 rfl) ?_
  refine lv_iload_n hx hb dX9_who_1 rfl (lv_at hl 1 rfl) ?_
  refine t_Vi C hO hl.1 hA hH hI.1 (As := [.int p1]) (rest := []) (t_X9_reportRefusal l E J τ L f hI.1 mq tq p1) my_X9_reportRefusal wd586 mq tq td_0 rfl rfl rfl (Nat.le_of_ble_eq_true rfl) ⟨Nat.le_of_ble_eq_true rfl, Nat.le_of_ble_eq_true rfl⟩ ⟨rfl, rfl⟩ dX9_who_2 (fun r2 L1 f1 H locs hp hH => ?_)
  obtain ⟨rfl, s3, h4⟩ := hp
  have hI := hI.call s3 (by decide)
  refine lv_istore_n (lv' := [(2, .int r2), (0, .ref q), (1, .int p1)]) hx hb dX9_who_5 rfl hl (by decide) rfl (fun ls hl => ?_)
  refine lv_iload_n hx hb dX9_who_6 rfl (lv_at hl 0 rfl) ?_
  refine lv_if_eq (tgt := 14) hx hb dX9_who_7 (by decide) (fun c5 => ?_) (fun c5 => ?_)
  · skip
    have r6 : rg r2 0 0 := rf_eql (c_eq c5) h4.1 rl_0 (by decide)
    have r7 : rg p1 0 3 := h4.2 c5
    refine lv_aload_n hx hb dX9_who_14 rfl (lv_at hl 1 rfl) ?_
    refine t_getX C hH hI.1 mq tq td_0 iX9 rfl 7 (by decide) wd478 rfl (hI.rf kq_7) dX9_who_15 ?_
    refine lv_aload_n hx hb dX9_who_18 rfl (lv_at hl 1 rfl) ?_
    refine t_getX C hH hI.1 mq tq td_0 iX9 rfl 7 (by decide) wd478 rfl (hI.rf kq_7) dX9_who_19 ?_
    refine lv_aload_n hx hb dX9_who_22 rfl (lv_at hl 1 rfl) ?_
    refine t_getX C hH hI.1 mq tq td_0 iX9 rfl 4 (by decide) wd419 rfl (hI.rf kq_4) dX9_who_23 ?_
    refine lv_iload_n hx hb dX9_who_26 rfl (lv_at hl 2 rfl) ?_
    refine t_aald C hH hI.1 mq_4 tq_4 td_16 rfl (rg_in r7 (by decide)) dX9_who_27 (fun q8 mq8 tq8 => ?_)
    refine t_Vi C hO hl.1 hA hH hI.1 (As := [.ref q8]) (rest := [.ref q_7]) (t_X0_sift l E J τ L f1 hI.1 mq_7 tq_7 mq8 tq8) my_X0_sift wd590 mq_7 tq_7 td_27 rfl rfl rfl (Nat.le_of_ble_eq_true rfl) ⟨Nat.le_of_ble_eq_true rfl, Nat.le_of_ble_eq_true rfl⟩ ⟨rfl, rfl⟩ dX9_who_28 (fun r10 L1 f9 H locs hp hH => ?_)
    obtain ⟨rfl, s11, h12⟩ := hp
    have hI := hI.call s11 (by decide)
    refine t_Vi C hO hl.1 hA hH hI.1 (As := [.int r10]) (rest := []) (t_X0_memberToAsk l E J τ L f9 hI.1 mq_7 tq_7 r10) my_X0_memberToAsk wd598 mq_7 tq_7 td_27 rfl rfl rfl (Nat.le_of_ble_eq_true rfl) ⟨Nat.le_of_ble_eq_true rfl, Nat.le_of_ble_eq_true rfl⟩ ⟨rfl, rfl⟩ dX9_who_31 (fun r14 L1 f13 H locs hp hH => ?_)
    obtain ⟨rfl, s15, h16⟩ := hp
    have hI := hI.call s15 (by decide)
    exact g_iret C hr hH (Nat.zero_le _) (Nat.zero_le _) dX9_who_34 ⟨rfl, hI, (rg_w h16 (by decide))⟩
  · skip
    have r17 : rg r2 (-6) (-1) := rf_nel (n_eq c5) h4.1 rl_0 (by decide)
    refine lv_iload_n hx hb dX9_who_10 rfl (lv_at hl 0 rfl) ?_
    refine lv_goto (tgt := 34) hx hb dX9_who_11 (by decide) ?_
    exact g_iret C hr hH (Nat.zero_le _) (Nat.zero_le _) dX9_who_34 ⟨rfl, hI, (rg_w r17 (by decide))⟩
set_option maxHeartbeats 4000000 in
set_option maxRecDepth 100000 in
theorem t_X9_leaves (l : Launch) (E : gE) (J : Nat → Nat) (τ : Nat → Nat) (L : List Nat) (f : gF) (hI : tI E L τ f) {q : Nat} (mq : q ∈ L) (tq : τ q = 0) (p1 : Int32) : tMi l E J yX9_leaves cX9_leaves 5 .int (gRm (6) 0 0) [.ref q, .int p1] L f (tPi E L τ [19, 20, 21, 28] f (fun r f1 => rg r (-2147483648) 2147483647)) := by
  refine tMi.intro (by decide) (Nat.le_of_ble_eq_true rfl) ?_
  intro p e s m below meth c A ls C hr hA hO hH hl
  have C : gC E cX9_leaves 5 RX9 p s m _ meth c := C
  have hl : lv_has ls 5 [(0, .ref q), (1, .int p1)] := hl
  have hx := C.1
  have hb := C.2.1
  have hI := hI.S [19, 20, 21, 28]
  obtain ⟨q_7, mq_7, tq_7, kq_7⟩ := t_fldr hI.1 mq tq td_0 (k := 7) rfl
  obtain ⟨q_4, mq_4, tq_4, kq_4⟩ := t_fldr hI.1 mq tq td_0 (k := 4) rfl
  refine lv_aload_n hx hb dX9_leaves_0 rfl (lv_at hl 0 rfl) ?_
  refine lv_iload_n hx hb dX9_leaves_1 rfl (lv_at hl 1 rfl) ?_
  refine t_Vi C hO hl.1 hA hH hI.1 (As := [.int p1]) (rest := []) (t_X9_reportRefusal l E J τ L f hI.1 mq tq p1) my_X9_reportRefusal wd586 mq tq td_0 rfl rfl rfl (Nat.le_of_ble_eq_true rfl) ⟨Nat.le_of_ble_eq_true rfl, Nat.le_of_ble_eq_true rfl⟩ ⟨rfl, rfl⟩ dX9_leaves_2 (fun r2 L1 f1 H locs hp hH => ?_)
  obtain ⟨rfl, s3, h4⟩ := hp
  have hI := hI.call s3 (by decide)
  refine lv_istore_n (lv' := [(2, .int r2), (0, .ref q), (1, .int p1)]) hx hb dX9_leaves_5 rfl hl (by decide) rfl (fun ls hl => ?_)
  refine lv_iload_n hx hb dX9_leaves_6 rfl (lv_at hl 0 rfl) ?_
  refine lv_if_eq (tgt := 12) hx hb dX9_leaves_7 (by decide) (fun c5 => ?_) (fun c5 => ?_)
  · skip
    have r6 : rg r2 0 0 := rf_eql (c_eq c5) h4.1 rl_0 (by decide)
    have r7 : rg p1 0 3 := h4.2 c5
    refine lv_aload_n hx hb dX9_leaves_12 rfl (lv_at hl 1 rfl) ?_
    refine t_getX C hH hI.1 mq tq td_0 iX9 rfl 7 (by decide) wd478 rfl (hI.rf kq_7) dX9_leaves_13 ?_
    refine lv_aload_n hx hb dX9_leaves_16 rfl (lv_at hl 1 rfl) ?_
    refine t_getX C hH hI.1 mq tq td_0 iX9 rfl 4 (by decide) wd419 rfl (hI.rf kq_4) dX9_leaves_17 ?_
    refine lv_iload_n hx hb dX9_leaves_20 rfl (lv_at hl 2 rfl) ?_
    refine t_aald C hH hI.1 mq_4 tq_4 td_16 rfl (rg_in r7 (by decide)) dX9_leaves_21 (fun q8 mq8 tq8 => ?_)
    refine t_Vi C hO hl.1 hA hH hI.1 (As := [.ref q8]) (rest := []) (t_X0_sift l E J τ L f1 hI.1 mq_7 tq_7 mq8 tq8) my_X0_sift wd590 mq_7 tq_7 td_27 rfl rfl rfl (Nat.le_of_ble_eq_true rfl) ⟨Nat.le_of_ble_eq_true rfl, Nat.le_of_ble_eq_true rfl⟩ ⟨rfl, rfl⟩ dX9_leaves_22 (fun r10 L1 f9 H locs hp hH => ?_)
    obtain ⟨rfl, s11, h12⟩ := hp
    have hI := hI.call s11 (by decide)
    refine lv_istore_n (lv' := [(3, .int r10), (2, .int r2), (0, .ref q), (1, .int p1)]) hx hb dX9_leaves_25 rfl hl (by decide) rfl (fun ls hl => ?_)
    refine lv_aload_n hx hb dX9_leaves_26 rfl (lv_at hl 2 rfl) ?_
    refine t_getX C hH hI.1 mq tq td_0 iX9 rfl 7 (by decide) wd478 rfl (hI.rf kq_7) dX9_leaves_27 ?_
    refine lv_iload_n hx hb dX9_leaves_30 rfl (lv_at hl 0 rfl) ?_
    refine t_Vi C hO hl.1 hA hH hI.1 (As := [.int r10]) (rest := []) (t_X0_memberToAsk l E J τ L f9 hI.1 mq_7 tq_7 r10) my_X0_memberToAsk wd598 mq_7 tq_7 td_27 rfl rfl rfl (Nat.le_of_ble_eq_true rfl) ⟨Nat.le_of_ble_eq_true rfl, Nat.le_of_ble_eq_true rfl⟩ ⟨rfl, rfl⟩ dX9_leaves_31 (fun r14 L1 f13 H locs hp hH => ?_)
    obtain ⟨rfl, s15, h16⟩ := hp
    have hI := hI.call s15 (by decide)
    refine lv_istore (lv' := [(4, .int r14), (3, .int r10), (2, .int r2), (0, .ref q), (1, .int p1)]) hx hb dX9_leaves_34 hl (by decide) rfl (fun ls hl => ?_)
    refine lv_iload hx hb dX9_leaves_36 (lv_at hl 0 rfl) ?_
    refine lv_iconst (v := (-1 : Int32)) hx hb dX9_leaves_38 (by decide) ?_
    refine lv_icmp_ne (tgt := 46) hx hb dX9_leaves_39 (by decide) (fun c17 => ?_) (fun c17 => ?_)
    · skip
      have r18 : rg r14 0 5 := rf_nel (n_eq c17) h16 rl_m1 (by decide)
      refine lv_aload_n hx hb dX9_leaves_46 rfl (lv_at hl 3 rfl) ?_
      refine t_getX C hH hI.1 mq tq td_0 iX9 rfl 7 (by decide) wd478 rfl (hI.rf kq_7) dX9_leaves_47 ?_
      refine lv_iload_n hx hb dX9_leaves_50 rfl (lv_at hl 1 rfl) ?_
      refine lv_iload hx hb dX9_leaves_51 (lv_at hl 0 rfl) ?_
      refine t_Vi C hO hl.1 hA hH hI.1 (As := [.int r10, .int r14]) (rest := []) (t_X0_worstLeft l E J τ L f13 hI.1 mq_7 tq_7 r10 r14) my_X0_worstLeft wd599 mq_7 tq_7 td_27 rfl rfl rfl (Nat.le_of_ble_eq_true rfl) ⟨Nat.le_of_ble_eq_true rfl, Nat.le_of_ble_eq_true rfl⟩ ⟨rfl, rfl⟩ dX9_leaves_53 (fun r20 L1 f19 H locs hp hH => ?_)
      obtain ⟨rfl, s21, h22⟩ := hp
      have hI := hI.call s21 (by decide)
      exact g_iret C hr hH (Nat.zero_le _) (Nat.zero_le _) dX9_leaves_56 ⟨rfl, hI, h22⟩
    · skip
      have r23 : rg r14 (-1) (-1) := rf_eql (c_eq c17) h16 rl_m1 (by decide)
      refine lv_iload_n hx hb dX9_leaves_42 rfl (lv_at hl 1 rfl) ?_
      refine lv_goto (tgt := 56) hx hb dX9_leaves_43 (by decide) ?_
      exact g_iret C hr hH (Nat.zero_le _) (Nat.zero_le _) dX9_leaves_56 ⟨rfl, hI, h12⟩
  · skip
    have r24 : rg r2 (-6) (-1) := rf_nel (n_eq c5) h4.1 rl_0 (by decide)
    refine lv_iload_n hx hb dX9_leaves_10 rfl (lv_at hl 0 rfl) ?_
    exact g_iret C hr hH (Nat.zero_le _) (Nat.zero_le _) dX9_leaves_11 ⟨rfl, hI, (rg_w r24 (by decide))⟩
set_option maxHeartbeats 4000000 in
set_option maxRecDepth 100000 in
theorem t_X9_odds (l : Launch) (E : gE) (J : Nat → Nat) (τ : Nat → Nat) (L : List Nat) (f : gF) (hI : tI E L τ f) {q : Nat} (mq : q ∈ L) (tq : τ q = 0) (p1 : Int32) (p2 : Int32) (p3 : Int32) : tMi l E J yX9_odds cX9_odds 6 .int (gRm (4) 0 0) [.ref q, .int p1, .int p2, .int p3] L f (tPi E L τ [19, 20, 21, 28] f (fun r f1 => rg r (-2147483648) 2147483647)) := by
  refine tMi.intro (by decide) (Nat.le_of_ble_eq_true rfl) ?_
  intro p e s m below meth c A ls C hr hA hO hH hl
  have C : gC E cX9_odds 6 RX9 p s m _ meth c := C
  have hl : lv_has ls 6 [(0, .ref q), (1, .int p1), (2, .int p2), (3, .int p3)] := hl
  have hx := C.1
  have hb := C.2.1
  have hI := hI.S [19, 20, 21, 28]
  obtain ⟨q_1, mq_1, tq_1, kq_1⟩ := t_fldr hI.1 mq tq td_0 (k := 1) rfl
  obtain ⟨q_7, mq_7, tq_7, kq_7⟩ := t_fldr hI.1 mq tq td_0 (k := 7) rfl
  obtain ⟨q_4, mq_4, tq_4, kq_4⟩ := t_fldr hI.1 mq tq td_0 (k := 4) rfl
  refine lv_aload_n hx hb dX9_odds_0 rfl (lv_at hl 0 rfl) ?_
  refine t_getX C hH hI.1 mq tq td_0 iX9 rfl 1 (by decide) wd414 rfl (hI.rf kq_1) dX9_odds_1 ?_
  refine lv_iload_n hx hb dX9_odds_4 rfl (lv_at hl 2 rfl) ?_
  refine t_Vi C hO hl.1 hA hH hI.1 (As := [.int p2]) (rest := []) (t_X3_hasMember l E J τ L f hI.1 mq_1 tq_1 p2) my_X3_hasMember wd418 mq_1 tq_1 td_3 rfl rfl rfl (Nat.le_of_ble_eq_true rfl) ⟨Nat.le_of_ble_eq_true rfl, Nat.le_of_ble_eq_true rfl⟩ ⟨rfl, rfl⟩ dX9_odds_5 (fun r2 L1 f1 H locs hp hH => ?_)
  obtain ⟨rfl, s3, h4⟩ := hp
  have hI := hI.call s3 (by decide)
  refine lv_if_eq (tgt := 18) hx hb dX9_odds_8 (by decide) (fun c5 => ?_) (fun c5 => ?_)
  · skip
    have r6 : rg r2 0 0 := rf_eql (c_eq c5) h4.1 rl_0 (by decide)
    refine lv_bipush (v := (-2 : Int32)) hx hb dX9_odds_18 (by decide) ?_
    exact g_iret C hr hH (Nat.zero_le _) (Nat.zero_le _) dX9_odds_20 ⟨rfl, hI, (rg_w rl_m2 (by decide))⟩
  · skip
    have r7 : rg r2 1 1 := rf_nel (n_eq c5) h4.1 rl_0 (by decide)
    have r8 : rg p2 0 5 := h4.2 c5
    refine lv_iload_n hx hb dX9_odds_11 rfl (lv_at hl 3 rfl) ?_
    refine t_Si C hO hl.1 hA hH (As := [.int p3]) (rest := []) (t_X9_isFractionPart l E J τ L f1 hI.1 p3) my_X9_isFractionPart wd602 rfl rfl (Nat.le_of_ble_eq_true rfl) ⟨Nat.le_of_ble_eq_true rfl, Nat.le_of_ble_eq_true rfl⟩ ⟨rfl, rfl⟩ dX9_odds_12 (fun r10 L1 f9 H locs hp hH => ?_)
    obtain ⟨rfl, s11, h12⟩ := hp
    have hI := hI.call s11 (by decide)
    refine lv_if_ne (tgt := 21) hx hb dX9_odds_15 (by decide) (fun c13 => ?_) (fun c13 => ?_)
    · skip
      have r14 : rg r10 1 1 := rf_nel (n_eq c13) h12 rl_0 (by decide)
      refine lv_aload_n hx hb dX9_odds_21 rfl (lv_at hl 0 rfl) ?_
      refine lv_iload_n hx hb dX9_odds_22 rfl (lv_at hl 1 rfl) ?_
      refine t_Vi C hO hl.1 hA hH hI.1 (As := [.int p1]) (rest := []) (t_X9_reportRefusal l E J τ L f9 hI.1 mq tq p1) my_X9_reportRefusal wd586 mq tq td_0 rfl rfl rfl (Nat.le_of_ble_eq_true rfl) ⟨Nat.le_of_ble_eq_true rfl, Nat.le_of_ble_eq_true rfl⟩ ⟨rfl, rfl⟩ dX9_odds_23 (fun r16 L1 f15 H locs hp hH => ?_)
      obtain ⟨rfl, s17, h18⟩ := hp
      have hI := hI.call s17 (by decide)
      refine lv_istore (lv' := [(4, .int r16), (0, .ref q), (1, .int p1), (2, .int p2), (3, .int p3)]) hx hb dX9_odds_26 hl (by decide) rfl (fun ls hl => ?_)
      refine lv_iload hx hb dX9_odds_28 (lv_at hl 0 rfl) ?_
      refine lv_if_eq (tgt := 36) hx hb dX9_odds_30 (by decide) (fun c19 => ?_) (fun c19 => ?_)
      · skip
        have r20 : rg r16 0 0 := rf_eql (c_eq c19) h18.1 rl_0 (by decide)
        have r21 : rg p1 0 3 := h18.2 c19
        refine lv_aload_n hx hb dX9_odds_36 rfl (lv_at hl 1 rfl) ?_
        refine t_getX C hH hI.1 mq tq td_0 iX9 rfl 7 (by decide) wd478 rfl (hI.rf kq_7) dX9_odds_37 ?_
        refine lv_aload_n hx hb dX9_odds_40 rfl (lv_at hl 1 rfl) ?_
        refine t_getX C hH hI.1 mq tq td_0 iX9 rfl 4 (by decide) wd419 rfl (hI.rf kq_4) dX9_odds_41 ?_
        refine lv_iload_n hx hb dX9_odds_44 rfl (lv_at hl 2 rfl) ?_
        refine t_aald C hH hI.1 mq_4 tq_4 td_16 rfl (rg_in r21 (by decide)) dX9_odds_45 (fun q22 mq22 tq22 => ?_)
        refine t_Vi C hO hl.1 hA hH hI.1 (As := [.ref q22]) (rest := []) (t_X0_sift l E J τ L f15 hI.1 mq_7 tq_7 mq22 tq22) my_X0_sift wd590 mq_7 tq_7 td_27 rfl rfl rfl (Nat.le_of_ble_eq_true rfl) ⟨Nat.le_of_ble_eq_true rfl, Nat.le_of_ble_eq_true rfl⟩ ⟨rfl, rfl⟩ dX9_odds_46 (fun r24 L1 f23 H locs hp hH => ?_)
        obtain ⟨rfl, s25, h26⟩ := hp
        have hI := hI.call s25 (by decide)
        refine lv_istore (lv' := [(5, .int r24), (4, .int r16), (0, .ref q), (1, .int p1), (2, .int p2), (3, .int p3)]) hx hb dX9_odds_49 hl (by decide) rfl (fun ls hl => ?_)
        refine lv_iload hx hb dX9_odds_51 (lv_at hl 0 rfl) ?_
        refine lv_if_ne (tgt := 60) hx hb dX9_odds_53 (by decide) (fun c27 => ?_) (fun c27 => ?_)
        · skip
          refine lv_aload_n hx hb dX9_odds_60 rfl (lv_at hl 2 rfl) ?_
          refine t_getX C hH hI.1 mq tq td_0 iX9 rfl 7 (by decide) wd478 rfl (hI.rf kq_7) dX9_odds_61 ?_
          refine lv_iload_n hx hb dX9_odds_64 rfl (lv_at hl 4 rfl) ?_
          refine t_Vi C hO hl.1 hA hH hI.1 (As := [.int p2]) (rest := []) (t_X0_heardOf l E J τ L f23 hI.1 mq_7 tq_7 p2) my_X0_heardOf wd603 mq_7 tq_7 td_27 rfl rfl rfl (Nat.le_of_ble_eq_true rfl) ⟨Nat.le_of_ble_eq_true rfl, Nat.le_of_ble_eq_true rfl⟩ ⟨rfl, rfl⟩ dX9_odds_65 (fun r29 L1 f28 H locs hp hH => ?_)
          obtain ⟨rfl, s30, h31⟩ := hp
          have hI := hI.call s30 (by decide)
          refine lv_iload hx hb dX9_odds_68 (lv_at hl 0 rfl) ?_
          refine lv_iload_n hx hb dX9_odds_70 rfl (lv_at hl 5 rfl) ?_
          refine t_Si C hO hl.1 hA hH (As := [.int r29, .int r24, .int p3]) (rest := []) (t_X9_partOf l E J τ L f28 hI.1 r29 r24 p3) my_X9_partOf wd606 rfl rfl (Nat.le_of_ble_eq_true rfl) ⟨Nat.le_of_ble_eq_true rfl, Nat.le_of_ble_eq_true rfl⟩ ⟨rfl, rfl⟩ dX9_odds_71 (fun r33 L1 f32 H locs hp hH => ?_)
          obtain ⟨rfl, s34, h35⟩ := hp
          have hI := hI.call s34 (by decide)
          exact g_iret C hr hH (Nat.zero_le _) (Nat.zero_le _) dX9_odds_74 ⟨rfl, hI, h35⟩
        · skip
          have r36 : rg r24 0 0 := rf_eql (c_eq c27) h26 rl_0 (by decide)
          refine lv_iconst (v := (-1 : Int32)) hx hb dX9_odds_56 (by decide) ?_
          refine lv_goto (tgt := 74) hx hb dX9_odds_57 (by decide) ?_
          exact g_iret C hr hH (Nat.zero_le _) (Nat.zero_le _) dX9_odds_74 ⟨rfl, hI, (rg_w rl_m1 (by decide))⟩
      · skip
        have r37 : rg r16 (-6) (-1) := rf_nel (n_eq c19) h18.1 rl_0 (by decide)
        refine lv_iload hx hb dX9_odds_33 (lv_at hl 0 rfl) ?_
        exact g_iret C hr hH (Nat.zero_le _) (Nat.zero_le _) dX9_odds_35 ⟨rfl, hI, (rg_w r37 (by decide))⟩
    · skip
      have r38 : rg r10 0 0 := rf_eql (c_eq c13) h12 rl_0 (by decide)
      refine lv_bipush (v := (-2 : Int32)) hx hb dX9_odds_18 (by decide) ?_
      exact g_iret C hr hH (Nat.zero_le _) (Nat.zero_le _) dX9_odds_20 ⟨rfl, hI, (rg_w rl_m2 (by decide))⟩
set_option maxHeartbeats 4000000 in
set_option maxRecDepth 100000 in
theorem t_X9_homes (l : Launch) (E : gE) (J : Nat → Nat) (τ : Nat → Nat) (L : List Nat) (f : gF) (hI : tI E L τ f) {q : Nat} (mq : q ∈ L) (tq : τ q = 0) : tMi l E J yX9_homes cX9_homes 1 .int (gRm (6) 0 0) [.ref q] L f (tPi E L τ [19, 20, 21, 23, 31, 32] f (fun r f1 => rg r (-2147483648) 2147483647)) := by
  refine tMi.intro (by decide) (Nat.le_of_ble_eq_true rfl) ?_
  intro p e s m below meth c A ls C hr hA hO hH hl
  have C : gC E cX9_homes 1 RX9 p s m _ meth c := C
  have hl : lv_has ls 1 [(0, .ref q)] := hl
  have hx := C.1
  have hb := C.2.1
  have hI := hI.S [19, 20, 21, 23, 31, 32]
  obtain ⟨q_1, mq_1, tq_1, kq_1⟩ := t_fldr hI.1 mq tq td_0 (k := 1) rfl
  obtain ⟨q_8, mq_8, tq_8, kq_8⟩ := t_fldr hI.1 mq tq td_0 (k := 8) rfl
  obtain ⟨q_8_3, mq_8_3, tq_8_3, kq_8_3⟩ := t_fldr hI.1 mq_8 tq_8 td_30 (k := 3) rfl
  refine lv_aload_n hx hb dX9_homes_0 rfl (lv_at hl 0 rfl) ?_
  refine t_getX C hH hI.1 mq tq td_0 iX9 rfl 1 (by decide) wd414 rfl (hI.rf kq_1) dX9_homes_1 ?_
  refine t_Vi C hO hl.1 hA hH hI.1 (As := []) (rest := []) (t_X3_isNone l E J τ L f hI.1 mq_1 tq_1) my_X3_isNone wd473 mq_1 tq_1 td_3 rfl rfl rfl (Nat.le_of_ble_eq_true rfl) ⟨Nat.le_of_ble_eq_true rfl, Nat.le_of_ble_eq_true rfl⟩ ⟨rfl, rfl⟩ dX9_homes_4 (fun r2 L1 f1 H locs hp hH => ?_)
  obtain ⟨rfl, s3, h4⟩ := hp
  have hI := hI.call s3 (by decide)
  refine lv_if_eq (tgt := 13) hx hb dX9_homes_7 (by decide) (fun c5 => ?_) (fun c5 => ?_)
  · skip
    have r6 : rg r2 0 0 := rf_eql (c_eq c5) h4 rl_0 (by decide)
    refine lv_aload_n hx hb dX9_homes_13 rfl (lv_at hl 0 rfl) ?_
    refine t_getX C hH hI.1 mq tq td_0 iX9 rfl 8 (by decide) wd607 rfl (hI.rf kq_8) dX9_homes_14 ?_
    refine t_Vv C hO hl.1 hA hH hI.1 (As := []) (rest := []) (t_X2_weigh l E J τ L f1 hI.1 mq_8 tq_8) my_X2_weigh wd611 mq_8 tq_8 td_30 rfl rfl rfl (Nat.le_of_ble_eq_true rfl) ⟨Nat.le_of_ble_eq_true rfl, Nat.le_of_ble_eq_true rfl⟩ ⟨rfl, rfl⟩ dX9_homes_17 (fun L1 f7 H locs hp hH => ?_)
    obtain ⟨rfl, s9, h10⟩ := hp
    have hI := hI.call s9 (by decide)
    refine lv_aload_n hx hb dX9_homes_20 rfl (lv_at hl 0 rfl) ?_
    refine t_getX C hH hI.1 mq tq td_0 iX9 rfl 8 (by decide) wd607 rfl (hI.rf kq_8) dX9_homes_21 ?_
    refine t_getX C hH hI.1 mq_8 tq_8 td_30 iX2 rfl 3 (by decide) wd612 rfl (hI.rf kq_8_3) dX9_homes_24 ?_
    refine lv_iconst (v := (0 : Int32)) hx hb dX9_homes_27 (by decide) ?_
    refine t_ald C hH hI.1 mq_8_3 tq_8_3 td_32 (rg_in rl_0 (by decide)) dX9_homes_28 (fun z11v az11 _ => ?_)
    refine lv_topi (fun z11 ez11 => ?_)
    exact g_iret C hr hH (Nat.zero_le _) (Nat.zero_le _) dX9_homes_29 ⟨rfl, hI, (rg_all _)⟩
  · skip
    have r12 : rg r2 1 1 := rf_nel (n_eq c5) h4 rl_0 (by decide)
    refine lv_bipush (v := (-2 : Int32)) hx hb dX9_homes_10 (by decide) ?_
    exact g_iret C hr hH (Nat.zero_le _) (Nat.zero_le _) dX9_homes_12 ⟨rfl, hI, (rg_w rl_m2 (by decide))⟩
set_option maxHeartbeats 4000000 in
set_option maxRecDepth 100000 in
theorem t_X9_home (l : Launch) (E : gE) (J : Nat → Nat) (τ : Nat → Nat) (L : List Nat) (f : gF) (hI : tI E L τ f) {q : Nat} (mq : q ∈ L) (tq : τ q = 0) (p1 : Int32) : tMi l E J yX9_home cX9_home 2 .int (gRm (6) 0 0) [.ref q, .int p1] L f (tPi E L τ [19, 20, 21, 23, 31, 32] f (fun r f1 => rg r (-2147483648) 2147483647)) := by
  refine tMi.intro (by decide) (Nat.le_of_ble_eq_true rfl) ?_
  intro p e s m below meth c A ls C hr hA hO hH hl
  have C : gC E cX9_home 2 RX9 p s m _ meth c := C
  have hl : lv_has ls 2 [(0, .ref q), (1, .int p1)] := hl
  have hx := C.1
  have hb := C.2.1
  have hI := hI.S [19, 20, 21, 23, 31, 32]
  obtain ⟨q_1, mq_1, tq_1, kq_1⟩ := t_fldr hI.1 mq tq td_0 (k := 1) rfl
  obtain ⟨q_8, mq_8, tq_8, kq_8⟩ := t_fldr hI.1 mq tq td_0 (k := 8) rfl
  refine lv_aload_n hx hb dX9_home_0 rfl (lv_at hl 0 rfl) ?_
  refine t_getX C hH hI.1 mq tq td_0 iX9 rfl 1 (by decide) wd414 rfl (hI.rf kq_1) dX9_home_1 ?_
  refine lv_iload_n hx hb dX9_home_4 rfl (lv_at hl 1 rfl) ?_
  refine t_Vi C hO hl.1 hA hH hI.1 (As := [.int p1]) (rest := []) (t_X3_hasMember l E J τ L f hI.1 mq_1 tq_1 p1) my_X3_hasMember wd418 mq_1 tq_1 td_3 rfl rfl rfl (Nat.le_of_ble_eq_true rfl) ⟨Nat.le_of_ble_eq_true rfl, Nat.le_of_ble_eq_true rfl⟩ ⟨rfl, rfl⟩ dX9_home_5 (fun r2 L1 f1 H locs hp hH => ?_)
  obtain ⟨rfl, s3, h4⟩ := hp
  have hI := hI.call s3 (by decide)
  refine lv_if_ne (tgt := 14) hx hb dX9_home_8 (by decide) (fun c5 => ?_) (fun c5 => ?_)
  · skip
    have r6 : rg r2 1 1 := rf_nel (n_eq c5) h4.1 rl_0 (by decide)
    have r7 : rg p1 0 5 := h4.2 c5
    refine lv_aload_n hx hb dX9_home_14 rfl (lv_at hl 0 rfl) ?_
    refine t_getX C hH hI.1 mq tq td_0 iX9 rfl 8 (by decide) wd607 rfl (hI.rf kq_8) dX9_home_15 ?_
    refine t_Vv C hO hl.1 hA hH hI.1 (As := []) (rest := []) (t_X2_weigh l E J τ L f1 hI.1 mq_8 tq_8) my_X2_weigh wd611 mq_8 tq_8 td_30 rfl rfl rfl (Nat.le_of_ble_eq_true rfl) ⟨Nat.le_of_ble_eq_true rfl, Nat.le_of_ble_eq_true rfl⟩ ⟨rfl, rfl⟩ dX9_home_18 (fun L1 f8 H locs hp hH => ?_)
    obtain ⟨rfl, s10, h11⟩ := hp
    have hI := hI.call s10 (by decide)
    refine lv_aload_n hx hb dX9_home_21 rfl (lv_at hl 0 rfl) ?_
    refine t_getX C hH hI.1 mq tq td_0 iX9 rfl 8 (by decide) wd607 rfl (hI.rf kq_8) dX9_home_22 ?_
    refine lv_iload_n hx hb dX9_home_25 rfl (lv_at hl 1 rfl) ?_
    refine t_Vi C hO hl.1 hA hH hI.1 (As := [.int p1]) (rest := []) (t_X2_cellOf l E J τ L f8 hI.1 mq_8 tq_8 p1 r7) my_X2_cellOf wd616 mq_8 tq_8 td_30 rfl rfl rfl (Nat.le_of_ble_eq_true rfl) ⟨Nat.le_of_ble_eq_true rfl, Nat.le_of_ble_eq_true rfl⟩ ⟨rfl, rfl⟩ dX9_home_26 (fun r13 L1 f12 H locs hp hH => ?_)
    obtain ⟨rfl, s14, h15⟩ := hp
    have hI := hI.call s14 (by decide)
    exact g_iret C hr hH (Nat.zero_le _) (Nat.zero_le _) dX9_home_29 ⟨rfl, hI, (rg_w h15 (by decide))⟩
  · skip
    have r16 : rg r2 0 0 := rf_eql (c_eq c5) h4.1 rl_0 (by decide)
    refine lv_bipush (v := (-2 : Int32)) hx hb dX9_home_11 (by decide) ?_
    exact g_iret C hr hH (Nat.zero_le _) (Nat.zero_le _) dX9_home_13 ⟨rfl, hI, (rg_w rl_m2 (by decide))⟩
set_option maxHeartbeats 4000000 in
set_option maxRecDepth 100000 in
theorem t_X9_swaps (l : Launch) (E : gE) (J : Nat → Nat) (τ : Nat → Nat) (L : List Nat) (f : gF) (hI : tI E L τ f) {q : Nat} (mq : q ∈ L) (tq : τ q = 0) : tMi l E J yX9_swaps cX9_swaps 1 .int (gRm (6) 0 0) [.ref q] L f (tPi E L τ [19, 20, 21, 23, 31] f (fun r f1 => rg r (-2147483648) 2147483647)) := by
  refine tMi.intro (by decide) (Nat.le_of_ble_eq_true rfl) ?_
  intro p e s m below meth c A ls C hr hA hO hH hl
  have C : gC E cX9_swaps 1 RX9 p s m _ meth c := C
  have hl : lv_has ls 1 [(0, .ref q)] := hl
  have hx := C.1
  have hb := C.2.1
  have hI := hI.S [19, 20, 21, 23, 31]
  obtain ⟨q_1, mq_1, tq_1, kq_1⟩ := t_fldr hI.1 mq tq td_0 (k := 1) rfl
  obtain ⟨q_8, mq_8, tq_8, kq_8⟩ := t_fldr hI.1 mq tq td_0 (k := 8) rfl
  refine lv_aload_n hx hb dX9_swaps_0 rfl (lv_at hl 0 rfl) ?_
  refine t_getX C hH hI.1 mq tq td_0 iX9 rfl 1 (by decide) wd414 rfl (hI.rf kq_1) dX9_swaps_1 ?_
  refine t_Vi C hO hl.1 hA hH hI.1 (As := []) (rest := []) (t_X3_isNone l E J τ L f hI.1 mq_1 tq_1) my_X3_isNone wd473 mq_1 tq_1 td_3 rfl rfl rfl (Nat.le_of_ble_eq_true rfl) ⟨Nat.le_of_ble_eq_true rfl, Nat.le_of_ble_eq_true rfl⟩ ⟨rfl, rfl⟩ dX9_swaps_4 (fun r2 L1 f1 H locs hp hH => ?_)
  obtain ⟨rfl, s3, h4⟩ := hp
  have hI := hI.call s3 (by decide)
  refine lv_if_eq (tgt := 15) hx hb dX9_swaps_7 (by decide) (fun c5 => ?_) (fun c5 => ?_)
  · skip
    have r6 : rg r2 0 0 := rf_eql (c_eq c5) h4 rl_0 (by decide)
    refine lv_aload_n hx hb dX9_swaps_15 rfl (lv_at hl 0 rfl) ?_
    refine t_getX C hH hI.1 mq tq td_0 iX9 rfl 8 (by decide) wd607 rfl (hI.rf kq_8) dX9_swaps_16 ?_
    refine t_Vi C hO hl.1 hA hH hI.1 (As := []) (rest := []) (t_X2_goodSwaps l E J τ L f1 hI.1 mq_8 tq_8) my_X2_goodSwaps wd620 mq_8 tq_8 td_30 rfl rfl rfl (Nat.le_of_ble_eq_true rfl) ⟨Nat.le_of_ble_eq_true rfl, Nat.le_of_ble_eq_true rfl⟩ ⟨rfl, rfl⟩ dX9_swaps_19 (fun r8 L1 f7 H locs hp hH => ?_)
    obtain ⟨rfl, s9, h10⟩ := hp
    have hI := hI.call s9 (by decide)
    exact g_iret C hr hH (Nat.zero_le _) (Nat.zero_le _) dX9_swaps_22 ⟨rfl, hI, h10⟩
  · skip
    have r11 : rg r2 1 1 := rf_nel (n_eq c5) h4 rl_0 (by decide)
    refine lv_bipush (v := (-2 : Int32)) hx hb dX9_swaps_10 (by decide) ?_
    refine lv_goto (tgt := 22) hx hb dX9_swaps_12 (by decide) ?_
    exact g_iret C hr hH (Nat.zero_le _) (Nat.zero_le _) dX9_swaps_22 ⟨rfl, hI, (rg_w rl_m2 (by decide))⟩
set_option maxHeartbeats 4000000 in
set_option maxRecDepth 100000 in
theorem t_X9_swap (l : Launch) (E : gE) (J : Nat → Nat) (τ : Nat → Nat) (L : List Nat) (f : gF) (hI : tI E L τ f) {q : Nat} (mq : q ∈ L) (tq : τ q = 0) : tMi l E J yX9_swap cX9_swap 1 .int (gRm (6) 0 0) [.ref q] L f (tPi E L τ [19, 20, 21, 23, 31] f (fun r f1 => rg r (-2147483648) 2147483647)) := by
  refine tMi.intro (by decide) (Nat.le_of_ble_eq_true rfl) ?_
  intro p e s m below meth c A ls C hr hA hO hH hl
  have C : gC E cX9_swap 1 RX9 p s m _ meth c := C
  have hl : lv_has ls 1 [(0, .ref q)] := hl
  have hx := C.1
  have hb := C.2.1
  have hI := hI.S [19, 20, 21, 23, 31]
  obtain ⟨q_1, mq_1, tq_1, kq_1⟩ := t_fldr hI.1 mq tq td_0 (k := 1) rfl
  obtain ⟨q_8, mq_8, tq_8, kq_8⟩ := t_fldr hI.1 mq tq td_0 (k := 8) rfl
  refine lv_aload_n hx hb dX9_swap_0 rfl (lv_at hl 0 rfl) ?_
  refine t_getX C hH hI.1 mq tq td_0 iX9 rfl 1 (by decide) wd414 rfl (hI.rf kq_1) dX9_swap_1 ?_
  refine t_Vi C hO hl.1 hA hH hI.1 (As := []) (rest := []) (t_X3_isNone l E J τ L f hI.1 mq_1 tq_1) my_X3_isNone wd473 mq_1 tq_1 td_3 rfl rfl rfl (Nat.le_of_ble_eq_true rfl) ⟨Nat.le_of_ble_eq_true rfl, Nat.le_of_ble_eq_true rfl⟩ ⟨rfl, rfl⟩ dX9_swap_4 (fun r2 L1 f1 H locs hp hH => ?_)
  obtain ⟨rfl, s3, h4⟩ := hp
  have hI := hI.call s3 (by decide)
  refine lv_if_eq (tgt := 15) hx hb dX9_swap_7 (by decide) (fun c5 => ?_) (fun c5 => ?_)
  · skip
    have r6 : rg r2 0 0 := rf_eql (c_eq c5) h4 rl_0 (by decide)
    refine lv_aload_n hx hb dX9_swap_15 rfl (lv_at hl 0 rfl) ?_
    refine t_getX C hH hI.1 mq tq td_0 iX9 rfl 8 (by decide) wd607 rfl (hI.rf kq_8) dX9_swap_16 ?_
    refine t_Vi C hO hl.1 hA hH hI.1 (As := []) (rest := []) (t_X2_firstSwap l E J τ L f1 hI.1 mq_8 tq_8) my_X2_firstSwap wd624 mq_8 tq_8 td_30 rfl rfl rfl (Nat.le_of_ble_eq_true rfl) ⟨Nat.le_of_ble_eq_true rfl, Nat.le_of_ble_eq_true rfl⟩ ⟨rfl, rfl⟩ dX9_swap_19 (fun r8 L1 f7 H locs hp hH => ?_)
    obtain ⟨rfl, s9, h10⟩ := hp
    have hI := hI.call s9 (by decide)
    exact g_iret C hr hH (Nat.zero_le _) (Nat.zero_le _) dX9_swap_22 ⟨rfl, hI, h10⟩
  · skip
    have r11 : rg r2 1 1 := rf_nel (n_eq c5) h4 rl_0 (by decide)
    refine lv_bipush (v := (-2 : Int32)) hx hb dX9_swap_10 (by decide) ?_
    refine lv_goto (tgt := 22) hx hb dX9_swap_12 (by decide) ?_
    exact g_iret C hr hH (Nat.zero_le _) (Nat.zero_le _) dX9_swap_22 ⟨rfl, hI, (rg_w rl_m2 (by decide))⟩
set_option maxHeartbeats 4000000 in
set_option maxRecDepth 100000 in
theorem t_X9_price (l : Launch) (E : gE) (J : Nat → Nat) (τ : Nat → Nat) (L : List Nat) (f : gF) (hI : tI E L τ f) {q : Nat} (mq : q ∈ L) (tq : τ q = 0) (p1 : Int32) : tMi l E J yX9_price cX9_price 3 .int (gRm (2) 0 0) [.ref q, .int p1] L f (tPi E L τ [] f (fun r f1 => rg r (-2147483648) 2147483647)) := by
  refine tMi.intro (by decide) (Nat.le_of_ble_eq_true rfl) ?_
  intro p e s m below meth c A ls C hr hA hO hH hl
  have C : gC E cX9_price 3 RX9 p s m _ meth c := C
  have hl : lv_has ls 3 [(0, .ref q), (1, .int p1)] := hl
  have hx := C.1
  have hb := C.2.1
  have hI := hI.S []
  obtain ⟨q_1, mq_1, tq_1, kq_1⟩ := t_fldr hI.1 mq tq td_0 (k := 1) rfl
  have cut26 : ∀ (n : Nat) (fh26 : gF) (H : Heap) (locs : List Loc) (ls : Array Slot) (v26_2 : Int32), 999 - v26_2.toInt < (n : Int) → tS E L τ [] f fh26 → gH E A L fh26 s.heap H locs → rg v26_2 0 999 → rg p1 0 999 → lv_has ls 3 [(0, .ref q), (1, .int p1), (2, .int v26_2)] → W p l e (gRm (2) 0 0) s m [.ref q, .int p1].toArray below meth c H locs 0 0 (MQ below (gQi E A (tPi E L τ [] f (fun r f1 => rg r (-2147483648) 2147483647))) [.ref q, .int p1].toArray s (gRm (2) 0 0).cells (gRm (2) 0 0).slots A) (F0 m 26 ls []) := by
    intro n
    induction n with
    | zero =>
      intro fh26 H locs ls v26_2 hfu26 hI hH r_v26_2 r26_p1 hl
      exact (fu_0 hfu26 r_v26_2).elim
    | succ n ih26 =>
      intro fh26 H locs ls v26_2 hfu26 hI hH r_v26_2 r26_p1 hl
      refine lv_iload_n hx hb dX9_price_26 rfl (lv_at hl 2 rfl) ?_
      refine lv_sipush (v := (999 : Int32)) hx hb dX9_price_27 (by decide) ?_
      refine lv_icmp_ge (tgt := 53) hx hb dX9_price_30 (by decide) (fun c1 => ?_) (fun c1 => ?_)
      · skip
        have r2 : rg v26_2 999 999 := rf_ler (c_le c1) rl_999 r_v26_2 (by decide)
        refine lv_sipush (v := (999 : Int32)) hx hb dX9_price_53 (by decide) ?_
        exact g_iret C hr hH (Nat.zero_le _) (Nat.zero_le _) dX9_price_56 ⟨rfl, hI, (rg_w rl_999 (by decide))⟩
      · skip
        have r3 : rg v26_2 0 998 := rf_ltl (n_le c1) r_v26_2 rl_999 (by decide)
        refine lv_aload_n hx hb dX9_price_33 rfl (lv_at hl 0 rfl) ?_
        refine t_getX C hH hI.1 mq tq td_0 iX9 rfl 1 (by decide) wd414 rfl (hI.rf kq_1) dX9_price_34 ?_
        refine lv_iload_n hx hb dX9_price_37 rfl (lv_at hl 2 rfl) ?_
        refine t_Vi C hO hl.1 hA hH hI.1 (As := [.int v26_2]) (rest := []) (t_X3_wantedAt l E J τ L fh26 hI.1 mq_1 tq_1 v26_2) my_X3_wantedAt wd628 mq_1 tq_1 td_3 rfl rfl rfl (Nat.le_of_ble_eq_true rfl) ⟨Nat.le_of_ble_eq_true rfl, Nat.le_of_ble_eq_true rfl⟩ ⟨rfl, rfl⟩ dX9_price_38 (fun r5 L1 f4 H locs hp hH => ?_)
        obtain ⟨rfl, s6, h7⟩ := hp
        have hI := hI.call s6 (by decide)
        refine lv_iload_n hx hb dX9_price_41 rfl (lv_at hl 1 rfl) ?_
        refine lv_icmp_gt (tgt := 47) hx hb dX9_price_42 (by decide) (fun c8 => ?_) (fun c8 => ?_)
        · skip
          have r9 : rg r5 1 2147483647 := rf_ltr (c_lt c8) r26_p1 h7 (by decide)
          obtain ⟨z10, ez10⟩ : ∃ y : Int32, y = v26_2 + (1 : Int32) := ⟨_, rfl⟩
          have r11 : rg z10 1 999 := rg_add ez10 r3 rl_1 (by decide)
          have a12 : z10.toInt = v26_2.toInt + 1 := ai_add ez10 r3 tl_1 (by decide)
          refine lv_iinc (v := z10) (lv' := [(2, .int z10), (0, .ref q), (1, .int p1)]) hx hb dX9_price_47 hl (k := 2) rfl (by rw [ez10]; rfl) (by decide) rfl (fun ls hl => ?_)
          refine lv_goto (tgt := 26) hx hb dX9_price_50 (by decide) ?_
          exact ih26 _ _ _ _ z10 (fu_s hfu26 a12 (by decide)) hI hH (rg_w r11 (by decide)) r26_p1 (lv_sub hl [1, 2, 0] rfl)
        · skip
          have r13 : rg r5 (-2147483648) 999 := rf_lel (n_lt c8) h7 r26_p1 (by decide)
          refine lv_iload_n hx hb dX9_price_45 rfl (lv_at hl 2 rfl) ?_
          exact g_iret C hr hH (Nat.zero_le _) (Nat.zero_le _) dX9_price_46 ⟨rfl, hI, (rg_w r3 (by decide))⟩
  refine lv_aload_n hx hb dX9_price_0 rfl (lv_at hl 0 rfl) ?_
  refine t_getX C hH hI.1 mq tq td_0 iX9 rfl 1 (by decide) wd414 rfl (hI.rf kq_1) dX9_price_1 ?_
  refine t_Vi C hO hl.1 hA hH hI.1 (As := []) (rest := []) (t_X3_isNone l E J τ L f hI.1 mq_1 tq_1) my_X3_isNone wd473 mq_1 tq_1 td_3 rfl rfl rfl (Nat.le_of_ble_eq_true rfl) ⟨Nat.le_of_ble_eq_true rfl, Nat.le_of_ble_eq_true rfl⟩ ⟨rfl, rfl⟩ dX9_price_4 (fun r15 L1 f14 H locs hp hH => ?_)
  obtain ⟨rfl, s16, h17⟩ := hp
  have hI := hI.call s16 (by decide)
  refine lv_if_ne (tgt := 21) hx hb dX9_price_7 (by decide) (fun c18 => ?_) (fun c18 => ?_)
  · skip
    have r19 : rg r15 1 1 := rf_nel (n_eq c18) h17 rl_0 (by decide)
    refine lv_bipush (v := (-2 : Int32)) hx hb dX9_price_21 (by decide) ?_
    exact g_iret C hr hH (Nat.zero_le _) (Nat.zero_le _) dX9_price_23 ⟨rfl, hI, (rg_w rl_m2 (by decide))⟩
  · skip
    have r20 : rg r15 0 0 := rf_eql (c_eq c18) h17 rl_0 (by decide)
    refine lv_iload_n hx hb dX9_price_10 rfl (lv_at hl 1 rfl) ?_
    refine lv_if_lt (tgt := 21) hx hb dX9_price_11 (by decide) (fun c21 => ?_) (fun c21 => ?_)
    · skip
      have r22 : rg p1 (-2147483648) (-1) := rf_ltl (c_lt c21) (rg_all _) rl_0 (by decide)
      refine lv_bipush (v := (-2 : Int32)) hx hb dX9_price_21 (by decide) ?_
      exact g_iret C hr hH (Nat.zero_le _) (Nat.zero_le _) dX9_price_23 ⟨rfl, hI, (rg_w rl_m2 (by decide))⟩
    · skip
      have r23 : rg p1 0 2147483647 := rf_ler (n_lt c21) rl_0 (rg_all _) (by decide)
      refine lv_iload_n hx hb dX9_price_14 rfl (lv_at hl 1 rfl) ?_
      refine lv_sipush (v := (999 : Int32)) hx hb dX9_price_15 (by decide) ?_
      refine lv_icmp_le (tgt := 24) hx hb dX9_price_18 (by decide) (fun c24 => ?_) (fun c24 => ?_)
      · skip
        have r25 : rg p1 0 999 := rf_lel (c_le c24) r23 rl_999 (by decide)
        refine lv_iconst (v := (0 : Int32)) hx hb dX9_price_24 (by decide) ?_
        refine lv_istore_n (lv' := [(2, .int (0 : Int32)), (0, .ref q), (1, .int p1)]) hx hb dX9_price_25 rfl hl (by decide) rfl (fun ls hl => ?_)
        exact cut26 1000 _ _ _ _ (0 : Int32) (fu_i 1000 rl_0 (by decide)) hI hH (rg_w rl_0 (by decide)) r25 (lv_sub hl [1, 2, 0] rfl)
      · skip
        have r26 : rg p1 1000 2147483647 := rf_ltr (n_le c24) rl_999 r23 (by decide)
        refine lv_bipush (v := (-2 : Int32)) hx hb dX9_price_21 (by decide) ?_
        exact g_iret C hr hH (Nat.zero_le _) (Nat.zero_le _) dX9_price_23 ⟨rfl, hI, (rg_w rl_m2 (by decide))⟩
set_option maxHeartbeats 4000000 in
set_option maxRecDepth 100000 in
theorem t_X9_rests (l : Launch) (E : gE) (J : Nat → Nat) (τ : Nat → Nat) (L : List Nat) (f : gF) (hI : tI E L τ f) {q : Nat} (mq : q ∈ L) (tq : τ q = 0) (p1 : Int32) (p2 : Int32) : tMi l E J yX9_rests cX9_rests 6 .int (gRm (7) 0 0) [.ref q, .int p1, .int p2] L f (tPi E L τ [19, 20, 21, 23] f (fun r f1 => rg r (-2147483648) 2147483647)) := by
  refine tMi.intro (by decide) (Nat.le_of_ble_eq_true rfl) ?_
  intro p e s m below meth c A ls C hr hA hO hH hl
  have C : gC E cX9_rests 6 RX9 p s m _ meth c := C
  have hl : lv_has ls 6 [(0, .ref q), (1, .int p1), (2, .int p2)] := hl
  have hx := C.1
  have hb := C.2.1
  have hI := hI.S [19, 20, 21, 23]
  have cut17 : ∀ (n : Nat) (fh17 : gF) (H : Heap) (locs : List Loc) (ls : Array Slot) (v17_3 : Int32) (v17_4 : Int32), 2 - v17_4.toInt < (n : Int) → tS E L τ [19, 20, 21, 23] f fh17 → gH E A L fh17 s.heap H locs → rg v17_3 0 15 → rg v17_4 0 2 → rg p1 0 5 → rg p2 0 5 → lv_has ls 6 [(0, .ref q), (1, .int p1), (2, .int p2), (3, .int v17_3), (4, .int v17_4)] → W p l e (gRm (7) 0 0) s m [.ref q, .int p1, .int p2].toArray below meth c H locs 0 0 (MQ below (gQi E A (tPi E L τ [19, 20, 21, 23] f (fun r f1 => rg r (-2147483648) 2147483647))) [.ref q, .int p1, .int p2].toArray s (gRm (7) 0 0).cells (gRm (7) 0 0).slots A) (F0 m 17 ls []) := by
    intro n
    induction n with
    | zero =>
      intro fh17 H locs ls v17_3 v17_4 hfu17 hI hH r_v17_3 r_v17_4 r17_p1 r17_p2 hl
      exact (fu_0 hfu17 r_v17_4).elim
    | succ n ih17 =>
      intro fh17 H locs ls v17_3 v17_4 hfu17 hI hH r_v17_3 r_v17_4 r17_p1 r17_p2 hl
      have cut26 : ∀ (n : Nat) (fh26 : gF) (H : Heap) (locs : List Loc) (ls : Array Slot) (v26_3 : Int32) (v26_5 : Int32), 2 - v26_5.toInt < (n : Int) → tS E L τ [19, 20, 21, 23] f fh26 → gH E A L fh26 s.heap H locs → rg v26_3 0 15 → rg v26_5 0 2 → rg v17_4 0 1 → lv_has ls 6 [(0, .ref q), (1, .int p1), (2, .int p2), (3, .int v26_3), (4, .int v17_4), (5, .int v26_5)] → W p l e (gRm (7) 0 0) s m [.ref q, .int p1, .int p2].toArray below meth c H locs 0 0 (MQ below (gQi E A (tPi E L τ [19, 20, 21, 23] f (fun r f1 => rg r (-2147483648) 2147483647))) [.ref q, .int p1, .int p2].toArray s (gRm (7) 0 0).cells (gRm (7) 0 0).slots A) (F0 m 26 ls []) := by
        intro n
        induction n with
        | zero =>
          intro fh26 H locs ls v26_3 v26_5 hfu26 hI hH r_v26_3 r_v26_5 r26_v17_4 hl
          exact (fu_0 hfu26 r_v26_5).elim
        | succ n ih26 =>
          intro fh26 H locs ls v26_3 v26_5 hfu26 hI hH r_v26_3 r_v26_5 r26_v17_4 hl
          refine lv_iload hx hb dX9_rests_26 (lv_at hl 5 rfl) ?_
          refine lv_iconst (v := (2 : Int32)) hx hb dX9_rests_28 (by decide) ?_
          refine lv_icmp_ge (tgt := 63) hx hb dX9_rests_29 (by decide) (fun c1 => ?_) (fun c1 => ?_)
          · skip
            have r2 : rg v26_5 2 2 := rf_ler (c_le c1) rl_2 r_v26_5 (by decide)
            obtain ⟨z3, ez3⟩ : ∃ y : Int32, y = v17_4 + (1 : Int32) := ⟨_, rfl⟩
            have r4 : rg z3 1 2 := rg_add ez3 r26_v17_4 rl_1 (by decide)
            have a5 : z3.toInt = v17_4.toInt + 1 := ai_add ez3 r26_v17_4 tl_1 (by decide)
            refine lv_iinc (v := z3) (lv' := [(4, .int z3), (0, .ref q), (1, .int p1), (2, .int p2), (3, .int v26_3), (5, .int v26_5)]) hx hb dX9_rests_63 hl (k := 4) rfl (by rw [ez3]; rfl) (by decide) rfl (fun ls hl => ?_)
            refine lv_goto (tgt := 17) hx hb dX9_rests_66 (by decide) ?_
            exact ih17 _ _ _ _ v26_3 z3 (fu_s hfu17 a5 (by decide)) hI hH r_v26_3 (rg_w r4 (by decide)) r17_p1 r17_p2 (lv_sub hl [1, 2, 3, 4, 0] rfl)
          · skip
            have r6 : rg v26_5 0 1 := rf_ltl (n_le c1) r_v26_5 rl_2 (by decide)
            refine lv_aload_n hx hb dX9_rests_32 rfl (lv_at hl 0 rfl) ?_
            refine lv_iload_n hx hb dX9_rests_33 rfl (lv_at hl 1 rfl) ?_
            refine lv_iload_n hx hb dX9_rests_34 rfl (lv_at hl 2 rfl) ?_
            refine lv_iload hx hb dX9_rests_35 (lv_at hl 4 rfl) ?_
            refine lv_iload hx hb dX9_rests_37 (lv_at hl 5 rfl) ?_
            refine t_Vi C hO hl.1 hA hH hI.1 (As := [.int p1, .int p2, .int v17_4, .int v26_5]) (rest := []) (t_X9_atRest l E J τ L fh26 hI.1 mq tq p1 r17_p1 p2 r17_p2 v17_4 v26_5) my_X9_atRest wd632 mq tq td_0 rfl rfl rfl (Nat.le_of_ble_eq_true rfl) ⟨Nat.le_of_ble_eq_true rfl, Nat.le_of_ble_eq_true rfl⟩ ⟨rfl, rfl⟩ dX9_rests_39 (fun r8 L1 f7 H locs hp hH => ?_)
            obtain ⟨rfl, s9, h10⟩ := hp
            have hI := hI.call s9 (by decide)
            refine lv_if_eq (tgt := 57) hx hb dX9_rests_42 (by decide) (fun c11 => ?_) (fun c11 => ?_)
            · skip
              have r12 : rg r8 0 0 := rf_eql (c_eq c11) h10 rl_0 (by decide)
              obtain ⟨z13, ez13⟩ : ∃ y : Int32, y = v26_5 + (1 : Int32) := ⟨_, rfl⟩
              have r14 : rg z13 1 2 := rg_add ez13 r6 rl_1 (by decide)
              have a15 : z13.toInt = v26_5.toInt + 1 := ai_add ez13 r6 tl_1 (by decide)
              refine lv_iinc (v := z13) (lv' := [(5, .int z13), (0, .ref q), (1, .int p1), (2, .int p2), (3, .int v26_3), (4, .int v17_4)]) hx hb dX9_rests_57 hl (k := 5) rfl (by rw [ez13]; rfl) (by decide) rfl (fun ls hl => ?_)
              refine lv_goto (tgt := 26) hx hb dX9_rests_60 (by decide) ?_
              exact ih26 _ _ _ _ v26_3 z13 (fu_s hfu26 a15 (by decide)) hI hH r_v26_3 (rg_w r14 (by decide)) r26_v17_4 (lv_sub hl [1, 2, 3, 4, 5, 0] rfl)
            · skip
              have r16 : rg r8 1 1 := rf_nel (n_eq c11) h10 rl_0 (by decide)
              refine lv_iload_n hx hb dX9_rests_45 rfl (lv_at hl 3 rfl) ?_
              refine lv_iconst (v := (1 : Int32)) hx hb dX9_rests_46 (by decide) ?_
              refine lv_iload hx hb dX9_rests_47 (lv_at hl 4 rfl) ?_
              refine lv_iconst (v := (2 : Int32)) hx hb dX9_rests_49 (by decide) ?_
              refine lv_iload hx hb dX9_rests_50 (lv_at hl 5 rfl) ?_
              refine lv_imul hx hb dX9_rests_52 ?_
              refine lv_topi (fun z17 ez17 => ?_)
              have r18 : rg z17 0 2 := rg_mul ez17 rl_2 r6 (by decide)
              refine lv_iadd hx hb dX9_rests_53 ?_
              refine lv_topi (fun z19 ez19 => ?_)
              have r20 : rg z19 0 3 := rg_add ez19 r26_v17_4 r18 (by decide)
              refine lv_ishl hx hb dX9_rests_54 ?_
              refine lv_topi (fun z21 ez21 => ?_)
              have r22 : rg z21 1 8 := rg_shl 0 3 ez21 r20 (by decide)
              refine lv_ior hx hb dX9_rests_55 ?_
              refine lv_topi (fun z23 ez23 => ?_)
              have r24 : rg z23 0 15 := rg_or 4 ez23 r_v26_3 r22 (by decide)
              refine lv_istore_n (lv' := [(3, .int z23), (0, .ref q), (1, .int p1), (2, .int p2), (4, .int v17_4), (5, .int v26_5)]) hx hb dX9_rests_56 rfl hl (by decide) rfl (fun ls hl => ?_)
              obtain ⟨z25, ez25⟩ : ∃ y : Int32, y = v26_5 + (1 : Int32) := ⟨_, rfl⟩
              have r26 : rg z25 1 2 := rg_add ez25 r6 rl_1 (by decide)
              have a27 : z25.toInt = v26_5.toInt + 1 := ai_add ez25 r6 tl_1 (by decide)
              refine lv_iinc (v := z25) (lv' := [(5, .int z25), (3, .int z23), (0, .ref q), (1, .int p1), (2, .int p2), (4, .int v17_4)]) hx hb dX9_rests_57 hl (k := 5) rfl (by rw [ez25]; rfl) (by decide) rfl (fun ls hl => ?_)
              refine lv_goto (tgt := 26) hx hb dX9_rests_60 (by decide) ?_
              exact ih26 _ _ _ _ z23 z25 (fu_s hfu26 a27 (by decide)) hI hH r24 (rg_w r26 (by decide)) r26_v17_4 (lv_sub hl [2, 3, 4, 1, 5, 0] rfl)
      refine lv_iload hx hb dX9_rests_17 (lv_at hl 4 rfl) ?_
      refine lv_iconst (v := (2 : Int32)) hx hb dX9_rests_19 (by decide) ?_
      refine lv_icmp_ge (tgt := 69) hx hb dX9_rests_20 (by decide) (fun c28 => ?_) (fun c28 => ?_)
      · skip
        have r29 : rg v17_4 2 2 := rf_ler (c_le c28) rl_2 r_v17_4 (by decide)
        refine lv_iload_n hx hb dX9_rests_69 rfl (lv_at hl 3 rfl) ?_
        exact g_iret C hr hH (Nat.zero_le _) (Nat.zero_le _) dX9_rests_70 ⟨rfl, hI, (rg_w r_v17_3 (by decide))⟩
      · skip
        have r30 : rg v17_4 0 1 := rf_ltl (n_le c28) r_v17_4 rl_2 (by decide)
        refine lv_iconst (v := (0 : Int32)) hx hb dX9_rests_23 (by decide) ?_
        refine lv_istore (lv' := [(5, .int (0 : Int32)), (0, .ref q), (1, .int p1), (2, .int p2), (3, .int v17_3), (4, .int v17_4)]) hx hb dX9_rests_24 hl (by decide) rfl (fun ls hl => ?_)
        exact cut26 3 _ _ _ _ v17_3 (0 : Int32) (fu_i 3 rl_0 (by decide)) hI hH r_v17_3 (rg_w rl_0 (by decide)) r30 (lv_sub hl [1, 2, 3, 4, 5, 0] rfl)
  refine lv_aload_n hx hb dX9_rests_0 rfl (lv_at hl 0 rfl) ?_
  refine lv_iload_n hx hb dX9_rests_1 rfl (lv_at hl 1 rfl) ?_
  refine lv_iload_n hx hb dX9_rests_2 rfl (lv_at hl 2 rfl) ?_
  refine t_Vi C hO hl.1 hA hH hI.1 (As := [.int p1, .int p2]) (rest := []) (t_X9_areTwo l E J τ L f hI.1 mq tq p1 p2) my_X9_areTwo wd636 mq tq td_0 rfl rfl rfl (Nat.le_of_ble_eq_true rfl) ⟨Nat.le_of_ble_eq_true rfl, Nat.le_of_ble_eq_true rfl⟩ ⟨rfl, rfl⟩ dX9_rests_3 (fun r32 L1 f31 H locs hp hH => ?_)
  obtain ⟨rfl, s33, h34⟩ := hp
  have hI := hI.call s33 (by decide)
  refine lv_if_ne (tgt := 12) hx hb dX9_rests_6 (by decide) (fun c35 => ?_) (fun c35 => ?_)
  · skip
    have r36 : rg r32 1 1 := rf_nel (n_eq c35) h34.1 rl_0 (by decide)
    have r37 : rg p1 0 5 := h34.2.1 c35
    have r38 : rg p2 0 5 := h34.2.2 c35
    refine lv_iconst (v := (0 : Int32)) hx hb dX9_rests_12 (by decide) ?_
    refine lv_istore_n (lv' := [(3, .int (0 : Int32)), (0, .ref q), (1, .int p1), (2, .int p2)]) hx hb dX9_rests_13 rfl hl (by decide) rfl (fun ls hl => ?_)
    refine lv_iconst (v := (0 : Int32)) hx hb dX9_rests_14 (by decide) ?_
    refine lv_istore (lv' := [(4, .int (0 : Int32)), (3, .int (0 : Int32)), (0, .ref q), (1, .int p1), (2, .int p2)]) hx hb dX9_rests_15 hl (by decide) rfl (fun ls hl => ?_)
    exact cut17 3 _ _ _ _ (0 : Int32) (0 : Int32) (fu_i 3 rl_0 (by decide)) hI hH (rg_w rl_0 (by decide)) (rg_w rl_0 (by decide)) r37 r38 (lv_sub hl [2, 3, 4, 1, 0] rfl)
  · skip
    have r39 : rg r32 0 0 := rf_eql (c_eq c35) h34.1 rl_0 (by decide)
    refine lv_bipush (v := (-2 : Int32)) hx hb dX9_rests_9 (by decide) ?_
    exact g_iret C hr hH (Nat.zero_le _) (Nat.zero_le _) dX9_rests_11 ⟨rfl, hI, (rg_w rl_m2 (by decide))⟩
set_option maxHeartbeats 4000000 in
set_option maxRecDepth 100000 in
theorem t_X9_has (l : Launch) (E : gE) (J : Nat → Nat) (τ : Nat → Nat) (L : List Nat) (f : gF) (hI : tI E L τ f) {q : Nat} (mq : q ∈ L) (tq : τ q = 0) (p1 : Int32) (p2 : Int32) (p3 : Int32) (p4 : Int32) : tMi l E J yX9_has cX9_has 5 .int (gRm (6) 0 0) [.ref q, .int p1, .int p2, .int p3, .int p4] L f (tPi E L τ [19, 20, 21, 23] f (fun r f1 => rg r (-2147483648) 2147483647)) := by
  refine tMi.intro (by decide) (Nat.le_of_ble_eq_true rfl) ?_
  intro p e s m below meth c A ls C hr hA hO hH hl
  have C : gC E cX9_has 5 RX9 p s m _ meth c := C
  have hl : lv_has ls 5 [(0, .ref q), (1, .int p1), (2, .int p2), (3, .int p3), (4, .int p4)] := hl
  have hx := C.1
  have hb := C.2.1
  have hI := hI.S [19, 20, 21, 23]
  refine lv_aload_n hx hb dX9_has_0 rfl (lv_at hl 0 rfl) ?_
  refine lv_iload_n hx hb dX9_has_1 rfl (lv_at hl 1 rfl) ?_
  refine lv_iload_n hx hb dX9_has_2 rfl (lv_at hl 2 rfl) ?_
  refine t_Vi C hO hl.1 hA hH hI.1 (As := [.int p1, .int p2]) (rest := []) (t_X9_areTwo l E J τ L f hI.1 mq tq p1 p2) my_X9_areTwo wd636 mq tq td_0 rfl rfl rfl (Nat.le_of_ble_eq_true rfl) ⟨Nat.le_of_ble_eq_true rfl, Nat.le_of_ble_eq_true rfl⟩ ⟨rfl, rfl⟩ dX9_has_3 (fun r2 L1 f1 H locs hp hH => ?_)
  obtain ⟨rfl, s3, h4⟩ := hp
  have hI := hI.call s3 (by decide)
  refine lv_if_eq (tgt := 24) hx hb dX9_has_6 (by decide) (fun c5 => ?_) (fun c5 => ?_)
  · skip
    have r6 : rg r2 0 0 := rf_eql (c_eq c5) h4.1 rl_0 (by decide)
    refine lv_sipush (v := (-1000 : Int32)) hx hb dX9_has_24 (by decide) ?_
    exact g_iret C hr hH (Nat.zero_le _) (Nat.zero_le _) dX9_has_27 ⟨rfl, hI, (rg_w rl_m1000 (by decide))⟩
  · skip
    have r7 : rg r2 1 1 := rf_nel (n_eq c5) h4.1 rl_0 (by decide)
    have r8 : rg p1 0 5 := h4.2.1 c5
    have r9 : rg p2 0 5 := h4.2.2 c5
    refine lv_iload_n hx hb dX9_has_9 rfl (lv_at hl 3 rfl) ?_
    refine t_Si C hO hl.1 hA hH (As := [.int p3]) (rest := []) (t_X9_isChoice l E J τ L f1 hI.1 p3) my_X9_isChoice wd639 rfl rfl (Nat.le_of_ble_eq_true rfl) ⟨Nat.le_of_ble_eq_true rfl, Nat.le_of_ble_eq_true rfl⟩ ⟨rfl, rfl⟩ dX9_has_10 (fun r11 L1 f10 H locs hp hH => ?_)
    obtain ⟨rfl, s12, h13⟩ := hp
    have hI := hI.call s12 (by decide)
    refine lv_if_eq (tgt := 24) hx hb dX9_has_13 (by decide) (fun c14 => ?_) (fun c14 => ?_)
    · skip
      have r15 : rg r11 0 0 := rf_eql (c_eq c14) h13 rl_0 (by decide)
      refine lv_sipush (v := (-1000 : Int32)) hx hb dX9_has_24 (by decide) ?_
      exact g_iret C hr hH (Nat.zero_le _) (Nat.zero_le _) dX9_has_27 ⟨rfl, hI, (rg_w rl_m1000 (by decide))⟩
    · skip
      have r16 : rg r11 1 1 := rf_nel (n_eq c14) h13 rl_0 (by decide)
      refine lv_iload hx hb dX9_has_16 (lv_at hl 4 rfl) ?_
      refine t_Si C hO hl.1 hA hH (As := [.int p4]) (rest := []) (t_X9_isChoice l E J τ L f10 hI.1 p4) my_X9_isChoice wd639 rfl rfl (Nat.le_of_ble_eq_true rfl) ⟨Nat.le_of_ble_eq_true rfl, Nat.le_of_ble_eq_true rfl⟩ ⟨rfl, rfl⟩ dX9_has_18 (fun r18 L1 f17 H locs hp hH => ?_)
      obtain ⟨rfl, s19, h20⟩ := hp
      have hI := hI.call s19 (by decide)
      refine lv_if_ne (tgt := 28) hx hb dX9_has_21 (by decide) (fun c21 => ?_) (fun c21 => ?_)
      · skip
        have r22 : rg r18 1 1 := rf_nel (n_eq c21) h20 rl_0 (by decide)
        refine lv_aload_n hx hb dX9_has_28 rfl (lv_at hl 0 rfl) ?_
        refine lv_iload_n hx hb dX9_has_29 rfl (lv_at hl 1 rfl) ?_
        refine lv_iload_n hx hb dX9_has_30 rfl (lv_at hl 2 rfl) ?_
        refine lv_iload_n hx hb dX9_has_31 rfl (lv_at hl 3 rfl) ?_
        refine lv_iload hx hb dX9_has_32 (lv_at hl 4 rfl) ?_
        refine t_Vi C hO hl.1 hA hH hI.1 (As := [.int p1, .int p2, .int p3, .int p4]) (rest := []) (t_X9_gain l E J τ L f17 hI.1 mq tq p1 r8 p2 r9 p3 p4) my_X9_gain wd469 mq tq td_0 rfl rfl rfl (Nat.le_of_ble_eq_true rfl) ⟨Nat.le_of_ble_eq_true rfl, Nat.le_of_ble_eq_true rfl⟩ ⟨rfl, rfl⟩ dX9_has_34 (fun r24 L1 f23 H locs hp hH => ?_)
        obtain ⟨rfl, s25, h26⟩ := hp
        have hI := hI.call s25 (by decide)
        exact g_iret C hr hH (Nat.zero_le _) (Nat.zero_le _) dX9_has_37 ⟨rfl, hI, h26⟩
      · skip
        have r27 : rg r18 0 0 := rf_eql (c_eq c21) h20 rl_0 (by decide)
        refine lv_sipush (v := (-1000 : Int32)) hx hb dX9_has_24 (by decide) ?_
        exact g_iret C hr hH (Nat.zero_le _) (Nat.zero_le _) dX9_has_27 ⟨rfl, hI, (rg_w rl_m1000 (by decide))⟩
set_option maxHeartbeats 4000000 in
set_option maxRecDepth 100000 in
theorem t_X9_chance (l : Launch) (E : gE) (J : Nat → Nat) (τ : Nat → Nat) (L : List Nat) (f : gF) (hI : tI E L τ f) {q : Nat} (mq : q ∈ L) (tq : τ q = 0) (p1 : Int32) (p2 : Int32) : tMi l E J yX9_chance cX9_chance 3 .int (gRm (6) 0 0) [.ref q, .int p1, .int p2] L f (tPi E L τ [19, 20, 21, 23] f (fun r f1 => rg r (-2147483648) 2147483647)) := by
  refine tMi.intro (by decide) (Nat.le_of_ble_eq_true rfl) ?_
  intro p e s m below meth c A ls C hr hA hO hH hl
  have C : gC E cX9_chance 3 RX9 p s m _ meth c := C
  have hl : lv_has ls 3 [(0, .ref q), (1, .int p1), (2, .int p2)] := hl
  have hx := C.1
  have hb := C.2.1
  have hI := hI.S [19, 20, 21, 23]
  obtain ⟨q_1, mq_1, tq_1, kq_1⟩ := t_fldr hI.1 mq tq td_0 (k := 1) rfl
  obtain ⟨q_9, mq_9, tq_9, kq_9⟩ := t_fldr hI.1 mq tq td_0 (k := 9) rfl
  refine lv_aload_n hx hb dX9_chance_0 rfl (lv_at hl 0 rfl) ?_
  refine t_getX C hH hI.1 mq tq td_0 iX9 rfl 1 (by decide) wd414 rfl (hI.rf kq_1) dX9_chance_1 ?_
  refine lv_iload_n hx hb dX9_chance_4 rfl (lv_at hl 1 rfl) ?_
  refine t_Vi C hO hl.1 hA hH hI.1 (As := [.int p1]) (rest := []) (t_X3_hasMember l E J τ L f hI.1 mq_1 tq_1 p1) my_X3_hasMember wd418 mq_1 tq_1 td_3 rfl rfl rfl (Nat.le_of_ble_eq_true rfl) ⟨Nat.le_of_ble_eq_true rfl, Nat.le_of_ble_eq_true rfl⟩ ⟨rfl, rfl⟩ dX9_chance_5 (fun r2 L1 f1 H locs hp hH => ?_)
  obtain ⟨rfl, s3, h4⟩ := hp
  have hI := hI.call s3 (by decide)
  refine lv_if_eq (tgt := 18) hx hb dX9_chance_8 (by decide) (fun c5 => ?_) (fun c5 => ?_)
  · skip
    have r6 : rg r2 0 0 := rf_eql (c_eq c5) h4.1 rl_0 (by decide)
    refine lv_bipush (v := (-2 : Int32)) hx hb dX9_chance_18 (by decide) ?_
    exact g_iret C hr hH (Nat.zero_le _) (Nat.zero_le _) dX9_chance_20 ⟨rfl, hI, (rg_w rl_m2 (by decide))⟩
  · skip
    have r7 : rg r2 1 1 := rf_nel (n_eq c5) h4.1 rl_0 (by decide)
    have r8 : rg p1 0 5 := h4.2 c5
    refine lv_iload_n hx hb dX9_chance_11 rfl (lv_at hl 2 rfl) ?_
    refine t_Si C hO hl.1 hA hH (As := [.int p2]) (rest := []) (t_X9_isFractionPart l E J τ L f1 hI.1 p2) my_X9_isFractionPart wd602 rfl rfl (Nat.le_of_ble_eq_true rfl) ⟨Nat.le_of_ble_eq_true rfl, Nat.le_of_ble_eq_true rfl⟩ ⟨rfl, rfl⟩ dX9_chance_12 (fun r10 L1 f9 H locs hp hH => ?_)
    obtain ⟨rfl, s11, h12⟩ := hp
    have hI := hI.call s11 (by decide)
    refine lv_if_ne (tgt := 21) hx hb dX9_chance_15 (by decide) (fun c13 => ?_) (fun c13 => ?_)
    · skip
      have r14 : rg r10 1 1 := rf_nel (n_eq c13) h12 rl_0 (by decide)
      refine lv_aload_n hx hb dX9_chance_21 rfl (lv_at hl 0 rfl) ?_
      refine t_getX C hH hI.1 mq tq td_0 iX9 rfl 9 (by decide) wd640 rfl (hI.rf kq_9) dX9_chance_22 ?_
      refine lv_iload_n hx hb dX9_chance_25 rfl (lv_at hl 1 rfl) ?_
      refine t_Vi C hO hl.1 hA hH hI.1 (As := [.int p1]) (rest := []) (t_X1_servedWeight l E J τ L f9 hI.1 mq_9 tq_9 p1) my_X1_servedWeight wd644 mq_9 tq_9 td_33 rfl rfl rfl (Nat.le_of_ble_eq_true rfl) ⟨Nat.le_of_ble_eq_true rfl, Nat.le_of_ble_eq_true rfl⟩ ⟨rfl, rfl⟩ dX9_chance_26 (fun r16 L1 f15 H locs hp hH => ?_)
      obtain ⟨rfl, s17, h18⟩ := hp
      have hI := hI.call s17 (by decide)
      refine lv_aload_n hx hb dX9_chance_29 rfl (lv_at hl 0 rfl) ?_
      refine t_getX C hH hI.1 mq tq td_0 iX9 rfl 9 (by decide) wd640 rfl (hI.rf kq_9) dX9_chance_30 ?_
      refine t_Vi C hO hl.1 hA hH hI.1 (As := []) (rest := [.int r16]) (t_X1_allWeight l E J τ L f15 hI.1 mq_9 tq_9) my_X1_allWeight wd648 mq_9 tq_9 td_33 rfl rfl rfl (Nat.le_of_ble_eq_true rfl) ⟨Nat.le_of_ble_eq_true rfl, Nat.le_of_ble_eq_true rfl⟩ ⟨rfl, rfl⟩ dX9_chance_33 (fun r20 L1 f19 H locs hp hH => ?_)
      obtain ⟨rfl, s21, h22⟩ := hp
      have hI := hI.call s21 (by decide)
      refine lv_iload_n hx hb dX9_chance_36 rfl (lv_at hl 2 rfl) ?_
      refine t_Si C hO hl.1 hA hH (As := [.int r16, .int r20, .int p2]) (rest := []) (t_X9_partOf l E J τ L f19 hI.1 r16 r20 p2) my_X9_partOf wd606 rfl rfl (Nat.le_of_ble_eq_true rfl) ⟨Nat.le_of_ble_eq_true rfl, Nat.le_of_ble_eq_true rfl⟩ ⟨rfl, rfl⟩ dX9_chance_37 (fun r24 L1 f23 H locs hp hH => ?_)
      obtain ⟨rfl, s25, h26⟩ := hp
      have hI := hI.call s25 (by decide)
      exact g_iret C hr hH (Nat.zero_le _) (Nat.zero_le _) dX9_chance_40 ⟨rfl, hI, h26⟩
    · skip
      have r27 : rg r10 0 0 := rf_eql (c_eq c13) h12 rl_0 (by decide)
      refine lv_bipush (v := (-2 : Int32)) hx hb dX9_chance_18 (by decide) ?_
      exact g_iret C hr hH (Nat.zero_le _) (Nat.zero_le _) dX9_chance_20 ⟨rfl, hI, (rg_w rl_m2 (by decide))⟩
set_option maxHeartbeats 4000000 in
set_option maxRecDepth 100000 in
theorem t_X9_mean (l : Launch) (E : gE) (J : Nat → Nat) (τ : Nat → Nat) (L : List Nat) (f : gF) (hI : tI E L τ f) {q : Nat} (mq : q ∈ L) (tq : τ q = 0) (p1 : Int32) : tMi l E J yX9_mean cX9_mean 2 .int (gRm (6) 0 0) [.ref q, .int p1] L f (tPi E L τ [19, 20, 21, 23] f (fun r f1 => rg r (-2147483648) 2147483647)) := by
  refine tMi.intro (by decide) (Nat.le_of_ble_eq_true rfl) ?_
  intro p e s m below meth c A ls C hr hA hO hH hl
  have C : gC E cX9_mean 2 RX9 p s m _ meth c := C
  have hl : lv_has ls 2 [(0, .ref q), (1, .int p1)] := hl
  have hx := C.1
  have hb := C.2.1
  have hI := hI.S [19, 20, 21, 23]
  obtain ⟨q_1, mq_1, tq_1, kq_1⟩ := t_fldr hI.1 mq tq td_0 (k := 1) rfl
  obtain ⟨q_9, mq_9, tq_9, kq_9⟩ := t_fldr hI.1 mq tq td_0 (k := 9) rfl
  refine lv_aload_n hx hb dX9_mean_0 rfl (lv_at hl 0 rfl) ?_
  refine t_getX C hH hI.1 mq tq td_0 iX9 rfl 1 (by decide) wd414 rfl (hI.rf kq_1) dX9_mean_1 ?_
  refine t_Vi C hO hl.1 hA hH hI.1 (As := []) (rest := []) (t_X3_isNone l E J τ L f hI.1 mq_1 tq_1) my_X3_isNone wd473 mq_1 tq_1 td_3 rfl rfl rfl (Nat.le_of_ble_eq_true rfl) ⟨Nat.le_of_ble_eq_true rfl, Nat.le_of_ble_eq_true rfl⟩ ⟨rfl, rfl⟩ dX9_mean_4 (fun r2 L1 f1 H locs hp hH => ?_)
  obtain ⟨rfl, s3, h4⟩ := hp
  have hI := hI.call s3 (by decide)
  refine lv_if_ne (tgt := 17) hx hb dX9_mean_7 (by decide) (fun c5 => ?_) (fun c5 => ?_)
  · skip
    have r6 : rg r2 1 1 := rf_nel (n_eq c5) h4 rl_0 (by decide)
    refine lv_bipush (v := (-2 : Int32)) hx hb dX9_mean_17 (by decide) ?_
    exact g_iret C hr hH (Nat.zero_le _) (Nat.zero_le _) dX9_mean_19 ⟨rfl, hI, (rg_w rl_m2 (by decide))⟩
  · skip
    have r7 : rg r2 0 0 := rf_eql (c_eq c5) h4 rl_0 (by decide)
    refine lv_iload_n hx hb dX9_mean_10 rfl (lv_at hl 1 rfl) ?_
    refine t_Si C hO hl.1 hA hH (As := [.int p1]) (rest := []) (t_X9_isFractionPart l E J τ L f1 hI.1 p1) my_X9_isFractionPart wd602 rfl rfl (Nat.le_of_ble_eq_true rfl) ⟨Nat.le_of_ble_eq_true rfl, Nat.le_of_ble_eq_true rfl⟩ ⟨rfl, rfl⟩ dX9_mean_11 (fun r9 L1 f8 H locs hp hH => ?_)
    obtain ⟨rfl, s10, h11⟩ := hp
    have hI := hI.call s10 (by decide)
    refine lv_if_ne (tgt := 20) hx hb dX9_mean_14 (by decide) (fun c12 => ?_) (fun c12 => ?_)
    · skip
      have r13 : rg r9 1 1 := rf_nel (n_eq c12) h11 rl_0 (by decide)
      refine lv_aload_n hx hb dX9_mean_20 rfl (lv_at hl 0 rfl) ?_
      refine t_getX C hH hI.1 mq tq td_0 iX9 rfl 9 (by decide) wd640 rfl (hI.rf kq_9) dX9_mean_21 ?_
      refine t_Vi C hO hl.1 hA hH hI.1 (As := []) (rest := []) (t_X1_paidWeight l E J τ L f8 hI.1 mq_9 tq_9) my_X1_paidWeight wd652 mq_9 tq_9 td_33 rfl rfl rfl (Nat.le_of_ble_eq_true rfl) ⟨Nat.le_of_ble_eq_true rfl, Nat.le_of_ble_eq_true rfl⟩ ⟨rfl, rfl⟩ dX9_mean_24 (fun r15 L1 f14 H locs hp hH => ?_)
      obtain ⟨rfl, s16, h17⟩ := hp
      have hI := hI.call s16 (by decide)
      refine lv_aload_n hx hb dX9_mean_27 rfl (lv_at hl 0 rfl) ?_
      refine t_getX C hH hI.1 mq tq td_0 iX9 rfl 9 (by decide) wd640 rfl (hI.rf kq_9) dX9_mean_28 ?_
      refine t_Vi C hO hl.1 hA hH hI.1 (As := []) (rest := [.int r15]) (t_X1_allWeight l E J τ L f14 hI.1 mq_9 tq_9) my_X1_allWeight wd648 mq_9 tq_9 td_33 rfl rfl rfl (Nat.le_of_ble_eq_true rfl) ⟨Nat.le_of_ble_eq_true rfl, Nat.le_of_ble_eq_true rfl⟩ ⟨rfl, rfl⟩ dX9_mean_31 (fun r19 L1 f18 H locs hp hH => ?_)
      obtain ⟨rfl, s20, h21⟩ := hp
      have hI := hI.call s20 (by decide)
      refine lv_iload_n hx hb dX9_mean_34 rfl (lv_at hl 1 rfl) ?_
      refine t_Si C hO hl.1 hA hH (As := [.int r15, .int r19, .int p1]) (rest := []) (t_X9_partOf l E J τ L f18 hI.1 r15 r19 p1) my_X9_partOf wd606 rfl rfl (Nat.le_of_ble_eq_true rfl) ⟨Nat.le_of_ble_eq_true rfl, Nat.le_of_ble_eq_true rfl⟩ ⟨rfl, rfl⟩ dX9_mean_35 (fun r23 L1 f22 H locs hp hH => ?_)
      obtain ⟨rfl, s24, h25⟩ := hp
      have hI := hI.call s24 (by decide)
      exact g_iret C hr hH (Nat.zero_le _) (Nat.zero_le _) dX9_mean_38 ⟨rfl, hI, h25⟩
    · skip
      have r26 : rg r9 0 0 := rf_eql (c_eq c12) h11 rl_0 (by decide)
      refine lv_bipush (v := (-2 : Int32)) hx hb dX9_mean_17 (by decide) ?_
      exact g_iret C hr hH (Nat.zero_le _) (Nat.zero_le _) dX9_mean_19 ⟨rfl, hI, (rg_w rl_m2 (by decide))⟩
set_option maxHeartbeats 4000000 in
set_option maxRecDepth 100000 in
theorem t_X9_flown (l : Launch) (E : gE) (J : Nat → Nat) (τ : Nat → Nat) (L : List Nat) (f : gF) (hI : tI E L τ f) {q : Nat} (mq : q ∈ L) (tq : τ q = 0) (p1 : Int32) (p2 : Int32) : tMi l E J yX9_flown cX9_flown 3 .int (gRm (4) 0 0) [.ref q, .int p1, .int p2] L f (tPi E L τ [] f (fun r f1 => rg r (-2147483648) 2147483647)) := by
  refine tMi.intro (by decide) (Nat.le_of_ble_eq_true rfl) ?_
  intro p e s m below meth c A ls C hr hA hO hH hl
  have C : gC E cX9_flown 3 RX9 p s m _ meth c := C
  have hl : lv_has ls 3 [(0, .ref q), (1, .int p1), (2, .int p2)] := hl
  have hx := C.1
  have hb := C.2.1
  have hI := hI.S []
  obtain ⟨q_1, mq_1, tq_1, kq_1⟩ := t_fldr hI.1 mq tq td_0 (k := 1) rfl
  obtain ⟨q_9, mq_9, tq_9, kq_9⟩ := t_fldr hI.1 mq tq td_0 (k := 9) rfl
  refine lv_aload_n hx hb dX9_flown_0 rfl (lv_at hl 0 rfl) ?_
  refine t_getX C hH hI.1 mq tq td_0 iX9 rfl 1 (by decide) wd414 rfl (hI.rf kq_1) dX9_flown_1 ?_
  refine t_Vi C hO hl.1 hA hH hI.1 (As := []) (rest := []) (t_X3_isNone l E J τ L f hI.1 mq_1 tq_1) my_X3_isNone wd473 mq_1 tq_1 td_3 rfl rfl rfl (Nat.le_of_ble_eq_true rfl) ⟨Nat.le_of_ble_eq_true rfl, Nat.le_of_ble_eq_true rfl⟩ ⟨rfl, rfl⟩ dX9_flown_4 (fun r2 L1 f1 H locs hp hH => ?_)
  obtain ⟨rfl, s3, h4⟩ := hp
  have hI := hI.call s3 (by decide)
  refine lv_if_ne (tgt := 26) hx hb dX9_flown_7 (by decide) (fun c5 => ?_) (fun c5 => ?_)
  · skip
    have r6 : rg r2 1 1 := rf_nel (n_eq c5) h4 rl_0 (by decide)
    refine lv_bipush (v := (-2 : Int32)) hx hb dX9_flown_26 (by decide) ?_
    exact g_iret C hr hH (Nat.zero_le _) (Nat.zero_le _) dX9_flown_28 ⟨rfl, hI, (rg_w rl_m2 (by decide))⟩
  · skip
    have r7 : rg r2 0 0 := rf_eql (c_eq c5) h4 rl_0 (by decide)
    refine lv_iload_n hx hb dX9_flown_10 rfl (lv_at hl 1 rfl) ?_
    refine lv_if_lt (tgt := 26) hx hb dX9_flown_11 (by decide) (fun c8 => ?_) (fun c8 => ?_)
    · skip
      have r9 : rg p1 (-2147483648) (-1) := rf_ltl (c_lt c8) (rg_all _) rl_0 (by decide)
      refine lv_bipush (v := (-2 : Int32)) hx hb dX9_flown_26 (by decide) ?_
      exact g_iret C hr hH (Nat.zero_le _) (Nat.zero_le _) dX9_flown_28 ⟨rfl, hI, (rg_w rl_m2 (by decide))⟩
    · skip
      have r10 : rg p1 0 2147483647 := rf_ler (n_lt c8) rl_0 (rg_all _) (by decide)
      refine lv_iload_n hx hb dX9_flown_14 rfl (lv_at hl 1 rfl) ?_
      refine lv_iconst (v := (4 : Int32)) hx hb dX9_flown_15 (by decide) ?_
      refine lv_icmp_gt (tgt := 26) hx hb dX9_flown_16 (by decide) (fun c11 => ?_) (fun c11 => ?_)
      · skip
        have r12 : rg p1 5 2147483647 := rf_ltr (c_lt c11) rl_4 r10 (by decide)
        refine lv_bipush (v := (-2 : Int32)) hx hb dX9_flown_26 (by decide) ?_
        exact g_iret C hr hH (Nat.zero_le _) (Nat.zero_le _) dX9_flown_28 ⟨rfl, hI, (rg_w rl_m2 (by decide))⟩
      · skip
        have r13 : rg p1 0 4 := rf_lel (n_lt c11) r10 rl_4 (by decide)
        refine lv_iload_n hx hb dX9_flown_19 rfl (lv_at hl 2 rfl) ?_
        refine t_Si C hO hl.1 hA hH (As := [.int p2]) (rest := []) (t_X9_isFractionPart l E J τ L f1 hI.1 p2) my_X9_isFractionPart wd602 rfl rfl (Nat.le_of_ble_eq_true rfl) ⟨Nat.le_of_ble_eq_true rfl, Nat.le_of_ble_eq_true rfl⟩ ⟨rfl, rfl⟩ dX9_flown_20 (fun r15 L1 f14 H locs hp hH => ?_)
        obtain ⟨rfl, s16, h17⟩ := hp
        have hI := hI.call s16 (by decide)
        refine lv_if_ne (tgt := 29) hx hb dX9_flown_23 (by decide) (fun c18 => ?_) (fun c18 => ?_)
        · skip
          have r19 : rg r15 1 1 := rf_nel (n_eq c18) h17 rl_0 (by decide)
          refine lv_aload_n hx hb dX9_flown_29 rfl (lv_at hl 0 rfl) ?_
          refine t_getX C hH hI.1 mq tq td_0 iX9 rfl 9 (by decide) wd640 rfl (hI.rf kq_9) dX9_flown_30 ?_
          refine lv_iload_n hx hb dX9_flown_33 rfl (lv_at hl 1 rfl) ?_
          refine t_Vi C hO hl.1 hA hH hI.1 (As := [.int p1]) (rest := []) (t_X1_clearWeight l E J τ L f14 hI.1 mq_9 tq_9 p1) my_X1_clearWeight wd656 mq_9 tq_9 td_33 rfl rfl rfl (Nat.le_of_ble_eq_true rfl) ⟨Nat.le_of_ble_eq_true rfl, Nat.le_of_ble_eq_true rfl⟩ ⟨rfl, rfl⟩ dX9_flown_34 (fun r21 L1 f20 H locs hp hH => ?_)
          obtain ⟨rfl, s22, h23⟩ := hp
          have hI := hI.call s22 (by decide)
          refine lv_aload_n hx hb dX9_flown_37 rfl (lv_at hl 0 rfl) ?_
          refine t_getX C hH hI.1 mq tq td_0 iX9 rfl 9 (by decide) wd640 rfl (hI.rf kq_9) dX9_flown_38 ?_
          refine t_Vi C hO hl.1 hA hH hI.1 (As := []) (rest := [.int r21]) (t_X1_allWeight l E J τ L f20 hI.1 mq_9 tq_9) my_X1_allWeight wd648 mq_9 tq_9 td_33 rfl rfl rfl (Nat.le_of_ble_eq_true rfl) ⟨Nat.le_of_ble_eq_true rfl, Nat.le_of_ble_eq_true rfl⟩ ⟨rfl, rfl⟩ dX9_flown_41 (fun r25 L1 f24 H locs hp hH => ?_)
          obtain ⟨rfl, s26, h27⟩ := hp
          have hI := hI.call s26 (by decide)
          refine lv_iload_n hx hb dX9_flown_44 rfl (lv_at hl 2 rfl) ?_
          refine t_Si C hO hl.1 hA hH (As := [.int r21, .int r25, .int p2]) (rest := []) (t_X9_partOf l E J τ L f24 hI.1 r21 r25 p2) my_X9_partOf wd606 rfl rfl (Nat.le_of_ble_eq_true rfl) ⟨Nat.le_of_ble_eq_true rfl, Nat.le_of_ble_eq_true rfl⟩ ⟨rfl, rfl⟩ dX9_flown_45 (fun r29 L1 f28 H locs hp hH => ?_)
          obtain ⟨rfl, s30, h31⟩ := hp
          have hI := hI.call s30 (by decide)
          exact g_iret C hr hH (Nat.zero_le _) (Nat.zero_le _) dX9_flown_48 ⟨rfl, hI, h31⟩
        · skip
          have r32 : rg r15 0 0 := rf_eql (c_eq c18) h17 rl_0 (by decide)
          refine lv_bipush (v := (-2 : Int32)) hx hb dX9_flown_26 (by decide) ?_
          exact g_iret C hr hH (Nat.zero_le _) (Nat.zero_le _) dX9_flown_28 ⟨rfl, hI, (rg_w rl_m2 (by decide))⟩
set_option maxHeartbeats 4000000 in
set_option maxRecDepth 100000 in
theorem t_X9_drawn (l : Launch) (E : gE) (J : Nat → Nat) (τ : Nat → Nat) (L : List Nat) (f : gF) (hI : tI E L τ f) {q : Nat} (mq : q ∈ L) (tq : τ q = 0) (p1 : Int32) (p2 : Int32) : tMi l E J yX9_drawn cX9_drawn 4 .int (gRm (5) 0 0) [.ref q, .int p1, .int p2] L f (tPi E L τ [19, 20, 21, 23] f (fun r f1 => rg r (-2147483648) 2147483647)) := by
  refine tMi.intro (by decide) (Nat.le_of_ble_eq_true rfl) ?_
  intro p e s m below meth c A ls C hr hA hO hH hl
  have C : gC E cX9_drawn 4 RX9 p s m _ meth c := C
  have hl : lv_has ls 4 [(0, .ref q), (1, .int p1), (2, .int p2)] := hl
  have hx := C.1
  have hb := C.2.1
  have hI := hI.S [19, 20, 21, 23]
  obtain ⟨q_1, mq_1, tq_1, kq_1⟩ := t_fldr hI.1 mq tq td_0 (k := 1) rfl
  obtain ⟨q_9, mq_9, tq_9, kq_9⟩ := t_fldr hI.1 mq tq td_0 (k := 9) rfl
  refine lv_aload_n hx hb dX9_drawn_0 rfl (lv_at hl 0 rfl) ?_
  refine t_getX C hH hI.1 mq tq td_0 iX9 rfl 1 (by decide) wd414 rfl (hI.rf kq_1) dX9_drawn_1 ?_
  refine t_Vi C hO hl.1 hA hH hI.1 (As := []) (rest := []) (t_X3_isNone l E J τ L f hI.1 mq_1 tq_1) my_X3_isNone wd473 mq_1 tq_1 td_3 rfl rfl rfl (Nat.le_of_ble_eq_true rfl) ⟨Nat.le_of_ble_eq_true rfl, Nat.le_of_ble_eq_true rfl⟩ ⟨rfl, rfl⟩ dX9_drawn_4 (fun r2 L1 f1 H locs hp hH => ?_)
  obtain ⟨rfl, s3, h4⟩ := hp
  have hI := hI.call s3 (by decide)
  refine lv_if_ne (tgt := 26) hx hb dX9_drawn_7 (by decide) (fun c5 => ?_) (fun c5 => ?_)
  · skip
    have r6 : rg r2 1 1 := rf_nel (n_eq c5) h4 rl_0 (by decide)
    refine lv_bipush (v := (-2 : Int32)) hx hb dX9_drawn_26 (by decide) ?_
    exact g_iret C hr hH (Nat.zero_le _) (Nat.zero_le _) dX9_drawn_28 ⟨rfl, hI, (rg_w rl_m2 (by decide))⟩
  · skip
    have r7 : rg r2 0 0 := rf_eql (c_eq c5) h4 rl_0 (by decide)
    refine lv_iload_n hx hb dX9_drawn_10 rfl (lv_at hl 1 rfl) ?_
    refine t_Si C hO hl.1 hA hH (As := [.int p1]) (rest := []) (t_X9_isSeed l E J τ L f1 hI.1 p1) my_X9_isSeed wd659 rfl rfl (Nat.le_of_ble_eq_true rfl) ⟨Nat.le_of_ble_eq_true rfl, Nat.le_of_ble_eq_true rfl⟩ ⟨rfl, rfl⟩ dX9_drawn_11 (fun r9 L1 f8 H locs hp hH => ?_)
    obtain ⟨rfl, s10, h11⟩ := hp
    have hI := hI.call s10 (by decide)
    refine lv_if_eq (tgt := 26) hx hb dX9_drawn_14 (by decide) (fun c12 => ?_) (fun c12 => ?_)
    · skip
      have r13 : rg r9 0 0 := rf_eql (c_eq c12) h11.1 rl_0 (by decide)
      refine lv_bipush (v := (-2 : Int32)) hx hb dX9_drawn_26 (by decide) ?_
      exact g_iret C hr hH (Nat.zero_le _) (Nat.zero_le _) dX9_drawn_28 ⟨rfl, hI, (rg_w rl_m2 (by decide))⟩
    · skip
      have r14 : rg r9 1 1 := rf_nel (n_eq c12) h11.1 rl_0 (by decide)
      have r15 : rg p1 0 2000000000 := h11.2 c12
      refine lv_iload_n hx hb dX9_drawn_17 rfl (lv_at hl 2 rfl) ?_
      refine lv_if_lt (tgt := 26) hx hb dX9_drawn_18 (by decide) (fun c16 => ?_) (fun c16 => ?_)
      · skip
        have r17 : rg p2 (-2147483648) (-1) := rf_ltl (c_lt c16) (rg_all _) rl_0 (by decide)
        refine lv_bipush (v := (-2 : Int32)) hx hb dX9_drawn_26 (by decide) ?_
        exact g_iret C hr hH (Nat.zero_le _) (Nat.zero_le _) dX9_drawn_28 ⟨rfl, hI, (rg_w rl_m2 (by decide))⟩
      · skip
        have r18 : rg p2 0 2147483647 := rf_ler (n_lt c16) rl_0 (rg_all _) (by decide)
        refine lv_iload_n hx hb dX9_drawn_21 rfl (lv_at hl 2 rfl) ?_
        refine lv_iconst (v := (1 : Int32)) hx hb dX9_drawn_22 (by decide) ?_
        refine lv_icmp_le (tgt := 29) hx hb dX9_drawn_23 (by decide) (fun c19 => ?_) (fun c19 => ?_)
        · skip
          have r20 : rg p2 0 1 := rf_lel (c_le c19) r18 rl_1 (by decide)
          refine lv_aload_n hx hb dX9_drawn_29 rfl (lv_at hl 0 rfl) ?_
          refine t_getX C hH hI.1 mq tq td_0 iX9 rfl 9 (by decide) wd640 rfl (hI.rf kq_9) dX9_drawn_30 ?_
          refine lv_iload_n hx hb dX9_drawn_33 rfl (lv_at hl 1 rfl) ?_
          refine t_Vi C hO hl.1 hA hH hI.1 (As := [.int p1]) (rest := []) (t_X1_drawFrom l E J τ L f8 hI.1 mq_9 tq_9 p1) my_X1_drawFrom wd663 mq_9 tq_9 td_33 rfl rfl rfl (Nat.le_of_ble_eq_true rfl) ⟨Nat.le_of_ble_eq_true rfl, Nat.le_of_ble_eq_true rfl⟩ ⟨rfl, rfl⟩ dX9_drawn_34 (fun r22 L1 f21 H locs hp hH => ?_)
          obtain ⟨rfl, s23, h24⟩ := hp
          have hI := hI.call s23 (by decide)
          refine lv_istore_n (lv' := [(3, .int r22), (0, .ref q), (1, .int p1), (2, .int p2)]) hx hb dX9_drawn_37 rfl hl (by decide) rfl (fun ls hl => ?_)
          refine lv_iload_n hx hb dX9_drawn_38 rfl (lv_at hl 3 rfl) ?_
          refine lv_if_ne (tgt := 46) hx hb dX9_drawn_39 (by decide) (fun c25 => ?_) (fun c25 => ?_)
          · skip
            have r26 : rg p2 1 1 := rf_nel (n_eq c25) r20 rl_0 (by decide)
            refine lv_aload_n hx hb dX9_drawn_46 rfl (lv_at hl 1 rfl) ?_
            refine t_getX C hH hI.1 mq tq td_0 iX9 rfl 9 (by decide) wd640 rfl (hI.rf kq_9) dX9_drawn_47 ?_
            refine lv_iload_n hx hb dX9_drawn_50 rfl (lv_at hl 0 rfl) ?_
            refine t_Vi C hO hl.1 hA hH hI.1 (As := [.int r22]) (rest := []) (t_X1_servedIn l E J τ L f21 hI.1 mq_9 tq_9 r22) my_X1_servedIn wd664 mq_9 tq_9 td_33 rfl rfl rfl (Nat.le_of_ble_eq_true rfl) ⟨Nat.le_of_ble_eq_true rfl, Nat.le_of_ble_eq_true rfl⟩ ⟨rfl, rfl⟩ dX9_drawn_51 (fun r28 L1 f27 H locs hp hH => ?_)
            obtain ⟨rfl, s29, h30⟩ := hp
            have hI := hI.call s29 (by decide)
            exact g_iret C hr hH (Nat.zero_le _) (Nat.zero_le _) dX9_drawn_54 ⟨rfl, hI, (rg_w h30 (by decide))⟩
          · skip
            have r31 : rg p2 0 0 := rf_eql (c_eq c25) r20 rl_0 (by decide)
            refine lv_iload_n hx hb dX9_drawn_42 rfl (lv_at hl 0 rfl) ?_
            refine lv_goto (tgt := 54) hx hb dX9_drawn_43 (by decide) ?_
            exact g_iret C hr hH (Nat.zero_le _) (Nat.zero_le _) dX9_drawn_54 ⟨rfl, hI, h24⟩
        · skip
          have r32 : rg p2 2 2147483647 := rf_ltr (n_le c19) rl_1 r18 (by decide)
          refine lv_bipush (v := (-2 : Int32)) hx hb dX9_drawn_26 (by decide) ?_
          exact g_iret C hr hH (Nat.zero_le _) (Nat.zero_le _) dX9_drawn_28 ⟨rfl, hI, (rg_w rl_m2 (by decide))⟩
set_option maxHeartbeats 4000000 in
set_option maxRecDepth 100000 in
theorem t_X9_luck (l : Launch) (E : gE) (J : Nat → Nat) (τ : Nat → Nat) (L : List Nat) (f : gF) (hI : tI E L τ f) {q : Nat} (mq : q ∈ L) (tq : τ q = 0) (p1 : Int32) (p2 : Int32) (p3 : Int32) : tMi l E J yX9_luck cX9_luck 6 .int (gRm (5) 0 0) [.ref q, .int p1, .int p2, .int p3] L f (tPi E L τ [19, 20, 21, 23] f (fun r f1 => rg r (-2147483648) 2147483647)) := by
  refine tMi.intro (by decide) (Nat.le_of_ble_eq_true rfl) ?_
  intro p e s m below meth c A ls C hr hA hO hH hl
  have C : gC E cX9_luck 6 RX9 p s m _ meth c := C
  have hl : lv_has ls 6 [(0, .ref q), (1, .int p1), (2, .int p2), (3, .int p3)] := hl
  have hx := C.1
  have hb := C.2.1
  have hI := hI.S [19, 20, 21, 23]
  obtain ⟨q_1, mq_1, tq_1, kq_1⟩ := t_fldr hI.1 mq tq td_0 (k := 1) rfl
  obtain ⟨q_9, mq_9, tq_9, kq_9⟩ := t_fldr hI.1 mq tq td_0 (k := 9) rfl
  have cut38 : ∀ (n : Nat) (fh38 : gF) (H : Heap) (locs : List Loc) (ls : Array Slot) (v38_4 : Int32) (v38_5 : Int32), 20 - v38_5.toInt < (n : Int) → tS E L τ [19, 20, 21, 23] f fh38 → gH E A L fh38 s.heap H locs → rg v38_5 0 20 → rg p1 0 2000000000 → rg p2 1 20 → rg p3 0 5 → lv_has ls 6 [(0, .ref q), (1, .int p1), (2, .int p2), (3, .int p3), (4, .int v38_4), (5, .int v38_5)] → W p l e (gRm (5) 0 0) s m [.ref q, .int p1, .int p2, .int p3].toArray below meth c H locs 0 0 (MQ below (gQi E A (tPi E L τ [19, 20, 21, 23] f (fun r f1 => rg r (-2147483648) 2147483647))) [.ref q, .int p1, .int p2, .int p3].toArray s (gRm (5) 0 0).cells (gRm (5) 0 0).slots A) (F0 m 38 ls []) := by
    intro n
    induction n with
    | zero =>
      intro fh38 H locs ls v38_4 v38_5 hfu38 hI hH r_v38_5 r38_p1 r38_p2 r38_p3 hl
      exact (fu_0 hfu38 r_v38_5).elim
    | succ n ih38 =>
      intro fh38 H locs ls v38_4 v38_5 hfu38 hI hH r_v38_5 r38_p1 r38_p2 r38_p3 hl
      refine lv_iload hx hb dX9_luck_38 (lv_at hl 5 rfl) ?_
      refine lv_iload_n hx hb dX9_luck_40 rfl (lv_at hl 2 rfl) ?_
      refine lv_icmp_ge (tgt := 78) hx hb dX9_luck_41 (by decide) (fun c1 => ?_) (fun c1 => ?_)
      · skip
        have r2 : rg v38_5 1 20 := rf_ler (c_le c1) r38_p2 r_v38_5 (by decide)
        refine lv_iload hx hb dX9_luck_78 (lv_at hl 4 rfl) ?_
        exact g_iret C hr hH (Nat.zero_le _) (Nat.zero_le _) dX9_luck_80 ⟨rfl, hI, (rg_all _)⟩
      · skip
        have r3 : rg v38_5 0 19 := rf_ltl (n_le c1) r_v38_5 r38_p2 (by decide)
        refine lv_aload_n hx hb dX9_luck_44 rfl (lv_at hl 0 rfl) ?_
        refine t_getX C hH hI.1 mq tq td_0 iX9 rfl 9 (by decide) wd640 rfl (hI.rf kq_9) dX9_luck_45 ?_
        refine lv_aload_n hx hb dX9_luck_48 rfl (lv_at hl 0 rfl) ?_
        refine t_getX C hH hI.1 mq tq td_0 iX9 rfl 9 (by decide) wd640 rfl (hI.rf kq_9) dX9_luck_49 ?_
        refine lv_iload_n hx hb dX9_luck_52 rfl (lv_at hl 1 rfl) ?_
        refine lv_iload hx hb dX9_luck_53 (lv_at hl 5 rfl) ?_
        refine lv_iadd hx hb dX9_luck_55 ?_
        refine lv_topi (fun z4 ez4 => ?_)
        have r5 : rg z4 0 2000000019 := rg_add ez4 r38_p1 r3 (by decide)
        refine t_Vi C hO hl.1 hA hH hI.1 (As := [.int z4]) (rest := [.ref q_9]) (t_X1_drawFrom l E J τ L fh38 hI.1 mq_9 tq_9 z4) my_X1_drawFrom wd663 mq_9 tq_9 td_33 rfl rfl rfl (Nat.le_of_ble_eq_true rfl) ⟨Nat.le_of_ble_eq_true rfl, Nat.le_of_ble_eq_true rfl⟩ ⟨rfl, rfl⟩ dX9_luck_56 (fun r7 L1 f6 H locs hp hH => ?_)
        obtain ⟨rfl, s8, h9⟩ := hp
        have hI := hI.call s8 (by decide)
        refine t_Vi C hO hl.1 hA hH hI.1 (As := [.int r7]) (rest := []) (t_X1_servedIn l E J τ L f6 hI.1 mq_9 tq_9 r7) my_X1_servedIn wd664 mq_9 tq_9 td_33 rfl rfl rfl (Nat.le_of_ble_eq_true rfl) ⟨Nat.le_of_ble_eq_true rfl, Nat.le_of_ble_eq_true rfl⟩ ⟨rfl, rfl⟩ dX9_luck_59 (fun r11 L1 f10 H locs hp hH => ?_)
        obtain ⟨rfl, s12, h13⟩ := hp
        have hI := hI.call s12 (by decide)
        refine lv_iload_n hx hb dX9_luck_62 rfl (lv_at hl 3 rfl) ?_
        refine t_Si C hO hl.1 hA hH (As := [.int r11, .int p3]) (rest := []) (t_hasBit62 l E J τ L f10 hI.1 r11 h13 p3 r38_p3) my_X9_hasBit wd457 rfl rfl (Nat.le_of_ble_eq_true rfl) ⟨Nat.le_of_ble_eq_true rfl, Nat.le_of_ble_eq_true rfl⟩ ⟨rfl, rfl⟩ dX9_luck_63 (fun r15 L1 f14 H locs hp hH => ?_)
        obtain ⟨rfl, s16, h17⟩ := hp
        have hI := hI.call s16 (by decide)
        refine lv_if_eq (tgt := 72) hx hb dX9_luck_66 (by decide) (fun c18 => ?_) (fun c18 => ?_)
        · skip
          have r19 : rg r15 0 0 := rf_eql (c_eq c18) h17.1 rl_0 (by decide)
          have r20 : rg r11 0 62 := h17.2 c18
          obtain ⟨z21, ez21⟩ : ∃ y : Int32, y = v38_5 + (1 : Int32) := ⟨_, rfl⟩
          have r22 : rg z21 1 20 := rg_add ez21 r3 rl_1 (by decide)
          have a23 : z21.toInt = v38_5.toInt + 1 := ai_add ez21 r3 tl_1 (by decide)
          refine lv_iinc (v := z21) (lv' := [(5, .int z21), (0, .ref q), (1, .int p1), (2, .int p2), (3, .int p3), (4, .int v38_4)]) hx hb dX9_luck_72 hl (k := 5) rfl (by rw [ez21]; rfl) (by decide) rfl (fun ls hl => ?_)
          refine lv_goto (tgt := 38) hx hb dX9_luck_75 (by decide) ?_
          exact ih38 _ _ _ _ v38_4 z21 (fu_s hfu38 a23 (by decide)) hI hH (rg_w r22 (by decide)) r38_p1 r38_p2 r38_p3 (lv_sub hl [1, 2, 3, 4, 5, 0] rfl)
        · skip
          have r24 : rg r15 1 1 := rf_nel (n_eq c18) h17.1 rl_0 (by decide)
          obtain ⟨z25, ez25⟩ : ∃ y : Int32, y = v38_4 + (1 : Int32) := ⟨_, rfl⟩
          refine lv_iinc (v := z25) (lv' := [(4, .int z25), (0, .ref q), (1, .int p1), (2, .int p2), (3, .int p3), (5, .int v38_5)]) hx hb dX9_luck_69 hl (k := 4) rfl (by rw [ez25]; rfl) (by decide) rfl (fun ls hl => ?_)
          obtain ⟨z26, ez26⟩ : ∃ y : Int32, y = v38_5 + (1 : Int32) := ⟨_, rfl⟩
          have r27 : rg z26 1 20 := rg_add ez26 r3 rl_1 (by decide)
          have a28 : z26.toInt = v38_5.toInt + 1 := ai_add ez26 r3 tl_1 (by decide)
          refine lv_iinc (v := z26) (lv' := [(5, .int z26), (4, .int z25), (0, .ref q), (1, .int p1), (2, .int p2), (3, .int p3)]) hx hb dX9_luck_72 hl (k := 5) rfl (by rw [ez26]; rfl) (by decide) rfl (fun ls hl => ?_)
          refine lv_goto (tgt := 38) hx hb dX9_luck_75 (by decide) ?_
          exact ih38 _ _ _ _ z25 z26 (fu_s hfu38 a28 (by decide)) hI hH (rg_w r27 (by decide)) r38_p1 r38_p2 r38_p3 (lv_sub hl [2, 3, 4, 5, 1, 0] rfl)
  refine lv_aload_n hx hb dX9_luck_0 rfl (lv_at hl 0 rfl) ?_
  refine t_getX C hH hI.1 mq tq td_0 iX9 rfl 1 (by decide) wd414 rfl (hI.rf kq_1) dX9_luck_1 ?_
  refine lv_iload_n hx hb dX9_luck_4 rfl (lv_at hl 3 rfl) ?_
  refine t_Vi C hO hl.1 hA hH hI.1 (As := [.int p3]) (rest := []) (t_X3_hasMember l E J τ L f hI.1 mq_1 tq_1 p3) my_X3_hasMember wd418 mq_1 tq_1 td_3 rfl rfl rfl (Nat.le_of_ble_eq_true rfl) ⟨Nat.le_of_ble_eq_true rfl, Nat.le_of_ble_eq_true rfl⟩ ⟨rfl, rfl⟩ dX9_luck_5 (fun r30 L1 f29 H locs hp hH => ?_)
  obtain ⟨rfl, s31, h32⟩ := hp
  have hI := hI.call s31 (by decide)
  refine lv_if_eq (tgt := 29) hx hb dX9_luck_8 (by decide) (fun c33 => ?_) (fun c33 => ?_)
  · skip
    have r34 : rg r30 0 0 := rf_eql (c_eq c33) h32.1 rl_0 (by decide)
    refine lv_bipush (v := (-2 : Int32)) hx hb dX9_luck_29 (by decide) ?_
    exact g_iret C hr hH (Nat.zero_le _) (Nat.zero_le _) dX9_luck_31 ⟨rfl, hI, (rg_w rl_m2 (by decide))⟩
  · skip
    have r35 : rg r30 1 1 := rf_nel (n_eq c33) h32.1 rl_0 (by decide)
    have r36 : rg p3 0 5 := h32.2 c33
    refine lv_iload_n hx hb dX9_luck_11 rfl (lv_at hl 1 rfl) ?_
    refine t_Si C hO hl.1 hA hH (As := [.int p1]) (rest := []) (t_X9_isSeed l E J τ L f29 hI.1 p1) my_X9_isSeed wd659 rfl rfl (Nat.le_of_ble_eq_true rfl) ⟨Nat.le_of_ble_eq_true rfl, Nat.le_of_ble_eq_true rfl⟩ ⟨rfl, rfl⟩ dX9_luck_12 (fun r38 L1 f37 H locs hp hH => ?_)
    obtain ⟨rfl, s39, h40⟩ := hp
    have hI := hI.call s39 (by decide)
    refine lv_if_eq (tgt := 29) hx hb dX9_luck_15 (by decide) (fun c41 => ?_) (fun c41 => ?_)
    · skip
      have r42 : rg r38 0 0 := rf_eql (c_eq c41) h40.1 rl_0 (by decide)
      refine lv_bipush (v := (-2 : Int32)) hx hb dX9_luck_29 (by decide) ?_
      exact g_iret C hr hH (Nat.zero_le _) (Nat.zero_le _) dX9_luck_31 ⟨rfl, hI, (rg_w rl_m2 (by decide))⟩
    · skip
      have r43 : rg r38 1 1 := rf_nel (n_eq c41) h40.1 rl_0 (by decide)
      have r44 : rg p1 0 2000000000 := h40.2 c41
      refine lv_iload_n hx hb dX9_luck_18 rfl (lv_at hl 2 rfl) ?_
      refine lv_iconst (v := (1 : Int32)) hx hb dX9_luck_19 (by decide) ?_
      refine lv_icmp_lt (tgt := 29) hx hb dX9_luck_20 (by decide) (fun c45 => ?_) (fun c45 => ?_)
      · skip
        have r46 : rg p2 (-2147483648) 0 := rf_ltl (c_lt c45) (rg_all _) rl_1 (by decide)
        refine lv_bipush (v := (-2 : Int32)) hx hb dX9_luck_29 (by decide) ?_
        exact g_iret C hr hH (Nat.zero_le _) (Nat.zero_le _) dX9_luck_31 ⟨rfl, hI, (rg_w rl_m2 (by decide))⟩
      · skip
        have r47 : rg p2 1 2147483647 := rf_ler (n_lt c45) rl_1 (rg_all _) (by decide)
        refine lv_iload_n hx hb dX9_luck_23 rfl (lv_at hl 2 rfl) ?_
        refine lv_bipush (v := (20 : Int32)) hx hb dX9_luck_24 (by decide) ?_
        refine lv_icmp_le (tgt := 32) hx hb dX9_luck_26 (by decide) (fun c48 => ?_) (fun c48 => ?_)
        · skip
          have r49 : rg p2 1 20 := rf_lel (c_le c48) r47 rl_20 (by decide)
          refine lv_iconst (v := (0 : Int32)) hx hb dX9_luck_32 (by decide) ?_
          refine lv_istore (lv' := [(4, .int (0 : Int32)), (0, .ref q), (1, .int p1), (2, .int p2), (3, .int p3)]) hx hb dX9_luck_33 hl (by decide) rfl (fun ls hl => ?_)
          refine lv_iconst (v := (0 : Int32)) hx hb dX9_luck_35 (by decide) ?_
          refine lv_istore (lv' := [(5, .int (0 : Int32)), (4, .int (0 : Int32)), (0, .ref q), (1, .int p1), (2, .int p2), (3, .int p3)]) hx hb dX9_luck_36 hl (by decide) rfl (fun ls hl => ?_)
          exact cut38 21 _ _ _ _ (0 : Int32) (0 : Int32) (fu_i 21 rl_0 (by decide)) hI hH (rg_w rl_0 (by decide)) r44 r49 r36 (lv_sub hl [2, 3, 4, 5, 1, 0] rfl)
        · skip
          have r50 : rg p2 21 2147483647 := rf_ltr (n_le c48) rl_20 r47 (by decide)
          refine lv_bipush (v := (-2 : Int32)) hx hb dX9_luck_29 (by decide) ?_
          exact g_iret C hr hH (Nat.zero_le _) (Nat.zero_le _) dX9_luck_31 ⟨rfl, hI, (rg_w rl_m2 (by decide))⟩
set_option maxHeartbeats 4000000 in
set_option maxRecDepth 100000 in
theorem t_X9_rate (l : Launch) (E : gE) (J : Nat → Nat) (τ : Nat → Nat) (L : List Nat) (f : gF) (hI : tI E L τ f) {q : Nat} (mq : q ∈ L) (tq : τ q = 0) (p1 : Int32) (p2 : Int32) : tMi l E J yX9_rate cX9_rate 4 .int (gRm (2) 0 0) [.ref q, .int p1, .int p2] L f (tPi E L τ [9] f (fun r f1 => rg r (-2147483648) 2147483647)) := by
  refine tMi.intro (by decide) (Nat.le_of_ble_eq_true rfl) ?_
  intro p e s m below meth c A ls C hr hA hO hH hl
  have C : gC E cX9_rate 4 RX9 p s m _ meth c := C
  have hl : lv_has ls 4 [(0, .ref q), (1, .int p1), (2, .int p2)] := hl
  have hx := C.1
  have hb := C.2.1
  have hI := hI.S [9]
  obtain ⟨q_1, mq_1, tq_1, kq_1⟩ := t_fldr hI.1 mq tq td_0 (k := 1) rfl
  obtain ⟨q_1_15, mq_1_15, tq_1_15, kq_1_15⟩ := t_fldr hI.1 mq_1 tq_1 td_3 (k := 15) rfl
  refine lv_aload_n hx hb dX9_rate_0 rfl (lv_at hl 0 rfl) ?_
  refine t_getX C hH hI.1 mq tq td_0 iX9 rfl 1 (by decide) wd414 rfl (hI.rf kq_1) dX9_rate_1 ?_
  refine lv_iload_n hx hb dX9_rate_4 rfl (lv_at hl 1 rfl) ?_
  refine t_Vi C hO hl.1 hA hH hI.1 (As := [.int p1]) (rest := []) (t_X3_hasMember l E J τ L f hI.1 mq_1 tq_1 p1) my_X3_hasMember wd418 mq_1 tq_1 td_3 rfl rfl rfl (Nat.le_of_ble_eq_true rfl) ⟨Nat.le_of_ble_eq_true rfl, Nat.le_of_ble_eq_true rfl⟩ ⟨rfl, rfl⟩ dX9_rate_5 (fun r2 L1 f1 H locs hp hH => ?_)
  obtain ⟨rfl, s3, h4⟩ := hp
  have hI := hI.call s3 (by decide)
  refine lv_if_eq (tgt := 21) hx hb dX9_rate_8 (by decide) (fun c5 => ?_) (fun c5 => ?_)
  · skip
    have r6 : rg r2 0 0 := rf_eql (c_eq c5) h4.1 rl_0 (by decide)
    refine lv_bipush (v := (-2 : Int32)) hx hb dX9_rate_21 (by decide) ?_
    exact g_iret C hr hH (Nat.zero_le _) (Nat.zero_le _) dX9_rate_23 ⟨rfl, hI, (rg_w rl_m2 (by decide))⟩
  · skip
    have r7 : rg r2 1 1 := rf_nel (n_eq c5) h4.1 rl_0 (by decide)
    have r8 : rg p1 0 5 := h4.2 c5
    refine lv_iload_n hx hb dX9_rate_11 rfl (lv_at hl 2 rfl) ?_
    refine lv_if_lt (tgt := 21) hx hb dX9_rate_12 (by decide) (fun c9 => ?_) (fun c9 => ?_)
    · skip
      have r10 : rg p2 (-2147483648) (-1) := rf_ltl (c_lt c9) (rg_all _) rl_0 (by decide)
      refine lv_bipush (v := (-2 : Int32)) hx hb dX9_rate_21 (by decide) ?_
      exact g_iret C hr hH (Nat.zero_le _) (Nat.zero_le _) dX9_rate_23 ⟨rfl, hI, (rg_w rl_m2 (by decide))⟩
    · skip
      have r11 : rg p2 0 2147483647 := rf_ler (n_lt c9) rl_0 (rg_all _) (by decide)
      refine lv_iload_n hx hb dX9_rate_15 rfl (lv_at hl 2 rfl) ?_
      refine lv_bipush (v := (99 : Int32)) hx hb dX9_rate_16 (by decide) ?_
      refine lv_icmp_le (tgt := 24) hx hb dX9_rate_18 (by decide) (fun c12 => ?_) (fun c12 => ?_)
      · skip
        have r13 : rg p2 0 99 := rf_lel (c_le c12) r11 rl_99 (by decide)
        refine lv_aload_n hx hb dX9_rate_24 rfl (lv_at hl 0 rfl) ?_
        refine t_getX C hH hI.1 mq tq td_0 iX9 rfl 1 (by decide) wd414 rfl (hI.rf kq_1) dX9_rate_25 ?_
        refine t_geti C hH hI.1 mq_1 tq_1 td_3 iX3 rfl 9 (by decide) wd665 rfl rfl dX9_rate_28 (fun z14 rz14 => ?_)
        refine lv_if_le (tgt := 37) hx hb dX9_rate_31 (by decide) (fun c15 => ?_) (fun c15 => ?_)
        · skip
          have r16 : rg z14 0 0 := rf_lel (c_le c15) rz14 rl_0 (by decide)
          refine lv_aload_n hx hb dX9_rate_37 rfl (lv_at hl 0 rfl) ?_
          refine t_getX C hH hI.1 mq tq td_0 iX9 rfl 1 (by decide) wd414 rfl (hI.rf kq_1) dX9_rate_38 ?_
          refine t_getX C hH hI.1 mq_1 tq_1 td_3 iX3 rfl 15 (by decide) wd465 rfl (hI.rf kq_1_15) dX9_rate_41 ?_
          refine lv_iload_n hx hb dX9_rate_44 rfl (lv_at hl 1 rfl) ?_
          refine t_ald C hH hI.1 mq_1_15 tq_1_15 td_9 (rg_in r8 (by decide)) dX9_rate_45 (fun z17v az17 _ => ?_)
          refine lv_topi (fun z17 ez17 => ?_)
          refine lv_istore_n (lv' := [(3, .int z17), (0, .ref q), (1, .int p1), (2, .int p2)]) hx hb dX9_rate_46 rfl hl (by decide) rfl (fun ls hl => ?_)
          refine lv_aload_n hx hb dX9_rate_47 rfl (lv_at hl 1 rfl) ?_
          refine t_getX C hH hI.1 mq tq td_0 iX9 rfl 1 (by decide) wd414 rfl (hI.rf kq_1) dX9_rate_48 ?_
          refine t_getX C hH hI.1 mq_1 tq_1 td_3 iX3 rfl 15 (by decide) wd465 rfl (hI.rf kq_1_15) dX9_rate_51 ?_
          refine lv_iload_n hx hb dX9_rate_54 rfl (lv_at hl 2 rfl) ?_
          refine lv_iload_n hx hb dX9_rate_55 rfl (lv_at hl 3 rfl) ?_
          refine t_ast C hH hI mq_1_15 tq_1_15 (by decide) td_9 (rg_in r8 (by decide)) (fun _ _ _ => trivial) dX9_rate_56 (fun f18 H locs hH hI bf18 uf18 => ?_)
          refine lv_iload_n hx hb dX9_rate_57 rfl (lv_at hl 0 rfl) ?_
          exact g_iret C hr hH (Nat.zero_le _) (Nat.zero_le _) dX9_rate_58 ⟨rfl, hI, (rg_all _)⟩
        · skip
          have r19 : rg z14 1 40 := rf_ltr (n_le c15) rl_0 rz14 (by decide)
          refine lv_bipush (v := (-5 : Int32)) hx hb dX9_rate_34 (by decide) ?_
          exact g_iret C hr hH (Nat.zero_le _) (Nat.zero_le _) dX9_rate_36 ⟨rfl, hI, (rg_w rl_m5 (by decide))⟩
      · skip
        have r20 : rg p2 100 2147483647 := rf_ltr (n_le c12) rl_99 r11 (by decide)
        refine lv_bipush (v := (-2 : Int32)) hx hb dX9_rate_21 (by decide) ?_
        exact g_iret C hr hH (Nat.zero_le _) (Nat.zero_le _) dX9_rate_23 ⟨rfl, hI, (rg_w rl_m2 (by decide))⟩
set_option maxHeartbeats 4000000 in
set_option maxRecDepth 100000 in
theorem t_X9_feed (l : Launch) (E : gE) (J : Nat → Nat) (τ : Nat → Nat) (L : List Nat) (f : gF) (hI : tI E L τ f) {q : Nat} (mq : q ∈ L) (tq : τ q = 0) (p1 : Int32) (p2 : Int32) (p3 : Int32) (p4 : Int32) (p5 : Int32) : tMi l E J yX9_feed cX9_feed 6 .int (gRm (2) 0 0) [.ref q, .int p1, .int p2, .int p3, .int p4, .int p5] L f (tPi E L τ [1, 2] f (fun r f1 => rg r (-2147483648) 2147483647)) := by
  refine tMi.intro (by decide) (Nat.le_of_ble_eq_true rfl) ?_
  intro p e s m below meth c A ls C hr hA hO hH hl
  have C : gC E cX9_feed 6 RX9 p s m _ meth c := C
  have hl : lv_has ls 6 [(0, .ref q), (1, .int p1), (2, .int p2), (3, .int p3), (4, .int p4), (5, .int p5)] := hl
  have hx := C.1
  have hb := C.2.1
  have hI := hI.S [1, 2]
  obtain ⟨q_0, mq_0, tq_0, kq_0⟩ := t_fldr hI.1 mq tq td_0 (k := 0) rfl
  refine lv_aload_n hx hb dX9_feed_0 rfl (lv_at hl 0 rfl) ?_
  refine t_getX C hH hI.1 mq tq td_0 iX9 rfl 0 (by decide) wd666 rfl (hI.rf kq_0) dX9_feed_1 ?_
  refine t_geti C hH hI.1 mq_0 tq_0 td_1 iX8 rfl 1 (by decide) wd667 rfl rfl dX9_feed_4 (fun z1 rz1 => ?_)
  refine lv_bipush (v := (20 : Int32)) hx hb dX9_feed_7 (by decide) ?_
  refine lv_iadd hx hb dX9_feed_9 ?_
  refine lv_topi (fun z2 ez2 => ?_)
  have r3 : rg z2 20 820 := rg_add ez2 rz1 rl_20 (by decide)
  have a4 : z2.toInt = z1.toInt + 20 := ai_add ez2 rz1 tl_20 (by decide)
  refine lv_sipush (v := (800 : Int32)) hx hb dX9_feed_10 (by decide) ?_
  refine lv_icmp_le (tgt := 18) hx hb dX9_feed_13 (by decide) (fun c5 => ?_) (fun c5 => ?_)
  · skip
    have r6 : rg z2 20 800 := rf_lel (c_le c5) r3 rl_800 (by decide)
    have r7 : rg z1 0 780 := ai_bk a4 r6 rz1 (by decide)
    refine lv_aload_n hx hb dX9_feed_18 rfl (lv_at hl 0 rfl) ?_
    refine t_getX C hH hI.1 mq tq td_0 iX9 rfl 0 (by decide) wd666 rfl (hI.rf kq_0) dX9_feed_19 ?_
    refine lv_iload_n hx hb dX9_feed_22 rfl (lv_at hl 1 rfl) ?_
    refine t_Vv C hO hl.1 hA hH hI.1 (As := [.int p1]) (rest := []) (t_X8_append l E J τ L f hI.1 mq_0 tq_0 p1) my_X8_append wd672 mq_0 tq_0 td_1 rfl rfl rfl (Nat.le_of_ble_eq_true rfl) ⟨Nat.le_of_ble_eq_true rfl, Nat.le_of_ble_eq_true rfl⟩ ⟨rfl, rfl⟩ dX9_feed_23 (fun L1 f8 H locs hp hH => ?_)
    obtain ⟨rfl, s10, h11⟩ := hp
    have hI := hI.call s10 (by decide)
    refine lv_aload_n hx hb dX9_feed_26 rfl (lv_at hl 0 rfl) ?_
    refine t_getX C hH hI.1 mq tq td_0 iX9 rfl 0 (by decide) wd666 rfl (hI.rf kq_0) dX9_feed_27 ?_
    refine lv_iload_n hx hb dX9_feed_30 rfl (lv_at hl 2 rfl) ?_
    refine t_Vv C hO hl.1 hA hH hI.1 (As := [.int p2]) (rest := []) (t_X8_append l E J τ L f8 hI.1 mq_0 tq_0 p2) my_X8_append wd672 mq_0 tq_0 td_1 rfl rfl rfl (Nat.le_of_ble_eq_true rfl) ⟨Nat.le_of_ble_eq_true rfl, Nat.le_of_ble_eq_true rfl⟩ ⟨rfl, rfl⟩ dX9_feed_31 (fun L1 f12 H locs hp hH => ?_)
    obtain ⟨rfl, s14, h15⟩ := hp
    have hI := hI.call s14 (by decide)
    refine lv_aload_n hx hb dX9_feed_34 rfl (lv_at hl 0 rfl) ?_
    refine t_getX C hH hI.1 mq tq td_0 iX9 rfl 0 (by decide) wd666 rfl (hI.rf kq_0) dX9_feed_35 ?_
    refine lv_iload_n hx hb dX9_feed_38 rfl (lv_at hl 3 rfl) ?_
    refine t_Vv C hO hl.1 hA hH hI.1 (As := [.int p3]) (rest := []) (t_X8_append l E J τ L f12 hI.1 mq_0 tq_0 p3) my_X8_append wd672 mq_0 tq_0 td_1 rfl rfl rfl (Nat.le_of_ble_eq_true rfl) ⟨Nat.le_of_ble_eq_true rfl, Nat.le_of_ble_eq_true rfl⟩ ⟨rfl, rfl⟩ dX9_feed_39 (fun L1 f16 H locs hp hH => ?_)
    obtain ⟨rfl, s18, h19⟩ := hp
    have hI := hI.call s18 (by decide)
    refine lv_aload_n hx hb dX9_feed_42 rfl (lv_at hl 0 rfl) ?_
    refine t_getX C hH hI.1 mq tq td_0 iX9 rfl 0 (by decide) wd666 rfl (hI.rf kq_0) dX9_feed_43 ?_
    refine lv_iload hx hb dX9_feed_46 (lv_at hl 4 rfl) ?_
    refine t_Vv C hO hl.1 hA hH hI.1 (As := [.int p4]) (rest := []) (t_X8_append l E J τ L f16 hI.1 mq_0 tq_0 p4) my_X8_append wd672 mq_0 tq_0 td_1 rfl rfl rfl (Nat.le_of_ble_eq_true rfl) ⟨Nat.le_of_ble_eq_true rfl, Nat.le_of_ble_eq_true rfl⟩ ⟨rfl, rfl⟩ dX9_feed_48 (fun L1 f20 H locs hp hH => ?_)
    obtain ⟨rfl, s22, h23⟩ := hp
    have hI := hI.call s22 (by decide)
    refine lv_aload_n hx hb dX9_feed_51 rfl (lv_at hl 0 rfl) ?_
    refine t_getX C hH hI.1 mq tq td_0 iX9 rfl 0 (by decide) wd666 rfl (hI.rf kq_0) dX9_feed_52 ?_
    refine lv_iload hx hb dX9_feed_55 (lv_at hl 5 rfl) ?_
    refine t_Vv C hO hl.1 hA hH hI.1 (As := [.int p5]) (rest := []) (t_X8_append l E J τ L f20 hI.1 mq_0 tq_0 p5) my_X8_append wd672 mq_0 tq_0 td_1 rfl rfl rfl (Nat.le_of_ble_eq_true rfl) ⟨Nat.le_of_ble_eq_true rfl, Nat.le_of_ble_eq_true rfl⟩ ⟨rfl, rfl⟩ dX9_feed_57 (fun L1 f24 H locs hp hH => ?_)
    obtain ⟨rfl, s26, h27⟩ := hp
    have hI := hI.call s26 (by decide)
    refine lv_aload_n hx hb dX9_feed_60 rfl (lv_at hl 0 rfl) ?_
    refine t_getX C hH hI.1 mq tq td_0 iX9 rfl 0 (by decide) wd666 rfl (hI.rf kq_0) dX9_feed_61 ?_
    refine t_geti C hH hI.1 mq_0 tq_0 td_1 iX8 rfl 1 (by decide) wd667 rfl rfl dX9_feed_64 (fun z28 rz28 => ?_)
    exact g_iret C hr hH (Nat.zero_le _) (Nat.zero_le _) dX9_feed_67 ⟨rfl, hI, (rg_w rz28 (by decide))⟩
  · skip
    have r29 : rg z2 801 820 := rf_ltr (n_le c5) rl_800 r3 (by decide)
    have r30 : rg z1 781 800 := ai_bk a4 r29 rz1 (by decide)
    refine lv_iconst (v := (-1 : Int32)) hx hb dX9_feed_16 (by decide) ?_
    exact g_iret C hr hH (Nat.zero_le _) (Nat.zero_le _) dX9_feed_17 ⟨rfl, hI, (rg_w rl_m1 (by decide))⟩
set_option maxHeartbeats 4000000 in
set_option maxRecDepth 100000 in
theorem t_X9_end (l : Launch) (E : gE) (J : Nat → Nat) (τ : Nat → Nat) (L : List Nat) (f : gF) (hI : tI E L τ f) {q : Nat} (mq : q ∈ L) (tq : τ q = 0) (p1 : Int32) : tMi l E J yX9_end cX9_end 2 .int (gRm (1) 0 0) [.ref q, .int p1] L f (tPi E L τ [1] f (fun r f1 => rg r (-2147483648) 2147483647)) := by
  refine tMi.intro (by decide) (Nat.le_of_ble_eq_true rfl) ?_
  intro p e s m below meth c A ls C hr hA hO hH hl
  have C : gC E cX9_end 2 RX9 p s m _ meth c := C
  have hl : lv_has ls 2 [(0, .ref q), (1, .int p1)] := hl
  have hx := C.1
  have hb := C.2.1
  have hI := hI.S [1]
  obtain ⟨q_0, mq_0, tq_0, kq_0⟩ := t_fldr hI.1 mq tq td_0 (k := 0) rfl
  refine lv_iload_n hx hb dX9_end_0 rfl (lv_at hl 1 rfl) ?_
  refine lv_if_lt (tgt := 15) hx hb dX9_end_1 (by decide) (fun c1 => ?_) (fun c1 => ?_)
  · skip
    have r2 : rg p1 (-2147483648) (-1) := rf_ltl (c_lt c1) (rg_all _) rl_0 (by decide)
    refine lv_iconst (v := (-1 : Int32)) hx hb dX9_end_15 (by decide) ?_
    exact g_iret C hr hH (Nat.zero_le _) (Nat.zero_le _) dX9_end_16 ⟨rfl, hI, (rg_w rl_m1 (by decide))⟩
  · skip
    have r3 : rg p1 0 2147483647 := rf_ler (n_lt c1) rl_0 (rg_all _) (by decide)
    refine lv_iload_n hx hb dX9_end_4 rfl (lv_at hl 1 rfl) ?_
    refine lv_aload_n hx hb dX9_end_5 rfl (lv_at hl 0 rfl) ?_
    refine t_getX C hH hI.1 mq tq td_0 iX9 rfl 0 (by decide) wd666 rfl (hI.rf kq_0) dX9_end_6 ?_
    refine t_geti C hH hI.1 mq_0 tq_0 td_1 iX8 rfl 1 (by decide) wd667 rfl rfl dX9_end_9 (fun z4 rz4 => ?_)
    refine lv_icmp_le (tgt := 17) hx hb dX9_end_12 (by decide) (fun c5 => ?_) (fun c5 => ?_)
    · skip
      have r6 : rg p1 0 800 := rf_lel (c_le c5) r3 rz4 (by decide)
      refine lv_aload_n hx hb dX9_end_17 rfl (lv_at hl 0 rfl) ?_
      refine t_getX C hH hI.1 mq tq td_0 iX9 rfl 0 (by decide) wd666 rfl (hI.rf kq_0) dX9_end_18 ?_
      refine lv_iload_n hx hb dX9_end_21 rfl (lv_at hl 1 rfl) ?_
      refine t_put C hH hI mq_0 tq_0 (by decide) td_1 iX8 tyX8 tyX8_ok nmX8 rfl 1 (by decide) wd667 rfl rfl (v := .int p1) rfl rfl rfl ⟨_, rfl, r6⟩ (fun _ h => nomatch h) dX9_end_22 (fun f7 H locs hH hI nf7 of7 bf7 => ?_)
      refine lv_iload_n hx hb dX9_end_25 rfl (lv_at hl 1 rfl) ?_
      exact g_iret C hr hH (Nat.zero_le _) (Nat.zero_le _) dX9_end_26 ⟨rfl, hI, (rg_w r6 (by decide))⟩
    · skip
      have r8 : rg p1 1 2147483647 := rf_ltr (n_le c5) rz4 r3 (by decide)
      refine lv_iconst (v := (-1 : Int32)) hx hb dX9_end_15 (by decide) ?_
      exact g_iret C hr hH (Nat.zero_le _) (Nat.zero_le _) dX9_end_16 ⟨rfl, hI, (rg_w rl_m1 (by decide))⟩
set_option maxHeartbeats 4000000 in
set_option maxRecDepth 100000 in
theorem t_X9_fault (l : Launch) (E : gE) (J : Nat → Nat) (τ : Nat → Nat) (L : List Nat) (f : gF) (hI : tI E L τ f) {q : Nat} (mq : q ∈ L) (tq : τ q = 0) (p1 : Int32) : tMi l E J yX9_fault cX9_fault 2 .int (gRm (1) 0 0) [.ref q, .int p1] L f (tPi E L τ [] f (fun r f1 => rg r (-2147483648) 2147483647)) := by
  refine tMi.intro (by decide) (Nat.le_of_ble_eq_true rfl) ?_
  intro p e s m below meth c A ls C hr hA hO hH hl
  have C : gC E cX9_fault 2 RX9 p s m _ meth c := C
  have hl : lv_has ls 2 [(0, .ref q), (1, .int p1)] := hl
  have hx := C.1
  have hb := C.2.1
  have hI := hI.S []
  obtain ⟨q_2, mq_2, tq_2, kq_2⟩ := t_fldr hI.1 mq tq td_0 (k := 2) rfl
  refine lv_iload_n hx hb dX9_fault_0 rfl (lv_at hl 1 rfl) ?_
  refine lv_if_ne (tgt := 12) hx hb dX9_fault_1 (by decide) (fun c1 => ?_) (fun c1 => ?_)
  · skip
    refine lv_iload_n hx hb dX9_fault_12 rfl (lv_at hl 1 rfl) ?_
    refine lv_iconst (v := (1 : Int32)) hx hb dX9_fault_13 (by decide) ?_
    refine lv_icmp_ne (tgt := 27) hx hb dX9_fault_14 (by decide) (fun c2 => ?_) (fun c2 => ?_)
    · skip
      refine lv_iconst (v := (-1 : Int32)) hx hb dX9_fault_27 (by decide) ?_
      exact g_iret C hr hH (Nat.zero_le _) (Nat.zero_le _) dX9_fault_28 ⟨rfl, hI, (rg_w rl_m1 (by decide))⟩
    · skip
      have r3 : rg p1 1 1 := rf_eql (c_eq c2) (rg_all _) rl_1 (by decide)
      refine lv_aload_n hx hb dX9_fault_17 rfl (lv_at hl 0 rfl) ?_
      refine t_getX C hH hI.1 mq tq td_0 iX9 rfl 2 (by decide) wd673 rfl (hI.rf kq_2) dX9_fault_18 ?_
      refine t_geti C hH hI.1 mq_2 tq_2 td_14 iX5 rfl 6 (by decide) wd674 rfl rfl dX9_fault_21 (fun z4 rz4 => ?_)
      refine lv_goto (tgt := 28) hx hb dX9_fault_24 (by decide) ?_
      exact g_iret C hr hH (Nat.zero_le _) (Nat.zero_le _) dX9_fault_28 ⟨rfl, hI, rz4⟩
  · skip
    have r5 : rg p1 0 0 := rf_eql (c_eq c1) (rg_all _) rl_0 (by decide)
    refine lv_aload_n hx hb dX9_fault_4 rfl (lv_at hl 0 rfl) ?_
    refine t_getX C hH hI.1 mq tq td_0 iX9 rfl 2 (by decide) wd673 rfl (hI.rf kq_2) dX9_fault_5 ?_
    refine t_geti C hH hI.1 mq_2 tq_2 td_14 iX5 rfl 5 (by decide) wd675 rfl rfl dX9_fault_8 (fun z6 rz6 => ?_)
    exact g_iret C hr hH (Nat.zero_le _) (Nat.zero_le _) dX9_fault_11 ⟨rfl, hI, rz6⟩
set_option maxHeartbeats 4000000 in
set_option maxRecDepth 100000 in
theorem t_X9_count (l : Launch) (E : gE) (J : Nat → Nat) (τ : Nat → Nat) (L : List Nat) (f : gF) (hI : tI E L τ f) {q : Nat} (mq : q ∈ L) (tq : τ q = 0) (p1 : Int32) : tMi l E J yX9_count cX9_count 2 .int (gRm (3) 0 0) [.ref q, .int p1] L f (tPi E L τ [] f (fun r f1 => rg r (-2147483648) 2147483647)) := by
  refine tMi.intro (by decide) (Nat.le_of_ble_eq_true rfl) ?_
  intro p e s m below meth c A ls C hr hA hO hH hl
  have C : gC E cX9_count 2 RX9 p s m _ meth c := C
  have hl : lv_has ls 2 [(0, .ref q), (1, .int p1)] := hl
  have hx := C.1
  have hb := C.2.1
  have hI := hI.S []
  obtain ⟨q_1, mq_1, tq_1, kq_1⟩ := t_fldr hI.1 mq tq td_0 (k := 1) rfl
  obtain ⟨q_0, mq_0, tq_0, kq_0⟩ := t_fldr hI.1 mq tq td_0 (k := 0) rfl
  refine lv_iload_n hx hb dX9_count_0 rfl (lv_at hl 1 rfl) ?_
  rcases g_sw p1 0 11 (by decide) with c1 | ⟨j, hj, ej⟩
  · refine lv_tableOut (tgt := 157) hx hb dX9_count_1 c1 (by decide) ?_
    refine lv_iconst (v := (-1 : Int32)) hx hb dX9_count_157 (by decide) ?_
    exact g_iret C hr hH (Nat.zero_le _) (Nat.zero_le _) dX9_count_158 ⟨rfl, hI, (rg_w rl_m1 (by decide))⟩
  · rcases (show j = 0 ∨ j = 1 ∨ j = 2 ∨ j = 3 ∨ j = 4 ∨ j = 5 ∨ j = 6 ∨ j = 7 ∨ j = 8 ∨ j = 9 ∨ j = 10 ∨ j = 11 by omega) with rfl | rfl | rfl | rfl | rfl | rfl | rfl | rfl | rfl | rfl | rfl | rfl
    · have y2 : p1 = (0 : Int32) := g_swE ej (by decide)
      have r3 : rg p1 0 0 := by rw [y2]; exact rl_0
      refine lv_tableIn (tgt := 64) (off := 63) hx hb dX9_count_1 (by rw [y2]; decide) (by rw [y2]; decide) (by rw [y2]; decide) (by decide) ?_
      refine lv_aload_n hx hb dX9_count_64 rfl (lv_at hl 0 rfl) ?_
      refine t_getX C hH hI.1 mq tq td_0 iX9 rfl 1 (by decide) wd414 rfl (hI.rf kq_1) dX9_count_65 ?_
      refine t_geti C hH hI.1 mq_1 tq_1 td_3 iX3 rfl 1 (by decide) wd676 rfl rfl dX9_count_68 (fun z4 rz4 => ?_)
      exact g_iret C hr hH (Nat.zero_le _) (Nat.zero_le _) dX9_count_71 ⟨rfl, hI, (rg_w rz4 (by decide))⟩
    · have y5 : p1 = (1 : Int32) := g_swE ej (by decide)
      have r6 : rg p1 1 1 := by rw [y5]; exact rl_1
      refine lv_tableIn (tgt := 72) (off := 71) hx hb dX9_count_1 (by rw [y5]; decide) (by rw [y5]; decide) (by rw [y5]; decide) (by decide) ?_
      refine lv_aload_n hx hb dX9_count_72 rfl (lv_at hl 0 rfl) ?_
      refine t_getX C hH hI.1 mq tq td_0 iX9 rfl 1 (by decide) wd414 rfl (hI.rf kq_1) dX9_count_73 ?_
      refine t_geti C hH hI.1 mq_1 tq_1 td_3 iX3 rfl 2 (by decide) wd677 rfl rfl dX9_count_76 (fun z7 rz7 => ?_)
      exact g_iret C hr hH (Nat.zero_le _) (Nat.zero_le _) dX9_count_79 ⟨rfl, hI, (rg_w rz7 (by decide))⟩
    · have y8 : p1 = (2 : Int32) := g_swE ej (by decide)
      have r9 : rg p1 2 2 := by rw [y8]; exact rl_2
      refine lv_tableIn (tgt := 80) (off := 79) hx hb dX9_count_1 (by rw [y8]; decide) (by rw [y8]; decide) (by rw [y8]; decide) (by decide) ?_
      refine lv_aload_n hx hb dX9_count_80 rfl (lv_at hl 0 rfl) ?_
      refine t_getX C hH hI.1 mq tq td_0 iX9 rfl 1 (by decide) wd414 rfl (hI.rf kq_1) dX9_count_81 ?_
      refine t_geti C hH hI.1 mq_1 tq_1 td_3 iX3 rfl 3 (by decide) wd427 rfl rfl dX9_count_84 (fun z10 rz10 => ?_)
      exact g_iret C hr hH (Nat.zero_le _) (Nat.zero_le _) dX9_count_87 ⟨rfl, hI, (rg_w rz10 (by decide))⟩
    · have y11 : p1 = (3 : Int32) := g_swE ej (by decide)
      have r12 : rg p1 3 3 := by rw [y11]; exact rl_3
      refine lv_tableIn (tgt := 88) (off := 87) hx hb dX9_count_1 (by rw [y11]; decide) (by rw [y11]; decide) (by rw [y11]; decide) (by decide) ?_
      refine lv_aload_n hx hb dX9_count_88 rfl (lv_at hl 0 rfl) ?_
      refine t_getX C hH hI.1 mq tq td_0 iX9 rfl 1 (by decide) wd414 rfl (hI.rf kq_1) dX9_count_89 ?_
      refine t_geti C hH hI.1 mq_1 tq_1 td_3 iX3 rfl 4 (by decide) wd678 rfl rfl dX9_count_92 (fun z13 rz13 => ?_)
      exact g_iret C hr hH (Nat.zero_le _) (Nat.zero_le _) dX9_count_95 ⟨rfl, hI, rz13⟩
    · have y14 : p1 = (4 : Int32) := g_swE ej (by decide)
      have r15 : rg p1 4 4 := by rw [y14]; exact rl_4
      refine lv_tableIn (tgt := 96) (off := 95) hx hb dX9_count_1 (by rw [y14]; decide) (by rw [y14]; decide) (by rw [y14]; decide) (by decide) ?_
      refine lv_aload_n hx hb dX9_count_96 rfl (lv_at hl 0 rfl) ?_
      refine t_getX C hH hI.1 mq tq td_0 iX9 rfl 1 (by decide) wd414 rfl (hI.rf kq_1) dX9_count_97 ?_
      refine t_geti C hH hI.1 mq_1 tq_1 td_3 iX3 rfl 5 (by decide) wd679 rfl rfl dX9_count_100 (fun z16 rz16 => ?_)
      exact g_iret C hr hH (Nat.zero_le _) (Nat.zero_le _) dX9_count_103 ⟨rfl, hI, rz16⟩
    · have y17 : p1 = (5 : Int32) := g_swE ej (by decide)
      have r18 : rg p1 5 5 := by rw [y17]; exact rl_5
      refine lv_tableIn (tgt := 104) (off := 103) hx hb dX9_count_1 (by rw [y17]; decide) (by rw [y17]; decide) (by rw [y17]; decide) (by decide) ?_
      refine lv_aload_n hx hb dX9_count_104 rfl (lv_at hl 0 rfl) ?_
      refine t_getX C hH hI.1 mq tq td_0 iX9 rfl 1 (by decide) wd414 rfl (hI.rf kq_1) dX9_count_105 ?_
      refine t_Vi C hO hl.1 hA hH hI.1 (As := []) (rest := []) (t_X3_cells l E J τ L f hI.1 mq_1 tq_1) my_X3_cells wd459 mq_1 tq_1 td_3 rfl rfl rfl (Nat.le_of_ble_eq_true rfl) ⟨Nat.le_of_ble_eq_true rfl, Nat.le_of_ble_eq_true rfl⟩ ⟨rfl, rfl⟩ dX9_count_108 (fun r20 L1 f19 H locs hp hH => ?_)
      obtain ⟨rfl, s21, h22⟩ := hp
      have hI := hI.call s21 (by decide)
      exact g_iret C hr hH (Nat.zero_le _) (Nat.zero_le _) dX9_count_111 ⟨rfl, hI, (rg_w h22 (by decide))⟩
    · have y23 : p1 = (6 : Int32) := g_swE ej (by decide)
      have r24 : rg p1 6 6 := by rw [y23]; exact rl_6
      refine lv_tableIn (tgt := 112) (off := 111) hx hb dX9_count_1 (by rw [y23]; decide) (by rw [y23]; decide) (by rw [y23]; decide) (by decide) ?_
      refine lv_aload_n hx hb dX9_count_112 rfl (lv_at hl 0 rfl) ?_
      refine t_getX C hH hI.1 mq tq td_0 iX9 rfl 1 (by decide) wd414 rfl (hI.rf kq_1) dX9_count_113 ?_
      refine t_geti C hH hI.1 mq_1 tq_1 td_3 iX3 rfl 6 (by decide) wd450 rfl rfl dX9_count_116 (fun z25 rz25 => ?_)
      exact g_iret C hr hH (Nat.zero_le _) (Nat.zero_le _) dX9_count_119 ⟨rfl, hI, (rg_w rz25 (by decide))⟩
    · have y26 : p1 = (7 : Int32) := g_swE ej (by decide)
      have r27 : rg p1 7 7 := by rw [y26]; exact rl_7
      refine lv_tableIn (tgt := 120) (off := 119) hx hb dX9_count_1 (by rw [y26]; decide) (by rw [y26]; decide) (by rw [y26]; decide) (by decide) ?_
      refine lv_aload_n hx hb dX9_count_120 rfl (lv_at hl 0 rfl) ?_
      refine t_getX C hH hI.1 mq tq td_0 iX9 rfl 1 (by decide) wd414 rfl (hI.rf kq_1) dX9_count_121 ?_
      refine t_geti C hH hI.1 mq_1 tq_1 td_3 iX3 rfl 7 (by decide) wd437 rfl rfl dX9_count_124 (fun z28 rz28 => ?_)
      exact g_iret C hr hH (Nat.zero_le _) (Nat.zero_le _) dX9_count_127 ⟨rfl, hI, (rg_w rz28 (by decide))⟩
    · have y29 : p1 = (8 : Int32) := g_swE ej (by decide)
      have r30 : rg p1 8 8 := by rw [y29]; exact rl_8
      refine lv_tableIn (tgt := 128) (off := 127) hx hb dX9_count_1 (by rw [y29]; decide) (by rw [y29]; decide) (by rw [y29]; decide) (by decide) ?_
      refine lv_aload_n hx hb dX9_count_128 rfl (lv_at hl 0 rfl) ?_
      refine t_getX C hH hI.1 mq tq td_0 iX9 rfl 1 (by decide) wd414 rfl (hI.rf kq_1) dX9_count_129 ?_
      refine t_geti C hH hI.1 mq_1 tq_1 td_3 iX3 rfl 9 (by decide) wd665 rfl rfl dX9_count_132 (fun z31 rz31 => ?_)
      exact g_iret C hr hH (Nat.zero_le _) (Nat.zero_le _) dX9_count_135 ⟨rfl, hI, (rg_w rz31 (by decide))⟩
    · have y32 : p1 = (9 : Int32) := g_swE ej (by decide)
      have r33 : rg p1 9 9 := by rw [y32]; exact rl_9
      refine lv_tableIn (tgt := 136) (off := 135) hx hb dX9_count_1 (by rw [y32]; decide) (by rw [y32]; decide) (by rw [y32]; decide) (by decide) ?_
      refine lv_aload_n hx hb dX9_count_136 rfl (lv_at hl 0 rfl) ?_
      refine t_getX C hH hI.1 mq tq td_0 iX9 rfl 1 (by decide) wd414 rfl (hI.rf kq_1) dX9_count_137 ?_
      refine t_geti C hH hI.1 mq_1 tq_1 td_3 iX3 rfl 0 (by decide) wd680 rfl rfl dX9_count_140 (fun z34 rz34 => ?_)
      exact g_iret C hr hH (Nat.zero_le _) (Nat.zero_le _) dX9_count_143 ⟨rfl, hI, rz34⟩
    · have y35 : p1 = (10 : Int32) := g_swE ej (by decide)
      have r36 : rg p1 10 10 := by rw [y35]; exact rl_10
      refine lv_tableIn (tgt := 144) (off := 143) hx hb dX9_count_1 (by rw [y35]; decide) (by rw [y35]; decide) (by rw [y35]; decide) (by decide) ?_
      refine lv_aload_n hx hb dX9_count_144 rfl (lv_at hl 0 rfl) ?_
      refine t_getX C hH hI.1 mq tq td_0 iX9 rfl 0 (by decide) wd666 rfl (hI.rf kq_0) dX9_count_145 ?_
      refine t_geti C hH hI.1 mq_0 tq_0 td_1 iX8 rfl 1 (by decide) wd667 rfl rfl dX9_count_148 (fun z37 rz37 => ?_)
      exact g_iret C hr hH (Nat.zero_le _) (Nat.zero_le _) dX9_count_151 ⟨rfl, hI, (rg_w rz37 (by decide))⟩
    · have y38 : p1 = (11 : Int32) := g_swE ej (by decide)
      have r39 : rg p1 11 11 := by rw [y38]; exact rl_11
      refine lv_tableIn (tgt := 152) (off := 151) hx hb dX9_count_1 (by rw [y38]; decide) (by rw [y38]; decide) (by rw [y38]; decide) (by decide) ?_
      refine lv_aload_n hx hb dX9_count_152 rfl (lv_at hl 0 rfl) ?_
      refine t_Vi C hO hl.1 hA hH hI.1 (As := []) (rest := []) (t_X9_rowsHad l E J τ L f hI.1 mq tq) my_X9_rowsHad wd684 mq tq td_0 rfl rfl rfl (Nat.le_of_ble_eq_true rfl) ⟨Nat.le_of_ble_eq_true rfl, Nat.le_of_ble_eq_true rfl⟩ ⟨rfl, rfl⟩ dX9_count_153 (fun r41 L1 f40 H locs hp hH => ?_)
      obtain ⟨rfl, s42, h43⟩ := hp
      have hI := hI.call s42 (by decide)
      exact g_iret C hr hH (Nat.zero_le _) (Nat.zero_le _) dX9_count_156 ⟨rfl, hI, h43⟩
set_option maxHeartbeats 4000000 in
set_option maxRecDepth 100000 in
theorem t_X9_undo (l : Launch) (E : gE) (J : Nat → Nat) (τ : Nat → Nat) (L : List Nat) (f : gF) (hI : tI E L τ f) {q : Nat} (mq : q ∈ L) (tq : τ q = 0) : tMi l E J yX9_undo cX9_undo 1 .int (gRm (3) 0 0) [.ref q] L f (tPi E L τ [3, 5, 24] f (fun r f1 => rg r (-2147483648) 2147483647)) := by
  refine tMi.intro (by decide) (Nat.le_of_ble_eq_true rfl) ?_
  intro p e s m below meth c A ls C hr hA hO hH hl
  have C : gC E cX9_undo 1 RX9 p s m _ meth c := C
  have hl : lv_has ls 1 [(0, .ref q)] := hl
  have hx := C.1
  have hb := C.2.1
  have hI := hI.S [3, 5, 24]
  obtain ⟨q_1, mq_1, tq_1, kq_1⟩ := t_fldr hI.1 mq tq td_0 (k := 1) rfl
  obtain ⟨q_6, mq_6, tq_6, kq_6⟩ := t_fldr hI.1 mq tq td_0 (k := 6) rfl
  refine lv_aload_n hx hb dX9_undo_0 rfl (lv_at hl 0 rfl) ?_
  refine t_getX C hH hI.1 mq tq td_0 iX9 rfl 1 (by decide) wd414 rfl (hI.rf kq_1) dX9_undo_1 ?_
  refine t_Vi C hO hl.1 hA hH hI.1 (As := []) (rest := []) (t_X3_isNone l E J τ L f hI.1 mq_1 tq_1) my_X3_isNone wd473 mq_1 tq_1 td_3 rfl rfl rfl (Nat.le_of_ble_eq_true rfl) ⟨Nat.le_of_ble_eq_true rfl, Nat.le_of_ble_eq_true rfl⟩ ⟨rfl, rfl⟩ dX9_undo_4 (fun r2 L1 f1 H locs hp hH => ?_)
  obtain ⟨rfl, s3, h4⟩ := hp
  have hI := hI.call s3 (by decide)
  refine lv_if_eq (tgt := 13) hx hb dX9_undo_7 (by decide) (fun c5 => ?_) (fun c5 => ?_)
  · skip
    have r6 : rg r2 0 0 := rf_eql (c_eq c5) h4 rl_0 (by decide)
    refine lv_aload_n hx hb dX9_undo_13 rfl (lv_at hl 0 rfl) ?_
    refine t_getX C hH hI.1 mq tq td_0 iX9 rfl 1 (by decide) wd414 rfl (hI.rf kq_1) dX9_undo_14 ?_
    refine t_geti C hH hI.1 mq_1 tq_1 td_3 iX3 rfl 9 (by decide) wd665 rfl rfl dX9_undo_17 (fun z7 rz7 => ?_)
    refine lv_if_ne (tgt := 26) hx hb dX9_undo_20 (by decide) (fun c8 => ?_) (fun c8 => ?_)
    · skip
      have r9 : rg z7 1 40 := rf_nel (n_eq c8) rz7 rl_0 (by decide)
      refine lv_aload_n hx hb dX9_undo_26 rfl (lv_at hl 0 rfl) ?_
      refine t_getX C hH hI.1 mq tq td_0 iX9 rfl 6 (by decide) wd560 rfl (hI.rf kq_6) dX9_undo_27 ?_
      refine t_Vv C hO hl.1 hA hH hI.1 (As := []) (rest := []) (t_X4_forget l E J τ L f1 hI.1 mq_6 tq_6) my_X4_forget wd688 mq_6 tq_6 td_24 rfl rfl rfl (Nat.le_of_ble_eq_true rfl) ⟨Nat.le_of_ble_eq_true rfl, Nat.le_of_ble_eq_true rfl⟩ ⟨rfl, rfl⟩ dX9_undo_30 (fun L1 f10 H locs hp hH => ?_)
      obtain ⟨rfl, s12, h13⟩ := hp
      have hI := hI.call s12 (by decide)
      refine lv_aload_n hx hb dX9_undo_33 rfl (lv_at hl 0 rfl) ?_
      refine t_getX C hH hI.1 mq tq td_0 iX9 rfl 1 (by decide) wd414 rfl (hI.rf kq_1) dX9_undo_34 ?_
      refine t_Vv C hO hl.1 hA hH hI.1 (As := []) (rest := []) (t_X3_takeBack l E J τ L f10 hI.1 mq_1 tq_1) my_X3_takeBack wd692 mq_1 tq_1 td_3 rfl rfl rfl (Nat.le_of_ble_eq_true rfl) ⟨Nat.le_of_ble_eq_true rfl, Nat.le_of_ble_eq_true rfl⟩ ⟨rfl, rfl⟩ dX9_undo_37 (fun L1 f14 H locs hp hH => ?_)
      obtain ⟨rfl, s16, h17⟩ := hp
      have hI := hI.call s16 (by decide)
      refine lv_aload_n hx hb dX9_undo_40 rfl (lv_at hl 0 rfl) ?_
      refine t_getX C hH hI.1 mq tq td_0 iX9 rfl 1 (by decide) wd414 rfl (hI.rf kq_1) dX9_undo_41 ?_
      refine t_geti C hH hI.1 mq_1 tq_1 td_3 iX3 rfl 9 (by decide) wd665 rfl rfl dX9_undo_44 (fun z18 rz18 => ?_)
      exact g_iret C hr hH (Nat.zero_le _) (Nat.zero_le _) dX9_undo_47 ⟨rfl, hI, (rg_w rz18 (by decide))⟩
    · skip
      have r19 : rg z7 0 0 := rf_eql (c_eq c8) rz7 rl_0 (by decide)
      refine lv_bipush (v := (-5 : Int32)) hx hb dX9_undo_23 (by decide) ?_
      exact g_iret C hr hH (Nat.zero_le _) (Nat.zero_le _) dX9_undo_25 ⟨rfl, hI, (rg_w rl_m5 (by decide))⟩
  · skip
    have r20 : rg r2 1 1 := rf_nel (n_eq c5) h4 rl_0 (by decide)
    refine lv_bipush (v := (-2 : Int32)) hx hb dX9_undo_10 (by decide) ?_
    exact g_iret C hr hH (Nat.zero_le _) (Nat.zero_le _) dX9_undo_12 ⟨rfl, hI, (rg_w rl_m2 (by decide))⟩
set_option maxHeartbeats 4000000 in
set_option maxRecDepth 100000 in
theorem t_X9_anew (l : Launch) (E : gE) (J : Nat → Nat) (τ : Nat → Nat) (L : List Nat) (f : gF) (hI : tI E L τ f) {q : Nat} (mq : q ∈ L) (tq : τ q = 0) : tMi l E J yX9_anew cX9_anew 3 .int (gRm (3) 0 0) [.ref q] L f (tPi E L τ [3, 5, 24] f (fun r f1 => rg r (-2147483648) 2147483647)) := by
  refine tMi.intro (by decide) (Nat.le_of_ble_eq_true rfl) ?_
  intro p e s m below meth c A ls C hr hA hO hH hl
  have C : gC E cX9_anew 3 RX9 p s m _ meth c := C
  have hl : lv_has ls 3 [(0, .ref q)] := hl
  have hx := C.1
  have hb := C.2.1
  have hI := hI.S [3, 5, 24]
  obtain ⟨q_1, mq_1, tq_1, kq_1⟩ := t_fldr hI.1 mq tq td_0 (k := 1) rfl
  obtain ⟨q_6, mq_6, tq_6, kq_6⟩ := t_fldr hI.1 mq tq td_0 (k := 6) rfl
  have cut30 : ∀ (n : Nat) (fh30 : gF) (H : Heap) (locs : List Loc) (ls : Array Slot) (v30_1 : Int32) (v30_2 : Int32), 40 - v30_2.toInt < (n : Int) → tS E L τ [3, 5, 24] f fh30 → gH E A L fh30 s.heap H locs → rg v30_1 0 40 → rg v30_2 0 40 → lv_has ls 3 [(0, .ref q), (1, .int v30_1), (2, .int v30_2)] → W p l e (gRm (3) 0 0) s m [.ref q].toArray below meth c H locs 0 0 (MQ below (gQi E A (tPi E L τ [3, 5, 24] f (fun r f1 => rg r (-2147483648) 2147483647))) [.ref q].toArray s (gRm (3) 0 0).cells (gRm (3) 0 0).slots A) (F0 m 30 ls []) := by
    intro n
    induction n with
    | zero =>
      intro fh30 H locs ls v30_1 v30_2 hfu30 hI hH r_v30_1 r_v30_2 hl
      exact (fu_0 hfu30 r_v30_2).elim
    | succ n ih30 =>
      intro fh30 H locs ls v30_1 v30_2 hfu30 hI hH r_v30_1 r_v30_2 hl
      refine lv_iload_n hx hb dX9_anew_30 rfl (lv_at hl 2 rfl) ?_
      refine lv_iload_n hx hb dX9_anew_31 rfl (lv_at hl 1 rfl) ?_
      refine lv_icmp_ge (tgt := 48) hx hb dX9_anew_32 (by decide) (fun c1 => ?_) (fun c1 => ?_)
      · skip
        refine lv_iload_n hx hb dX9_anew_48 rfl (lv_at hl 1 rfl) ?_
        exact g_iret C hr hH (Nat.zero_le _) (Nat.zero_le _) dX9_anew_49 ⟨rfl, hI, (rg_w r_v30_1 (by decide))⟩
      · skip
        have r2 : rg v30_2 0 39 := rf_ltl (n_le c1) r_v30_2 r_v30_1 (by decide)
        have r3 : rg v30_1 1 40 := rf_ltr (n_le c1) r_v30_2 r_v30_1 (by decide)
        refine lv_aload_n hx hb dX9_anew_35 rfl (lv_at hl 0 rfl) ?_
        refine t_getX C hH hI.1 mq tq td_0 iX9 rfl 1 (by decide) wd414 rfl (hI.rf kq_1) dX9_anew_36 ?_
        refine t_Vv C hO hl.1 hA hH hI.1 (As := []) (rest := []) (t_X3_takeBack l E J τ L fh30 hI.1 mq_1 tq_1) my_X3_takeBack wd692 mq_1 tq_1 td_3 rfl rfl rfl (Nat.le_of_ble_eq_true rfl) ⟨Nat.le_of_ble_eq_true rfl, Nat.le_of_ble_eq_true rfl⟩ ⟨rfl, rfl⟩ dX9_anew_39 (fun L1 f4 H locs hp hH => ?_)
        obtain ⟨rfl, s6, h7⟩ := hp
        have hI := hI.call s6 (by decide)
        obtain ⟨z8, ez8⟩ : ∃ y : Int32, y = v30_2 + (1 : Int32) := ⟨_, rfl⟩
        have r9 : rg z8 1 40 := rg_add ez8 r2 rl_1 (by decide)
        have a10 : z8.toInt = v30_2.toInt + 1 := ai_add ez8 r2 tl_1 (by decide)
        refine lv_iinc (v := z8) (lv' := [(2, .int z8), (0, .ref q), (1, .int v30_1)]) hx hb dX9_anew_42 hl (k := 2) rfl (by rw [ez8]; rfl) (by decide) rfl (fun ls hl => ?_)
        refine lv_goto (tgt := 30) hx hb dX9_anew_45 (by decide) ?_
        exact ih30 _ _ _ _ v30_1 z8 (fu_s hfu30 a10 (by decide)) hI hH (rg_w r3 (by decide)) (rg_w r9 (by decide)) (lv_sub hl [1, 2, 0] rfl)
  refine lv_aload_n hx hb dX9_anew_0 rfl (lv_at hl 0 rfl) ?_
  refine t_getX C hH hI.1 mq tq td_0 iX9 rfl 1 (by decide) wd414 rfl (hI.rf kq_1) dX9_anew_1 ?_
  refine t_Vi C hO hl.1 hA hH hI.1 (As := []) (rest := []) (t_X3_isNone l E J τ L f hI.1 mq_1 tq_1) my_X3_isNone wd473 mq_1 tq_1 td_3 rfl rfl rfl (Nat.le_of_ble_eq_true rfl) ⟨Nat.le_of_ble_eq_true rfl, Nat.le_of_ble_eq_true rfl⟩ ⟨rfl, rfl⟩ dX9_anew_4 (fun r12 L1 f11 H locs hp hH => ?_)
  obtain ⟨rfl, s13, h14⟩ := hp
  have hI := hI.call s13 (by decide)
  refine lv_if_eq (tgt := 13) hx hb dX9_anew_7 (by decide) (fun c15 => ?_) (fun c15 => ?_)
  · skip
    have r16 : rg r12 0 0 := rf_eql (c_eq c15) h14 rl_0 (by decide)
    refine lv_aload_n hx hb dX9_anew_13 rfl (lv_at hl 0 rfl) ?_
    refine t_getX C hH hI.1 mq tq td_0 iX9 rfl 6 (by decide) wd560 rfl (hI.rf kq_6) dX9_anew_14 ?_
    refine t_Vv C hO hl.1 hA hH hI.1 (As := []) (rest := []) (t_X4_forget l E J τ L f11 hI.1 mq_6 tq_6) my_X4_forget wd688 mq_6 tq_6 td_24 rfl rfl rfl (Nat.le_of_ble_eq_true rfl) ⟨Nat.le_of_ble_eq_true rfl, Nat.le_of_ble_eq_true rfl⟩ ⟨rfl, rfl⟩ dX9_anew_17 (fun L1 f17 H locs hp hH => ?_)
    obtain ⟨rfl, s19, h20⟩ := hp
    have hI := hI.call s19 (by decide)
    refine lv_aload_n hx hb dX9_anew_20 rfl (lv_at hl 0 rfl) ?_
    refine t_getX C hH hI.1 mq tq td_0 iX9 rfl 1 (by decide) wd414 rfl (hI.rf kq_1) dX9_anew_21 ?_
    refine t_geti C hH hI.1 mq_1 tq_1 td_3 iX3 rfl 9 (by decide) wd665 rfl rfl dX9_anew_24 (fun z21 rz21 => ?_)
    refine lv_istore_n (lv' := [(1, .int z21), (0, .ref q)]) hx hb dX9_anew_27 rfl hl (by decide) rfl (fun ls hl => ?_)
    refine lv_iconst (v := (0 : Int32)) hx hb dX9_anew_28 (by decide) ?_
    refine lv_istore_n (lv' := [(2, .int (0 : Int32)), (1, .int z21), (0, .ref q)]) hx hb dX9_anew_29 rfl hl (by decide) rfl (fun ls hl => ?_)
    exact cut30 41 _ _ _ _ z21 (0 : Int32) (fu_i 41 rl_0 (by decide)) hI hH rz21 (rg_w rl_0 (by decide)) (lv_sub hl [2, 1, 0] rfl)
  · skip
    have r22 : rg r12 1 1 := rf_nel (n_eq c15) h14 rl_0 (by decide)
    refine lv_bipush (v := (-2 : Int32)) hx hb dX9_anew_10 (by decide) ?_
    exact g_iret C hr hH (Nat.zero_le _) (Nat.zero_le _) dX9_anew_12 ⟨rfl, hI, (rg_w rl_m2 (by decide))⟩
set_option maxHeartbeats 4000000 in
set_option maxRecDepth 100000 in
theorem t_X9_land (l : Launch) (E : gE) (J : Nat → Nat) (τ : Nat → Nat) (L : List Nat) (f : gF) (hI : tI E L τ f) {q : Nat} (mq : q ∈ L) (tq : τ q = 0) : tMi l E J yX9_land cX9_land 1 .int (gRm (10) 0 0) [.ref q] L f (tPi E L τ [1, 3, 4, 5, 6, 7, 8, 9, 10, 11, 12, 13, 14, 24, 35] f (fun r f1 => rg r (-2147483648) 2147483647)) := by
  refine tMi.intro (by decide) (Nat.le_of_ble_eq_true rfl) ?_
  intro p e s m below meth c A ls C hr hA hO hH hl
  have C : gC E cX9_land 1 RX9 p s m _ meth c := C
  have hl : lv_has ls 1 [(0, .ref q)] := hl
  have hx := C.1
  have hb := C.2.1
  have hI := hI.S [1, 3, 4, 5, 6, 7, 8, 9, 10, 11, 12, 13, 14, 24, 35]
  obtain ⟨q_2, mq_2, tq_2, kq_2⟩ := t_fldr hI.1 mq tq td_0 (k := 2) rfl
  obtain ⟨q_0, mq_0, tq_0, kq_0⟩ := t_fldr hI.1 mq tq td_0 (k := 0) rfl
  obtain ⟨q_1, mq_1, tq_1, kq_1⟩ := t_fldr hI.1 mq tq td_0 (k := 1) rfl
  obtain ⟨q_2_1, mq_2_1, tq_2_1, kq_2_1⟩ := t_fldr hI.1 mq_2 tq_2 td_14 (k := 1) rfl
  obtain ⟨q_6, mq_6, tq_6, kq_6⟩ := t_fldr hI.1 mq tq td_0 (k := 6) rfl
  refine lv_aload_n hx hb dX9_land_0 rfl (lv_at hl 0 rfl) ?_
  refine t_getX C hH hI.1 mq tq td_0 iX9 rfl 2 (by decide) wd673 rfl (hI.rf kq_2) dX9_land_1 ?_
  refine t_Vi C hO hl.1 hA hH hI.1 (As := []) (rest := []) (t_X5_readTape l E J τ L f hI.1 mq_2 tq_2) my_X5_readTape wd696 mq_2 tq_2 td_14 rfl rfl rfl (Nat.le_of_ble_eq_true rfl) ⟨Nat.le_of_ble_eq_true rfl, Nat.le_of_ble_eq_true rfl⟩ ⟨rfl, rfl⟩ dX9_land_4 (fun r2 L1 f1 H locs hp hH => ?_)
  obtain ⟨rfl, s3, h4⟩ := hp
  have hI := hI.call s3 (by decide)
  refine lv_if_ne (tgt := 13) hx hb dX9_land_7 (by decide) (fun c5 => ?_) (fun c5 => ?_)
  · skip
    have r6 : rg r2 1 1 := rf_nel (n_eq c5) h4 rl_0 (by decide)
    refine lv_aload_n hx hb dX9_land_13 rfl (lv_at hl 0 rfl) ?_
    refine t_getX C hH hI.1 mq tq td_0 iX9 rfl 0 (by decide) wd666 rfl (hI.rf kq_0) dX9_land_14 ?_
    refine lv_iconst (v := (0 : Int32)) hx hb dX9_land_17 (by decide) ?_
    refine t_put C hH hI mq_0 tq_0 (by decide) td_1 iX8 tyX8 tyX8_ok nmX8 rfl 1 (by decide) wd667 rfl rfl (v := .int (0 : Int32)) rfl rfl rfl ⟨_, rfl, (rg_w rl_0 (by decide))⟩ (fun _ h => nomatch h) dX9_land_18 (fun f7 H locs hH hI nf7 of7 bf7 => ?_)
    refine lv_aload_n hx hb dX9_land_21 rfl (lv_at hl 0 rfl) ?_
    refine t_getX C hH hI.1 mq tq td_0 iX9 rfl 1 (by decide) wd414 rfl (hI.rf kq_1) dX9_land_22 ?_
    refine lv_aload_n hx hb dX9_land_25 rfl (lv_at hl 0 rfl) ?_
    refine t_getX C hH hI.1 mq tq td_0 iX9 rfl 2 (by decide) wd673 rfl (hI.rf kq_2) dX9_land_26 ?_
    refine t_getX C hH hI.1 mq_2 tq_2 td_14 iX5 rfl 1 (by decide) wd697 rfl (hI.rf kq_2_1) dX9_land_29 ?_
    refine t_Vv C hO hl.1 hA hH hI.1 (As := [.ref q_2_1]) (rest := []) (t_X3_become l E J τ L f7 hI.1 mq_1 tq_1 mq_2_1 tq_2_1) my_X3_become wd701 mq_1 tq_1 td_3 rfl rfl rfl (Nat.le_of_ble_eq_true rfl) ⟨Nat.le_of_ble_eq_true rfl, Nat.le_of_ble_eq_true rfl⟩ ⟨rfl, rfl⟩ dX9_land_32 (fun L1 f8 H locs hp hH => ?_)
    obtain ⟨rfl, s10, h11⟩ := hp
    have hI := hI.call s10 (by decide)
    refine lv_aload_n hx hb dX9_land_35 rfl (lv_at hl 0 rfl) ?_
    refine t_getX C hH hI.1 mq tq td_0 iX9 rfl 6 (by decide) wd560 rfl (hI.rf kq_6) dX9_land_36 ?_
    refine t_Vv C hO hl.1 hA hH hI.1 (As := []) (rest := []) (t_X4_forget l E J τ L f8 hI.1 mq_6 tq_6) my_X4_forget wd688 mq_6 tq_6 td_24 rfl rfl rfl (Nat.le_of_ble_eq_true rfl) ⟨Nat.le_of_ble_eq_true rfl, Nat.le_of_ble_eq_true rfl⟩ ⟨rfl, rfl⟩ dX9_land_39 (fun L1 f12 H locs hp hH => ?_)
    obtain ⟨rfl, s14, h15⟩ := hp
    have hI := hI.call s14 (by decide)
    refine lv_aload_n hx hb dX9_land_42 rfl (lv_at hl 0 rfl) ?_
    refine t_getX C hH hI.1 mq tq td_0 iX9 rfl 1 (by decide) wd414 rfl (hI.rf kq_1) dX9_land_43 ?_
    refine t_geti C hH hI.1 mq_1 tq_1 td_3 iX3 rfl 0 (by decide) wd680 rfl rfl dX9_land_46 (fun z16 rz16 => ?_)
    exact g_iret C hr hH (Nat.zero_le _) (Nat.zero_le _) dX9_land_49 ⟨rfl, hI, rz16⟩
  · skip
    have r17 : rg r2 0 0 := rf_eql (c_eq c5) h4 rl_0 (by decide)
    refine lv_bipush (v := (-4 : Int32)) hx hb dX9_land_10 (by decide) ?_
    exact g_iret C hr hH (Nat.zero_le _) (Nat.zero_le _) dX9_land_12 ⟨rfl, hI, (rg_w rl_m4 (by decide))⟩
set_option maxHeartbeats 4000000 in
set_option maxRecDepth 100000 in
theorem t_X9_light (l : Launch) (E : gE) (J : Nat → Nat) (τ : Nat → Nat) (L : List Nat) (f : gF) (hI : tI E L τ f) {q : Nat} (mq : q ∈ L) (tq : τ q = 0) (p1 : Int32) (p2 : Int32) : tMi l E J yX9_light cX9_light 3 .int (gRm (3) 0 0) [.ref q, .int p1, .int p2] L f (tPi E L τ [3, 10, 11] f (fun r f1 => rg r (-2147483648) 2147483647)) := by
  refine tMi.intro (by decide) (Nat.le_of_ble_eq_true rfl) ?_
  intro p e s m below meth c A ls C hr hA hO hH hl
  have C : gC E cX9_light 3 RX9 p s m _ meth c := C
  have hl : lv_has ls 3 [(0, .ref q), (1, .int p1), (2, .int p2)] := hl
  have hx := C.1
  have hb := C.2.1
  have hI := hI.S [3, 10, 11]
  obtain ⟨q_1, mq_1, tq_1, kq_1⟩ := t_fldr hI.1 mq tq td_0 (k := 1) rfl
  refine lv_aload_n hx hb dX9_light_0 rfl (lv_at hl 0 rfl) ?_
  refine t_getX C hH hI.1 mq tq td_0 iX9 rfl 1 (by decide) wd414 rfl (hI.rf kq_1) dX9_light_1 ?_
  refine lv_iload_n hx hb dX9_light_4 rfl (lv_at hl 1 rfl) ?_
  refine t_Vi C hO hl.1 hA hH hI.1 (As := [.int p1]) (rest := []) (t_X3_hasCell l E J τ L f hI.1 mq_1 tq_1 p1) my_X3_hasCell wd517 mq_1 tq_1 td_3 rfl rfl rfl (Nat.le_of_ble_eq_true rfl) ⟨Nat.le_of_ble_eq_true rfl, Nat.le_of_ble_eq_true rfl⟩ ⟨rfl, rfl⟩ dX9_light_5 (fun r2 L1 f1 H locs hp hH => ?_)
  obtain ⟨rfl, s3, h4⟩ := hp
  have hI := hI.call s3 (by decide)
  refine lv_if_eq (tgt := 18) hx hb dX9_light_8 (by decide) (fun c5 => ?_) (fun c5 => ?_)
  · skip
    have r6 : rg r2 0 0 := rf_eql (c_eq c5) h4.1 rl_0 (by decide)
    refine lv_bipush (v := (-2 : Int32)) hx hb dX9_light_18 (by decide) ?_
    exact g_iret C hr hH (Nat.zero_le _) (Nat.zero_le _) dX9_light_20 ⟨rfl, hI, (rg_w rl_m2 (by decide))⟩
  · skip
    have r7 : rg r2 1 1 := rf_nel (n_eq c5) h4.1 rl_0 (by decide)
    have r8 : rg p1 0 19 := h4.2 c5
    refine lv_iload_n hx hb dX9_light_11 rfl (lv_at hl 2 rfl) ?_
    refine t_Si C hO hl.1 hA hH (As := [.int p2]) (rest := []) (t_X9_isChoice l E J τ L f1 hI.1 p2) my_X9_isChoice wd639 rfl rfl (Nat.le_of_ble_eq_true rfl) ⟨Nat.le_of_ble_eq_true rfl, Nat.le_of_ble_eq_true rfl⟩ ⟨rfl, rfl⟩ dX9_light_12 (fun r10 L1 f9 H locs hp hH => ?_)
    obtain ⟨rfl, s11, h12⟩ := hp
    have hI := hI.call s11 (by decide)
    refine lv_if_ne (tgt := 21) hx hb dX9_light_15 (by decide) (fun c13 => ?_) (fun c13 => ?_)
    · skip
      have r14 : rg r10 1 1 := rf_nel (n_eq c13) h12 rl_0 (by decide)
      refine lv_aload_n hx hb dX9_light_21 rfl (lv_at hl 0 rfl) ?_
      refine t_getX C hH hI.1 mq tq td_0 iX9 rfl 1 (by decide) wd414 rfl (hI.rf kq_1) dX9_light_22 ?_
      obtain ⟨z15, rz15, kz15⟩ := t_fldi hI.1 mq_1 tq_1 td_3 (k := 9) rfl
      refine t_getX C hH hI.1 mq_1 tq_1 td_3 iX3 rfl 9 (by decide) wd665 rfl kz15 dX9_light_25 ?_
      refine lv_bipush (v := (40 : Int32)) hx hb dX9_light_28 (by decide) ?_
      refine lv_icmp_lt (tgt := 38) hx hb dX9_light_30 (by decide) (fun c16 => ?_) (fun c16 => ?_)
      · skip
        have r17 : rg z15 0 39 := rf_ltl (c_lt c16) rz15 rl_40 (by decide)
        refine lv_aload_n hx hb dX9_light_38 rfl (lv_at hl 0 rfl) ?_
        refine t_getX C hH hI.1 mq tq td_0 iX9 rfl 1 (by decide) wd414 rfl (hI.rf kq_1) dX9_light_39 ?_
        refine lv_iload_n hx hb dX9_light_42 rfl (lv_at hl 1 rfl) ?_
        refine lv_iload_n hx hb dX9_light_43 rfl (lv_at hl 2 rfl) ?_
        refine t_Vi C hO hl.1 hA hH hI.1 (As := [.int p1, .int p2]) (rest := []) (t_X3_putLamp l E J τ L f9 hI.1 mq_1 tq_1 p1 r8 p2 ⟨_, kz15, r17⟩) my_X3_putLamp wd705 mq_1 tq_1 td_3 rfl rfl rfl (Nat.le_of_ble_eq_true rfl) ⟨Nat.le_of_ble_eq_true rfl, Nat.le_of_ble_eq_true rfl⟩ ⟨rfl, rfl⟩ dX9_light_44 (fun r19 L1 f18 H locs hp hH => ?_)
        obtain ⟨rfl, s20, h21⟩ := hp
        have hI := hI.call s20 (by decide)
        exact g_iret C hr hH (Nat.zero_le _) (Nat.zero_le _) dX9_light_47 ⟨rfl, hI, (rg_w h21 (by decide))⟩
      · skip
        have r22 : rg z15 40 40 := rf_ler (n_lt c16) rl_40 rz15 (by decide)
        refine lv_bipush (v := (-5 : Int32)) hx hb dX9_light_33 (by decide) ?_
        refine lv_goto (tgt := 47) hx hb dX9_light_35 (by decide) ?_
        exact g_iret C hr hH (Nat.zero_le _) (Nat.zero_le _) dX9_light_47 ⟨rfl, hI, (rg_w rl_m5 (by decide))⟩
    · skip
      have r23 : rg r10 0 0 := rf_eql (c_eq c13) h12 rl_0 (by decide)
      refine lv_bipush (v := (-2 : Int32)) hx hb dX9_light_18 (by decide) ?_
      exact g_iret C hr hH (Nat.zero_le _) (Nat.zero_le _) dX9_light_20 ⟨rfl, hI, (rg_w rl_m2 (by decide))⟩
set_option maxHeartbeats 4000000 in
set_option maxRecDepth 100000 in
theorem t_X9_turn (l : Launch) (E : gE) (J : Nat → Nat) (τ : Nat → Nat) (L : List Nat) (f : gF) (hI : tI E L τ f) {q : Nat} (mq : q ∈ L) (tq : τ q = 0) (p1 : Int32) (p2 : Int32) : tMi l E J yX9_turn cX9_turn 3 .int (gRm (3) 0 0) [.ref q, .int p1, .int p2] L f (tPi E L τ [3, 5, 10, 11, 24] f (fun r f1 => rg r (-2147483648) 2147483647)) := by
  refine tMi.intro (by decide) (Nat.le_of_ble_eq_true rfl) ?_
  intro p e s m below meth c A ls C hr hA hO hH hl
  have C : gC E cX9_turn 3 RX9 p s m _ meth c := C
  have hl : lv_has ls 3 [(0, .ref q), (1, .int p1), (2, .int p2)] := hl
  have hx := C.1
  have hb := C.2.1
  have hI := hI.S [3, 5, 10, 11, 24]
  obtain ⟨q_1, mq_1, tq_1, kq_1⟩ := t_fldr hI.1 mq tq td_0 (k := 1) rfl
  obtain ⟨q_6, mq_6, tq_6, kq_6⟩ := t_fldr hI.1 mq tq td_0 (k := 6) rfl
  refine lv_aload_n hx hb dX9_turn_0 rfl (lv_at hl 0 rfl) ?_
  refine t_getX C hH hI.1 mq tq td_0 iX9 rfl 1 (by decide) wd414 rfl (hI.rf kq_1) dX9_turn_1 ?_
  refine lv_iload_n hx hb dX9_turn_4 rfl (lv_at hl 1 rfl) ?_
  refine t_Vi C hO hl.1 hA hH hI.1 (As := [.int p1]) (rest := []) (t_X3_hasFlight l E J τ L f hI.1 mq_1 tq_1 p1) my_X3_hasFlight wd502 mq_1 tq_1 td_3 rfl rfl rfl (Nat.le_of_ble_eq_true rfl) ⟨Nat.le_of_ble_eq_true rfl, Nat.le_of_ble_eq_true rfl⟩ ⟨rfl, rfl⟩ dX9_turn_5 (fun r2 L1 f1 H locs hp hH => ?_)
  obtain ⟨rfl, s3, h4⟩ := hp
  have hI := hI.call s3 (by decide)
  refine lv_if_eq (tgt := 20) hx hb dX9_turn_8 (by decide) (fun c5 => ?_) (fun c5 => ?_)
  · skip
    have r6 : rg r2 0 0 := rf_eql (c_eq c5) h4.1 rl_0 (by decide)
    refine lv_bipush (v := (-2 : Int32)) hx hb dX9_turn_20 (by decide) ?_
    exact g_iret C hr hH (Nat.zero_le _) (Nat.zero_le _) dX9_turn_22 ⟨rfl, hI, (rg_w rl_m2 (by decide))⟩
  · skip
    have r7 : rg r2 1 1 := rf_nel (n_eq c5) h4.1 rl_0 (by decide)
    have r8 : rg p1 0 3 := h4.2 c5
    refine lv_iload_n hx hb dX9_turn_11 rfl (lv_at hl 2 rfl) ?_
    refine lv_if_lt (tgt := 20) hx hb dX9_turn_12 (by decide) (fun c9 => ?_) (fun c9 => ?_)
    · skip
      have r10 : rg p2 (-2147483648) (-1) := rf_ltl (c_lt c9) (rg_all _) rl_0 (by decide)
      refine lv_bipush (v := (-2 : Int32)) hx hb dX9_turn_20 (by decide) ?_
      exact g_iret C hr hH (Nat.zero_le _) (Nat.zero_le _) dX9_turn_22 ⟨rfl, hI, (rg_w rl_m2 (by decide))⟩
    · skip
      have r11 : rg p2 0 2147483647 := rf_ler (n_lt c9) rl_0 (rg_all _) (by decide)
      refine lv_iload_n hx hb dX9_turn_15 rfl (lv_at hl 2 rfl) ?_
      refine lv_iconst (v := (4 : Int32)) hx hb dX9_turn_16 (by decide) ?_
      refine lv_icmp_lt (tgt := 23) hx hb dX9_turn_17 (by decide) (fun c12 => ?_) (fun c12 => ?_)
      · skip
        have r13 : rg p2 0 3 := rf_ltl (c_lt c12) r11 rl_4 (by decide)
        refine lv_aload_n hx hb dX9_turn_23 rfl (lv_at hl 0 rfl) ?_
        refine t_getX C hH hI.1 mq tq td_0 iX9 rfl 1 (by decide) wd414 rfl (hI.rf kq_1) dX9_turn_24 ?_
        obtain ⟨z14, rz14, kz14⟩ := t_fldi hI.1 mq_1 tq_1 td_3 (k := 9) rfl
        refine t_getX C hH hI.1 mq_1 tq_1 td_3 iX3 rfl 9 (by decide) wd665 rfl kz14 dX9_turn_27 ?_
        refine lv_bipush (v := (40 : Int32)) hx hb dX9_turn_30 (by decide) ?_
        refine lv_icmp_lt (tgt := 38) hx hb dX9_turn_32 (by decide) (fun c15 => ?_) (fun c15 => ?_)
        · skip
          have r16 : rg z14 0 39 := rf_ltl (c_lt c15) rz14 rl_40 (by decide)
          refine lv_aload_n hx hb dX9_turn_38 rfl (lv_at hl 0 rfl) ?_
          refine t_getX C hH hI.1 mq tq td_0 iX9 rfl 6 (by decide) wd560 rfl (hI.rf kq_6) dX9_turn_39 ?_
          refine t_Vv C hO hl.1 hA hH hI.1 (As := []) (rest := []) (t_X4_forget l E J τ L f1 hI.1 mq_6 tq_6) my_X4_forget wd688 mq_6 tq_6 td_24 rfl rfl rfl (Nat.le_of_ble_eq_true rfl) ⟨Nat.le_of_ble_eq_true rfl, Nat.le_of_ble_eq_true rfl⟩ ⟨rfl, rfl⟩ dX9_turn_42 (fun L1 f17 H locs hp hH => ?_)
          obtain ⟨rfl, s19, h20⟩ := hp
          have hI := hI.call s19 (by decide)
          have k21 : fld f17 q_1 9 (.int z14) := fld.eq kz14 (s19.fr q_1 mq_1 (t_lim tq_1 rfl))
          refine lv_aload_n hx hb dX9_turn_45 rfl (lv_at hl 0 rfl) ?_
          refine t_getX C hH hI.1 mq tq td_0 iX9 rfl 1 (by decide) wd414 rfl (hI.rf kq_1) dX9_turn_46 ?_
          refine lv_iload_n hx hb dX9_turn_49 rfl (lv_at hl 1 rfl) ?_
          refine lv_iload_n hx hb dX9_turn_50 rfl (lv_at hl 2 rfl) ?_
          refine t_Vi C hO hl.1 hA hH hI.1 (As := [.int p1, .int p2]) (rest := []) (t_X3_putHeading l E J τ L f17 hI.1 mq_1 tq_1 p1 r8 p2 r13 ⟨_, k21, r16⟩) my_X3_putHeading wd709 mq_1 tq_1 td_3 rfl rfl rfl (Nat.le_of_ble_eq_true rfl) ⟨Nat.le_of_ble_eq_true rfl, Nat.le_of_ble_eq_true rfl⟩ ⟨rfl, rfl⟩ dX9_turn_51 (fun r23 L1 f22 H locs hp hH => ?_)
          obtain ⟨rfl, s24, h25⟩ := hp
          have hI := hI.call s24 (by decide)
          exact g_iret C hr hH (Nat.zero_le _) (Nat.zero_le _) dX9_turn_54 ⟨rfl, hI, h25⟩
        · skip
          have r26 : rg z14 40 40 := rf_ler (n_lt c15) rl_40 rz14 (by decide)
          refine lv_bipush (v := (-5 : Int32)) hx hb dX9_turn_35 (by decide) ?_
          exact g_iret C hr hH (Nat.zero_le _) (Nat.zero_le _) dX9_turn_37 ⟨rfl, hI, (rg_w rl_m5 (by decide))⟩
      · skip
        have r27 : rg p2 4 2147483647 := rf_ler (n_lt c12) rl_4 r11 (by decide)
        refine lv_bipush (v := (-2 : Int32)) hx hb dX9_turn_20 (by decide) ?_
        exact g_iret C hr hH (Nat.zero_le _) (Nat.zero_le _) dX9_turn_22 ⟨rfl, hI, (rg_w rl_m2 (by decide))⟩
set_option maxHeartbeats 4000000 in
set_option maxRecDepth 100000 in
theorem t_hasMemberX (l : Launch) (E : gE) (J : Nat → Nat) (τ : Nat → Nat) (L : List Nat) (f : gF) (hI : tI E L τ f) {q : Nat} (mq : q ∈ L) (tq : τ q = 3) (p1 : Int32) : tMi l E J yX3_hasMember cX3_hasMember 2 .boolean (gRm (1) 0 0) [.ref q, .int p1] L f (tPi E L τ [] f (fun r f1 => rg r 0 1 ∧ (¬ r = 0 → rg p1 0 5) ∧ (¬ r = 0 → ∀ n : Int32, fld f q 7 (.int n) → p1.toInt < n.toInt))) := by
  refine tMi.intro (by decide) (Nat.le_of_ble_eq_true rfl) ?_
  intro p e s m below meth c A ls C hr hA hO hH hl
  have C : gC E cX3_hasMember 2 RX3 p s m _ meth c := C
  have hl : lv_has ls 2 [(0, .ref q), (1, .int p1)] := hl
  have hx := C.1
  have hb := C.2.1
  have hI := hI.S []
  refine lv_iload_n hx hb dX3_hasMember_0 rfl (lv_at hl 1 rfl) ?_
  refine lv_if_lt (tgt := 16) hx hb dX3_hasMember_1 (by decide) (fun c1 => ?_) (fun c1 => ?_)
  · skip
    have r2 : rg p1 (-2147483648) (-1) := rf_ltl (c_lt c1) (rg_all _) rl_0 (by decide)
    refine lv_iconst (v := (0 : Int32)) hx hb dX3_hasMember_16 (by decide) ?_
    exact g_zret C hr (rg_z (rg_w rl_0 (by decide))) hH (Nat.zero_le _) (Nat.zero_le _) dX3_hasMember_17 ⟨rfl, hI, ⟨(rg_w rl_0 (by decide)), (fun h => absurd rfl h), (fun h => absurd rfl h)⟩⟩
  · skip
    have r3 : rg p1 0 2147483647 := rf_ler (n_lt c1) rl_0 (rg_all _) (by decide)
    refine lv_iload_n hx hb dX3_hasMember_4 rfl (lv_at hl 1 rfl) ?_
    refine lv_aload_n hx hb dX3_hasMember_5 rfl (lv_at hl 0 rfl) ?_
    obtain ⟨z4, rz4, kz4⟩ := t_fldi hI.1 mq tq td_3 (k := 7) rfl
    refine t_getX C hH hI.1 mq tq td_3 iX3 rfl 7 (by decide) wd14 rfl kz4 dX3_hasMember_6 ?_
    refine lv_icmp_ge (tgt := 16) hx hb dX3_hasMember_9 (by decide) (fun c5 => ?_) (fun c5 => ?_)
    · skip
      refine lv_iconst (v := (0 : Int32)) hx hb dX3_hasMember_16 (by decide) ?_
      exact g_zret C hr (rg_z (rg_w rl_0 (by decide))) hH (Nat.zero_le _) (Nat.zero_le _) dX3_hasMember_17 ⟨rfl, hI, ⟨(rg_w rl_0 (by decide)), (fun h => absurd rfl h), (fun h => absurd rfl h)⟩⟩
    · skip
      have r6 : rg p1 0 5 := rf_ltl (n_le c5) r3 rz4 (by decide)
      have r7 : rg z4 1 6 := rf_ltr (n_le c5) r3 rz4 (by decide)
      refine lv_iconst (v := (1 : Int32)) hx hb dX3_hasMember_12 (by decide) ?_
      refine lv_goto (tgt := 17) hx hb dX3_hasMember_13 (by decide) ?_
      exact g_zret C hr (rg_z (rg_w rl_1 (by decide))) hH (Nat.zero_le _) (Nat.zero_le _) dX3_hasMember_17 ⟨rfl, hI, ⟨(rg_w rl_1 (by decide)), (fun _ => r6), (fun _ n h => by rw [fld_inj h kz4]; exact n_le c5)⟩⟩
set_option maxHeartbeats 4000000 in
set_option maxRecDepth 100000 in
theorem t_X9_cut (l : Launch) (E : gE) (J : Nat → Nat) (τ : Nat → Nat) (L : List Nat) (f : gF) (hI : tI E L τ f) {q : Nat} (mq : q ∈ L) (tq : τ q = 0) (p1 : Int32) (p2 : Int32) (hU : ∀ a ∈ L, ∀ b ∈ L, τ a = 3 → τ b = 3 → a = b) : tMi l E J yX9_cut cX9_cut 3 .int (gRm (6) 0 0) [.ref q, .int p1, .int p2] L f (tPi E L τ [19, 20, 21, 23, 24, 25, 26] f (fun r f1 => rg r (-2147483648) 2147483647)) := by
  refine tMi.intro (by decide) (Nat.le_of_ble_eq_true rfl) ?_
  intro p e s m below meth c A ls C hr hA hO hH hl
  have C : gC E cX9_cut 3 RX9 p s m _ meth c := C
  have hl : lv_has ls 3 [(0, .ref q), (1, .int p1), (2, .int p2)] := hl
  have hx := C.1
  have hb := C.2.1
  have hI := hI.S [19, 20, 21, 23, 24, 25, 26]
  obtain ⟨q_1, mq_1, tq_1, kq_1⟩ := t_fldr hI.1 mq tq td_0 (k := 1) rfl
  obtain ⟨q_6, mq_6, tq_6, kq_6⟩ := t_fldr hI.1 mq tq td_0 (k := 6) rfl
  refine lv_aload_n hx hb dX9_cut_0 rfl (lv_at hl 0 rfl) ?_
  refine t_getX C hH hI.1 mq tq td_0 iX9 rfl 1 (by decide) wd414 rfl (hI.rf kq_1) dX9_cut_1 ?_
  refine lv_iload_n hx hb dX9_cut_4 rfl (lv_at hl 1 rfl) ?_
  refine t_Vi C hO hl.1 hA hH hI.1 (As := [.int p1]) (rest := []) (t_hasMemberX l E J τ L f hI.1 mq_1 tq_1 p1) my_X3_hasMember wd418 mq_1 tq_1 td_3 rfl rfl rfl (Nat.le_of_ble_eq_true rfl) ⟨Nat.le_of_ble_eq_true rfl, Nat.le_of_ble_eq_true rfl⟩ ⟨rfl, rfl⟩ dX9_cut_5 (fun r2 L1 f1 H locs hp hH => ?_)
  obtain ⟨rfl, s3, h4⟩ := hp
  have hJ := hI
  have hI := hI.call s3 (by decide)
  refine lv_if_eq (tgt := 18) hx hb dX9_cut_8 (by decide) (fun c5 => ?_) (fun c5 => ?_)
  · skip
    have r6 : rg r2 0 0 := rf_eql (c_eq c5) h4.1 rl_0 (by decide)
    refine lv_bipush (v := (-2 : Int32)) hx hb dX9_cut_18 (by decide) ?_
    exact g_iret C hr hH (Nat.zero_le _) (Nat.zero_le _) dX9_cut_20 ⟨rfl, hI, (rg_w rl_m2 (by decide))⟩
  · skip
    have r7 : rg r2 1 1 := rf_nel (n_eq c5) h4.1 rl_0 (by decide)
    have r8 : rg p1 0 5 := h4.2.1 c5
    refine lv_iload_n hx hb dX9_cut_11 rfl (lv_at hl 2 rfl) ?_
    refine t_Si C hO hl.1 hA hH (As := [.int p2]) (rest := []) (t_X9_isFractionPart l E J τ L f1 hI.1 p2) my_X9_isFractionPart wd602 rfl rfl (Nat.le_of_ble_eq_true rfl) ⟨Nat.le_of_ble_eq_true rfl, Nat.le_of_ble_eq_true rfl⟩ ⟨rfl, rfl⟩ dX9_cut_12 (fun r10 L1 f9 H locs hp hH => ?_)
    obtain ⟨rfl, s11, h12⟩ := hp
    have hI := hI.call s11 (by decide)
    refine lv_if_ne (tgt := 21) hx hb dX9_cut_15 (by decide) (fun c13 => ?_) (fun c13 => ?_)
    · skip
      have r14 : rg r10 1 1 := rf_nel (n_eq c13) h12 rl_0 (by decide)
      refine lv_aload_n hx hb dX9_cut_21 rfl (lv_at hl 0 rfl) ?_
      refine t_getX C hH hI.1 mq tq td_0 iX9 rfl 6 (by decide) wd560 rfl (hI.rf kq_6) dX9_cut_22 ?_
      refine t_Vv C hO hl.1 hA hH hI.1 (As := []) (rest := []) (t_X4_learn l E J τ L f9 hI.1 mq_6 tq_6) my_X4_learn wd564 mq_6 tq_6 td_24 rfl rfl rfl (Nat.le_of_ble_eq_true rfl) ⟨Nat.le_of_ble_eq_true rfl, Nat.le_of_ble_eq_true rfl⟩ ⟨rfl, rfl⟩ dX9_cut_25 (fun L1 f15 H locs hp hH => ?_)
      obtain ⟨rfl, s17, h18⟩ := hp
      have hI := hI.call s17 (by decide)
      refine lv_aload_n hx hb dX9_cut_28 rfl (lv_at hl 0 rfl) ?_
      refine t_getX C hH hI.1 mq tq td_0 iX9 rfl 6 (by decide) wd560 rfl (hI.rf kq_6) dX9_cut_29 ?_
      refine lv_aload_n hx hb dX9_cut_32 rfl (lv_at hl 0 rfl) ?_
      refine t_getX C hH hI.1 mq tq td_0 iX9 rfl 1 (by decide) wd414 rfl (hI.rf kq_1) dX9_cut_33 ?_
      refine t_Vi C hO hl.1 hA hH hI.1 (As := []) (rest := [.ref q_6]) (t_X3_allMembers l E J τ L f15 hI.1 mq_1 tq_1) my_X3_allMembers wd444 mq_1 tq_1 td_3 rfl rfl rfl (Nat.le_of_ble_eq_true rfl) ⟨Nat.le_of_ble_eq_true rfl, Nat.le_of_ble_eq_true rfl⟩ ⟨rfl, rfl⟩ dX9_cut_36 (fun r20 L1 f19 H locs hp hH => ?_)
      obtain ⟨rfl, s21, h22⟩ := hp
      have hI := hI.call s21 (by decide)
      refine t_Vi C hO hl.1 hA hH hI.1 (As := [.int r20]) (rest := []) (t_X4_costOf l E J τ L f19 hI.1 mq_6 tq_6 r20) my_X4_costOf wd710 mq_6 tq_6 td_24 rfl rfl rfl (Nat.le_of_ble_eq_true rfl) ⟨Nat.le_of_ble_eq_true rfl, Nat.le_of_ble_eq_true rfl⟩ ⟨rfl, rfl⟩ dX9_cut_39 (fun r24 L1 f23 H locs hp hH => ?_)
      obtain ⟨rfl, s25, h26⟩ := hp
      have hI := hI.call s25 (by decide)
      refine lv_iconst (v := (-1 : Int32)) hx hb dX9_cut_42 (by decide) ?_
      refine lv_icmp_ne (tgt := 48) hx hb dX9_cut_43 (by decide) (fun c27 => ?_) (fun c27 => ?_)
      · skip
        refine lv_aload_n hx hb dX9_cut_48 rfl (lv_at hl 0 rfl) ?_
        refine t_getX C hH hI.1 mq tq td_0 iX9 rfl 6 (by decide) wd560 rfl (hI.rf kq_6) dX9_cut_49 ?_
        refine lv_iload_n hx hb dX9_cut_52 rfl (lv_at hl 1 rfl) ?_
        refine t_Vi C hO hl.1 hA hH hI.1 (As := [.int p1]) (rest := []) (t_X4_borneBy l E J τ L f23 hI.1 mq_6 tq_6 p1 r8 ((mOK.of hU mq_1 tq_1 (h4.2.2 c5)).S hI rfl)) my_X4_borneBy wd714 mq_6 tq_6 td_24 rfl rfl rfl (Nat.le_of_ble_eq_true rfl) ⟨Nat.le_of_ble_eq_true rfl, Nat.le_of_ble_eq_true rfl⟩ ⟨rfl, rfl⟩ dX9_cut_53 (fun r29 L1 f28 H locs hp hH => ?_)
        obtain ⟨rfl, s30, h31⟩ := hp
        have hI := hI.call s30 (by decide)
        refine lv_aload_n hx hb dX9_cut_56 rfl (lv_at hl 0 rfl) ?_
        refine t_getX C hH hI.1 mq tq td_0 iX9 rfl 6 (by decide) wd560 rfl (hI.rf kq_6) dX9_cut_57 ?_
        refine t_Vi C hO hl.1 hA hH hI.1 (As := []) (rest := [.int r29]) (t_X4_orders l E J τ L f28 hI.1 mq_6 tq_6) my_X4_orders wd718 mq_6 tq_6 td_24 rfl rfl rfl (Nat.le_of_ble_eq_true rfl) ⟨Nat.le_of_ble_eq_true rfl, Nat.le_of_ble_eq_true rfl⟩ ⟨rfl, rfl⟩ dX9_cut_60 (fun r33 L1 f32 H locs hp hH => ?_)
        obtain ⟨rfl, s34, h35⟩ := hp
        have hI := hI.call s34 (by decide)
        refine lv_iload_n hx hb dX9_cut_63 rfl (lv_at hl 2 rfl) ?_
        refine t_Si C hO hl.1 hA hH (As := [.int r29, .int r33, .int p2]) (rest := []) (t_X9_partOf l E J τ L f32 hI.1 r29 r33 p2) my_X9_partOf wd606 rfl rfl (Nat.le_of_ble_eq_true rfl) ⟨Nat.le_of_ble_eq_true rfl, Nat.le_of_ble_eq_true rfl⟩ ⟨rfl, rfl⟩ dX9_cut_64 (fun r37 L1 f36 H locs hp hH => ?_)
        obtain ⟨rfl, s38, h39⟩ := hp
        have hI := hI.call s38 (by decide)
        exact g_iret C hr hH (Nat.zero_le _) (Nat.zero_le _) dX9_cut_67 ⟨rfl, hI, h39⟩
      · skip
        have r40 : rg r24 (-1) (-1) := rf_eql (c_eq c27) h26 rl_m1 (by decide)
        refine lv_iconst (v := (-1 : Int32)) hx hb dX9_cut_46 (by decide) ?_
        exact g_iret C hr hH (Nat.zero_le _) (Nat.zero_le _) dX9_cut_47 ⟨rfl, hI, (rg_w rl_m1 (by decide))⟩
    · skip
      have r41 : rg r10 0 0 := rf_eql (c_eq c13) h12 rl_0 (by decide)
      refine lv_bipush (v := (-2 : Int32)) hx hb dX9_cut_18 (by decide) ?_
      exact g_iret C hr hH (Nat.zero_le _) (Nat.zero_le _) dX9_cut_20 ⟨rfl, hI, (rg_w rl_m2 (by decide))⟩
set_option maxHeartbeats 4000000 in
set_option maxRecDepth 100000 in
theorem t_X9_image (l : Launch) (E : gE) (J : Nat → Nat) (τ : Nat → Nat) (L : List Nat) (f : gF) (hI : tI E L τ f) {q : Nat} (mq : q ∈ L) (tq : τ q = 0) (p1 : Int32) : tMi l E J yX9_image cX9_image 2 .int (gRm (3) 0 0) [.ref q, .int p1] L f (tPi E L τ [4, 5, 6, 7, 8, 9, 10, 11, 12, 13, 34, 35] f (fun r f1 => rg r (-2) 0 ∧ (r = gImage p1))) := by
  refine tMi.intro (by decide) (Nat.le_of_ble_eq_true rfl) ?_
  intro p e s m below meth c A ls C hr hA hO hH hl
  have C : gC E cX9_image 2 RX9 p s m _ meth c := C
  have hl : lv_has ls 2 [(0, .ref q), (1, .int p1)] := hl
  have hx := C.1
  have hb := C.2.1
  have hI := hI.S [4, 5, 6, 7, 8, 9, 10, 11, 12, 13, 34, 35]
  obtain ⟨q_3, mq_3, tq_3, kq_3⟩ := t_fldr hI.1 mq tq td_0 (k := 3) rfl
  obtain ⟨q_1, mq_1, tq_1, kq_1⟩ := t_fldr hI.1 mq tq td_0 (k := 1) rfl
  obtain ⟨q_10, mq_10, tq_10, kq_10⟩ := t_fldr hI.1 mq tq td_0 (k := 10) rfl
  refine lv_iload_n hx hb dX9_image_0 rfl (lv_at hl 1 rfl) ?_
  refine lv_if_lt (tgt := 9) hx hb dX9_image_1 (by decide) (fun c1 => ?_) (fun c1 => ?_)
  · skip
    have r2 : rg p1 (-2147483648) (-1) := rf_ltl (c_lt c1) (rg_all _) rl_0 (by decide)
    refine lv_bipush (v := (-2 : Int32)) hx hb dX9_image_9 (by decide) ?_
    exact g_iret C hr hH (Nat.zero_le _) (Nat.zero_le _) dX9_image_11 ⟨rfl, hI, ⟨(rg_w rl_m2 (by decide)), (by rw [gImage, if_pos c1])⟩⟩
  · skip
    have r3 : rg p1 0 2147483647 := rf_ler (n_lt c1) rl_0 (rg_all _) (by decide)
    refine lv_iload_n hx hb dX9_image_4 rfl (lv_at hl 1 rfl) ?_
    refine lv_iconst (v := (3 : Int32)) hx hb dX9_image_5 (by decide) ?_
    refine lv_icmp_lt (tgt := 12) hx hb dX9_image_6 (by decide) (fun c4 => ?_) (fun c4 => ?_)
    · skip
      have r5 : rg p1 0 2 := rf_ltl (c_lt c4) r3 rl_3 (by decide)
      refine lv_aload_n hx hb dX9_image_12 rfl (lv_at hl 0 rfl) ?_
      refine t_getX C hH hI.1 mq tq td_0 iX9 rfl 3 (by decide) wd719 rfl (hI.rf kq_3) dX9_image_13 ?_
      refine lv_iload_n hx hb dX9_image_16 rfl (lv_at hl 1 rfl) ?_
      refine t_aald C hH hI.1 mq_3 tq_3 td_15 rfl (rg_in r5 (by decide)) dX9_image_17 (fun q6 mq6 tq6 => ?_)
      refine lv_aload_n hx hb dX9_image_18 rfl (lv_at hl 0 rfl) ?_
      refine t_getX C hH hI.1 mq tq td_0 iX9 rfl 1 (by decide) wd414 rfl (hI.rf kq_1) dX9_image_19 ?_
      refine t_Vv C hO hl.1 hA hH hI.1 (As := [.ref q_1]) (rest := []) (t_become_d l E J τ L f hI.1 mq6 tq6 mq_1 tq_1) my_X3_become wd701 mq6 tq6 td_35 rfl rfl rfl (Nat.le_of_ble_eq_true rfl) ⟨Nat.le_of_ble_eq_true rfl, Nat.le_of_ble_eq_true rfl⟩ ⟨rfl, rfl⟩ dX9_image_22 (fun L1 f7 H locs hp hH => ?_)
      obtain ⟨rfl, s9, h10⟩ := hp
      have hI := hI.call s9 (by decide)
      refine lv_aload_n hx hb dX9_image_25 rfl (lv_at hl 0 rfl) ?_
      refine t_getX C hH hI.1 mq tq td_0 iX9 rfl 10 (by decide) wd720 rfl (hI.rf kq_10) dX9_image_26 ?_
      refine lv_iload_n hx hb dX9_image_29 rfl (lv_at hl 1 rfl) ?_
      refine lv_iconst (v := (1 : Int32)) hx hb dX9_image_30 (by decide) ?_
      refine t_zast C hH hI mq_10 tq_10 (by decide) td_34 (rg_in r5 (by decide)) dX9_image_31 (fun f11 H locs hH hI bf11 uf11 => ?_)
      refine lv_iconst (v := (0 : Int32)) hx hb dX9_image_32 (by decide) ?_
      exact g_iret C hr hH (Nat.zero_le _) (Nat.zero_le _) dX9_image_33 ⟨rfl, hI, ⟨(rg_w rl_0 (by decide)), (by rw [gImage, if_neg c1, if_pos c4])⟩⟩
    · skip
      have r12 : rg p1 3 2147483647 := rf_ler (n_lt c4) rl_3 r3 (by decide)
      refine lv_bipush (v := (-2 : Int32)) hx hb dX9_image_9 (by decide) ?_
      exact g_iret C hr hH (Nat.zero_le _) (Nat.zero_le _) dX9_image_11 ⟨rfl, hI, ⟨(rg_w rl_m2 (by decide)), (by rw [gImage, if_neg c1, if_neg c4])⟩⟩
set_option maxHeartbeats 4000000 in
set_option maxRecDepth 100000 in
theorem t_X9_back (l : Launch) (E : gE) (J : Nat → Nat) (τ : Nat → Nat) (L : List Nat) (f : gF) (hI : tI E L τ f) {q : Nat} (mq : q ∈ L) (tq : τ q = 0) (p1 : Int32) : tMi l E J yX9_back cX9_back 2 .int (gRm (3) 0 0) [.ref q, .int p1] L f (tPi E L τ [3, 4, 5, 6, 7, 8, 9, 10, 11, 12, 13, 24] f (fun r f1 => rg r (-2147483648) 2147483647)) := by
  refine tMi.intro (by decide) (Nat.le_of_ble_eq_true rfl) ?_
  intro p e s m below meth c A ls C hr hA hO hH hl
  have C : gC E cX9_back 2 RX9 p s m _ meth c := C
  have hl : lv_has ls 2 [(0, .ref q), (1, .int p1)] := hl
  have hx := C.1
  have hb := C.2.1
  have hI := hI.S [3, 4, 5, 6, 7, 8, 9, 10, 11, 12, 13, 24]
  obtain ⟨q_10, mq_10, tq_10, kq_10⟩ := t_fldr hI.1 mq tq td_0 (k := 10) rfl
  obtain ⟨q_1, mq_1, tq_1, kq_1⟩ := t_fldr hI.1 mq tq td_0 (k := 1) rfl
  obtain ⟨q_3, mq_3, tq_3, kq_3⟩ := t_fldr hI.1 mq tq td_0 (k := 3) rfl
  obtain ⟨q_6, mq_6, tq_6, kq_6⟩ := t_fldr hI.1 mq tq td_0 (k := 6) rfl
  refine lv_iload_n hx hb dX9_back_0 rfl (lv_at hl 1 rfl) ?_
  refine lv_if_lt (tgt := 9) hx hb dX9_back_1 (by decide) (fun c1 => ?_) (fun c1 => ?_)
  · skip
    have r2 : rg p1 (-2147483648) (-1) := rf_ltl (c_lt c1) (rg_all _) rl_0 (by decide)
    refine lv_bipush (v := (-2 : Int32)) hx hb dX9_back_9 (by decide) ?_
    exact g_iret C hr hH (Nat.zero_le _) (Nat.zero_le _) dX9_back_11 ⟨rfl, hI, (rg_w rl_m2 (by decide))⟩
  · skip
    have r3 : rg p1 0 2147483647 := rf_ler (n_lt c1) rl_0 (rg_all _) (by decide)
    refine lv_iload_n hx hb dX9_back_4 rfl (lv_at hl 1 rfl) ?_
    refine lv_iconst (v := (3 : Int32)) hx hb dX9_back_5 (by decide) ?_
    refine lv_icmp_lt (tgt := 12) hx hb dX9_back_6 (by decide) (fun c4 => ?_) (fun c4 => ?_)
    · skip
      have r5 : rg p1 0 2 := rf_ltl (c_lt c4) r3 rl_3 (by decide)
      refine lv_aload_n hx hb dX9_back_12 rfl (lv_at hl 0 rfl) ?_
      refine t_getX C hH hI.1 mq tq td_0 iX9 rfl 10 (by decide) wd720 rfl (hI.rf kq_10) dX9_back_13 ?_
      refine lv_iload_n hx hb dX9_back_16 rfl (lv_at hl 1 rfl) ?_
      refine t_zald C hH hI.1 mq_10 tq_10 td_34 (rg_in r5 (by decide)) dX9_back_17 (fun z6v az6 => ?_)
      refine lv_topi (fun z6 ez6 => ?_)
      refine lv_if_ne (tgt := 24) hx hb dX9_back_18 (by decide) (fun c7 => ?_) (fun c7 => ?_)
      · skip
        refine lv_aload_n hx hb dX9_back_24 rfl (lv_at hl 0 rfl) ?_
        refine t_getX C hH hI.1 mq tq td_0 iX9 rfl 1 (by decide) wd414 rfl (hI.rf kq_1) dX9_back_25 ?_
        refine lv_aload_n hx hb dX9_back_28 rfl (lv_at hl 0 rfl) ?_
        refine t_getX C hH hI.1 mq tq td_0 iX9 rfl 3 (by decide) wd719 rfl (hI.rf kq_3) dX9_back_29 ?_
        refine lv_iload_n hx hb dX9_back_32 rfl (lv_at hl 1 rfl) ?_
        refine t_aald C hH hI.1 mq_3 tq_3 td_15 rfl (rg_in r5 (by decide)) dX9_back_33 (fun q8 mq8 tq8 => ?_)
        refine t_Vv C hO hl.1 hA hH hI.1 (As := [.ref q8]) (rest := []) (t_X3_become l E J τ L f hI.1 mq_1 tq_1 mq8 tq8) my_X3_become wd701 mq_1 tq_1 td_3 rfl rfl rfl (Nat.le_of_ble_eq_true rfl) ⟨Nat.le_of_ble_eq_true rfl, Nat.le_of_ble_eq_true rfl⟩ ⟨rfl, rfl⟩ dX9_back_34 (fun L1 f9 H locs hp hH => ?_)
        obtain ⟨rfl, s11, h12⟩ := hp
        have hI := hI.call s11 (by decide)
        refine lv_aload_n hx hb dX9_back_37 rfl (lv_at hl 0 rfl) ?_
        refine t_getX C hH hI.1 mq tq td_0 iX9 rfl 6 (by decide) wd560 rfl (hI.rf kq_6) dX9_back_38 ?_
        refine t_Vv C hO hl.1 hA hH hI.1 (As := []) (rest := []) (t_X4_forget l E J τ L f9 hI.1 mq_6 tq_6) my_X4_forget wd688 mq_6 tq_6 td_24 rfl rfl rfl (Nat.le_of_ble_eq_true rfl) ⟨Nat.le_of_ble_eq_true rfl, Nat.le_of_ble_eq_true rfl⟩ ⟨rfl, rfl⟩ dX9_back_41 (fun L1 f13 H locs hp hH => ?_)
        obtain ⟨rfl, s15, h16⟩ := hp
        have hI := hI.call s15 (by decide)
        refine lv_iconst (v := (0 : Int32)) hx hb dX9_back_44 (by decide) ?_
        exact g_iret C hr hH (Nat.zero_le _) (Nat.zero_le _) dX9_back_45 ⟨rfl, hI, (rg_w rl_0 (by decide))⟩
      · skip
        have r17 : rg z6 0 0 := rf_eql (c_eq c7) (rg_all _) rl_0 (by decide)
        refine lv_bipush (v := (-6 : Int32)) hx hb dX9_back_21 (by decide) ?_
        exact g_iret C hr hH (Nat.zero_le _) (Nat.zero_le _) dX9_back_23 ⟨rfl, hI, (rg_w rl_m6 (by decide))⟩
    · skip
      have r18 : rg p1 3 2147483647 := rf_ler (n_lt c4) rl_3 r3 (by decide)
      refine lv_bipush (v := (-2 : Int32)) hx hb dX9_back_9 (by decide) ?_
      exact g_iret C hr hH (Nat.zero_le _) (Nat.zero_le _) dX9_back_11 ⟨rfl, hI, (rg_w rl_m2 (by decide))⟩
set_option maxHeartbeats 4000000 in
set_option maxRecDepth 100000 in
theorem t_fill_18 (l : Launch) (E : gE) (J : Nat → Nat) (τ : Nat → Nat) (L : List Nat) (f : gF) (hI : tI E L τ f) {q : Nat} (mq : q ∈ L) (tq : τ q = 18) (p1 : Int64) : tMv l E J yJ7_fill_d0a16 cJ7_fill_d0a16 5 (gRm (1) 0 0) [.ref q, .long p1] L f (tPv E L τ [18] f (fun f1 => True)) := by
  refine tMv.intro (by decide) (Nat.le_of_ble_eq_true rfl) ?_
  intro p e s m below meth c A ls C hr hA hO hH hl
  have C : gC E cJ7_fill_d0a16 5 "java/util/Arrays" p s m _ meth c := C
  have hl : lv_has ls 5 [(0, .ref q), (1, .long p1)] := hl
  have hx := C.1
  have hb := C.2.1
  have hI := hI.S [18]
  have cut6 : ∀ (n : Nat) (fh6 : gF) (H : Heap) (locs : List Loc) (ls : Array Slot) (v6_3 : Int32), 60 - v6_3.toInt < (n : Int) → tS E L τ [18] f fh6 → gH E A L fh6 s.heap H locs → rg v6_3 0 60 → lv_has ls 5 [(0, .ref q), (1, .long p1), (3, .int v6_3), (4, .int (60 : Int32))] → W p l e (gRm (1) 0 0) s m [.ref q, .long p1].toArray below meth c H locs 0 0 (MQ below (gQv E A (tPv E L τ [18] f (fun f1 => True))) [.ref q, .long p1].toArray s (gRm (1) 0 0).cells (gRm (1) 0 0).slots A) (F0 m 6 ls []) := by
    intro n
    induction n with
    | zero =>
      intro fh6 H locs ls v6_3 hfu6 hI hH r_v6_3 hl
      exact (fu_0 hfu6 r_v6_3).elim
    | succ n ih6 =>
      intro fh6 H locs ls v6_3 hfu6 hI hH r_v6_3 hl
      refine lv_iload_n hx hb dJ7_fill_d0a16_6 rfl (lv_at hl 2 rfl) ?_
      refine lv_iload hx hb dJ7_fill_d0a16_7 (lv_at hl 3 rfl) ?_
      refine lv_icmp_ge (tgt := 22) hx hb dJ7_fill_d0a16_9 (by decide) (fun c1 => ?_) (fun c1 => ?_)
      · skip
        have r2 : rg v6_3 60 60 := rf_ler (c_le c1) rl_60 r_v6_3 (by decide)
        exact g_vret C hr hH (Nat.zero_le _) (Nat.zero_le _) dJ7_fill_d0a16_22 ⟨rfl, hI, trivial⟩
      · skip
        have r3 : rg v6_3 0 59 := rf_ltl (n_le c1) r_v6_3 rl_60 (by decide)
        refine lv_aload_n hx hb dJ7_fill_d0a16_12 rfl (lv_at hl 0 rfl) ?_
        refine lv_iload_n hx hb dJ7_fill_d0a16_13 rfl (lv_at hl 2 rfl) ?_
        refine lv_lload_n hx hb dJ7_fill_d0a16_14 rfl (lv_at hl 1 rfl) ?_
        refine t_last C hH hI mq tq (by decide) td_18 (rg_in r3 (by decide)) dJ7_fill_d0a16_15 (fun f4 H locs hH hI bf4 => ?_)
        obtain ⟨z5, ez5⟩ : ∃ y : Int32, y = v6_3 + (1 : Int32) := ⟨_, rfl⟩
        have r6 : rg z5 1 60 := rg_add ez5 r3 rl_1 (by decide)
        have a7 : z5.toInt = v6_3.toInt + 1 := ai_add ez5 r3 tl_1 (by decide)
        refine lv_iinc (v := z5) (lv' := [(3, .int z5), (0, .ref q), (1, .long p1), (4, .int (60 : Int32))]) hx hb dJ7_fill_d0a16_16 hl (k := 2) rfl (by rw [ez5]; rfl) (by decide) rfl (fun ls hl => ?_)
        refine lv_goto (tgt := 6) hx hb dJ7_fill_d0a16_19 (by decide) ?_
        exact ih6 _ _ _ _ z5 (fu_s hfu6 a7 (by decide)) hI hH (rg_w r6 (by decide)) (lv_sub hl [1, 2, 0, 3] rfl)
  refine lv_iconst (v := (0 : Int32)) hx hb dJ7_fill_d0a16_0 (by decide) ?_
  refine lv_istore_n (lv' := [(3, .int (0 : Int32)), (0, .ref q), (1, .long p1)]) hx hb dJ7_fill_d0a16_1 rfl hl (by decide) rfl (fun ls hl => ?_)
  refine lv_aload_n hx hb dJ7_fill_d0a16_2 rfl (lv_at hl 1 rfl) ?_
  refine t_alenJ C hH hI.1 mq tq td_18 (v := (60 : Int32)) rfl dJ7_fill_d0a16_3 ?_
  refine lv_istore (lv' := [(4, .int (60 : Int32)), (3, .int (0 : Int32)), (0, .ref q), (1, .long p1)]) hx hb dJ7_fill_d0a16_4 hl (by decide) rfl (fun ls hl => ?_)
  exact cut6 61 _ _ _ _ (0 : Int32) (fu_i 61 rl_0 (by decide)) hI hH (rg_w rl_0 (by decide)) (lv_sub hl [2, 3, 1, 0] rfl)
set_option maxHeartbeats 4000000 in
set_option maxRecDepth 100000 in
theorem t_X6_begin (l : Launch) (E : gE) (J : Nat → Nat) (τ : Nat → Nat) (L : List Nat) (f : gF) (hI : tI E L τ f) {q : Nat} (mq : q ∈ L) (tq : τ q = 17) (p1 : Int32) (rp1 : rg p1 0 3) (p2 : Int32) (rp2 : rg p2 0 60) : tMv l E J yX6_begin cX6_begin 3 (gRm (2) 0 0) [.ref q, .int p1, .int p2] L f (tPv E L τ [17, 18] f (fun f1 => True)) := by
  refine tMv.intro (by decide) (Nat.le_of_ble_eq_true rfl) ?_
  intro p e s m below meth c A ls C hr hA hO hH hl
  have C : gC E cX6_begin 3 RX6 p s m _ meth c := C
  have hl : lv_has ls 3 [(0, .ref q), (1, .int p1), (2, .int p2)] := hl
  have hx := C.1
  have hb := C.2.1
  have hI := hI.S [17, 18]
  obtain ⟨q_0, mq_0, tq_0, kq_0⟩ := t_fldr hI.1 mq tq td_17 (k := 0) rfl
  refine lv_aload_n hx hb dX6_begin_0 rfl (lv_at hl 0 rfl) ?_
  refine lv_iload_n hx hb dX6_begin_1 rfl (lv_at hl 1 rfl) ?_
  refine t_put C hH hI mq tq (by decide) td_17 iX6 tyX6 tyX6_ok nmX6 rfl 1 (by decide) wd82 rfl rfl (v := .int p1) rfl rfl rfl ⟨_, rfl, (rg_w rp1 (by decide))⟩ (fun _ h => nomatch h) dX6_begin_2 (fun f1 H locs hH hI nf1 of1 bf1 => ?_)
  refine lv_aload_n hx hb dX6_begin_5 rfl (lv_at hl 0 rfl) ?_
  refine lv_iload_n hx hb dX6_begin_6 rfl (lv_at hl 2 rfl) ?_
  refine t_put C hH hI mq tq (by decide) td_17 iX6 tyX6 tyX6_ok nmX6 rfl 2 (by decide) wd84 rfl rfl (v := .int p2) rfl rfl rfl ⟨_, rfl, rp2⟩ (fun _ h => nomatch h) dX6_begin_7 (fun f2 H locs hH hI nf2 of2 bf2 => ?_)
  refine lv_aload_n hx hb dX6_begin_10 rfl (lv_at hl 0 rfl) ?_
  refine t_getX C hH hI.1 mq tq td_17 iX6 rfl 0 (by decide) wd83 rfl (hI.rf kq_0) dX6_begin_11 ?_
  refine lv_lconst (v := (0 : Int64)) hx hb dX6_begin_14 (by decide) ?_
  refine t_Sv C hO hl.1 hA hH (As := [.ref q_0, .long (0 : Int64)]) (rest := []) (t_fill_18 l E J τ L f2 hI.1 mq_0 tq_0 ((0 : Int64))) my_J7_fill_d0a16 wd723 rfl rfl (Nat.le_of_ble_eq_true rfl) ⟨Nat.le_of_ble_eq_true rfl, Nat.le_of_ble_eq_true rfl⟩ ⟨rfl, rfl⟩ dX6_begin_15 (fun L1 f3 H locs hp hH => ?_)
  obtain ⟨rfl, s5, h6⟩ := hp
  have hI := hI.call s5 (by decide)
  exact g_vret C hr hH (Nat.zero_le _) (Nat.zero_le _) dX6_begin_18 ⟨rfl, hI, trivial⟩
set_option maxHeartbeats 4000000 in
set_option maxRecDepth 100000 in
theorem t_isSlotX (l : Launch) (E : gE) (J : Nat → Nat) (τ : Nat → Nat) (L : List Nat) (f : gF) (hI : tI E L τ f) (p0 : Int32) : tMi l E J yX9_isSlot cX9_isSlot 1 .boolean (gRm (1) 0 0) [.int p0] L f (tPi E L τ [] f (fun r f1 => rg r 0 1 ∧ (¬ r = 0 → rg p0 0 3) ∧ (r = gSlot p0))) := by
  refine tMi.intro (by decide) (Nat.le_of_ble_eq_true rfl) ?_
  intro p e s m below meth c A ls C hr hA hO hH hl
  have C : gC E cX9_isSlot 1 RX9 p s m _ meth c := C
  have hl : lv_has ls 1 [(0, .int p0)] := hl
  have hx := C.1
  have hb := C.2.1
  have hI := hI.S []
  refine lv_iload_n hx hb dX9_isSlot_0 rfl (lv_at hl 0 rfl) ?_
  refine lv_if_lt (tgt := 13) hx hb dX9_isSlot_1 (by decide) (fun c1 => ?_) (fun c1 => ?_)
  · skip
    have r2 : rg p0 (-2147483648) (-1) := rf_ltl (c_lt c1) (rg_all _) rl_0 (by decide)
    refine lv_iconst (v := (0 : Int32)) hx hb dX9_isSlot_13 (by decide) ?_
    exact g_zret C hr (rg_z (rg_w rl_0 (by decide))) hH (Nat.zero_le _) (Nat.zero_le _) dX9_isSlot_14 ⟨rfl, hI, ⟨(rg_w rl_0 (by decide)), (fun h => absurd rfl h), (by rw [gSlot, if_pos c1])⟩⟩
  · skip
    have r3 : rg p0 0 2147483647 := rf_ler (n_lt c1) rl_0 (rg_all _) (by decide)
    refine lv_iload_n hx hb dX9_isSlot_4 rfl (lv_at hl 0 rfl) ?_
    refine lv_iconst (v := (4 : Int32)) hx hb dX9_isSlot_5 (by decide) ?_
    refine lv_icmp_ge (tgt := 13) hx hb dX9_isSlot_6 (by decide) (fun c4 => ?_) (fun c4 => ?_)
    · skip
      have r5 : rg p0 4 2147483647 := rf_ler (c_le c4) rl_4 r3 (by decide)
      refine lv_iconst (v := (0 : Int32)) hx hb dX9_isSlot_13 (by decide) ?_
      exact g_zret C hr (rg_z (rg_w rl_0 (by decide))) hH (Nat.zero_le _) (Nat.zero_le _) dX9_isSlot_14 ⟨rfl, hI, ⟨(rg_w rl_0 (by decide)), (fun h => absurd rfl h), (by rw [gSlot, if_neg c1, if_pos c4])⟩⟩
    · skip
      have r6 : rg p0 0 3 := rf_ltl (n_le c4) r3 rl_4 (by decide)
      refine lv_iconst (v := (1 : Int32)) hx hb dX9_isSlot_9 (by decide) ?_
      refine lv_goto (tgt := 14) hx hb dX9_isSlot_10 (by decide) ?_
      exact g_zret C hr (rg_z (rg_w rl_1 (by decide))) hH (Nat.zero_le _) (Nat.zero_le _) dX9_isSlot_14 ⟨rfl, hI, ⟨(rg_w rl_1 (by decide)), (fun _ => r6), (by rw [gSlot, if_neg c1, if_neg c4])⟩⟩
set_option maxHeartbeats 4000000 in
set_option maxRecDepth 100000 in
theorem t_X9_row (l : Launch) (E : gE) (J : Nat → Nat) (τ : Nat → Nat) (L : List Nat) (f : gF) (hI : tI E L τ f) {q : Nat} (mq : q ∈ L) (tq : τ q = 0) (p1 : Int32) (p2 : Int32) (p3 : Int32) : tMi l E J yX9_row cX9_row 4 .int (gRm (3) 0 0) [.ref q, .int p1, .int p2, .int p3] L f (tPi E L τ [17, 18] f (fun r f1 => rg r (-3) 0 ∧ (r = gRow p1 p2 p3))) := by
  refine tMi.intro (by decide) (Nat.le_of_ble_eq_true rfl) ?_
  intro p e s m below meth c A ls C hr hA hO hH hl
  have C : gC E cX9_row 4 RX9 p s m _ meth c := C
  have hl : lv_has ls 4 [(0, .ref q), (1, .int p1), (2, .int p2), (3, .int p3)] := hl
  have hx := C.1
  have hb := C.2.1
  have hI := hI.S [17, 18]
  obtain ⟨q_4, mq_4, tq_4, kq_4⟩ := t_fldr hI.1 mq tq td_0 (k := 4) rfl
  refine lv_iload_n hx hb dX9_row_0 rfl (lv_at hl 1 rfl) ?_
  refine t_Si C hO hl.1 hA hH (As := [.int p1]) (rest := []) (t_isSlotX l E J τ L f hI.1 p1) my_X9_isSlot wd472 rfl rfl (Nat.le_of_ble_eq_true rfl) ⟨Nat.le_of_ble_eq_true rfl, Nat.le_of_ble_eq_true rfl⟩ ⟨rfl, rfl⟩ dX9_row_1 (fun r2 L1 f1 H locs hp hH => ?_)
  obtain ⟨rfl, s3, h4⟩ := hp
  have hJ := hI
  have hI := hI.call s3 (by decide)
  refine lv_if_eq (tgt := 22) hx hb dX9_row_4 (by decide) (fun c5 => ?_) (fun c5 => ?_)
  · skip
    have r6 : rg r2 0 0 := rf_eql (c_eq c5) h4.1 rl_0 (by decide)
    refine lv_bipush (v := (-2 : Int32)) hx hb dX9_row_22 (by decide) ?_
    exact g_iret C hr hH (Nat.zero_le _) (Nat.zero_le _) dX9_row_24 ⟨rfl, hI, ⟨(rg_w rl_m2 (by decide)), (by rw [gRow, if_pos (by rw [← h4.2.2]; exact c5)])⟩⟩
  · skip
    have r7 : rg r2 1 1 := rf_nel (n_eq c5) h4.1 rl_0 (by decide)
    have r8 : rg p1 0 3 := h4.2.1 c5
    refine lv_iload_n hx hb dX9_row_7 rfl (lv_at hl 2 rfl) ?_
    refine lv_if_lt (tgt := 22) hx hb dX9_row_8 (by decide) (fun c9 => ?_) (fun c9 => ?_)
    · skip
      have r10 : rg p2 (-2147483648) (-1) := rf_ltl (c_lt c9) (rg_all _) rl_0 (by decide)
      refine lv_bipush (v := (-2 : Int32)) hx hb dX9_row_22 (by decide) ?_
      exact g_iret C hr hH (Nat.zero_le _) (Nat.zero_le _) dX9_row_24 ⟨rfl, hI, ⟨(rg_w rl_m2 (by decide)), (by rw [gRow, if_neg (by rw [← h4.2.2]; exact c5), if_pos c9])⟩⟩
    · skip
      have r11 : rg p2 0 2147483647 := rf_ler (n_lt c9) rl_0 (rg_all _) (by decide)
      refine lv_iload_n hx hb dX9_row_11 rfl (lv_at hl 2 rfl) ?_
      refine lv_iconst (v := (4 : Int32)) hx hb dX9_row_12 (by decide) ?_
      refine lv_icmp_ge (tgt := 22) hx hb dX9_row_13 (by decide) (fun c12 => ?_) (fun c12 => ?_)
      · skip
        have r13 : rg p2 4 2147483647 := rf_ler (c_le c12) rl_4 r11 (by decide)
        refine lv_bipush (v := (-2 : Int32)) hx hb dX9_row_22 (by decide) ?_
        exact g_iret C hr hH (Nat.zero_le _) (Nat.zero_le _) dX9_row_24 ⟨rfl, hI, ⟨(rg_w rl_m2 (by decide)), (by rw [gRow, if_neg (by rw [← h4.2.2]; exact c5), if_neg c9, if_pos c12])⟩⟩
      · skip
        have r14 : rg p2 0 3 := rf_ltl (n_le c12) r11 rl_4 (by decide)
        refine lv_iload_n hx hb dX9_row_16 rfl (lv_at hl 3 rfl) ?_
        refine lv_bipush (v := (60 : Int32)) hx hb dX9_row_17 (by decide) ?_
        refine lv_icmp_le (tgt := 25) hx hb dX9_row_19 (by decide) (fun c15 => ?_) (fun c15 => ?_)
        · skip
          have r16 : rg p3 (-2147483648) 60 := rf_lel (c_le c15) (rg_all _) rl_60 (by decide)
          refine lv_iload_n hx hb dX9_row_25 rfl (lv_at hl 3 rfl) ?_
          refine lv_if_ge (tgt := 32) hx hb dX9_row_26 (by decide) (fun c17 => ?_) (fun c17 => ?_)
          · skip
            have r18 : rg p3 0 60 := rf_ler (c_le c17) rl_0 r16 (by decide)
            refine lv_aload_n hx hb dX9_row_32 rfl (lv_at hl 0 rfl) ?_
            refine t_getX C hH hI.1 mq tq td_0 iX9 rfl 4 (by decide) wd419 rfl (hI.rf kq_4) dX9_row_33 ?_
            refine lv_iload_n hx hb dX9_row_36 rfl (lv_at hl 1 rfl) ?_
            refine t_aald C hH hI.1 mq_4 tq_4 td_16 rfl (rg_in r8 (by decide)) dX9_row_37 (fun q19 mq19 tq19 => ?_)
            refine lv_iload_n hx hb dX9_row_38 rfl (lv_at hl 2 rfl) ?_
            refine lv_iload_n hx hb dX9_row_39 rfl (lv_at hl 3 rfl) ?_
            refine t_Vv C hO hl.1 hA hH hI.1 (As := [.int p2, .int p3]) (rest := []) (t_X6_begin l E J τ L f1 hI.1 mq19 tq19 p2 r14 p3 r18) my_X6_begin wd727 mq19 tq19 td_17 rfl rfl rfl (Nat.le_of_ble_eq_true rfl) ⟨Nat.le_of_ble_eq_true rfl, Nat.le_of_ble_eq_true rfl⟩ ⟨rfl, rfl⟩ dX9_row_40 (fun L1 f20 H locs hp hH => ?_)
            obtain ⟨rfl, s22, h23⟩ := hp
            have hI := hI.call s22 (by decide)
            refine lv_iconst (v := (0 : Int32)) hx hb dX9_row_43 (by decide) ?_
            exact g_iret C hr hH (Nat.zero_le _) (Nat.zero_le _) dX9_row_44 ⟨rfl, hI, ⟨(rg_w rl_0 (by decide)), (by rw [gRow, if_neg (by rw [← h4.2.2]; exact c5), if_neg c9, if_neg c12, if_pos c15, if_pos c17])⟩⟩
          · skip
            have r24 : rg p3 (-2147483648) (-1) := rf_ltl (n_le c17) r16 rl_0 (by decide)
            refine lv_bipush (v := (-3 : Int32)) hx hb dX9_row_29 (by decide) ?_
            exact g_iret C hr hH (Nat.zero_le _) (Nat.zero_le _) dX9_row_31 ⟨rfl, hI, ⟨(rg_w rl_m3 (by decide)), (by rw [gRow, if_neg (by rw [← h4.2.2]; exact c5), if_neg c9, if_neg c12, if_pos c15, if_neg c17])⟩⟩
        · skip
          have r25 : rg p3 61 2147483647 := rf_ltr (n_le c15) rl_60 (rg_all _) (by decide)
          refine lv_bipush (v := (-2 : Int32)) hx hb dX9_row_22 (by decide) ?_
          exact g_iret C hr hH (Nat.zero_le _) (Nat.zero_le _) dX9_row_24 ⟨rfl, hI, ⟨(rg_w rl_m2 (by decide)), (by rw [gRow, if_neg (by rw [← h4.2.2]; exact c5), if_neg c9, if_neg c12, if_neg c15])⟩⟩
set_option maxHeartbeats 4000000 in
set_option maxRecDepth 100000 in
theorem t_X9_write (l : Launch) (E : gE) (J : Nat → Nat) (τ : Nat → Nat) (L : List Nat) (f : gF) (hI : tI E L τ f) {q : Nat} (mq : q ∈ L) (tq : τ q = 0) (p1 : Int32) (p2 : Int32) (p3 : Int64) : tMi l E J yX9_write cX9_write 6 .int (gRm (2) 0 0) [.ref q, .int p1, .int p2, .long p3] L f (tPi E L τ [18] f (fun r f1 => rg r (-2147483648) 2147483647)) := by
  refine tMi.intro (by decide) (Nat.le_of_ble_eq_true rfl) ?_
  intro p e s m below meth c A ls C hr hA hO hH hl
  have C : gC E cX9_write 6 RX9 p s m _ meth c := C
  have hl : lv_has ls 6 [(0, .ref q), (1, .int p1), (2, .int p2), (3, .long p3)] := hl
  have hx := C.1
  have hb := C.2.1
  have hI := hI.S [18]
  obtain ⟨q_4, mq_4, tq_4, kq_4⟩ := t_fldr hI.1 mq tq td_0 (k := 4) rfl
  refine lv_iload_n hx hb dX9_write_0 rfl (lv_at hl 1 rfl) ?_
  refine t_Si C hO hl.1 hA hH (As := [.int p1]) (rest := []) (t_X9_isSlot l E J τ L f hI.1 p1) my_X9_isSlot wd472 rfl rfl (Nat.le_of_ble_eq_true rfl) ⟨Nat.le_of_ble_eq_true rfl, Nat.le_of_ble_eq_true rfl⟩ ⟨rfl, rfl⟩ dX9_write_1 (fun r2 L1 f1 H locs hp hH => ?_)
  obtain ⟨rfl, s3, h4⟩ := hp
  have hI := hI.call s3 (by decide)
  refine lv_if_ne (tgt := 10) hx hb dX9_write_4 (by decide) (fun c5 => ?_) (fun c5 => ?_)
  · skip
    have r6 : rg r2 1 1 := rf_nel (n_eq c5) h4.1 rl_0 (by decide)
    have r7 : rg p1 0 3 := h4.2 c5
    refine lv_aload_n hx hb dX9_write_10 rfl (lv_at hl 0 rfl) ?_
    refine t_getX C hH hI.1 mq tq td_0 iX9 rfl 4 (by decide) wd419 rfl (hI.rf kq_4) dX9_write_11 ?_
    refine lv_iload_n hx hb dX9_write_14 rfl (lv_at hl 1 rfl) ?_
    refine t_aald C hH hI.1 mq_4 tq_4 td_16 rfl (rg_in r7 (by decide)) dX9_write_15 (fun q8 mq8 tq8 => ?_)
    refine lv_astore (lv' := [(5, .ref q8), (0, .ref q), (1, .int p1), (2, .int p2), (3, .long p3)]) hx hb dX9_write_16 hl (by decide) rfl (fun ls hl => ?_)
    refine lv_aload hx hb dX9_write_18 (lv_at hl 0 rfl) ?_
    refine t_Vi C hO hl.1 hA hH hI.1 (As := []) (rest := []) (t_X6_isNothing l E J τ L f1 hI.1 mq8 tq8) my_X6_isNothing wd424 mq8 tq8 td_17 rfl rfl rfl (Nat.le_of_ble_eq_true rfl) ⟨Nat.le_of_ble_eq_true rfl, Nat.le_of_ble_eq_true rfl⟩ ⟨rfl, rfl⟩ dX9_write_20 (fun r10 L1 f9 H locs hp hH => ?_)
    obtain ⟨rfl, s11, h12⟩ := hp
    have hI := hI.call s11 (by decide)
    refine lv_if_eq (tgt := 29) hx hb dX9_write_23 (by decide) (fun c13 => ?_) (fun c13 => ?_)
    · skip
      have r14 : rg r10 0 0 := rf_eql (c_eq c13) h12 rl_0 (by decide)
      refine lv_iload_n hx hb dX9_write_29 rfl (lv_at hl 3 rfl) ?_
      refine lv_if_lt (tgt := 42) hx hb dX9_write_30 (by decide) (fun c15 => ?_) (fun c15 => ?_)
      · skip
        have r16 : rg p2 (-2147483648) (-1) := rf_ltl (c_lt c15) (rg_all _) rl_0 (by decide)
        refine lv_bipush (v := (-7 : Int32)) hx hb dX9_write_42 (by decide) ?_
        exact g_iret C hr hH (Nat.zero_le _) (Nat.zero_le _) dX9_write_44 ⟨rfl, hI, (rg_w rl_m7 (by decide))⟩
      · skip
        have r17 : rg p2 0 2147483647 := rf_ler (n_lt c15) rl_0 (rg_all _) (by decide)
        refine lv_iload_n hx hb dX9_write_33 rfl (lv_at hl 3 rfl) ?_
        refine lv_aload hx hb dX9_write_34 (lv_at hl 0 rfl) ?_
        refine t_geti C hH hI.1 mq8 tq8 td_17 iX6 rfl 2 (by decide) wd728 rfl rfl dX9_write_36 (fun z18 rz18 => ?_)
        refine lv_icmp_lt (tgt := 45) hx hb dX9_write_39 (by decide) (fun c19 => ?_) (fun c19 => ?_)
        · skip
          have r20 : rg p2 0 59 := rf_ltl (c_lt c19) r17 rz18 (by decide)
          have r21 : rg z18 1 60 := rf_ltr (c_lt c19) r17 rz18 (by decide)
          refine lv_aload hx hb dX9_write_45 (lv_at hl 0 rfl) ?_
          refine lv_iload_n hx hb dX9_write_47 rfl (lv_at hl 3 rfl) ?_
          refine lv_lload_n hx hb dX9_write_48 rfl (lv_at hl 4 rfl) ?_
          refine t_Vv C hO hl.1 hA hH hI.1 (As := [.int p2, .long p3]) (rest := []) (t_X6_put l E J τ L f9 hI.1 mq8 tq8 p2 r20 p3) my_X6_put wd732 mq8 tq8 td_17 rfl rfl rfl (Nat.le_of_ble_eq_true rfl) ⟨Nat.le_of_ble_eq_true rfl, Nat.le_of_ble_eq_true rfl⟩ ⟨rfl, rfl⟩ dX9_write_49 (fun L1 f22 H locs hp hH => ?_)
          obtain ⟨rfl, s24, h25⟩ := hp
          have hI := hI.call s24 (by decide)
          refine lv_iconst (v := (0 : Int32)) hx hb dX9_write_52 (by decide) ?_
          exact g_iret C hr hH (Nat.zero_le _) (Nat.zero_le _) dX9_write_53 ⟨rfl, hI, (rg_w rl_0 (by decide))⟩
        · skip
          refine lv_bipush (v := (-7 : Int32)) hx hb dX9_write_42 (by decide) ?_
          exact g_iret C hr hH (Nat.zero_le _) (Nat.zero_le _) dX9_write_44 ⟨rfl, hI, (rg_w rl_m7 (by decide))⟩
    · skip
      have r26 : rg r10 1 1 := rf_nel (n_eq c13) h12 rl_0 (by decide)
      refine lv_bipush (v := (-6 : Int32)) hx hb dX9_write_26 (by decide) ?_
      exact g_iret C hr hH (Nat.zero_le _) (Nat.zero_le _) dX9_write_28 ⟨rfl, hI, (rg_w rl_m6 (by decide))⟩
  · skip
    have r27 : rg r2 0 0 := rf_eql (c_eq c5) h4.1 rl_0 (by decide)
    refine lv_bipush (v := (-2 : Int32)) hx hb dX9_write_7 (by decide) ?_
    exact g_iret C hr hH (Nat.zero_le _) (Nat.zero_le _) dX9_write_9 ⟨rfl, hI, (rg_w rl_m2 (by decide))⟩
set_option maxHeartbeats 4000000 in
set_option maxRecDepth 100000 in
theorem t_reachX (l : Launch) (E : gE) (J : Nat → Nat) (τ : Nat → Nat) (L : List Nat) (f : gF) (hI : tI E L τ f) {q : Nat} (mq : q ∈ L) (tq : τ q = 17) (p1 : Int32) (p2 : Int32) : tMi l E J yX6_reaches cX6_reaches 3 .boolean (gRm (1) 0 0) [.ref q, .int p1, .int p2] L f (tPi E L τ [] f (fun r f1 => rg r 0 1 ∧ (¬ r = 0 → 0 ≤ p1.toInt ∧ 0 ≤ p2.toInt ∧ p1.toInt + p2.toInt ≤ 60))) := by
  refine tMi.intro (by decide) (Nat.le_of_ble_eq_true rfl) ?_
  intro p e s m below meth c A ls C hr hA hO hH hl
  have C : gC E cX6_reaches 3 RX6 p s m _ meth c := C
  have hl : lv_has ls 3 [(0, .ref q), (1, .int p1), (2, .int p2)] := hl
  have hx := C.1
  have hb := C.2.1
  have hI := hI.S []
  refine lv_iload_n hx hb dX6_reaches_0 rfl (lv_at hl 1 rfl) ?_
  refine lv_if_lt (tgt := 30) hx hb dX6_reaches_1 (by decide) (fun c1 => ?_) (fun c1 => ?_)
  · skip
    have r2 : rg p1 (-2147483648) (-1) := rf_ltl (c_lt c1) (rg_all _) rl_0 (by decide)
    refine lv_iconst (v := (0 : Int32)) hx hb dX6_reaches_30 (by decide) ?_
    exact g_zret C hr (rg_z (rg_w rl_0 (by decide))) hH (Nat.zero_le _) (Nat.zero_le _) dX6_reaches_31 ⟨rfl, hI, ⟨(rg_w rl_0 (by decide)), (fun h => absurd rfl h)⟩⟩
  · skip
    have r3 : rg p1 0 2147483647 := rf_ler (n_lt c1) rl_0 (rg_all _) (by decide)
    refine lv_iload_n hx hb dX6_reaches_4 rfl (lv_at hl 2 rfl) ?_
    refine lv_if_lt (tgt := 30) hx hb dX6_reaches_5 (by decide) (fun c4 => ?_) (fun c4 => ?_)
    · skip
      have r5 : rg p2 (-2147483648) (-1) := rf_ltl (c_lt c4) (rg_all _) rl_0 (by decide)
      refine lv_iconst (v := (0 : Int32)) hx hb dX6_reaches_30 (by decide) ?_
      exact g_zret C hr (rg_z (rg_w rl_0 (by decide))) hH (Nat.zero_le _) (Nat.zero_le _) dX6_reaches_31 ⟨rfl, hI, ⟨(rg_w rl_0 (by decide)), (fun h => absurd rfl h)⟩⟩
    · skip
      have r6 : rg p2 0 2147483647 := rf_ler (n_lt c4) rl_0 (rg_all _) (by decide)
      refine lv_iload_n hx hb dX6_reaches_8 rfl (lv_at hl 2 rfl) ?_
      refine lv_aload_n hx hb dX6_reaches_9 rfl (lv_at hl 0 rfl) ?_
      obtain ⟨z7, rz7, kz7⟩ := t_fldi hI.1 mq tq td_17 (k := 2) rfl
      refine t_getX C hH hI.1 mq tq td_17 iX6 rfl 2 (by decide) wd84 rfl kz7 dX6_reaches_10 ?_
      refine lv_icmp_gt (tgt := 30) hx hb dX6_reaches_13 (by decide) (fun c8 => ?_) (fun c8 => ?_)
      · skip
        have r9 : rg p2 1 2147483647 := rf_ltr (c_lt c8) rz7 r6 (by decide)
        refine lv_iconst (v := (0 : Int32)) hx hb dX6_reaches_30 (by decide) ?_
        exact g_zret C hr (rg_z (rg_w rl_0 (by decide))) hH (Nat.zero_le _) (Nat.zero_le _) dX6_reaches_31 ⟨rfl, hI, ⟨(rg_w rl_0 (by decide)), (fun h => absurd rfl h)⟩⟩
      · skip
        have r10 : rg p2 0 60 := rf_lel (n_lt c8) r6 rz7 (by decide)
        refine lv_iload_n hx hb dX6_reaches_16 rfl (lv_at hl 1 rfl) ?_
        refine lv_aload_n hx hb dX6_reaches_17 rfl (lv_at hl 0 rfl) ?_
        refine t_getX C hH hI.1 mq tq td_17 iX6 rfl 2 (by decide) wd84 rfl kz7 dX6_reaches_18 ?_
        refine lv_iload_n hx hb dX6_reaches_21 rfl (lv_at hl 2 rfl) ?_
        refine lv_isub hx hb dX6_reaches_22 ?_
        refine lv_topi (fun z11 ez11 => ?_)
        have r12 : rg z11 (-60) 60 := rg_sub ez11 rz7 r10 (by decide)
        refine lv_icmp_gt (tgt := 30) hx hb dX6_reaches_23 (by decide) (fun c13 => ?_) (fun c13 => ?_)
        · skip
          refine lv_iconst (v := (0 : Int32)) hx hb dX6_reaches_30 (by decide) ?_
          exact g_zret C hr (rg_z (rg_w rl_0 (by decide))) hH (Nat.zero_le _) (Nat.zero_le _) dX6_reaches_31 ⟨rfl, hI, ⟨(rg_w rl_0 (by decide)), (fun h => absurd rfl h)⟩⟩
        · skip
          have r14 : rg p1 0 60 := rf_lel (n_lt c13) r3 r12 (by decide)
          have r15 : rg z11 0 60 := rf_ler (n_lt c13) r3 r12 (by decide)
          refine lv_iconst (v := (1 : Int32)) hx hb dX6_reaches_26 (by decide) ?_
          refine lv_goto (tgt := 31) hx hb dX6_reaches_27 (by decide) ?_
          exact g_zret C hr (rg_z (rg_w rl_1 (by decide))) hH (Nat.zero_le _) (Nat.zero_le _) dX6_reaches_31 ⟨rfl, hI, ⟨(rg_w rl_1 (by decide)), (fun _ => reach_ok (rg_w r14 (by decide)) (rg_w r10 (by decide)) (n_lt c8) (n_lt c13) ez11 rz7)⟩⟩
set_option maxHeartbeats 4000000 in
set_option maxRecDepth 100000 in
theorem t_X9_paste (l : Launch) (E : gE) (J : Nat → Nat) (τ : Nat → Nat) (L : List Nat) (f : gF) (hI : tI E L τ f) {q : Nat} (mq : q ∈ L) (tq : τ q = 0) (p1 : Int32) (p2 : Int32) (p3 : Int32) (p4 : Int32) (p5 : Int32) : tMi l E J yX9_paste cX9_paste 8 .int (gRm (2) 0 0) [.ref q, .int p1, .int p2, .int p3, .int p4, .int p5] L f (tPi E L τ [18] f (fun r f1 => rg r (-2147483648) 2147483647)) := by
  refine tMi.intro (by decide) (Nat.le_of_ble_eq_true rfl) ?_
  intro p e s m below meth c A ls C hr hA hO hH hl
  have C : gC E cX9_paste 8 RX9 p s m _ meth c := C
  have hl : lv_has ls 8 [(0, .ref q), (1, .int p1), (2, .int p2), (3, .int p3), (4, .int p4), (5, .int p5)] := hl
  have hx := C.1
  have hb := C.2.1
  have hI := hI.S [18]
  obtain ⟨q_4, mq_4, tq_4, kq_4⟩ := t_fldr hI.1 mq tq td_0 (k := 4) rfl
  refine lv_iload_n hx hb dX9_paste_0 rfl (lv_at hl 1 rfl) ?_
  refine t_Si C hO hl.1 hA hH (As := [.int p1]) (rest := []) (t_X9_isSlot l E J τ L f hI.1 p1) my_X9_isSlot wd472 rfl rfl (Nat.le_of_ble_eq_true rfl) ⟨Nat.le_of_ble_eq_true rfl, Nat.le_of_ble_eq_true rfl⟩ ⟨rfl, rfl⟩ dX9_paste_1 (fun r2 L1 f1 H locs hp hH => ?_)
  obtain ⟨rfl, s3, h4⟩ := hp
  have hI := hI.call s3 (by decide)
  refine lv_if_eq (tgt := 14) hx hb dX9_paste_4 (by decide) (fun c5 => ?_) (fun c5 => ?_)
  · skip
    have r6 : rg r2 0 0 := rf_eql (c_eq c5) h4.1 rl_0 (by decide)
    refine lv_bipush (v := (-2 : Int32)) hx hb dX9_paste_14 (by decide) ?_
    exact g_iret C hr hH (Nat.zero_le _) (Nat.zero_le _) dX9_paste_16 ⟨rfl, hI, (rg_w rl_m2 (by decide))⟩
  · skip
    have r7 : rg r2 1 1 := rf_nel (n_eq c5) h4.1 rl_0 (by decide)
    have r8 : rg p1 0 3 := h4.2 c5
    refine lv_iload_n hx hb dX9_paste_7 rfl (lv_at hl 3 rfl) ?_
    refine t_Si C hO hl.1 hA hH (As := [.int p3]) (rest := []) (t_X9_isSlot l E J τ L f1 hI.1 p3) my_X9_isSlot wd472 rfl rfl (Nat.le_of_ble_eq_true rfl) ⟨Nat.le_of_ble_eq_true rfl, Nat.le_of_ble_eq_true rfl⟩ ⟨rfl, rfl⟩ dX9_paste_8 (fun r10 L1 f9 H locs hp hH => ?_)
    obtain ⟨rfl, s11, h12⟩ := hp
    have hI := hI.call s11 (by decide)
    refine lv_if_ne (tgt := 17) hx hb dX9_paste_11 (by decide) (fun c13 => ?_) (fun c13 => ?_)
    · skip
      have r14 : rg r10 1 1 := rf_nel (n_eq c13) h12.1 rl_0 (by decide)
      have r15 : rg p3 0 3 := h12.2 c13
      refine lv_aload_n hx hb dX9_paste_17 rfl (lv_at hl 0 rfl) ?_
      refine t_getX C hH hI.1 mq tq td_0 iX9 rfl 4 (by decide) wd419 rfl (hI.rf kq_4) dX9_paste_18 ?_
      refine lv_iload_n hx hb dX9_paste_21 rfl (lv_at hl 1 rfl) ?_
      refine t_aald C hH hI.1 mq_4 tq_4 td_16 rfl (rg_in r8 (by decide)) dX9_paste_22 (fun q16 mq16 tq16 => ?_)
      refine lv_astore (lv' := [(6, .ref q16), (0, .ref q), (1, .int p1), (2, .int p2), (3, .int p3), (4, .int p4), (5, .int p5)]) hx hb dX9_paste_23 hl (by decide) rfl (fun ls hl => ?_)
      refine lv_aload_n hx hb dX9_paste_25 rfl (lv_at hl 1 rfl) ?_
      refine t_getX C hH hI.1 mq tq td_0 iX9 rfl 4 (by decide) wd419 rfl (hI.rf kq_4) dX9_paste_26 ?_
      refine lv_iload_n hx hb dX9_paste_29 rfl (lv_at hl 4 rfl) ?_
      refine t_aald C hH hI.1 mq_4 tq_4 td_16 rfl (rg_in r15 (by decide)) dX9_paste_30 (fun q17 mq17 tq17 => ?_)
      refine lv_astore (lv' := [(7, .ref q17), (6, .ref q16), (0, .ref q), (1, .int p1), (2, .int p2), (3, .int p3), (4, .int p4), (5, .int p5)]) hx hb dX9_paste_31 hl (by decide) rfl (fun ls hl => ?_)
      refine lv_aload hx hb dX9_paste_33 (lv_at hl 1 rfl) ?_
      refine t_Vi C hO hl.1 hA hH hI.1 (As := []) (rest := []) (t_X6_isNothing l E J τ L f9 hI.1 mq16 tq16) my_X6_isNothing wd424 mq16 tq16 td_17 rfl rfl rfl (Nat.le_of_ble_eq_true rfl) ⟨Nat.le_of_ble_eq_true rfl, Nat.le_of_ble_eq_true rfl⟩ ⟨rfl, rfl⟩ dX9_paste_35 (fun r19 L1 f18 H locs hp hH => ?_)
      obtain ⟨rfl, s20, h21⟩ := hp
      have hI := hI.call s20 (by decide)
      refine lv_if_ne (tgt := 49) hx hb dX9_paste_38 (by decide) (fun c22 => ?_) (fun c22 => ?_)
      · skip
        have r23 : rg r19 1 1 := rf_nel (n_eq c22) h21 rl_0 (by decide)
        refine lv_bipush (v := (-6 : Int32)) hx hb dX9_paste_49 (by decide) ?_
        exact g_iret C hr hH (Nat.zero_le _) (Nat.zero_le _) dX9_paste_51 ⟨rfl, hI, (rg_w rl_m6 (by decide))⟩
      · skip
        have r24 : rg r19 0 0 := rf_eql (c_eq c22) h21 rl_0 (by decide)
        refine lv_aload hx hb dX9_paste_41 (lv_at hl 0 rfl) ?_
        refine t_Vi C hO hl.1 hA hH hI.1 (As := []) (rest := []) (t_X6_isNothing l E J τ L f18 hI.1 mq17 tq17) my_X6_isNothing wd424 mq17 tq17 td_17 rfl rfl rfl (Nat.le_of_ble_eq_true rfl) ⟨Nat.le_of_ble_eq_true rfl, Nat.le_of_ble_eq_true rfl⟩ ⟨rfl, rfl⟩ dX9_paste_43 (fun r26 L1 f25 H locs hp hH => ?_)
        obtain ⟨rfl, s27, h28⟩ := hp
        have hI := hI.call s27 (by decide)
        refine lv_if_eq (tgt := 52) hx hb dX9_paste_46 (by decide) (fun c29 => ?_) (fun c29 => ?_)
        · skip
          have r30 : rg r26 0 0 := rf_eql (c_eq c29) h28 rl_0 (by decide)
          refine lv_aload hx hb dX9_paste_52 (lv_at hl 1 rfl) ?_
          refine t_geti C hH hI.1 mq16 tq16 td_17 iX6 rfl 1 (by decide) wd733 rfl rfl dX9_paste_54 (fun z31 rz31 => ?_)
          refine lv_aload hx hb dX9_paste_57 (lv_at hl 0 rfl) ?_
          refine t_geti C hH hI.1 mq17 tq17 td_17 iX6 rfl 1 (by decide) wd733 rfl rfl dX9_paste_59 (fun z32 rz32 => ?_)
          refine lv_icmp_eq (tgt := 68) hx hb dX9_paste_62 (by decide) (fun c33 => ?_) (fun c33 => ?_)
          · skip
            refine lv_aload hx hb dX9_paste_68 (lv_at hl 1 rfl) ?_
            refine lv_iload_n hx hb dX9_paste_70 rfl (lv_at hl 4 rfl) ?_
            refine lv_iload hx hb dX9_paste_71 (lv_at hl 7 rfl) ?_
            refine t_Vi C hO hl.1 hA hH hI.1 (As := [.int p2, .int p5]) (rest := []) (t_reachX l E J τ L f25 hI.1 mq16 tq16 p2 p5) my_X6_reaches wd737 mq16 tq16 td_17 rfl rfl rfl (Nat.le_of_ble_eq_true rfl) ⟨Nat.le_of_ble_eq_true rfl, Nat.le_of_ble_eq_true rfl⟩ ⟨rfl, rfl⟩ dX9_paste_73 (fun r35 L1 f34 H locs hp hH => ?_)
            obtain ⟨rfl, s36, h37⟩ := hp
            have hJ := hI
            have hI := hI.call s36 (by decide)
            refine lv_if_eq (tgt := 91) hx hb dX9_paste_76 (by decide) (fun c38 => ?_) (fun c38 => ?_)
            · skip
              have r39 : rg r35 0 0 := rf_eql (c_eq c38) h37.1 rl_0 (by decide)
              refine lv_bipush (v := (-7 : Int32)) hx hb dX9_paste_91 (by decide) ?_
              exact g_iret C hr hH (Nat.zero_le _) (Nat.zero_le _) dX9_paste_93 ⟨rfl, hI, (rg_w rl_m7 (by decide))⟩
            · skip
              have r40 : rg r35 1 1 := rf_nel (n_eq c38) h37.1 rl_0 (by decide)
              refine lv_aload hx hb dX9_paste_79 (lv_at hl 0 rfl) ?_
              refine lv_iload hx hb dX9_paste_81 (lv_at hl 6 rfl) ?_
              refine lv_iload hx hb dX9_paste_83 (lv_at hl 7 rfl) ?_
              refine t_Vi C hO hl.1 hA hH hI.1 (As := [.int p4, .int p5]) (rest := []) (t_reachX l E J τ L f34 hI.1 mq17 tq17 p4 p5) my_X6_reaches wd737 mq17 tq17 td_17 rfl rfl rfl (Nat.le_of_ble_eq_true rfl) ⟨Nat.le_of_ble_eq_true rfl, Nat.le_of_ble_eq_true rfl⟩ ⟨rfl, rfl⟩ dX9_paste_85 (fun r42 L1 f41 H locs hp hH => ?_)
              obtain ⟨rfl, s43, h44⟩ := hp
              have hJ := hI
              have hI := hI.call s43 (by decide)
              refine lv_if_ne (tgt := 94) hx hb dX9_paste_88 (by decide) (fun c45 => ?_) (fun c45 => ?_)
              · skip
                have r46 : rg r42 1 1 := rf_nel (n_eq c45) h44.1 rl_0 (by decide)
                refine lv_aload hx hb dX9_paste_94 (lv_at hl 1 rfl) ?_
                refine t_getr C hH hI.1 mq16 tq16 td_17 iX6 rfl 0 (by decide) wd738 rfl rfl dX9_paste_96 (fun q47 mq47 tq47 => ?_)
                refine lv_iload_n hx hb dX9_paste_99 rfl (lv_at hl 4 rfl) ?_
                refine lv_aload hx hb dX9_paste_100 (lv_at hl 0 rfl) ?_
                refine t_getr C hH hI.1 mq17 tq17 td_17 iX6 rfl 0 (by decide) wd738 rfl rfl dX9_paste_102 (fun q48 mq48 tq48 => ?_)
                refine lv_iload hx hb dX9_paste_105 (lv_at hl 6 rfl) ?_
                refine lv_iload hx hb dX9_paste_107 (lv_at hl 7 rfl) ?_
                obtain ⟨a1, a2, a3⟩ := h37.2 c38
                obtain ⟨b1, b2, b3⟩ := h44.2 c45
                refine t_copyJ C hl.1.symm hH hI wd739 wd53 wd54 wd55 mq47 tq47 td_18 mq48 tq48 (by decide) td_18 (nn_lt a1) (nn_lt b1) (nn_lt a2) (nn_le a1 a2 a3) (nn_le b1 b2 b3) (Nat.le_of_ble_eq_true rfl) (Nat.le_of_ble_eq_true rfl) dX9_paste_109 (fun f49 H locs hH hI bf49 => ?_)
                refine lv_iconst (v := (0 : Int32)) hx hb dX9_paste_112 (by decide) ?_
                exact g_iret C hr hH (Nat.zero_le _) (Nat.zero_le _) dX9_paste_113 ⟨rfl, hI, (rg_w rl_0 (by decide))⟩
              · skip
                have r50 : rg r42 0 0 := rf_eql (c_eq c45) h44.1 rl_0 (by decide)
                refine lv_bipush (v := (-7 : Int32)) hx hb dX9_paste_91 (by decide) ?_
                exact g_iret C hr hH (Nat.zero_le _) (Nat.zero_le _) dX9_paste_93 ⟨rfl, hI, (rg_w rl_m7 (by decide))⟩
          · skip
            refine lv_bipush (v := (-8 : Int32)) hx hb dX9_paste_65 (by decide) ?_
            exact g_iret C hr hH (Nat.zero_le _) (Nat.zero_le _) dX9_paste_67 ⟨rfl, hI, (rg_w rl_m8 (by decide))⟩
        · skip
          have r51 : rg r26 1 1 := rf_nel (n_eq c29) h28 rl_0 (by decide)
          refine lv_bipush (v := (-6 : Int32)) hx hb dX9_paste_49 (by decide) ?_
          exact g_iret C hr hH (Nat.zero_le _) (Nat.zero_le _) dX9_paste_51 ⟨rfl, hI, (rg_w rl_m6 (by decide))⟩
    · skip
      have r52 : rg r10 0 0 := rf_eql (c_eq c13) h12.1 rl_0 (by decide)
      refine lv_bipush (v := (-2 : Int32)) hx hb dX9_paste_14 (by decide) ?_
      exact g_iret C hr hH (Nat.zero_le _) (Nat.zero_le _) dX9_paste_16 ⟨rfl, hI, (rg_w rl_m2 (by decide))⟩
