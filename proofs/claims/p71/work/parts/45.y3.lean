theorem sz_0 {x : Int32} : (0 : Int32).toInt + x.toInt ≤ x.toInt := by rw [show (0 : Int32).toInt = 0 from by decide]; omega
theorem sz_e {n z : Int32} (e : z = n + 1) (h : n.toInt + 1 ≤ 2147483647) (hn : 0 ≤ n.toInt) : z.toInt = n.toInt + 1 := by
  have t1 : (1 : Int32).toInt = 1 := by decide
  rw [e, Int32.toInt_add, t1, bmI (by omega) (by omega)]
theorem sz_n {n v p z : Int32} (F : n.toInt + v.toInt ≤ p.toInt) (hn : rg n 0 2147483647) (hv : rg v 1 2147483647) (e : z = n + 1) : rg z 1 2147483647 := by
  have hp := p.toInt_lt
  unfold rg at *
  rw [sz_e e (by omega) (by omega)]
  omega
theorem and_dec {v z2 z3 : Int32} (hv : rg v 1 2147483647) (e2 : z2 = v - 1) (e3 : z3 = v &&& z2) : 0 ≤ z3.toInt ∧ z3.toInt ≤ v.toInt - 1 := by
  have t1 : (1 : Int32).toInt = 1 := by decide
  have h2 : z2.toInt = v.toInt - 1 := by unfold rg at hv; rw [e2, Int32.toInt_sub, t1, bmI (by omega) (by omega)]
  have h3 : rg z2 0 2147483646 := by unfold rg at *; omega
  have h4 := nb (x := z2) h3.1
  have h5 : z3.toBitVec.toNat ≤ z2.toBitVec.toNat := by rw [e3]; exact Nat.and_le_right
  have h6 := bn (x := z3) (by omega)
  omega
theorem sz_s {n v p z z2 z3 : Int32} (F : n.toInt + v.toInt ≤ p.toInt) (hn : rg n 0 2147483647) (hv : rg v 1 2147483647) (e : z = n + 1) (e2 : z2 = v - 1) (e3 : z3 = v &&& z2) : z.toInt + z3.toInt ≤ p.toInt := by
  have hp := p.toInt_lt
  have h := and_dec hv e2 e3
  unfold rg at *
  rw [sz_e e (by omega) (by omega)]
  omega
theorem sz_f {v z2 z3 : Int32} {n : Nat} (h : v.toInt < ((n + 1 : Nat) : Int)) (hv : rg v 1 2147483647) (e2 : z2 = v - 1) (e3 : z3 = v &&& z2) : z3.toInt < (n : Int) := by
  have h2 := and_dec hv e2 e3
  omega
theorem sz_i {v : Int32} (hv : rg v 0 2147483647) : v.toInt < ((v.toInt.toNat + 1 : Nat) : Int) := by
  unfold rg at hv
  omega
theorem ge_s {a v z : Int32} {d : Int} (F : a.toInt ≤ v.toInt) (h : z.toInt = v.toInt + d) (s : decide (0 ≤ d) = true := by decide) : a.toInt ≤ z.toInt := by
  simp only [decide_eq_true_eq] at s
  omega
theorem lf_c {p v z : Int32} {N : Nat} (hc : 20 - p.toInt < ((N + 1 : Nat) : Int)) (F : p.toInt ≤ v.toInt) (h : z.toInt = v.toInt + 1) : 20 - z.toInt < (N : Int) := by omega
set_option maxHeartbeats 4000000 in
set_option maxRecDepth 100000 in
theorem t_X10_sizeOf (l : Launch) (E : gE) (J : Nat → Nat) (τ : Nat → Nat) (L : List Nat) (f : gF) (hI : tI E L τ f) (p0 : Int32) (rp0 : rg p0 0 2147483647) : tMi l E J yX10_sizeOf cX10_sizeOf 3 .int (gRm (1) 0 0) [.int p0] L f (tPi E L τ [] f (fun r f1 => rg r 0 2147483647)) := by
  refine tMi.intro (by decide) (Nat.le_of_ble_eq_true rfl) ?_
  intro p e s m below meth c A ls C hr hA hO hH hl
  have C : gC E cX10_sizeOf 3 RX10 p s m _ meth c := C
  have hl : lv_has ls 3 [(0, .int p0)] := hl
  have hx := C.1
  have hb := C.2.1
  have hI := hI.S []
  have cut4 : ∀ (n : Nat) (fh4 : gF) (H : Heap) (locs : List Loc) (ls : Array Slot) (v4_1 : Int32) (v4_2 : Int32), v4_2.toInt < (n : Int) → tS E L τ [] f fh4 → gH E A L fh4 s.heap H locs → rg v4_1 0 2147483647 → rg v4_2 0 2147483647 → v4_1.toInt + v4_2.toInt ≤ p0.toInt → lv_has ls 3 [(0, .int p0), (1, .int v4_1), (2, .int v4_2)] → W p l e (gRm (1) 0 0) s m [.int p0].toArray below meth c H locs 0 0 (MQ below (gQi E A (tPi E L τ [] f (fun r f1 => rg r 0 2147483647))) [.int p0].toArray s (gRm (1) 0 0).cells (gRm (1) 0 0).slots A) (F0 m 4 ls []) := by
    intro n
    induction n with
    | zero =>
      intro fh4 H locs ls v4_1 v4_2 hfu4 hI hH r_v4_1 r_v4_2 F4_sz hl
      exact absurd hfu4 (by have := (r_v4_2).1; omega)
    | succ n ih4 =>
      intro fh4 H locs ls v4_1 v4_2 hfu4 hI hH r_v4_1 r_v4_2 F4_sz hl
      refine lv_iload_n hx hb dX10_sizeOf_4 rfl (lv_at hl 2 rfl) ?_
      refine lv_if_eq (tgt := 20) hx hb dX10_sizeOf_5 (by decide) (fun c1 => ?_) (fun c1 => ?_)
      · skip
        have r2 : rg v4_2 0 0 := rf_eql (c_eq c1) r_v4_2 rl_0 (by decide)
        refine lv_iload_n hx hb dX10_sizeOf_20 rfl (lv_at hl 1 rfl) ?_
        exact g_iret C hr hH (Nat.zero_le _) (Nat.zero_le _) dX10_sizeOf_21 ⟨rfl, hI, r_v4_1⟩
      · skip
        have r3 : rg v4_2 1 2147483647 := rf_nel (n_eq c1) r_v4_2 rl_0 (by decide)
        obtain ⟨z4, ez4⟩ : ∃ y : Int32, y = v4_1 + (1 : Int32) := ⟨_, rfl⟩
        refine lv_iinc (v := z4) (lv' := [(1, .int z4), (0, .int p0), (2, .int v4_2)]) hx hb dX10_sizeOf_8 hl (k := 1) rfl (by rw [ez4]; rfl) (by decide) rfl (fun ls hl => ?_)
        have r5 : rg z4 1 2147483647 := sz_n F4_sz r_v4_1 r3 ez4
        refine lv_iload_n hx hb dX10_sizeOf_11 rfl (lv_at hl 2 rfl) ?_
        refine lv_iload_n hx hb dX10_sizeOf_12 rfl (lv_at hl 2 rfl) ?_
        refine lv_iconst (v := (1 : Int32)) hx hb dX10_sizeOf_13 (by decide) ?_
        refine lv_isub hx hb dX10_sizeOf_14 ?_
        refine lv_topi (fun z6 ez6 => ?_)
        have r7 : rg z6 0 2147483646 := rg_sub ez6 r3 rl_1 (by decide)
        refine lv_iand hx hb dX10_sizeOf_15 ?_
        refine lv_topi (fun z8 ez8 => ?_)
        have r9 : rg z8 0 2147483646 := rg_andr ez8 r7 (by decide)
        refine lv_istore_n (lv' := [(2, .int z8), (1, .int z4), (0, .int p0)]) hx hb dX10_sizeOf_16 rfl hl (by decide) rfl (fun ls hl => ?_)
        refine lv_goto (tgt := 4) hx hb dX10_sizeOf_17 (by decide) ?_
        exact ih4 _ _ _ _ z4 z8 (sz_f hfu4 r3 ez6 ez8) hI hH (rg_w r5 (by decide)) (rg_w r9 (by decide)) (sz_s F4_sz r_v4_1 r3 ez4 ez6 ez8) (lv_sub hl [2, 1, 0] rfl)
  refine lv_iconst (v := (0 : Int32)) hx hb dX10_sizeOf_0 (by decide) ?_
  refine lv_istore_n (lv' := [(1, .int (0 : Int32)), (0, .int p0)]) hx hb dX10_sizeOf_1 rfl hl (by decide) rfl (fun ls hl => ?_)
  refine lv_iload_n hx hb dX10_sizeOf_2 rfl (lv_at hl 1 rfl) ?_
  refine lv_istore_n (lv' := [(2, .int p0), (1, .int (0 : Int32)), (0, .int p0)]) hx hb dX10_sizeOf_3 rfl hl (by decide) rfl (fun ls hl => ?_)
  exact cut4 (p0.toInt.toNat + 1) _ _ _ _ (0 : Int32) p0 (sz_i rp0) hI hH (rg_w rl_0 (by decide)) rp0 sz_0 (lv_sub hl [2, 1, 0] rfl)
set_option maxHeartbeats 4000000 in
set_option maxRecDepth 100000 in
theorem t_X10_lampsAre (l : Launch) (E : gE) (J : Nat → Nat) (τ : Nat → Nat) (L : List Nat) (f : gF) (hI : tI E L τ f) {q : Nat} (mq : q ∈ L) (tq : τ q = 40) (p1 : Int32) (rp1 : rg p1 0 1048575) {vh : Nat → Int32} (hh : isA E L τ f 47 45 vh) (hW : 1 ≤ (vh 0).toInt) : tMv l E J yX10_lampsAre cX10_lampsAre 7 (gRm (6) 0 0) [.ref q, .int p1] L f (tPv E L τ [40, 53, 54, 55, 56, 57, 58, 59, 60, 61] f (fun f1 => True)) := by
  refine tMv.intro (by decide) (Nat.le_of_ble_eq_true rfl) ?_
  intro p e s m below meth c A ls C hr hA hO hH hl
  have C : gC E cX10_lampsAre 7 RX10 p s m _ meth c := C
  have hl : lv_has ls 7 [(0, .ref q), (1, .int p1)] := hl
  have hx := C.1
  have hb := C.2.1
  have hI := hI.S [40, 53, 54, 55, 56, 57, 58, 59, 60, 61]
  obtain ⟨q_30, mq_30, tq_30, kq_30⟩ := t_fldr hI.1 mq tq td_40 (k := 30) rfl
  obtain ⟨q_31, mq_31, tq_31, kq_31⟩ := t_fldr hI.1 mq tq td_40 (k := 31) rfl
  obtain ⟨q_32, mq_32, tq_32, kq_32⟩ := t_fldr hI.1 mq tq td_40 (k := 32) rfl
  obtain ⟨q_33, mq_33, tq_33, kq_33⟩ := t_fldr hI.1 mq tq td_40 (k := 33) rfl
  obtain ⟨q_34, mq_34, tq_34, kq_34⟩ := t_fldr hI.1 mq tq td_40 (k := 34) rfl
  have cut22 : ∀ (n : Nat) (fh22 : gF) (H : Heap) (locs : List Loc) (ls : Array Slot) (v22_2 : Int32) (v22_3 : Int32) (v22_4 : Int32), 64 - v22_4.toInt < (n : Int) → tS E L τ [40, 53, 54, 55, 56, 57, 58, 59, 60, 61] f fh22 → gH E A L fh22 s.heap H locs → rg v22_2 0 63 → rg v22_3 0 2147483647 → rg v22_4 0 64 → lv_has ls 7 [(0, .ref q), (1, .int p1), (2, .int v22_2), (3, .int v22_3), (4, .int v22_4)] → W p l e (gRm (6) 0 0) s m [.ref q, .int p1].toArray below meth c H locs 0 0 (MQ below (gQv E A (tPv E L τ [40, 53, 54, 55, 56, 57, 58, 59, 60, 61] f (fun f1 => True))) [.ref q, .int p1].toArray s (gRm (6) 0 0).cells (gRm (6) 0 0).slots A) (F0 m 22 ls []) := by
    intro n
    induction n with
    | zero =>
      intro fh22 H locs ls v22_2 v22_3 v22_4 hfu22 hI hH r_v22_2 r_v22_3 r_v22_4 hl
      exact (fu_0 hfu22 r_v22_4).elim
    | succ n ih22 =>
      intro fh22 H locs ls v22_2 v22_3 v22_4 hfu22 hI hH r_v22_2 r_v22_3 r_v22_4 hl
      have cut78 : ∀ (fh78 : gF) (H : Heap) (locs : List Loc) (ls : Array Slot) , tS E L τ [40, 53, 54, 55, 56, 57, 58, 59, 60, 61] f fh78 → gH E A L fh78 s.heap H locs → rg v22_4 0 63 → lv_has ls 7 [(0, .ref q), (1, .int p1), (2, .int v22_2), (3, .int v22_3), (4, .int v22_4)] → W p l e (gRm (6) 0 0) s m [.ref q, .int p1].toArray below meth c H locs 0 0 (MQ below (gQv E A (tPv E L τ [40, 53, 54, 55, 56, 57, 58, 59, 60, 61] f (fun f1 => True))) [.ref q, .int p1].toArray s (gRm (6) 0 0).cells (gRm (6) 0 0).slots A) (F0 m 78 ls []) := by
        intro fh78 H locs ls hI hH r78_v22_4 hl
        refine lv_aload_n hx hb dX10_lampsAre_78 rfl (lv_at hl 0 rfl) ?_
        refine t_getX C hH hI.1 mq tq td_40 iX10 rfl 30 (by decide) wd922 rfl (hI.rf kq_30) dX10_lampsAre_79 ?_
        refine lv_iload hx hb dX10_lampsAre_82 (lv_at hl 4 rfl) ?_
        refine lv_iload_n hx hb dX10_lampsAre_84 rfl (lv_at hl 3 rfl) ?_
        refine t_ast C hH hI mq_30 tq_30 (by decide) td_57 (rg_in r78_v22_4 (by decide)) (fun _ _ _ => trivial) dX10_lampsAre_85 (fun f1 H locs hH hI bf1 uf1 => ?_)
        refine lv_aload_n hx hb dX10_lampsAre_86 rfl (lv_at hl 0 rfl) ?_
        refine t_getX C hH hI.1 mq tq td_40 iX10 rfl 31 (by decide) wd923 rfl (hI.rf kq_31) dX10_lampsAre_87 ?_
        refine lv_iload hx hb dX10_lampsAre_90 (lv_at hl 4 rfl) ?_
        refine lv_iload_n hx hb dX10_lampsAre_92 rfl (lv_at hl 1 rfl) ?_
        refine t_ast C hH hI mq_31 tq_31 (by decide) td_58 (rg_in r78_v22_4 (by decide)) (fun _ _ _ => trivial) dX10_lampsAre_93 (fun f2 H locs hH hI bf2 uf2 => ?_)
        obtain ⟨z3, ez3⟩ : ∃ y : Int32, y = v22_4 + (1 : Int32) := ⟨_, rfl⟩
        have r4 : rg z3 1 64 := rg_add ez3 r78_v22_4 rl_1 (by decide)
        have a5 : z3.toInt = v22_4.toInt + 1 := ai_add ez3 r78_v22_4 tl_1 (by decide)
        refine lv_iinc (v := z3) (lv' := [(4, .int z3), (0, .ref q), (1, .int p1), (2, .int v22_2), (3, .int v22_3)]) hx hb dX10_lampsAre_94 hl (k := 4) rfl (by rw [ez3]; rfl) (by decide) rfl (fun ls hl => ?_)
        refine lv_goto (tgt := 22) hx hb dX10_lampsAre_97 (by decide) ?_
        exact ih22 _ _ _ _ v22_2 v22_3 z3 (fu_s hfu22 a5 (by decide)) hI hH r_v22_2 r_v22_3 (rg_w r4 (by decide)) (lv_sub hl [1, 2, 3, 4, 0] rfl)
      have cut109 : ∀ (n : Nat) (fh109 : gF) (H : Heap) (locs : List Loc) (ls : Array Slot) (v109_4 : Int32) (v109_5 : Int32), 2147483647 - v109_5.toInt < (n : Int) → tS E L τ [40, 53, 54, 55, 56, 57, 58, 59, 60, 61] f fh109 → gH E A L fh109 s.heap H locs → rg v109_5 0 2147483647 → lv_has ls 7 [(0, .ref q), (1, .int p1), (2, .int v22_2), (3, .int v22_3), (4, .int v109_4), (5, .int v109_5)] → W p l e (gRm (6) 0 0) s m [.ref q, .int p1].toArray below meth c H locs 0 0 (MQ below (gQv E A (tPv E L τ [40, 53, 54, 55, 56, 57, 58, 59, 60, 61] f (fun f1 => True))) [.ref q, .int p1].toArray s (gRm (6) 0 0).cells (gRm (6) 0 0).slots A) (F0 m 109 ls []) := by
        intro n
        induction n with
        | zero =>
          intro fh109 H locs ls v109_4 v109_5 hfu109 hI hH r_v109_5 hl
          exact (fu_0 hfu109 r_v109_5).elim
        | succ n ih109 =>
          intro fh109 H locs ls v109_4 v109_5 hfu109 hI hH r_v109_5 hl
          have cut207 : ∀ (fh207 : gF) (H : Heap) (locs : List Loc) (ls : Array Slot) (v207_6 : Int32), tS E L τ [40, 53, 54, 55, 56, 57, 58, 59, 60, 61] f fh207 → gH E A L fh207 s.heap H locs → rg v207_6 0 1 → rg v109_5 0 3 → lv_has ls 7 [(0, .ref q), (1, .int p1), (2, .int v22_2), (3, .int v22_3), (4, .int v109_4), (5, .int v109_5), (6, .int v207_6)] → W p l e (gRm (6) 0 0) s m [.ref q, .int p1].toArray below meth c H locs 0 0 (MQ below (gQv E A (tPv E L τ [40, 53, 54, 55, 56, 57, 58, 59, 60, 61] f (fun f1 => True))) [.ref q, .int p1].toArray s (gRm (6) 0 0).cells (gRm (6) 0 0).slots A) (F0 m 207 ls []) := by
            intro fh207 H locs ls v207_6 hI hH r_v207_6 r207_v109_5 hl
            refine lv_aload_n hx hb dX10_lampsAre_207 rfl (lv_at hl 0 rfl) ?_
            refine t_getX C hH hI.1 mq tq td_40 iX10 rfl 34 (by decide) wd924 rfl (hI.rf kq_34) dX10_lampsAre_208 ?_
            refine lv_iload hx hb dX10_lampsAre_211 (lv_at hl 5 rfl) ?_
            refine lv_iload_n hx hb dX10_lampsAre_213 rfl (lv_at hl 2 rfl) ?_
            refine t_Si C hO hl.1 hA hH (As := [.int v22_2]) (rest := [.int v109_5, .ref q_34]) (t_X10_sizeOf l E J τ L fh207 hI.1 v22_2 (rg_w r_v22_2 (by decide))) my_X10_sizeOf wd927 rfl rfl (Nat.le_of_ble_eq_true rfl) ⟨Nat.le_of_ble_eq_true rfl, Nat.le_of_ble_eq_true rfl⟩ ⟨rfl, rfl⟩ dX10_lampsAre_214 (fun r7 L1 f6 H locs hp hH => ?_)
            obtain ⟨rfl, s8, h9⟩ := hp
            have hI := hI.call s8 (by decide)
            refine lv_aload_n hx hb dX10_lampsAre_217 rfl (lv_at hl 0 rfl) ?_
            refine t_getX C hH hI.1 mq tq td_40 iX10 rfl 34 (by decide) wd924 rfl (hI.rf kq_34) dX10_lampsAre_218 ?_
            refine lv_iload hx hb dX10_lampsAre_221 (lv_at hl 5 rfl) ?_
            refine t_ald C hH hI.1 mq_34 tq_34 td_61 (rg_in r207_v109_5 (by decide)) dX10_lampsAre_223 (fun z10v az10 _ => ?_)
            refine lv_topi (fun z10 ez10 => ?_)
            refine lv_icmp_le (tgt := 234) hx hb dX10_lampsAre_224 (by decide) (fun c11 => ?_) (fun c11 => ?_)
            · skip
              have r12 : rg z10 0 2147483647 := rf_ler (c_le c11) h9 (rg_all _) (by decide)
              refine lv_aload_n hx hb dX10_lampsAre_234 rfl (lv_at hl 0 rfl) ?_
              refine t_getX C hH hI.1 mq tq td_40 iX10 rfl 34 (by decide) wd924 rfl (hI.rf kq_34) dX10_lampsAre_235 ?_
              refine lv_iload hx hb dX10_lampsAre_238 (lv_at hl 5 rfl) ?_
              refine t_ald C hH hI.1 mq_34 tq_34 td_61 (rg_in r207_v109_5 (by decide)) dX10_lampsAre_240 (fun z13v az13 _ => ?_)
              refine lv_topi (fun z13 ez13 => ?_)
              refine t_ast C hH hI mq_34 tq_34 (by decide) td_61 (rg_in r207_v109_5 (by decide)) (fun _ _ _ => trivial) dX10_lampsAre_241 (fun f14 H locs hH hI bf14 uf14 => ?_)
              obtain ⟨z15, ez15⟩ : ∃ y : Int32, y = v109_5 + (1 : Int32) := ⟨_, rfl⟩
              have r16 : rg z15 1 4 := rg_add ez15 r207_v109_5 rl_1 (by decide)
              have a17 : z15.toInt = v109_5.toInt + 1 := ai_add ez15 r207_v109_5 tl_1 (by decide)
              refine lv_iinc (v := z15) (lv' := [(5, .int z15), (0, .ref q), (1, .int p1), (2, .int v22_2), (3, .int v22_3), (4, .int v109_4), (6, .int v207_6)]) hx hb dX10_lampsAre_242 hl (k := 5) rfl (by rw [ez15]; rfl) (by decide) rfl (fun ls hl => ?_)
              refine lv_goto (tgt := 109) hx hb dX10_lampsAre_245 (by decide) ?_
              exact ih109 _ _ _ _ v109_4 z15 (fu_s hfu109 a17 (by decide)) hI hH (rg_w r16 (by decide)) (lv_sub hl [1, 2, 3, 4, 5, 0] rfl)
            · skip
              have r18 : rg z10 (-2147483648) 2147483646 := rf_ltl (n_le c11) (rg_all _) h9 (by decide)
              refine lv_iload_n hx hb dX10_lampsAre_227 rfl (lv_at hl 2 rfl) ?_
              refine t_Si C hO hl.1 hA hH (As := [.int v22_2]) (rest := [.int v109_5, .ref q_34]) (t_X10_sizeOf l E J τ L f6 hI.1 v22_2 (rg_w r_v22_2 (by decide))) my_X10_sizeOf wd927 rfl rfl (Nat.le_of_ble_eq_true rfl) ⟨Nat.le_of_ble_eq_true rfl, Nat.le_of_ble_eq_true rfl⟩ ⟨rfl, rfl⟩ dX10_lampsAre_228 (fun r20 L1 f19 H locs hp hH => ?_)
              obtain ⟨rfl, s21, h22⟩ := hp
              have hI := hI.call s21 (by decide)
              refine lv_goto (tgt := 241) hx hb dX10_lampsAre_231 (by decide) ?_
              refine t_ast C hH hI mq_34 tq_34 (by decide) td_61 (rg_in r207_v109_5 (by decide)) (fun _ _ _ => trivial) dX10_lampsAre_241 (fun f23 H locs hH hI bf23 uf23 => ?_)
              obtain ⟨z24, ez24⟩ : ∃ y : Int32, y = v109_5 + (1 : Int32) := ⟨_, rfl⟩
              have r25 : rg z24 1 4 := rg_add ez24 r207_v109_5 rl_1 (by decide)
              have a26 : z24.toInt = v109_5.toInt + 1 := ai_add ez24 r207_v109_5 tl_1 (by decide)
              refine lv_iinc (v := z24) (lv' := [(5, .int z24), (0, .ref q), (1, .int p1), (2, .int v22_2), (3, .int v22_3), (4, .int v109_4), (6, .int v207_6)]) hx hb dX10_lampsAre_242 hl (k := 5) rfl (by rw [ez24]; rfl) (by decide) rfl (fun ls hl => ?_)
              refine lv_goto (tgt := 109) hx hb dX10_lampsAre_245 (by decide) ?_
              exact ih109 _ _ _ _ v109_4 z24 (fu_s hfu109 a26 (by decide)) hI hH (rg_w r25 (by decide)) (lv_sub hl [1, 2, 3, 4, 5, 0] rfl)
          have cut178 : ∀ (fh178 : gF) (H : Heap) (locs : List Loc) (ls : Array Slot) , tS E L τ [40, 53, 54, 55, 56, 57, 58, 59, 60, 61] f fh178 → gH E A L fh178 s.heap H locs → rg v109_5 0 3 → lv_has ls 7 [(0, .ref q), (1, .int p1), (2, .int v22_2), (3, .int v22_3), (4, .int v109_4), (5, .int v109_5)] → W p l e (gRm (6) 0 0) s m [.ref q, .int p1].toArray below meth c H locs 0 0 (MQ below (gQv E A (tPv E L τ [40, 53, 54, 55, 56, 57, 58, 59, 60, 61] f (fun f1 => True))) [.ref q, .int p1].toArray s (gRm (6) 0 0).cells (gRm (6) 0 0).slots A) (F0 m 178 ls []) := by
            intro fh178 H locs ls hI hH r178_v109_5 hl
            refine lv_iconst (v := (1 : Int32)) hx hb dX10_lampsAre_178 (by decide) ?_
            refine lv_goto (tgt := 183) hx hb dX10_lampsAre_179 (by decide) ?_
            refine lv_istore (lv' := [(6, .int (1 : Int32)), (0, .ref q), (1, .int p1), (2, .int v22_2), (3, .int v22_3), (4, .int v109_4), (5, .int v109_5)]) hx hb dX10_lampsAre_183 hl (by decide) rfl (fun ls hl => ?_)
            refine lv_iload hx hb dX10_lampsAre_185 (lv_at hl 0 rfl) ?_
            refine lv_if_eq (tgt := 207) hx hb dX10_lampsAre_187 (by decide) (fun h => absurd h (by decide)) (fun _ => ?_)
            refine lv_aload_n hx hb dX10_lampsAre_190 rfl (lv_at hl 1 rfl) ?_
            refine t_getX C hH hI.1 mq tq td_40 iX10 rfl 32 (by decide) wd928 rfl (hI.rf kq_32) dX10_lampsAre_191 ?_
            refine lv_iload hx hb dX10_lampsAre_194 (lv_at hl 6 rfl) ?_
            refine lv_iload hx hb dX10_lampsAre_196 (lv_at hl 5 rfl) ?_
            refine t_ast C hH hI mq_32 tq_32 (by decide) td_59 (rg_in r178_v109_5 (by decide)) (fun _ _ _ => trivial) dX10_lampsAre_198 (fun f27 H locs hH hI bf27 uf27 => ?_)
            refine lv_aload_n hx hb dX10_lampsAre_199 rfl (lv_at hl 1 rfl) ?_
            refine t_getX C hH hI.1 mq tq td_40 iX10 rfl 33 (by decide) wd929 rfl (hI.rf kq_33) dX10_lampsAre_200 ?_
            refine lv_iload hx hb dX10_lampsAre_203 (lv_at hl 6 rfl) ?_
            refine lv_iload_n hx hb dX10_lampsAre_205 rfl (lv_at hl 2 rfl) ?_
            refine t_ast C hH hI mq_33 tq_33 (by decide) td_60 (rg_in r178_v109_5 (by decide)) (fun _ _ h => tR_upd h rp1) dX10_lampsAre_206 (fun f28 H locs hH hI bf28 uf28 => ?_)
            exact cut207 _ _ _ _ (1 : Int32) hI hH (rg_w rl_1 (by decide)) r178_v109_5 (lv_sub hl [1, 2, 3, 4, 5, 6, 0] rfl)
          have cut182 : ∀ (fh182 : gF) (H : Heap) (locs : List Loc) (ls : Array Slot) , tS E L τ [40, 53, 54, 55, 56, 57, 58, 59, 60, 61] f fh182 → gH E A L fh182 s.heap H locs → rg v109_5 0 3 → lv_has ls 7 [(0, .ref q), (1, .int p1), (2, .int v22_2), (3, .int v22_3), (4, .int v109_4), (5, .int v109_5)] → W p l e (gRm (6) 0 0) s m [.ref q, .int p1].toArray below meth c H locs 0 0 (MQ below (gQv E A (tPv E L τ [40, 53, 54, 55, 56, 57, 58, 59, 60, 61] f (fun f1 => True))) [.ref q, .int p1].toArray s (gRm (6) 0 0).cells (gRm (6) 0 0).slots A) (F0 m 182 ls []) := by
            intro fh182 H locs ls hI hH r182_v109_5 hl
            refine lv_iconst (v := (0 : Int32)) hx hb dX10_lampsAre_182 (by decide) ?_
            refine lv_istore (lv' := [(6, .int (0 : Int32)), (0, .ref q), (1, .int p1), (2, .int v22_2), (3, .int v22_3), (4, .int v109_4), (5, .int v109_5)]) hx hb dX10_lampsAre_183 hl (by decide) rfl (fun ls hl => ?_)
            refine lv_iload hx hb dX10_lampsAre_185 (lv_at hl 0 rfl) ?_
            refine lv_if_eq (tgt := 207) hx hb dX10_lampsAre_187 (by decide) (fun _ => ?_) (fun h => absurd (by decide) h)
            exact cut207 _ _ _ _ (0 : Int32) hI hH (rg_w rl_0 (by decide)) r182_v109_5 (lv_sub hl [1, 2, 3, 4, 5, 6, 0] rfl)
          refine lv_iload hx hb dX10_lampsAre_109 (lv_at hl 5 rfl) ?_
          refine lv_iconst (v := (3 : Int32)) hx hb dX10_lampsAre_111 (by decide) ?_
          refine lv_icmp_gt (tgt := 248) hx hb dX10_lampsAre_112 (by decide) (fun c29 => ?_) (fun c29 => ?_)
          · skip
            have r30 : rg v109_5 4 2147483647 := rf_ltr (c_lt c29) rl_3 r_v109_5 (by decide)
            exact g_vret C hr hH (Nat.zero_le _) (Nat.zero_le _) dX10_lampsAre_248 ⟨rfl, hI, trivial⟩
          · skip
            have r31 : rg v109_5 0 3 := rf_lel (n_lt c29) r_v109_5 rl_3 (by decide)
            refine lv_iload hx hb dX10_lampsAre_115 (lv_at hl 4 rfl) ?_
            refine lv_aload_n hx hb dX10_lampsAre_117 rfl (lv_at hl 0 rfl) ?_
            refine t_getX C hH hI.1 mq tq td_40 iX10 rfl 32 (by decide) wd928 rfl (hI.rf kq_32) dX10_lampsAre_118 ?_
            refine lv_iload hx hb dX10_lampsAre_121 (lv_at hl 5 rfl) ?_
            refine t_ald C hH hI.1 mq_32 tq_32 td_59 (rg_in r31 (by decide)) dX10_lampsAre_123 (fun z32v az32 _ => ?_)
            refine lv_topi (fun z32 ez32 => ?_)
            refine lv_icmp_gt (tgt := 178) hx hb dX10_lampsAre_124 (by decide) (fun c33 => ?_) (fun c33 => ?_)
            · skip
              have r34 : rg z32 (-2147483648) 2147483646 := rf_ltl (c_lt c33) (rg_all _) (rg_all _) (by decide)
              have r35 : rg v109_4 (-2147483647) 2147483647 := rf_ltr (c_lt c33) (rg_all _) (rg_all _) (by decide)
              exact cut178 _ _ _ _ hI hH r31 (lv_sub hl [0, 1, 2, 3, 4, 5] rfl)
            · skip
              refine lv_iload hx hb dX10_lampsAre_127 (lv_at hl 4 rfl) ?_
              refine lv_aload_n hx hb dX10_lampsAre_129 rfl (lv_at hl 0 rfl) ?_
              refine t_getX C hH hI.1 mq tq td_40 iX10 rfl 32 (by decide) wd928 rfl (hI.rf kq_32) dX10_lampsAre_130 ?_
              refine lv_iload hx hb dX10_lampsAre_133 (lv_at hl 5 rfl) ?_
              refine t_ald C hH hI.1 mq_32 tq_32 td_59 (rg_in r31 (by decide)) dX10_lampsAre_135 (fun z36v az36 _ => ?_)
              refine lv_topi (fun z36 ez36 => ?_)
              refine lv_icmp_ne (tgt := 182) hx hb dX10_lampsAre_136 (by decide) (fun c37 => ?_) (fun c37 => ?_)
              · skip
                exact cut182 _ _ _ _ hI hH r31 (lv_sub hl [0, 1, 2, 3, 4, 5] rfl)
              · skip
                refine lv_iload_n hx hb dX10_lampsAre_139 rfl (lv_at hl 3 rfl) ?_
                refine lv_aload_n hx hb dX10_lampsAre_140 rfl (lv_at hl 0 rfl) ?_
                refine t_getX C hH hI.1 mq tq td_40 iX10 rfl 33 (by decide) wd929 rfl (hI.rf kq_33) dX10_lampsAre_141 ?_
                refine lv_iload hx hb dX10_lampsAre_144 (lv_at hl 5 rfl) ?_
                refine t_aldR C hH hI.1 mq_33 tq_33 td_60 (rg_in r31 (by decide)) dX10_lampsAre_146 (fun z38 rz38 => ?_)
                refine t_Si C hO hl.1 hA hH (As := [.int z38]) (rest := [.int v22_3]) (t_X10_sizeOf l E J τ L fh109 hI.1 z38 (rg_w rz38 (by decide))) my_X10_sizeOf wd927 rfl rfl (Nat.le_of_ble_eq_true rfl) ⟨Nat.le_of_ble_eq_true rfl, Nat.le_of_ble_eq_true rfl⟩ ⟨rfl, rfl⟩ dX10_lampsAre_147 (fun r40 L1 f39 H locs hp hH => ?_)
                obtain ⟨rfl, s41, h42⟩ := hp
                have hI := hI.call s41 (by decide)
                refine lv_icmp_lt (tgt := 178) hx hb dX10_lampsAre_150 (by decide) (fun c43 => ?_) (fun c43 => ?_)
                · skip
                  have r44 : rg v22_3 0 2147483646 := rf_ltl (c_lt c43) r_v22_3 h42 (by decide)
                  have r45 : rg r40 1 2147483647 := rf_ltr (c_lt c43) r_v22_3 h42 (by decide)
                  exact cut178 _ _ _ _ hI hH r31 (lv_sub hl [0, 1, 2, 3, 4, 5] rfl)
                · skip
                  refine lv_iload_n hx hb dX10_lampsAre_153 rfl (lv_at hl 3 rfl) ?_
                  refine lv_aload_n hx hb dX10_lampsAre_154 rfl (lv_at hl 0 rfl) ?_
                  refine t_getX C hH hI.1 mq tq td_40 iX10 rfl 33 (by decide) wd929 rfl (hI.rf kq_33) dX10_lampsAre_155 ?_
                  refine lv_iload hx hb dX10_lampsAre_158 (lv_at hl 5 rfl) ?_
                  refine t_aldR C hH hI.1 mq_33 tq_33 td_60 (rg_in r31 (by decide)) dX10_lampsAre_160 (fun z46 rz46 => ?_)
                  refine t_Si C hO hl.1 hA hH (As := [.int z46]) (rest := [.int v22_3]) (t_X10_sizeOf l E J τ L f39 hI.1 z46 (rg_w rz46 (by decide))) my_X10_sizeOf wd927 rfl rfl (Nat.le_of_ble_eq_true rfl) ⟨Nat.le_of_ble_eq_true rfl, Nat.le_of_ble_eq_true rfl⟩ ⟨rfl, rfl⟩ dX10_lampsAre_161 (fun r48 L1 f47 H locs hp hH => ?_)
                  obtain ⟨rfl, s49, h50⟩ := hp
                  have hI := hI.call s49 (by decide)
                  refine lv_icmp_ne (tgt := 182) hx hb dX10_lampsAre_164 (by decide) (fun c51 => ?_) (fun c51 => ?_)
                  · skip
                    exact cut182 _ _ _ _ hI hH r31 (lv_sub hl [0, 1, 2, 3, 4, 5] rfl)
                  · skip
                    refine lv_iload_n hx hb dX10_lampsAre_167 rfl (lv_at hl 1 rfl) ?_
                    refine lv_aload_n hx hb dX10_lampsAre_168 rfl (lv_at hl 0 rfl) ?_
                    refine t_getX C hH hI.1 mq tq td_40 iX10 rfl 33 (by decide) wd929 rfl (hI.rf kq_33) dX10_lampsAre_169 ?_
                    refine lv_iload hx hb dX10_lampsAre_172 (lv_at hl 5 rfl) ?_
                    refine t_aldR C hH hI.1 mq_33 tq_33 td_60 (rg_in r31 (by decide)) dX10_lampsAre_174 (fun z52 rz52 => ?_)
                    refine lv_icmp_ge (tgt := 182) hx hb dX10_lampsAre_175 (by decide) (fun c53 => ?_) (fun c53 => ?_)
                    · skip
                      exact cut182 _ _ _ _ hI hH r31 (lv_sub hl [0, 1, 2, 3, 4, 5] rfl)
                    · skip
                      have r54 : rg p1 0 1048574 := rf_ltl (n_le c53) rp1 rz52 (by decide)
                      have r55 : rg z52 1 1048575 := rf_ltr (n_le c53) rp1 rz52 (by decide)
                      exact cut178 _ _ _ _ hI hH r31 (lv_sub hl [0, 1, 2, 3, 4, 5] rfl)
      refine lv_iload hx hb dX10_lampsAre_22 (lv_at hl 4 rfl) ?_
      refine lv_iconst (v := (1 : Int32)) hx hb dX10_lampsAre_24 (by decide) ?_
      refine lv_aload_n hx hb dX10_lampsAre_25 rfl (lv_at hl 0 rfl) ?_
      refine t_Vi C hO hl.1 hA hH hI.1 (As := []) (rest := [.int (1 : Int32), .int v22_4]) (t_X10_members l E J τ L fh22 hI.1 mq tq) my_X10_members wd756 mq tq td_40 rfl rfl rfl (Nat.le_of_ble_eq_true rfl) ⟨Nat.le_of_ble_eq_true rfl, Nat.le_of_ble_eq_true rfl⟩ ⟨rfl, rfl⟩ dX10_lampsAre_26 (fun r57 L1 f56 H locs hp hH => ?_)
      obtain ⟨rfl, s58, h59⟩ := hp
      have hJ := hI
      have hI := hI.call s58 (by decide)
      refine lv_ishl hx hb dX10_lampsAre_29 ?_
      refine lv_topi (fun z60 ez60 => ?_)
      have r61 : rg z60 1 64 := rg_shl 0 6 ez60 h59.1 (by decide)
      refine lv_icmp_ge (tgt := 100) hx hb dX10_lampsAre_30 (by decide) (fun c62 => ?_) (fun c62 => ?_)
      · skip
        have r63 : rg v22_4 1 64 := rf_ler (c_le c62) r61 r_v22_4 (by decide)
        refine lv_aload_n hx hb dX10_lampsAre_100 rfl (lv_at hl 0 rfl) ?_
        refine t_Vi C hO hl.1 hA hH hI.1 (As := []) (rest := []) (t_X10_incomeNow l E J τ L f56 hI.1 mq tq) my_X10_incomeNow wd838 mq tq td_40 rfl rfl rfl (Nat.le_of_ble_eq_true rfl) ⟨Nat.le_of_ble_eq_true rfl, Nat.le_of_ble_eq_true rfl⟩ ⟨rfl, rfl⟩ dX10_lampsAre_101 (fun r65 L1 f64 H locs hp hH => ?_)
        obtain ⟨rfl, s66, h67⟩ := hp
        have hI := hI.call s66 (by decide)
        refine lv_istore (lv' := [(4, .int r65), (0, .ref q), (1, .int p1), (2, .int v22_2), (3, .int v22_3)]) hx hb dX10_lampsAre_104 hl (by decide) rfl (fun ls hl => ?_)
        refine lv_iload_n hx hb dX10_lampsAre_106 rfl (lv_at hl 4 rfl) ?_
        refine lv_istore (lv' := [(5, .int v22_3), (4, .int r65), (0, .ref q), (1, .int p1), (2, .int v22_2), (3, .int v22_3)]) hx hb dX10_lampsAre_107 hl (by decide) rfl (fun ls hl => ?_)
        exact cut109 2147483648 _ _ _ _ r65 v22_3 (fu_i 2147483648 r_v22_3 (by decide)) hI hH r_v22_3 (lv_sub hl [2, 3, 4, 5, 1, 0] rfl)
      · skip
        have r68 : rg v22_4 0 63 := rf_ltl (n_le c62) r_v22_4 r61 (by decide)
        refine lv_iload hx hb dX10_lampsAre_33 (lv_at hl 4 rfl) ?_
        refine lv_iload_n hx hb dX10_lampsAre_35 rfl (lv_at hl 2 rfl) ?_
        refine lv_iconst (v := (-1 : Int32)) hx hb dX10_lampsAre_36 (by decide) ?_
        refine lv_ixor hx hb dX10_lampsAre_37 ?_
        refine lv_topi (fun z69 ez69 => ?_)
        refine lv_iand hx hb dX10_lampsAre_38 ?_
        refine lv_topi (fun z70 ez70 => ?_)
        have r71 : rg z70 0 63 := rg_andl ez70 r68 (by decide)
        refine lv_if_ne (tgt := 94) hx hb dX10_lampsAre_39 (by decide) (fun c72 => ?_) (fun c72 => ?_)
        · skip
          have r73 : rg z70 1 63 := rf_nel (n_eq c72) r71 rl_0 (by decide)
          obtain ⟨z74, ez74⟩ : ∃ y : Int32, y = v22_4 + (1 : Int32) := ⟨_, rfl⟩
          have r75 : rg z74 1 64 := rg_add ez74 r68 rl_1 (by decide)
          have a76 : z74.toInt = v22_4.toInt + 1 := ai_add ez74 r68 tl_1 (by decide)
          refine lv_iinc (v := z74) (lv' := [(4, .int z74), (0, .ref q), (1, .int p1), (2, .int v22_2), (3, .int v22_3)]) hx hb dX10_lampsAre_94 hl (k := 4) rfl (by rw [ez74]; rfl) (by decide) rfl (fun ls hl => ?_)
          refine lv_goto (tgt := 22) hx hb dX10_lampsAre_97 (by decide) ?_
          exact ih22 _ _ _ _ v22_2 v22_3 z74 (fu_s hfu22 a76 (by decide)) hI hH r_v22_2 r_v22_3 (rg_w r75 (by decide)) (lv_sub hl [1, 2, 3, 4, 0] rfl)
        · skip
          have r77 : rg z70 0 0 := rf_eql (c_eq c72) r71 rl_0 (by decide)
          refine lv_iload_n hx hb dX10_lampsAre_42 rfl (lv_at hl 3 rfl) ?_
          refine lv_aload_n hx hb dX10_lampsAre_43 rfl (lv_at hl 0 rfl) ?_
          refine t_getX C hH hI.1 mq tq td_40 iX10 rfl 30 (by decide) wd922 rfl (hI.rf kq_30) dX10_lampsAre_44 ?_
          refine lv_iload hx hb dX10_lampsAre_47 (lv_at hl 4 rfl) ?_
          refine t_ald C hH hI.1 mq_30 tq_30 td_57 (rg_in r68 (by decide)) dX10_lampsAre_49 (fun z78v az78 _ => ?_)
          refine lv_topi (fun z78 ez78 => ?_)
          refine lv_icmp_gt (tgt := 94) hx hb dX10_lampsAre_50 (by decide) (fun c79 => ?_) (fun c79 => ?_)
          · skip
            have r80 : rg z78 (-2147483648) 2147483646 := rf_ltl (c_lt c79) (rg_all _) r_v22_3 (by decide)
            obtain ⟨z81, ez81⟩ : ∃ y : Int32, y = v22_4 + (1 : Int32) := ⟨_, rfl⟩
            have r82 : rg z81 1 64 := rg_add ez81 r68 rl_1 (by decide)
            have a83 : z81.toInt = v22_4.toInt + 1 := ai_add ez81 r68 tl_1 (by decide)
            refine lv_iinc (v := z81) (lv' := [(4, .int z81), (0, .ref q), (1, .int p1), (2, .int v22_2), (3, .int v22_3)]) hx hb dX10_lampsAre_94 hl (k := 4) rfl (by rw [ez81]; rfl) (by decide) rfl (fun ls hl => ?_)
            refine lv_goto (tgt := 22) hx hb dX10_lampsAre_97 (by decide) ?_
            exact ih22 _ _ _ _ v22_2 v22_3 z81 (fu_s hfu22 a83 (by decide)) hI hH r_v22_2 r_v22_3 (rg_w r82 (by decide)) (lv_sub hl [1, 2, 3, 4, 0] rfl)
          · skip
            have r84 : rg z78 0 2147483647 := rf_ler (n_lt c79) r_v22_3 (rg_all _) (by decide)
            refine lv_iload_n hx hb dX10_lampsAre_53 rfl (lv_at hl 3 rfl) ?_
            refine lv_aload_n hx hb dX10_lampsAre_54 rfl (lv_at hl 0 rfl) ?_
            refine t_getX C hH hI.1 mq tq td_40 iX10 rfl 30 (by decide) wd922 rfl (hI.rf kq_30) dX10_lampsAre_55 ?_
            refine lv_iload hx hb dX10_lampsAre_58 (lv_at hl 4 rfl) ?_
            refine t_ald C hH hI.1 mq_30 tq_30 td_57 (rg_in r68 (by decide)) dX10_lampsAre_60 (fun z85v az85 _ => ?_)
            refine lv_topi (fun z85 ez85 => ?_)
            refine lv_icmp_ne (tgt := 78) hx hb dX10_lampsAre_61 (by decide) (fun c86 => ?_) (fun c86 => ?_)
            · skip
              exact cut78 _ _ _ _ hI hH r68 (lv_sub hl [0, 1, 2, 3, 4] rfl)
            · skip
              have r87 : rg z85 0 2147483647 := rf_eqr (c_eq c86) r_v22_3 (rg_all _) (by decide)
              refine lv_iload_n hx hb dX10_lampsAre_64 rfl (lv_at hl 1 rfl) ?_
              refine lv_aload_n hx hb dX10_lampsAre_65 rfl (lv_at hl 0 rfl) ?_
              refine t_getX C hH hI.1 mq tq td_40 iX10 rfl 31 (by decide) wd923 rfl (hI.rf kq_31) dX10_lampsAre_66 ?_
              refine lv_iload hx hb dX10_lampsAre_69 (lv_at hl 4 rfl) ?_
              refine t_ald C hH hI.1 mq_31 tq_31 td_58 (rg_in r68 (by decide)) dX10_lampsAre_71 (fun z88v az88 _ => ?_)
              refine lv_topi (fun z88 ez88 => ?_)
              refine lv_icmp_le (tgt := 78) hx hb dX10_lampsAre_72 (by decide) (fun c89 => ?_) (fun c89 => ?_)
              · skip
                have r90 : rg z88 0 2147483647 := rf_ler (c_le c89) rp1 (rg_all _) (by decide)
                exact cut78 _ _ _ _ hI hH r68 (lv_sub hl [0, 1, 2, 3, 4] rfl)
              · skip
                have r91 : rg z88 (-2147483648) 1048574 := rf_ltl (n_le c89) (rg_all _) rp1 (by decide)
                refine lv_goto (tgt := 94) hx hb dX10_lampsAre_75 (by decide) ?_
                obtain ⟨z92, ez92⟩ : ∃ y : Int32, y = v22_4 + (1 : Int32) := ⟨_, rfl⟩
                have r93 : rg z92 1 64 := rg_add ez92 r68 rl_1 (by decide)
                have a94 : z92.toInt = v22_4.toInt + 1 := ai_add ez92 r68 tl_1 (by decide)
                refine lv_iinc (v := z92) (lv' := [(4, .int z92), (0, .ref q), (1, .int p1), (2, .int v22_2), (3, .int v22_3)]) hx hb dX10_lampsAre_94 hl (k := 4) rfl (by rw [ez92]; rfl) (by decide) rfl (fun ls hl => ?_)
                refine lv_goto (tgt := 22) hx hb dX10_lampsAre_97 (by decide) ?_
                exact ih22 _ _ _ _ v22_2 v22_3 z92 (fu_s hfu22 a94 (by decide)) hI hH r_v22_2 r_v22_3 (rg_w r93 (by decide)) (lv_sub hl [1, 2, 3, 4, 0] rfl)
  refine lv_aload_n hx hb dX10_lampsAre_0 rfl (lv_at hl 0 rfl) ?_
  refine lv_iload_n hx hb dX10_lampsAre_1 rfl (lv_at hl 1 rfl) ?_
  refine t_put C hH hI mq tq (by decide) td_40 iX10 tyX10 tyX10_ok nmX10 rfl 22 (by decide) wd771 rfl rfl (v := .int p1) rfl rfl rfl ⟨_, rfl, (rg_w rp1 (by decide))⟩ (fun _ h => nomatch h) dX10_lampsAre_2 (fun f95 H locs hH hI nf95 of95 bf95 => ?_)
  refine lv_aload_n hx hb dX10_lampsAre_5 rfl (lv_at hl 0 rfl) ?_
  refine t_Vv C hO hl.1 hA hH hI.1 (As := []) (rest := []) (t_X10_runs l E J τ L f95 hI.1 mq tq (hh.S hI rfl) hW) my_X10_runs wd817 mq tq td_40 rfl rfl rfl (Nat.le_of_ble_eq_true rfl) ⟨Nat.le_of_ble_eq_true rfl, Nat.le_of_ble_eq_true rfl⟩ ⟨rfl, rfl⟩ dX10_lampsAre_6 (fun L1 f96 H locs hp hH => ?_)
  obtain ⟨rfl, s98, h99⟩ := hp
  have hI := hI.call s98 (by decide)
  refine lv_aload_n hx hb dX10_lampsAre_9 rfl (lv_at hl 0 rfl) ?_
  refine t_Vi C hO hl.1 hA hH hI.1 (As := []) (rest := []) (t_X10_servedNow l E J τ L f96 hI.1 mq tq) my_X10_servedNow wd879 mq tq td_40 rfl rfl rfl (Nat.le_of_ble_eq_true rfl) ⟨Nat.le_of_ble_eq_true rfl, Nat.le_of_ble_eq_true rfl⟩ ⟨rfl, rfl⟩ dX10_lampsAre_10 (fun r101 L1 f100 H locs hp hH => ?_)
  obtain ⟨rfl, s102, h103⟩ := hp
  have hI := hI.call s102 (by decide)
  refine lv_istore_n (lv' := [(2, .int r101), (0, .ref q), (1, .int p1)]) hx hb dX10_lampsAre_13 rfl hl (by decide) rfl (fun ls hl => ?_)
  refine lv_iload_n hx hb dX10_lampsAre_14 rfl (lv_at hl 2 rfl) ?_
  refine t_Si C hO hl.1 hA hH (As := [.int p1]) (rest := []) (t_X10_sizeOf l E J τ L f100 hI.1 p1 (rg_w rp1 (by decide))) my_X10_sizeOf wd927 rfl rfl (Nat.le_of_ble_eq_true rfl) ⟨Nat.le_of_ble_eq_true rfl, Nat.le_of_ble_eq_true rfl⟩ ⟨rfl, rfl⟩ dX10_lampsAre_15 (fun r105 L1 f104 H locs hp hH => ?_)
  obtain ⟨rfl, s106, h107⟩ := hp
  have hI := hI.call s106 (by decide)
  refine lv_istore_n (lv' := [(3, .int r105), (2, .int r101), (0, .ref q), (1, .int p1)]) hx hb dX10_lampsAre_18 rfl hl (by decide) rfl (fun ls hl => ?_)
  refine lv_iconst (v := (0 : Int32)) hx hb dX10_lampsAre_19 (by decide) ?_
  refine lv_istore (lv' := [(4, .int (0 : Int32)), (3, .int r105), (2, .int r101), (0, .ref q), (1, .int p1)]) hx hb dX10_lampsAre_20 hl (by decide) rfl (fun ls hl => ?_)
  exact cut22 65 _ _ _ _ r101 r105 (0 : Int32) (fu_i 65 rl_0 (by decide)) hI hH h103 h107 (rg_w rl_0 (by decide)) (lv_sub hl [3, 4, 2, 1, 0] rfl)
set_option maxHeartbeats 4000000 in
set_option maxRecDepth 100000 in
theorem t_X10_lampsFrom (l : Launch) (E : gE) (J : Nat → Nat) (τ : Nat → Nat) (L : List Nat) (N : Nat) : ∀ (f : gF) (hI : tI E L τ f) {q : Nat} (mq : q ∈ L) (tq : τ q = 40) (p1 : Int32) (rp1 : rg p1 0 20) (p2 : Int32) (rp2 : rg p2 0 1048575) {vh : Nat → Int32} (hh : isA E L τ f 47 45 vh) (hW : 1 ≤ (vh 0).toInt), 20 - p1.toInt < (N : Int) → tMv l E J yX10_lampsFrom cX10_lampsFrom 4 (gRm (7 + N) 0 0) [.ref q, .int p1, .int p2] L f (tPv E L τ [40, 53, 54, 55, 56, 57, 58, 59, 60, 61] f (fun f1 => True)) := by
  induction N with
  | zero =>
    intro f hI q mq tq p1 rp1 p2 rp2 vh hh hW hc
    exact absurd hc (by have := rp1.2; omega)
  | succ N ih =>
    intro f hI q mq tq p1 rp1 p2 rp2 vh hh hW hc
    refine tMv.intro (by decide) (Nat.le_of_ble_eq_true rfl) ?_
    intro p e s m below meth c A ls C hr hA hO hH hl
    have C : gC E cX10_lampsFrom 4 RX10 p s m _ meth c := C
    have hl : lv_has ls 4 [(0, .ref q), (1, .int p1), (2, .int p2)] := hl
    have hx := C.1
    have hb := C.2.1
    have hI := hI.S [40, 53, 54, 55, 56, 57, 58, 59, 60, 61]
    have cut16 : ∀ (n : Nat) (fh16 : gF) (H : Heap) (locs : List Loc) (ls : Array Slot) (v16_3 : Int32), 20 - v16_3.toInt < (n : Int) → tS E L τ [40, 53, 54, 55, 56, 57, 58, 59, 60, 61] f fh16 → gH E A L fh16 s.heap H locs → rg v16_3 0 20 → p1.toInt ≤ v16_3.toInt → lv_has ls 4 [(0, .ref q), (1, .int p1), (2, .int p2), (3, .int v16_3)] → W p l e (gRm (7 + (N + 1)) 0 0) s m [.ref q, .int p1, .int p2].toArray below meth c H locs 0 0 (MQ below (gQv E A (tPv E L τ [40, 53, 54, 55, 56, 57, 58, 59, 60, 61] f (fun f1 => True))) [.ref q, .int p1, .int p2].toArray s (gRm (7 + (N + 1)) 0 0).cells (gRm (7 + (N + 1)) 0 0).slots A) (F0 m 16 ls []) := by
      intro n
      induction n with
      | zero =>
        intro fh16 H locs ls v16_3 hfu16 hI hH r_v16_3 F16_ge hl
        exact (fu_0 hfu16 r_v16_3).elim
      | succ n ih16 =>
        intro fh16 H locs ls v16_3 hfu16 hI hH r_v16_3 F16_ge hl
        refine lv_iload_n hx hb dX10_lampsFrom_16 rfl (lv_at hl 3 rfl) ?_
        refine lv_aload_n hx hb dX10_lampsFrom_17 rfl (lv_at hl 0 rfl) ?_
        refine t_Vi C hO hl.1 hA hH hI.1 (As := []) (rest := [.int v16_3]) (t_X10_cellsAll l E J τ L fh16 hI.1 mq tq) my_X10_cellsAll wd760 mq tq td_40 rfl rfl rfl (Nat.le_of_ble_eq_true rfl) ⟨(by show 1 + 1 ≤ 7 + (N + 1); omega), (by show 8 + (1 + 11) + 100 * (1) ≤ 100 * (7 + (N + 1)); omega)⟩ ⟨rfl, rfl⟩ dX10_lampsFrom_18 (fun r2 L1 f1 H locs hp hH => ?_)
        obtain ⟨rfl, s3, h4⟩ := hp
        have hJ := hI
        have hI := hI.call s3 (by decide)
        refine lv_icmp_ge (tgt := 42) hx hb dX10_lampsFrom_21 (by decide) (fun c5 => ?_) (fun c5 => ?_)
        · skip
          exact g_vret C hr hH (Nat.zero_le _) (Nat.zero_le _) dX10_lampsFrom_42 ⟨rfl, hI, trivial⟩
        · skip
          have r6 : rg v16_3 0 19 := rf_ltl (n_le c5) r_v16_3 h4.1 (by decide)
          have r7 : rg r2 1 20 := rf_ltr (n_le c5) r_v16_3 h4.1 (by decide)
          refine lv_aload_n hx hb dX10_lampsFrom_24 rfl (lv_at hl 0 rfl) ?_
          refine lv_iload_n hx hb dX10_lampsFrom_25 rfl (lv_at hl 3 rfl) ?_
          refine lv_iconst (v := (1 : Int32)) hx hb dX10_lampsFrom_26 (by decide) ?_
          refine lv_iadd hx hb dX10_lampsFrom_27 ?_
          refine lv_topi (fun z8 ez8 => ?_)
          have r9 : rg z8 1 20 := rg_add ez8 r6 rl_1 (by decide)
          have a10 : z8.toInt = v16_3.toInt + 1 := ai_add ez8 r6 tl_1 (by decide)
          refine lv_iload_n hx hb dX10_lampsFrom_28 rfl (lv_at hl 2 rfl) ?_
          refine lv_iconst (v := (1 : Int32)) hx hb dX10_lampsFrom_29 (by decide) ?_
          refine lv_iload_n hx hb dX10_lampsFrom_30 rfl (lv_at hl 3 rfl) ?_
          refine lv_ishl hx hb dX10_lampsFrom_31 ?_
          refine lv_topi (fun z11 ez11 => ?_)
          have r12 : rg z11 1 524288 := rg_shl 0 19 ez11 r6 (by decide)
          refine lv_ior hx hb dX10_lampsFrom_32 ?_
          refine lv_topi (fun z13 ez13 => ?_)
          have r14 : rg z13 0 1048575 := rg_or 20 ez13 rp2 r12 (by decide)
          refine t_Vv C hO hl.1 hA hH hI.1 (As := [.int z8, .int z13]) (rest := []) (ih f1 hI.1 mq tq z8 (rg_w r9 (by decide)) z13 r14 (hh.S hI rfl) hW (lf_c hc F16_ge a10)) my_X10_lampsFrom wd933 mq tq td_40 rfl rfl rfl (Nat.le_of_ble_eq_true rfl) ⟨(by show 7 + N + 1 ≤ 7 + (N + 1); omega), (by show 8 + (4 + 11) + 100 * (7 + N) ≤ 100 * (7 + (N + 1)); omega)⟩ ⟨rfl, rfl⟩ dX10_lampsFrom_33 (fun L1 f15 H locs hp hH => ?_)
          obtain ⟨rfl, s17, h18⟩ := hp
          have hI := hI.call s17 (by decide)
          obtain ⟨z19, ez19⟩ : ∃ y : Int32, y = v16_3 + (1 : Int32) := ⟨_, rfl⟩
          have r20 : rg z19 1 20 := rg_add ez19 r6 rl_1 (by decide)
          have a21 : z19.toInt = v16_3.toInt + 1 := ai_add ez19 r6 tl_1 (by decide)
          refine lv_iinc (v := z19) (lv' := [(3, .int z19), (0, .ref q), (1, .int p1), (2, .int p2)]) hx hb dX10_lampsFrom_36 hl (k := 3) rfl (by rw [ez19]; rfl) (by decide) rfl (fun ls hl => ?_)
          refine lv_goto (tgt := 16) hx hb dX10_lampsFrom_39 (by decide) ?_
          exact ih16 _ _ _ _ z19 (fu_s hfu16 a21 (by decide)) hI hH (rg_w r20 (by decide)) (ge_s F16_ge a21) (lv_sub hl [1, 2, 3, 0] rfl)
    refine lv_aload_n hx hb dX10_lampsFrom_0 rfl (lv_at hl 0 rfl) ?_
    refine lv_iload_n hx hb dX10_lampsFrom_1 rfl (lv_at hl 2 rfl) ?_
    refine t_Vv C hO hl.1 hA hH hI.1 (As := [.int p2]) (rest := []) (t_X10_lampsAre l E J τ L f hI.1 mq tq p2 rp2 (hh.S hI rfl) hW) my_X10_lampsAre wd937 mq tq td_40 rfl rfl rfl (Nat.le_of_ble_eq_true rfl) ⟨(by show 6 + 1 ≤ 7 + (N + 1); omega), (by show 8 + (7 + 11) + 100 * (6) ≤ 100 * (7 + (N + 1)); omega)⟩ ⟨rfl, rfl⟩ dX10_lampsFrom_2 (fun L1 f22 H locs hp hH => ?_)
    obtain ⟨rfl, s24, h25⟩ := hp
    have hI := hI.call s24 (by decide)
    refine lv_iload_n hx hb dX10_lampsFrom_5 rfl (lv_at hl 2 rfl) ?_
    refine t_Si C hO hl.1 hA hH (As := [.int p2]) (rest := []) (t_X10_sizeOf l E J τ L f22 hI.1 p2 (rg_w rp2 (by decide))) my_X10_sizeOf wd927 rfl rfl (Nat.le_of_ble_eq_true rfl) ⟨(by show 1 + 1 ≤ 7 + (N + 1); omega), (by show 8 + (3 + 11) + 100 * (1) ≤ 100 * (7 + (N + 1)); omega)⟩ ⟨rfl, rfl⟩ dX10_lampsFrom_6 (fun r27 L1 f26 H locs hp hH => ?_)
    obtain ⟨rfl, s28, h29⟩ := hp
    have hI := hI.call s28 (by decide)
    refine lv_iconst (v := (3 : Int32)) hx hb dX10_lampsFrom_9 (by decide) ?_
    refine lv_icmp_ne (tgt := 14) hx hb dX10_lampsFrom_10 (by decide) (fun c30 => ?_) (fun c30 => ?_)
    · skip
      refine lv_iload_n hx hb dX10_lampsFrom_14 rfl (lv_at hl 1 rfl) ?_
      refine lv_istore_n (lv' := [(3, .int p1), (0, .ref q), (1, .int p1), (2, .int p2)]) hx hb dX10_lampsFrom_15 rfl hl (by decide) rfl (fun ls hl => ?_)
      exact cut16 21 _ _ _ _ p1 (fu_i 21 rp1 (by decide)) hI hH rp1 (Int.le_refl _) (lv_sub hl [1, 2, 3, 0] rfl)
    · skip
      have r31 : rg r27 3 3 := rf_eql (c_eq c30) h29 rl_3 (by decide)
      exact g_vret C hr hH (Nat.zero_le _) (Nat.zero_le _) dX10_lampsFrom_13 ⟨rfl, hI, trivial⟩
set_option maxHeartbeats 4000000 in
set_option maxRecDepth 100000 in
theorem t_X10_laysLamps (l : Launch) (E : gE) (J : Nat → Nat) (τ : Nat → Nat) (L : List Nat) (f : gF) (hI : tI E L τ f) {q : Nat} (mq : q ∈ L) (tq : τ q = 40) {vh : Nat → Int32} (hh : isA E L τ f 47 45 vh) (hW : 1 ≤ (vh 0).toInt) : tMv l E J yX10_laysLamps cX10_laysLamps 2 (gRm (29) 0 0) [.ref q] L f (tPv E L τ [40, 52, 53, 54, 55, 56, 57, 58, 59, 60, 61] f (fun f1 => True)) := by
  refine tMv.intro (by decide) (Nat.le_of_ble_eq_true rfl) ?_
  intro p e s m below meth c A ls C hr hA hO hH hl
  have C : gC E cX10_laysLamps 2 RX10 p s m _ meth c := C
  have hl : lv_has ls 2 [(0, .ref q)] := hl
  have hx := C.1
  have hb := C.2.1
  have hI := hI.S [40, 52, 53, 54, 55, 56, 57, 58, 59, 60, 61]
  obtain ⟨q_30, mq_30, tq_30, kq_30⟩ := t_fldr hI.1 mq tq td_40 (k := 30) rfl
  obtain ⟨q_32, mq_32, tq_32, kq_32⟩ := t_fldr hI.1 mq tq td_40 (k := 32) rfl
  obtain ⟨q_33, mq_33, tq_33, kq_33⟩ := t_fldr hI.1 mq tq td_40 (k := 33) rfl
  obtain ⟨q_34, mq_34, tq_34, kq_34⟩ := t_fldr hI.1 mq tq td_40 (k := 34) rfl
  have cut6 : ∀ (n : Nat) (fh6 : gF) (H : Heap) (locs : List Loc) (ls : Array Slot) (v6_1 : Int32), 64 - v6_1.toInt < (n : Int) → tS E L τ [40, 52, 53, 54, 55, 56, 57, 58, 59, 60, 61] f fh6 → gH E A L fh6 s.heap H locs → rg v6_1 0 64 → lv_has ls 2 [(0, .ref q), (1, .int v6_1)] → W p l e (gRm (29) 0 0) s m [.ref q].toArray below meth c H locs 0 0 (MQ below (gQv E A (tPv E L τ [40, 52, 53, 54, 55, 56, 57, 58, 59, 60, 61] f (fun f1 => True))) [.ref q].toArray s (gRm (29) 0 0).cells (gRm (29) 0 0).slots A) (F0 m 6 ls []) := by
    intro n
    induction n with
    | zero =>
      intro fh6 H locs ls v6_1 hfu6 hI hH r_v6_1 hl
      exact (fu_0 hfu6 r_v6_1).elim
    | succ n ih6 =>
      intro fh6 H locs ls v6_1 hfu6 hI hH r_v6_1 hl
      have cut28 : ∀ (n : Nat) (fh28 : gF) (H : Heap) (locs : List Loc) (ls : Array Slot) (v28_1 : Int32), 4 - v28_1.toInt < (n : Int) → tS E L τ [40, 52, 53, 54, 55, 56, 57, 58, 59, 60, 61] f fh28 → gH E A L fh28 s.heap H locs → rg v28_1 0 4 → lv_has ls 2 [(0, .ref q), (1, .int v28_1)] → W p l e (gRm (29) 0 0) s m [.ref q].toArray below meth c H locs 0 0 (MQ below (gQv E A (tPv E L τ [40, 52, 53, 54, 55, 56, 57, 58, 59, 60, 61] f (fun f1 => True))) [.ref q].toArray s (gRm (29) 0 0).cells (gRm (29) 0 0).slots A) (F0 m 28 ls []) := by
        intro n
        induction n with
        | zero =>
          intro fh28 H locs ls v28_1 hfu28 hI hH r_v28_1 hl
          exact (fu_0 hfu28 r_v28_1).elim
        | succ n ih28 =>
          intro fh28 H locs ls v28_1 hfu28 hI hH r_v28_1 hl
          refine lv_iload_n hx hb dX10_laysLamps_28 rfl (lv_at hl 1 rfl) ?_
          refine lv_iconst (v := (3 : Int32)) hx hb dX10_laysLamps_29 (by decide) ?_
          refine lv_icmp_gt (tgt := 60) hx hb dX10_laysLamps_30 (by decide) (fun c1 => ?_) (fun c1 => ?_)
          · skip
            have r2 : rg v28_1 4 4 := rf_ltr (c_lt c1) rl_3 r_v28_1 (by decide)
            refine lv_aload_n hx hb dX10_laysLamps_60 rfl (lv_at hl 0 rfl) ?_
            refine lv_iconst (v := (0 : Int32)) hx hb dX10_laysLamps_61 (by decide) ?_
            refine lv_iconst (v := (0 : Int32)) hx hb dX10_laysLamps_62 (by decide) ?_
            refine t_Vv C hO hl.1 hA hH hI.1 (As := [.int (0 : Int32), .int (0 : Int32)]) (rest := []) (t_X10_lampsFrom l E J τ L 21 fh28 hI.1 mq tq (0 : Int32) (rg_w rl_0 (by decide)) (0 : Int32) (rg_w rl_0 (by decide)) (hh.S hI rfl) hW (by have := (rl_0).1; omega)) my_X10_lampsFrom wd933 mq tq td_40 rfl rfl rfl (Nat.le_of_ble_eq_true rfl) ⟨Nat.le_of_ble_eq_true rfl, Nat.le_of_ble_eq_true rfl⟩ ⟨rfl, rfl⟩ dX10_laysLamps_63 (fun L1 f3 H locs hp hH => ?_)
            obtain ⟨rfl, s5, h6⟩ := hp
            have hI := hI.call s5 (by decide)
            exact g_vret C hr hH (Nat.zero_le _) (Nat.zero_le _) dX10_laysLamps_66 ⟨rfl, hI, trivial⟩
          · skip
            have r7 : rg v28_1 0 3 := rf_lel (n_lt c1) r_v28_1 rl_3 (by decide)
            refine lv_aload_n hx hb dX10_laysLamps_33 rfl (lv_at hl 0 rfl) ?_
            refine t_getX C hH hI.1 mq tq td_40 iX10 rfl 32 (by decide) wd928 rfl (hI.rf kq_32) dX10_laysLamps_34 ?_
            refine lv_iload_n hx hb dX10_laysLamps_37 rfl (lv_at hl 1 rfl) ?_
            refine lv_iconst (v := (-1 : Int32)) hx hb dX10_laysLamps_38 (by decide) ?_
            refine t_ast C hH hI mq_32 tq_32 (by decide) td_59 (rg_in r7 (by decide)) (fun _ _ _ => trivial) dX10_laysLamps_39 (fun f8 H locs hH hI bf8 uf8 => ?_)
            refine lv_aload_n hx hb dX10_laysLamps_40 rfl (lv_at hl 0 rfl) ?_
            refine t_getX C hH hI.1 mq tq td_40 iX10 rfl 33 (by decide) wd929 rfl (hI.rf kq_33) dX10_laysLamps_41 ?_
            refine lv_iload_n hx hb dX10_laysLamps_44 rfl (lv_at hl 1 rfl) ?_
            refine lv_iconst (v := (0 : Int32)) hx hb dX10_laysLamps_45 (by decide) ?_
            refine t_ast C hH hI mq_33 tq_33 (by decide) td_60 (rg_in r7 (by decide)) (fun _ _ h => tR_upd h (rg_w rl_0 (by decide))) dX10_laysLamps_46 (fun f9 H locs hH hI bf9 uf9 => ?_)
            refine lv_aload_n hx hb dX10_laysLamps_47 rfl (lv_at hl 0 rfl) ?_
            refine t_getX C hH hI.1 mq tq td_40 iX10 rfl 34 (by decide) wd924 rfl (hI.rf kq_34) dX10_laysLamps_48 ?_
            refine lv_iload_n hx hb dX10_laysLamps_51 rfl (lv_at hl 1 rfl) ?_
            refine lv_iconst (v := (0 : Int32)) hx hb dX10_laysLamps_52 (by decide) ?_
            refine t_ast C hH hI mq_34 tq_34 (by decide) td_61 (rg_in r7 (by decide)) (fun _ _ _ => trivial) dX10_laysLamps_53 (fun f10 H locs hH hI bf10 uf10 => ?_)
            obtain ⟨z11, ez11⟩ : ∃ y : Int32, y = v28_1 + (1 : Int32) := ⟨_, rfl⟩
            have r12 : rg z11 1 4 := rg_add ez11 r7 rl_1 (by decide)
            have a13 : z11.toInt = v28_1.toInt + 1 := ai_add ez11 r7 tl_1 (by decide)
            refine lv_iinc (v := z11) (lv' := [(1, .int z11), (0, .ref q)]) hx hb dX10_laysLamps_54 hl (k := 1) rfl (by rw [ez11]; rfl) (by decide) rfl (fun ls hl => ?_)
            refine lv_goto (tgt := 28) hx hb dX10_laysLamps_57 (by decide) ?_
            exact ih28 _ _ _ _ z11 (fu_s hfu28 a13 (by decide)) hI hH (rg_w r12 (by decide)) (lv_sub hl [1, 0] rfl)
      refine lv_iload_n hx hb dX10_laysLamps_6 rfl (lv_at hl 1 rfl) ?_
      refine lv_bipush (v := (64 : Int32)) hx hb dX10_laysLamps_7 (by decide) ?_
      refine lv_icmp_ge (tgt := 26) hx hb dX10_laysLamps_9 (by decide) (fun c14 => ?_) (fun c14 => ?_)
      · skip
        have r15 : rg v6_1 64 64 := rf_ler (c_le c14) rl_64 r_v6_1 (by decide)
        refine lv_iconst (v := (0 : Int32)) hx hb dX10_laysLamps_26 (by decide) ?_
        refine lv_istore_n (lv' := [(1, .int (0 : Int32)), (0, .ref q)]) hx hb dX10_laysLamps_27 rfl hl (by decide) rfl (fun ls hl => ?_)
        exact cut28 5 _ _ _ _ (0 : Int32) (fu_i 5 rl_0 (by decide)) hI hH (rg_w rl_0 (by decide)) (lv_sub hl [1, 0] rfl)
      · skip
        have r16 : rg v6_1 0 63 := rf_ltl (n_le c14) r_v6_1 rl_64 (by decide)
        refine lv_aload_n hx hb dX10_laysLamps_12 rfl (lv_at hl 0 rfl) ?_
        refine t_getX C hH hI.1 mq tq td_40 iX10 rfl 30 (by decide) wd922 rfl (hI.rf kq_30) dX10_laysLamps_13 ?_
        refine lv_iload_n hx hb dX10_laysLamps_16 rfl (lv_at hl 1 rfl) ?_
        refine lv_ldc hx hb C.2.2.2.1 (C.2.2.2.2.1 _ wd938) dX10_laysLamps_17 ?_
        refine t_ast C hH hI mq_30 tq_30 (by decide) td_57 (rg_in r16 (by decide)) (fun _ _ _ => trivial) dX10_laysLamps_19 (fun f17 H locs hH hI bf17 uf17 => ?_)
        obtain ⟨z18, ez18⟩ : ∃ y : Int32, y = v6_1 + (1 : Int32) := ⟨_, rfl⟩
        have r19 : rg z18 1 64 := rg_add ez18 r16 rl_1 (by decide)
        have a20 : z18.toInt = v6_1.toInt + 1 := ai_add ez18 r16 tl_1 (by decide)
        refine lv_iinc (v := z18) (lv' := [(1, .int z18), (0, .ref q)]) hx hb dX10_laysLamps_20 hl (k := 1) rfl (by rw [ez18]; rfl) (by decide) rfl (fun ls hl => ?_)
        refine lv_goto (tgt := 6) hx hb dX10_laysLamps_23 (by decide) ?_
        exact ih6 _ _ _ _ z18 (fu_s hfu6 a20 (by decide)) hI hH (rg_w r19 (by decide)) (lv_sub hl [1, 0] rfl)
  refine lv_aload_n hx hb dX10_laysLamps_0 rfl (lv_at hl 0 rfl) ?_
  refine t_Vv C hO hl.1 hA hH hI.1 (As := []) (rest := []) (t_X10_lays l E J τ L f hI.1 mq tq) my_X10_lays wd813 mq tq td_40 rfl rfl rfl (Nat.le_of_ble_eq_true rfl) ⟨Nat.le_of_ble_eq_true rfl, Nat.le_of_ble_eq_true rfl⟩ ⟨rfl, rfl⟩ dX10_laysLamps_1 (fun L1 f21 H locs hp hH => ?_)
  obtain ⟨rfl, s23, h24⟩ := hp
  have hI := hI.call s23 (by decide)
  refine lv_iconst (v := (0 : Int32)) hx hb dX10_laysLamps_4 (by decide) ?_
  refine lv_istore_n (lv' := [(1, .int (0 : Int32)), (0, .ref q)]) hx hb dX10_laysLamps_5 rfl hl (by decide) rfl (fun ls hl => ?_)
  exact cut6 65 _ _ _ _ (0 : Int32) (fu_i 65 rl_0 (by decide)) hI hH (rg_w rl_0 (by decide)) (lv_sub hl [1, 0] rfl)
