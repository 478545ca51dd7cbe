set_option maxHeartbeats 4000000 in
set_option maxRecDepth 100000 in
theorem t_X7_trace (l : Launch) (E : gE) (J : Nat → Nat) (τ : Nat → Nat) (L : List Nat) (f : gF) (hI : tI E L τ f) {q : Nat} (mq : q ∈ L) (tq : τ q = 19) (p1 : Int32) (rp1 : rg p1 0 19) (p2 : Int32) (rp2 : rg p2 0 3) : tMv l E J yX7_trace cX7_trace 6 (gRm (2) 0 0) [.ref q, .int p1, .int p2] L f (tPv E L τ [19, 20, 21] f (fun f1 => True)) := by
  refine tMv.intro (by decide) (Nat.le_of_ble_eq_true rfl) ?_
  intro p e s m below meth c A ls C hr hA hO hH hl
  have C : gC E cX7_trace 6 RX7 p s m _ meth c := C
  have hl : lv_has ls 6 [(0, .ref q), (1, .int p1), (2, .int p2)] := hl
  have hx := C.1
  have hb := C.2.1
  have hI := hI.S [19, 20, 21]
  obtain ⟨q_1, mq_1, tq_1, kq_1⟩ := t_fldr hI.1 mq tq td_19 (k := 1) rfl
  obtain ⟨q_2, mq_2, tq_2, kq_2⟩ := t_fldr hI.1 mq tq td_19 (k := 2) rfl
  obtain ⟨q_0, mq_0, tq_0, kq_0⟩ := t_fldr hI.1 mq tq td_19 (k := 0) rfl
  obtain ⟨q_0_19, mq_0_19, tq_0_19, kq_0_19⟩ := t_fldr hI.1 mq_0 tq_0 td_3 (k := 19) rfl
  have cut18 : ∀ (n : Nat) (fh18 : gF) (H : Heap) (locs : List Loc) (ls : Array Slot) (v18_3 : Int32) (v18_4 : Int32) (v18_5 : Int32), 41 - v18_5.toInt < (n : Int) → tS E L τ [19, 20, 21] f fh18 → gH E A L fh18 s.heap H locs → rg v18_3 (-1) 19 → rg v18_4 0 3 → rg v18_5 0 41 → fld fh18 q 7 (.int v18_5) → lv_has ls 6 [(0, .ref q), (1, .int p1), (2, .int p2), (3, .int v18_3), (4, .int v18_4), (5, .int v18_5)] → W p l e (gRm (2) 0 0) s m [.ref q, .int p1, .int p2].toArray below meth c H locs 0 0 (MQ below (gQv E A (tPv E L τ [19, 20, 21] f (fun f1 => True))) [.ref q, .int p1, .int p2].toArray s (gRm (2) 0 0).cells (gRm (2) 0 0).slots A) (F0 m 18 ls []) := by
    intro n
    induction n with
    | zero =>
      intro fh18 H locs ls v18_3 v18_4 v18_5 hfu18 hI hH r_v18_3 r_v18_4 r_v18_5 P18_0 hl
      exact (fu_0 hfu18 r_v18_5).elim
    | succ n ih18 =>
      intro fh18 H locs ls v18_3 v18_4 v18_5 hfu18 hI hH r_v18_3 r_v18_4 r_v18_5 P18_0 hl
      have cut61 : ∀ (fh61 : gF) (H : Heap) (locs : List Loc) (ls : Array Slot) (v61_4 : Int32), tS E L τ [19, 20, 21] f fh61 → gH E A L fh61 s.heap H locs → rg v61_4 0 3 → rg v18_3 0 19 → rg v18_5 0 40 → fld fh61 q 7 (.int v18_5) → lv_has ls 6 [(0, .ref q), (1, .int p1), (2, .int p2), (3, .int v18_3), (4, .int v61_4), (5, .int v18_5)] → W p l e (gRm (2) 0 0) s m [.ref q, .int p1, .int p2].toArray below meth c H locs 0 0 (MQ below (gQv E A (tPv E L τ [19, 20, 21] f (fun f1 => True))) [.ref q, .int p1, .int p2].toArray s (gRm (2) 0 0).cells (gRm (2) 0 0).slots A) (F0 m 61 ls []) := by
        intro fh61 H locs ls v61_4 hI hH r_v61_4 r61_v18_3 r61_v18_5 P61_0 hl
        refine lv_aload_n hx hb dX7_trace_61 rfl (lv_at hl 0 rfl) ?_
        refine t_getX C hH hI.1 mq tq td_19 iX7 rfl 1 (by decide) wd61 rfl (hI.rf kq_1) dX7_trace_62 ?_
        refine lv_iload hx hb dX7_trace_65 (lv_at hl 5 rfl) ?_
        refine lv_iload_n hx hb dX7_trace_67 rfl (lv_at hl 3 rfl) ?_
        refine t_ast C hH hI mq_1 tq_1 (by decide) td_20 (rg_in r61_v18_5 (by decide)) (fun _ _ h => tR_upd h r61_v18_3) dX7_trace_68 (fun f1 H locs hH hI bf1 uf1 => ?_)
        have k2 : fld f1 q 7 (.int v18_5) := fld.eq P61_0 (bf1 q (ty_ne tq tq_1 rfl))
        refine lv_aload_n hx hb dX7_trace_69 rfl (lv_at hl 0 rfl) ?_
        refine t_getX C hH hI.1 mq tq td_19 iX7 rfl 2 (by decide) wd62 rfl (hI.rf kq_2) dX7_trace_70 ?_
        refine lv_iload hx hb dX7_trace_73 (lv_at hl 5 rfl) ?_
        refine lv_iload hx hb dX7_trace_75 (lv_at hl 4 rfl) ?_
        refine t_ast C hH hI mq_2 tq_2 (by decide) td_21 (rg_in r61_v18_5 (by decide)) (fun _ _ _ => trivial) dX7_trace_77 (fun f3 H locs hH hI bf3 uf3 => ?_)
        have k4 : fld f3 q 7 (.int v18_5) := fld.eq k2 (bf3 q (ty_ne tq tq_2 rfl))
        refine lv_aload_n hx hb dX7_trace_78 rfl (lv_at hl 0 rfl) ?_
        refine lv_dup hx hb dX7_trace_79 rfl ?_
        refine t_getX C hH hI.1 mq tq td_19 iX7 rfl 7 (by decide) wd60 rfl k4 dX7_trace_80 ?_
        refine lv_iconst (v := (1 : Int32)) hx hb dX7_trace_83 (by decide) ?_
        refine lv_iadd hx hb dX7_trace_84 ?_
        refine lv_topi (fun z5 ez5 => ?_)
        have r6 : rg z5 1 41 := rg_add ez5 r61_v18_5 rl_1 (by decide)
        have a7 : z5.toInt = v18_5.toInt + 1 := ai_add ez5 r61_v18_5 tl_1 (by decide)
        refine t_put C hH hI mq tq (by decide) td_19 iX7 tyX7 tyX7_ok nmX7 rfl 7 (by decide) wd60 rfl rfl (v := .int z5) rfl rfl rfl ⟨_, rfl, (rg_w r6 (by decide))⟩ (fun _ h => nomatch h) dX7_trace_85 (fun f8 H locs hH hI nf8 of8 bf8 => ?_)
        refine lv_aload_n hx hb dX7_trace_88 rfl (lv_at hl 0 rfl) ?_
        refine t_getX C hH hI.1 mq tq td_19 iX7 rfl 0 (by decide) wd67 rfl (hI.rf kq_0) dX7_trace_89 ?_
        refine t_getX C hH hI.1 mq_0 tq_0 td_3 iX3 rfl 19 (by decide) wd85 rfl (hI.rf kq_0_19) dX7_trace_92 ?_
        refine lv_iload_n hx hb dX7_trace_95 rfl (lv_at hl 3 rfl) ?_
        refine lv_iconst (v := (4 : Int32)) hx hb dX7_trace_96 (by decide) ?_
        refine lv_imul hx hb dX7_trace_97 ?_
        refine lv_topi (fun z9 ez9 => ?_)
        have r10 : rg z9 0 76 := rg_mul ez9 r61_v18_3 rl_4 (by decide)
        refine lv_iload hx hb dX7_trace_98 (lv_at hl 4 rfl) ?_
        refine lv_iadd hx hb dX7_trace_100 ?_
        refine lv_topi (fun z11 ez11 => ?_)
        have r12 : rg z11 0 79 := rg_add ez11 r10 r_v61_4 (by decide)
        refine t_aldR C hH hI.1 mq_0_19 tq_0_19 td_13 (rg_in r12 (by decide)) dX7_trace_101 (fun z13 rz13 => ?_)
        refine lv_istore_n (lv' := [(3, .int z13), (0, .ref q), (1, .int p1), (2, .int p2), (4, .int v61_4), (5, .int v18_5)]) hx hb dX7_trace_102 rfl hl (by decide) rfl (fun ls hl => ?_)
        obtain ⟨z14, ez14⟩ : ∃ y : Int32, y = v18_5 + (1 : Int32) := ⟨_, rfl⟩
        have r15 : rg z14 1 41 := rg_add ez14 r61_v18_5 rl_1 (by decide)
        have a16 : z14.toInt = v18_5.toInt + 1 := ai_add ez14 r61_v18_5 tl_1 (by decide)
        refine lv_iinc (v := z14) (lv' := [(5, .int z14), (3, .int z13), (0, .ref q), (1, .int p1), (2, .int p2), (4, .int v61_4)]) hx hb dX7_trace_103 hl (k := 5) rfl (by rw [ez14]; rfl) (by decide) rfl (fun ls hl => ?_)
        refine lv_goto (tgt := 18) hx hb dX7_trace_106 (by decide) ?_
        exact ih18 _ _ _ _ z13 v61_4 z14 (fu_s hfu18 a16 (by decide)) hI hH rz13 r_v61_4 (rg_w r15 (by decide)) (fld_cast nf8 (ez5.trans ez14.symm)) (lv_sub hl [2, 3, 4, 1, 5, 0] rfl)
      refine lv_iload hx hb dX7_trace_18 (lv_at hl 5 rfl) ?_
      refine lv_bipush (v := (41 : Int32)) hx hb dX7_trace_20 (by decide) ?_
      refine lv_icmp_ge (tgt := 109) hx hb dX7_trace_22 (by decide) (fun c17 => ?_) (fun c17 => ?_)
      · skip
        have r18 : rg v18_5 41 41 := rf_ler (c_le c17) rl_41 r_v18_5 (by decide)
        exact g_vret C hr hH (Nat.zero_le _) (Nat.zero_le _) dX7_trace_109 ⟨rfl, hI, trivial⟩
      · skip
        have r19 : rg v18_5 0 40 := rf_ltl (n_le c17) r_v18_5 rl_41 (by decide)
        refine lv_iload_n hx hb dX7_trace_25 rfl (lv_at hl 3 rfl) ?_
        refine lv_iconst (v := (-1 : Int32)) hx hb dX7_trace_26 (by decide) ?_
        refine lv_icmp_eq (tgt := 109) hx hb dX7_trace_27 (by decide) (fun c20 => ?_) (fun c20 => ?_)
        · skip
          have r21 : rg v18_3 (-1) (-1) := rf_eql (c_eq c20) r_v18_3 rl_m1 (by decide)
          exact g_vret C hr hH (Nat.zero_le _) (Nat.zero_le _) dX7_trace_109 ⟨rfl, hI, trivial⟩
        · skip
          have r22 : rg v18_3 0 19 := rf_nel (n_eq c20) r_v18_3 rl_m1 (by decide)
          refine lv_aload_n hx hb dX7_trace_30 rfl (lv_at hl 0 rfl) ?_
          obtain ⟨z23, rz23, kz23⟩ := t_fldi hI.1 mq tq td_19 (k := 5) rfl
          refine t_getX C hH hI.1 mq tq td_19 iX7 rfl 5 (by decide) wd58 rfl kz23 dX7_trace_31 ?_
          refine lv_iload_n hx hb dX7_trace_34 rfl (lv_at hl 3 rfl) ?_
          refine t_SNi C hO hl.1 hA hH (As := [.int z23, .int v18_3]) (rest := []) (t_X9_hasBit l E J τ L fh18 hI.1 z23 v18_3) my_X9_hasBit (host := "GooseShares") (List.mem_of_getElem? (i := 8) rfl) rfl rfl (Nat.le_of_ble_eq_true rfl) ⟨Nat.le_of_ble_eq_true rfl, Nat.le_of_ble_eq_true rfl⟩ ⟨rfl, rfl⟩ dX7_trace_35 (fun r25 L1 f24 H locs hp hH => ?_)
          obtain ⟨rfl, s26, h27⟩ := hp
          have hI := hI.call s26 (by decide)
          have k28 : fld f24 q 7 (.int v18_5) := fld.eq P18_0 (s26.fr q mq (t_lim tq rfl))
          have k29 : fld f24 q 5 (.int z23) := fld.eq kz23 (s26.fr q mq (t_lim tq rfl))
          refine lv_if_eq (tgt := 61) hx hb dX7_trace_38 (by decide) (fun c30 => ?_) (fun c30 => ?_)
          · skip
            have r31 : rg r25 0 0 := rf_eql (c_eq c30) h27 rl_0 (by decide)
            exact cut61 _ _ _ _ v18_4 hI hH r_v18_4 r22 r19 k28 (lv_sub hl [0, 1, 2, 3, 4, 5] rfl)
          · skip
            have r32 : rg r25 1 1 := rf_nel (n_eq c30) h27 rl_0 (by decide)
            refine lv_aload_n hx hb dX7_trace_41 rfl (lv_at hl 0 rfl) ?_
            refine lv_iload hx hb dX7_trace_42 (lv_at hl 4 rfl) ?_
            refine lv_iload hx hb dX7_trace_44 (lv_at hl 5 rfl) ?_
            refine t_Vi C hO hl.1 hA hH hI.1 (As := [.int v18_4, .int v18_5]) (rest := []) (t_X7_turned l E J τ L f24 hI.1 mq tq v18_4 v18_5) my_X7_turned wd89 mq tq td_19 rfl rfl rfl (Nat.le_of_ble_eq_true rfl) ⟨Nat.le_of_ble_eq_true rfl, Nat.le_of_ble_eq_true rfl⟩ ⟨rfl, rfl⟩ dX7_trace_46 (fun r34 L1 f33 H locs hp hH => ?_)
            obtain ⟨rfl, s35, h36⟩ := hp
            have hI := hI.call s35 (by decide)
            have k37 : fld f33 q 7 (.int v18_5) := fld.eq k28 (s35.fr q mq (t_lim tq rfl))
            have k38 : fld f33 q 5 (.int z23) := fld.eq k29 (s35.fr q mq (t_lim tq rfl))
            refine lv_istore (lv' := [(4, .int r34), (0, .ref q), (1, .int p1), (2, .int p2), (3, .int v18_3), (5, .int v18_5)]) hx hb dX7_trace_49 hl (by decide) rfl (fun ls hl => ?_)
            refine lv_aload_n hx hb dX7_trace_51 rfl (lv_at hl 1 rfl) ?_
            refine lv_dup hx hb dX7_trace_52 rfl ?_
            obtain ⟨z39, rz39, kz39⟩ := t_fldi hI.1 mq tq td_19 (k := 9) rfl
            refine t_getX C hH hI.1 mq tq td_19 iX7 rfl 9 (by decide) wd90 rfl kz39 dX7_trace_53 ?_
            refine lv_iconst (v := (1 : Int32)) hx hb dX7_trace_56 (by decide) ?_
            refine lv_iadd hx hb dX7_trace_57 ?_
            refine lv_topi (fun z40 ez40 => ?_)
            refine t_put C hH hI mq tq (by decide) td_19 iX7 tyX7 tyX7_ok nmX7 rfl 9 (by decide) wd90 rfl rfl (v := .int z40) rfl rfl rfl ⟨_, rfl, (rg_all _)⟩ (fun _ h => nomatch h) dX7_trace_58 (fun f41 H locs hH hI nf41 of41 bf41 => ?_)
            have k42 : fld f41 q 7 (.int v18_5) := of41 7 _ (by decide) k37
            have k43 : fld f41 q 5 (.int z23) := of41 5 _ (by decide) k38
            exact cut61 _ _ _ _ r34 hI hH h36 r22 r19 k42 (lv_sub hl [1, 2, 3, 4, 0, 5] rfl)
  refine lv_iload_n hx hb dX7_trace_0 rfl (lv_at hl 1 rfl) ?_
  refine lv_istore_n (lv' := [(3, .int p1), (0, .ref q), (1, .int p1), (2, .int p2)]) hx hb dX7_trace_1 rfl hl (by decide) rfl (fun ls hl => ?_)
  refine lv_iload_n hx hb dX7_trace_2 rfl (lv_at hl 3 rfl) ?_
  refine lv_istore (lv' := [(4, .int p2), (3, .int p1), (0, .ref q), (1, .int p1), (2, .int p2)]) hx hb dX7_trace_3 hl (by decide) rfl (fun ls hl => ?_)
  refine lv_aload_n hx hb dX7_trace_5 rfl (lv_at hl 2 rfl) ?_
  refine lv_iconst (v := (0 : Int32)) hx hb dX7_trace_6 (by decide) ?_
  refine t_put C hH hI mq tq (by decide) td_19 iX7 tyX7 tyX7_ok nmX7 rfl 7 (by decide) wd60 rfl rfl (v := .int (0 : Int32)) rfl rfl rfl ⟨_, rfl, (rg_w rl_0 (by decide))⟩ (fun _ h => nomatch h) dX7_trace_7 (fun f44 H locs hH hI nf44 of44 bf44 => ?_)
  refine lv_aload_n hx hb dX7_trace_10 rfl (lv_at hl 2 rfl) ?_
  refine lv_iconst (v := (0 : Int32)) hx hb dX7_trace_11 (by decide) ?_
  refine t_put C hH hI mq tq (by decide) td_19 iX7 tyX7 tyX7_ok nmX7 rfl 9 (by decide) wd90 rfl rfl (v := .int (0 : Int32)) rfl rfl rfl ⟨_, rfl, (rg_w rl_0 (by decide))⟩ (fun _ h => nomatch h) dX7_trace_12 (fun f45 H locs hH hI nf45 of45 bf45 => ?_)
  have k46 : fld f45 q 7 (.int (0 : Int32)) := of45 7 _ (by decide) nf44
  refine lv_iconst (v := (0 : Int32)) hx hb dX7_trace_15 (by decide) ?_
  refine lv_istore (lv' := [(5, .int (0 : Int32)), (4, .int p2), (3, .int p1), (0, .ref q), (1, .int p1), (2, .int p2)]) hx hb dX7_trace_16 hl (by decide) rfl (fun ls hl => ?_)
  exact cut18 42 _ _ _ _ p1 p2 (0 : Int32) (fu_i 42 rl_0 (by decide)) hI hH (rg_w rp1 (by decide)) rp2 (rg_w rl_0 (by decide)) k46 (lv_sub hl [3, 4, 5, 2, 1, 0] rfl)
set_option maxHeartbeats 4000000 in
set_option maxRecDepth 100000 in
theorem t_X7_follow (l : Launch) (E : gE) (J : Nat → Nat) (τ : Nat → Nat) (L : List Nat) (f : gF) (hI : tI E L τ f) {q : Nat} (mq : q ∈ L) (tq : τ q = 19) (p1 : Int32) (rp1 : rg p1 0 3) : tMv l E J yX7_follow cX7_follow 2 (gRm (3) 0 0) [.ref q, .int p1] L f (tPv E L τ [19, 20, 21] f (fun f1 => True)) := by
  refine tMv.intro (by decide) (Nat.le_of_ble_eq_true rfl) ?_
  intro p e s m below meth c A ls C hr hA hO hH hl
  have C : gC E cX7_follow 2 RX7 p s m _ meth c := C
  have hl : lv_has ls 2 [(0, .ref q), (1, .int p1)] := hl
  have hx := C.1
  have hb := C.2.1
  have hI := hI.S [19, 20, 21]
  obtain ⟨q_0, mq_0, tq_0, kq_0⟩ := t_fldr hI.1 mq tq td_19 (k := 0) rfl
  obtain ⟨q_0_10, mq_0_10, tq_0_10, kq_0_10⟩ := t_fldr hI.1 mq_0 tq_0 td_3 (k := 10) rfl
  obtain ⟨q_0_11, mq_0_11, tq_0_11, kq_0_11⟩ := t_fldr hI.1 mq_0 tq_0 td_3 (k := 11) rfl
  refine lv_aload_n hx hb dX7_follow_0 rfl (lv_at hl 0 rfl) ?_
  refine lv_aload_n hx hb dX7_follow_1 rfl (lv_at hl 0 rfl) ?_
  refine t_getX C hH hI.1 mq tq td_19 iX7 rfl 0 (by decide) wd67 rfl (hI.rf kq_0) dX7_follow_2 ?_
  refine t_getX C hH hI.1 mq_0 tq_0 td_3 iX3 rfl 10 (by decide) wd91 rfl (hI.rf kq_0_10) dX7_follow_5 ?_
  refine lv_iload_n hx hb dX7_follow_8 rfl (lv_at hl 1 rfl) ?_
  refine t_aldR C hH hI.1 mq_0_10 tq_0_10 td_4 (rg_in rp1 (by decide)) dX7_follow_9 (fun z1 rz1 => ?_)
  refine lv_aload_n hx hb dX7_follow_10 rfl (lv_at hl 0 rfl) ?_
  refine t_getX C hH hI.1 mq tq td_19 iX7 rfl 0 (by decide) wd67 rfl (hI.rf kq_0) dX7_follow_11 ?_
  refine t_getX C hH hI.1 mq_0 tq_0 td_3 iX3 rfl 11 (by decide) wd92 rfl (hI.rf kq_0_11) dX7_follow_14 ?_
  refine lv_iload_n hx hb dX7_follow_17 rfl (lv_at hl 1 rfl) ?_
  refine t_aldR C hH hI.1 mq_0_11 tq_0_11 td_5 (rg_in rp1 (by decide)) dX7_follow_18 (fun z2 rz2 => ?_)
  refine t_Vv C hO hl.1 hA hH hI.1 (As := [.int z1, .int z2]) (rest := []) (t_X7_trace l E J τ L f hI.1 mq tq z1 rz1 z2 rz2) my_X7_trace wd96 mq tq td_19 rfl rfl rfl (Nat.le_of_ble_eq_true rfl) ⟨Nat.le_of_ble_eq_true rfl, Nat.le_of_ble_eq_true rfl⟩ ⟨rfl, rfl⟩ dX7_follow_19 (fun L1 f3 H locs hp hH => ?_)
  obtain ⟨rfl, s5, h6⟩ := hp
  have hI := hI.call s5 (by decide)
  exact g_vret C hr hH (Nat.zero_le _) (Nat.zero_le _) dX7_follow_22 ⟨rfl, hI, trivial⟩
set_option maxHeartbeats 4000000 in
set_option maxRecDepth 100000 in
theorem t_fill_23 (l : Launch) (E : gE) (J : Nat → Nat) (τ : Nat → Nat) (L : List Nat) (f : gF) (hI : tI E L τ f) {q : Nat} (mq : q ∈ L) (tq : τ q = 23) (p1 : Int32) : tMv l E J yJ7_fill_53178 cJ7_fill_53178 4 (gRm (1) 0 0) [.ref q, .int p1] L f (tPv E L τ [23] f (fun f1 => True)) := by
  refine tMv.intro (by decide) (Nat.le_of_ble_eq_true rfl) ?_
  intro p e s m below meth c A ls C hr hA hO hH hl
  have C : gC E cJ7_fill_53178 4 "java/util/Arrays" p s m _ meth c := C
  have hl : lv_has ls 4 [(0, .ref q), (1, .int p1)] := hl
  have hx := C.1
  have hb := C.2.1
  have hI := hI.S [23]
  have cut5 : ∀ (n : Nat) (fh5 : gF) (H : Heap) (locs : List Loc) (ls : Array Slot) (v5_2 : Int32), 20 - v5_2.toInt < (n : Int) → tS E L τ [23] f fh5 → gH E A L fh5 s.heap H locs → rg v5_2 0 20 → lv_has ls 4 [(0, .ref q), (1, .int p1), (2, .int v5_2), (3, .int (20 : Int32))] → W p l e (gRm (1) 0 0) s m [.ref q, .int p1].toArray below meth c H locs 0 0 (MQ below (gQv E A (tPv E L τ [23] f (fun f1 => True))) [.ref q, .int p1].toArray s (gRm (1) 0 0).cells (gRm (1) 0 0).slots A) (F0 m 5 ls []) := by
    intro n
    induction n with
    | zero =>
      intro fh5 H locs ls v5_2 hfu5 hI hH r_v5_2 hl
      exact (fu_0 hfu5 r_v5_2).elim
    | succ n ih5 =>
      intro fh5 H locs ls v5_2 hfu5 hI hH r_v5_2 hl
      refine lv_iload_n hx hb dJ7_fill_53178_5 rfl (lv_at hl 2 rfl) ?_
      refine lv_iload_n hx hb dJ7_fill_53178_6 rfl (lv_at hl 3 rfl) ?_
      refine lv_icmp_ge (tgt := 20) hx hb dJ7_fill_53178_7 (by decide) (fun c1 => ?_) (fun c1 => ?_)
      · skip
        have r2 : rg v5_2 20 20 := rf_ler (c_le c1) rl_20 r_v5_2 (by decide)
        exact g_vret C hr hH (Nat.zero_le _) (Nat.zero_le _) dJ7_fill_53178_20 ⟨rfl, hI, trivial⟩
      · skip
        have r3 : rg v5_2 0 19 := rf_ltl (n_le c1) r_v5_2 rl_20 (by decide)
        refine lv_aload_n hx hb dJ7_fill_53178_10 rfl (lv_at hl 0 rfl) ?_
        refine lv_iload_n hx hb dJ7_fill_53178_11 rfl (lv_at hl 2 rfl) ?_
        refine lv_iload_n hx hb dJ7_fill_53178_12 rfl (lv_at hl 1 rfl) ?_
        refine t_ast C hH hI mq tq (by decide) td_23 (rg_in r3 (by decide)) (fun _ _ _ => trivial) dJ7_fill_53178_13 (fun f4 H locs hH hI bf4 uf4 => ?_)
        obtain ⟨z5, ez5⟩ : ∃ y : Int32, y = v5_2 + (1 : Int32) := ⟨_, rfl⟩
        have r6 : rg z5 1 20 := rg_add ez5 r3 rl_1 (by decide)
        have a7 : z5.toInt = v5_2.toInt + 1 := ai_add ez5 r3 tl_1 (by decide)
        refine lv_iinc (v := z5) (lv' := [(2, .int z5), (0, .ref q), (1, .int p1), (3, .int (20 : Int32))]) hx hb dJ7_fill_53178_14 hl (k := 2) rfl (by rw [ez5]; rfl) (by decide) rfl (fun ls hl => ?_)
        refine lv_goto (tgt := 5) hx hb dJ7_fill_53178_17 (by decide) ?_
        exact ih5 _ _ _ _ z5 (fu_s hfu5 a7 (by decide)) hI hH (rg_w r6 (by decide)) (lv_sub hl [1, 2, 0, 3] rfl)
  refine lv_iconst (v := (0 : Int32)) hx hb dJ7_fill_53178_0 (by decide) ?_
  refine lv_istore_n (lv' := [(2, .int (0 : Int32)), (0, .ref q), (1, .int p1)]) hx hb dJ7_fill_53178_1 rfl hl (by decide) rfl (fun ls hl => ?_)
  refine lv_aload_n hx hb dJ7_fill_53178_2 rfl (lv_at hl 1 rfl) ?_
  refine t_alen C hH hI.1 mq tq td_23 rfl (v := (20 : Int32)) rfl dJ7_fill_53178_3 ?_
  refine lv_istore_n (lv' := [(3, .int (20 : Int32)), (2, .int (0 : Int32)), (0, .ref q), (1, .int p1)]) hx hb dJ7_fill_53178_4 rfl hl (by decide) rfl (fun ls hl => ?_)
  exact cut5 21 _ _ _ _ (0 : Int32) (fu_i 21 rl_0 (by decide)) hI hH (rg_w rl_0 (by decide)) (lv_sub hl [2, 3, 1, 0] rfl)
set_option maxHeartbeats 4000000 in
set_option maxRecDepth 100000 in
theorem t_fill_25 (l : Launch) (E : gE) (J : Nat → Nat) (τ : Nat → Nat) (L : List Nat) (f : gF) (hI : tI E L τ f) {q : Nat} (mq : q ∈ L) (tq : τ q = 25) (p1 : Int32) : tMv l E J yJ7_fill_53178 cJ7_fill_53178 4 (gRm (1) 0 0) [.ref q, .int p1] L f (tPv E L τ [25] f (fun f1 => True)) := by
  refine tMv.intro (by decide) (Nat.le_of_ble_eq_true rfl) ?_
  intro p e s m below meth c A ls C hr hA hO hH hl
  have C : gC E cJ7_fill_53178 4 "java/util/Arrays" p s m _ meth c := C
  have hl : lv_has ls 4 [(0, .ref q), (1, .int p1)] := hl
  have hx := C.1
  have hb := C.2.1
  have hI := hI.S [25]
  have cut5 : ∀ (n : Nat) (fh5 : gF) (H : Heap) (locs : List Loc) (ls : Array Slot) (v5_2 : Int32), 64 - v5_2.toInt < (n : Int) → tS E L τ [25] f fh5 → gH E A L fh5 s.heap H locs → rg v5_2 0 64 → lv_has ls 4 [(0, .ref q), (1, .int p1), (2, .int v5_2), (3, .int (64 : Int32))] → W p l e (gRm (1) 0 0) s m [.ref q, .int p1].toArray below meth c H locs 0 0 (MQ below (gQv E A (tPv E L τ [25] f (fun f1 => True))) [.ref q, .int p1].toArray s (gRm (1) 0 0).cells (gRm (1) 0 0).slots A) (F0 m 5 ls []) := by
    intro n
    induction n with
    | zero =>
      intro fh5 H locs ls v5_2 hfu5 hI hH r_v5_2 hl
      exact (fu_0 hfu5 r_v5_2).elim
    | succ n ih5 =>
      intro fh5 H locs ls v5_2 hfu5 hI hH r_v5_2 hl
      refine lv_iload_n hx hb dJ7_fill_53178_5 rfl (lv_at hl 2 rfl) ?_
      refine lv_iload_n hx hb dJ7_fill_53178_6 rfl (lv_at hl 3 rfl) ?_
      refine lv_icmp_ge (tgt := 20) hx hb dJ7_fill_53178_7 (by decide) (fun c1 => ?_) (fun c1 => ?_)
      · skip
        have r2 : rg v5_2 64 64 := rf_ler (c_le c1) rl_64 r_v5_2 (by decide)
        exact g_vret C hr hH (Nat.zero_le _) (Nat.zero_le _) dJ7_fill_53178_20 ⟨rfl, hI, trivial⟩
      · skip
        have r3 : rg v5_2 0 63 := rf_ltl (n_le c1) r_v5_2 rl_64 (by decide)
        refine lv_aload_n hx hb dJ7_fill_53178_10 rfl (lv_at hl 0 rfl) ?_
        refine lv_iload_n hx hb dJ7_fill_53178_11 rfl (lv_at hl 2 rfl) ?_
        refine lv_iload_n hx hb dJ7_fill_53178_12 rfl (lv_at hl 1 rfl) ?_
        refine t_ast C hH hI mq tq (by decide) td_25 (rg_in r3 (by decide)) (fun _ _ _ => trivial) dJ7_fill_53178_13 (fun f4 H locs hH hI bf4 uf4 => ?_)
        obtain ⟨z5, ez5⟩ : ∃ y : Int32, y = v5_2 + (1 : Int32) := ⟨_, rfl⟩
        have r6 : rg z5 1 64 := rg_add ez5 r3 rl_1 (by decide)
        have a7 : z5.toInt = v5_2.toInt + 1 := ai_add ez5 r3 tl_1 (by decide)
        refine lv_iinc (v := z5) (lv' := [(2, .int z5), (0, .ref q), (1, .int p1), (3, .int (64 : Int32))]) hx hb dJ7_fill_53178_14 hl (k := 2) rfl (by rw [ez5]; rfl) (by decide) rfl (fun ls hl => ?_)
        refine lv_goto (tgt := 5) hx hb dJ7_fill_53178_17 (by decide) ?_
        exact ih5 _ _ _ _ z5 (fu_s hfu5 a7 (by decide)) hI hH (rg_w r6 (by decide)) (lv_sub hl [1, 2, 0, 3] rfl)
  refine lv_iconst (v := (0 : Int32)) hx hb dJ7_fill_53178_0 (by decide) ?_
  refine lv_istore_n (lv' := [(2, .int (0 : Int32)), (0, .ref q), (1, .int p1)]) hx hb dJ7_fill_53178_1 rfl hl (by decide) rfl (fun ls hl => ?_)
  refine lv_aload_n hx hb dJ7_fill_53178_2 rfl (lv_at hl 1 rfl) ?_
  refine t_alen C hH hI.1 mq tq td_25 rfl (v := (64 : Int32)) rfl dJ7_fill_53178_3 ?_
  refine lv_istore_n (lv' := [(3, .int (64 : Int32)), (2, .int (0 : Int32)), (0, .ref q), (1, .int p1)]) hx hb dJ7_fill_53178_4 rfl hl (by decide) rfl (fun ls hl => ?_)
  exact cut5 65 _ _ _ _ (0 : Int32) (fu_i 65 rl_0 (by decide)) hI hH (rg_w rl_0 (by decide)) (lv_sub hl [2, 3, 1, 0] rfl)
set_option maxHeartbeats 4000000 in
set_option maxRecDepth 100000 in
theorem t_X7_pass (l : Launch) (E : gE) (J : Nat → Nat) (τ : Nat → Nat) (L : List Nat) (f : gF) (hI : tI E L τ f) {q : Nat} (mq : q ∈ L) (tq : τ q = 19) (p1 : Int32) : tMv l E J yX7_pass cX7_pass 4 (gRm (3) 0 0) [.ref q, .int p1] L f (tPv E L τ [19, 20, 21, 23] f (fun f1 => True)) := by
  refine tMv.intro (by decide) (Nat.le_of_ble_eq_true rfl) ?_
  intro p e s m below meth c A ls C hr hA hO hH hl
  have C : gC E cX7_pass 4 RX7 p s m _ meth c := C
  have hl : lv_has ls 4 [(0, .ref q), (1, .int p1)] := hl
  have hx := C.1
  have hb := C.2.1
  have hI := hI.S [19, 20, 21, 23]
  obtain ⟨q_4, mq_4, tq_4, kq_4⟩ := t_fldr hI.1 mq tq td_19 (k := 4) rfl
  obtain ⟨q_0, mq_0, tq_0, kq_0⟩ := t_fldr hI.1 mq tq td_19 (k := 0) rfl
  obtain ⟨q_0_10, mq_0_10, tq_0_10, kq_0_10⟩ := t_fldr hI.1 mq_0 tq_0 td_3 (k := 10) rfl
  obtain ⟨q_0_11, mq_0_11, tq_0_11, kq_0_11⟩ := t_fldr hI.1 mq_0 tq_0 td_3 (k := 11) rfl
  obtain ⟨q_1, mq_1, tq_1, kq_1⟩ := t_fldr hI.1 mq tq td_19 (k := 1) rfl
  obtain ⟨q_0_12, mq_0_12, tq_0_12, kq_0_12⟩ := t_fldr hI.1 mq_0 tq_0 td_3 (k := 12) rfl
  have cut10 : ∀ (n : Nat) (fh10 : gF) (H : Heap) (locs : List Loc) (ls : Array Slot) (v10_2 : Int32), 4 - v10_2.toInt < (n : Int) → tS E L τ [19, 20, 21, 23] f fh10 → gH E A L fh10 s.heap H locs → rg v10_2 0 4 → lv_has ls 4 [(0, .ref q), (1, .int p1), (2, .int v10_2)] → W p l e (gRm (3) 0 0) s m [.ref q, .int p1].toArray below meth c H locs 0 0 (MQ below (gQv E A (tPv E L τ [19, 20, 21, 23] f (fun f1 => True))) [.ref q, .int p1].toArray s (gRm (3) 0 0).cells (gRm (3) 0 0).slots A) (F0 m 10 ls []) := by
    intro n
    induction n with
    | zero =>
      intro fh10 H locs ls v10_2 hfu10 hI hH r_v10_2 hl
      exact (fu_0 hfu10 r_v10_2).elim
    | succ n ih10 =>
      intro fh10 H locs ls v10_2 hfu10 hI hH r_v10_2 hl
      have cut53 : ∀ (n : Nat) (fh53 : gF) (H : Heap) (locs : List Loc) (ls : Array Slot) (v53_3 : Int32), 41 - v53_3.toInt < (n : Int) → tS E L τ [19, 20, 21, 23] f fh53 → gH E A L fh53 s.heap H locs → rg v53_3 0 41 → rg v10_2 0 3 → lv_has ls 4 [(0, .ref q), (1, .int p1), (2, .int v10_2), (3, .int v53_3)] → W p l e (gRm (3) 0 0) s m [.ref q, .int p1].toArray below meth c H locs 0 0 (MQ below (gQv E A (tPv E L τ [19, 20, 21, 23] f (fun f1 => True))) [.ref q, .int p1].toArray s (gRm (3) 0 0).cells (gRm (3) 0 0).slots A) (F0 m 53 ls []) := by
        intro n
        induction n with
        | zero =>
          intro fh53 H locs ls v53_3 hfu53 hI hH r_v53_3 r53_v10_2 hl
          exact (fu_0 hfu53 r_v53_3).elim
        | succ n ih53 =>
          intro fh53 H locs ls v53_3 hfu53 hI hH r_v53_3 r53_v10_2 hl
          refine lv_iload_n hx hb dX7_pass_53 rfl (lv_at hl 3 rfl) ?_
          refine lv_aload_n hx hb dX7_pass_54 rfl (lv_at hl 0 rfl) ?_
          refine t_geti C hH hI.1 mq tq td_19 iX7 rfl 7 (by decide) wd60 rfl rfl dX7_pass_55 (fun z1 rz1 => ?_)
          refine lv_icmp_ge (tgt := 90) hx hb dX7_pass_58 (by decide) (fun c2 => ?_) (fun c2 => ?_)
          · skip
            obtain ⟨z3, ez3⟩ : ∃ y : Int32, y = v10_2 + (1 : Int32) := ⟨_, rfl⟩
            have r4 : rg z3 1 4 := rg_add ez3 r53_v10_2 rl_1 (by decide)
            have a5 : z3.toInt = v10_2.toInt + 1 := ai_add ez3 r53_v10_2 tl_1 (by decide)
            refine lv_iinc (v := z3) (lv' := [(2, .int z3), (0, .ref q), (1, .int p1), (3, .int v53_3)]) hx hb dX7_pass_90 hl (k := 2) rfl (by rw [ez3]; rfl) (by decide) rfl (fun ls hl => ?_)
            refine lv_goto (tgt := 10) hx hb dX7_pass_93 (by decide) ?_
            exact ih10 _ _ _ _ z3 (fu_s hfu10 a5 (by decide)) hI hH (rg_w r4 (by decide)) (lv_sub hl [1, 2, 0] rfl)
          · skip
            have r6 : rg v53_3 0 40 := rf_ltl (n_le c2) r_v53_3 rz1 (by decide)
            have r7 : rg z1 1 41 := rf_ltr (n_le c2) r_v53_3 rz1 (by decide)
            refine lv_aload_n hx hb dX7_pass_61 rfl (lv_at hl 0 rfl) ?_
            refine t_getX C hH hI.1 mq tq td_19 iX7 rfl 4 (by decide) wd66 rfl (hI.rf kq_4) dX7_pass_62 ?_
            refine lv_aload_n hx hb dX7_pass_65 rfl (lv_at hl 0 rfl) ?_
            refine t_getX C hH hI.1 mq tq td_19 iX7 rfl 1 (by decide) wd61 rfl (hI.rf kq_1) dX7_pass_66 ?_
            refine lv_iload_n hx hb dX7_pass_69 rfl (lv_at hl 3 rfl) ?_
            refine t_aldR C hH hI.1 mq_1 tq_1 td_20 (rg_in r6 (by decide)) dX7_pass_70 (fun z8 rz8 => ?_)
            refine lv_dup2_11 hx hb dX7_pass_71 rfl rfl ?_
            refine t_ald C hH hI.1 mq_4 tq_4 td_23 (rg_in rz8 (by decide)) dX7_pass_72 (fun z9v az9 _ => ?_)
            refine lv_topi (fun z9 ez9 => ?_)
            refine lv_aload_n hx hb dX7_pass_73 rfl (lv_at hl 0 rfl) ?_
            refine t_getX C hH hI.1 mq tq td_19 iX7 rfl 0 (by decide) wd67 rfl (hI.rf kq_0) dX7_pass_74 ?_
            refine t_getX C hH hI.1 mq_0 tq_0 td_3 iX3 rfl 12 (by decide) wd97 rfl (hI.rf kq_0_12) dX7_pass_77 ?_
            refine lv_iload_n hx hb dX7_pass_80 rfl (lv_at hl 2 rfl) ?_
            refine t_ald C hH hI.1 mq_0_12 tq_0_12 td_6 (rg_in r53_v10_2 (by decide)) dX7_pass_81 (fun z10v az10 _ => ?_)
            refine lv_topi (fun z10 ez10 => ?_)
            refine lv_iadd hx hb dX7_pass_82 ?_
            refine lv_topi (fun z11 ez11 => ?_)
            refine t_ast C hH hI mq_4 tq_4 (by decide) td_23 (rg_in rz8 (by decide)) (fun _ _ _ => trivial) dX7_pass_83 (fun f12 H locs hH hI bf12 uf12 => ?_)
            obtain ⟨z13, ez13⟩ : ∃ y : Int32, y = v53_3 + (1 : Int32) := ⟨_, rfl⟩
            have r14 : rg z13 1 41 := rg_add ez13 r6 rl_1 (by decide)
            have a15 : z13.toInt = v53_3.toInt + 1 := ai_add ez13 r6 tl_1 (by decide)
            refine lv_iinc (v := z13) (lv' := [(3, .int z13), (0, .ref q), (1, .int p1), (2, .int v10_2)]) hx hb dX7_pass_84 hl (k := 3) rfl (by rw [ez13]; rfl) (by decide) rfl (fun ls hl => ?_)
            refine lv_goto (tgt := 53) hx hb dX7_pass_87 (by decide) ?_
            exact ih53 _ _ _ _ z13 (fu_s hfu53 a15 (by decide)) hI hH (rg_w r14 (by decide)) r53_v10_2 (lv_sub hl [1, 2, 3, 0] rfl)
      refine lv_iload_n hx hb dX7_pass_10 rfl (lv_at hl 2 rfl) ?_
      refine lv_aload_n hx hb dX7_pass_11 rfl (lv_at hl 0 rfl) ?_
      refine t_getX C hH hI.1 mq tq td_19 iX7 rfl 0 (by decide) wd67 rfl (hI.rf kq_0) dX7_pass_12 ?_
      refine t_geti C hH hI.1 mq_0 tq_0 td_3 iX3 rfl 6 (by decide) wd98 rfl rfl dX7_pass_15 (fun z16 rz16 => ?_)
      refine lv_icmp_ge (tgt := 96) hx hb dX7_pass_18 (by decide) (fun c17 => ?_) (fun c17 => ?_)
      · skip
        exact g_vret C hr hH (Nat.zero_le _) (Nat.zero_le _) dX7_pass_96 ⟨rfl, hI, trivial⟩
      · skip
        have r18 : rg v10_2 0 3 := rf_ltl (n_le c17) r_v10_2 rz16 (by decide)
        have r19 : rg z16 1 4 := rf_ltr (n_le c17) r_v10_2 rz16 (by decide)
        refine lv_iload_n hx hb dX7_pass_21 rfl (lv_at hl 1 rfl) ?_
        refine lv_iload_n hx hb dX7_pass_22 rfl (lv_at hl 2 rfl) ?_
        refine t_SNi C hO hl.1 hA hH (As := [.int p1, .int v10_2]) (rest := []) (t_X9_hasBit l E J τ L fh10 hI.1 p1 v10_2) my_X9_hasBit (host := "GooseShares") (List.mem_of_getElem? (i := 8) rfl) rfl rfl (Nat.le_of_ble_eq_true rfl) ⟨Nat.le_of_ble_eq_true rfl, Nat.le_of_ble_eq_true rfl⟩ ⟨rfl, rfl⟩ dX7_pass_23 (fun r21 L1 f20 H locs hp hH => ?_)
        obtain ⟨rfl, s22, h23⟩ := hp
        have hI := hI.call s22 (by decide)
        refine lv_if_eq (tgt := 90) hx hb dX7_pass_26 (by decide) (fun c24 => ?_) (fun c24 => ?_)
        · skip
          have r25 : rg r21 0 0 := rf_eql (c_eq c24) h23 rl_0 (by decide)
          obtain ⟨z26, ez26⟩ : ∃ y : Int32, y = v10_2 + (1 : Int32) := ⟨_, rfl⟩
          have r27 : rg z26 1 4 := rg_add ez26 r18 rl_1 (by decide)
          have a28 : z26.toInt = v10_2.toInt + 1 := ai_add ez26 r18 tl_1 (by decide)
          refine lv_iinc (v := z26) (lv' := [(2, .int z26), (0, .ref q), (1, .int p1)]) hx hb dX7_pass_90 hl (k := 2) rfl (by rw [ez26]; rfl) (by decide) rfl (fun ls hl => ?_)
          refine lv_goto (tgt := 10) hx hb dX7_pass_93 (by decide) ?_
          exact ih10 _ _ _ _ z26 (fu_s hfu10 a28 (by decide)) hI hH (rg_w r27 (by decide)) (lv_sub hl [1, 2, 0] rfl)
        · skip
          have r29 : rg r21 1 1 := rf_nel (n_eq c24) h23 rl_0 (by decide)
          refine lv_aload_n hx hb dX7_pass_29 rfl (lv_at hl 0 rfl) ?_
          refine lv_aload_n hx hb dX7_pass_30 rfl (lv_at hl 0 rfl) ?_
          refine t_getX C hH hI.1 mq tq td_19 iX7 rfl 0 (by decide) wd67 rfl (hI.rf kq_0) dX7_pass_31 ?_
          refine t_getX C hH hI.1 mq_0 tq_0 td_3 iX3 rfl 10 (by decide) wd91 rfl (hI.rf kq_0_10) dX7_pass_34 ?_
          refine lv_iload_n hx hb dX7_pass_37 rfl (lv_at hl 2 rfl) ?_
          refine t_aldR C hH hI.1 mq_0_10 tq_0_10 td_4 (rg_in r18 (by decide)) dX7_pass_38 (fun z30 rz30 => ?_)
          refine lv_aload_n hx hb dX7_pass_39 rfl (lv_at hl 0 rfl) ?_
          refine t_getX C hH hI.1 mq tq td_19 iX7 rfl 0 (by decide) wd67 rfl (hI.rf kq_0) dX7_pass_40 ?_
          refine t_getX C hH hI.1 mq_0 tq_0 td_3 iX3 rfl 11 (by decide) wd92 rfl (hI.rf kq_0_11) dX7_pass_43 ?_
          refine lv_iload_n hx hb dX7_pass_46 rfl (lv_at hl 2 rfl) ?_
          refine t_aldR C hH hI.1 mq_0_11 tq_0_11 td_5 (rg_in r18 (by decide)) dX7_pass_47 (fun z31 rz31 => ?_)
          refine t_Vv C hO hl.1 hA hH hI.1 (As := [.int z30, .int z31]) (rest := []) (t_X7_trace l E J τ L f20 hI.1 mq tq z30 rz30 z31 rz31) my_X7_trace wd96 mq tq td_19 rfl rfl rfl (Nat.le_of_ble_eq_true rfl) ⟨Nat.le_of_ble_eq_true rfl, Nat.le_of_ble_eq_true rfl⟩ ⟨rfl, rfl⟩ dX7_pass_48 (fun L1 f32 H locs hp hH => ?_)
          obtain ⟨rfl, s34, h35⟩ := hp
          have hI := hI.call s34 (by decide)
          refine lv_iconst (v := (0 : Int32)) hx hb dX7_pass_51 (by decide) ?_
          refine lv_istore_n (lv' := [(3, .int (0 : Int32)), (0, .ref q), (1, .int p1), (2, .int v10_2)]) hx hb dX7_pass_52 rfl hl (by decide) rfl (fun ls hl => ?_)
          exact cut53 42 _ _ _ _ (0 : Int32) (fu_i 42 rl_0 (by decide)) hI hH (rg_w rl_0 (by decide)) r18 (lv_sub hl [1, 2, 3, 0] rfl)
  refine lv_aload_n hx hb dX7_pass_0 rfl (lv_at hl 0 rfl) ?_
  refine t_getX C hH hI.1 mq tq td_19 iX7 rfl 4 (by decide) wd66 rfl (hI.rf kq_4) dX7_pass_1 ?_
  refine lv_iconst (v := (0 : Int32)) hx hb dX7_pass_4 (by decide) ?_
  refine t_Sv C hO hl.1 hA hH (As := [.ref q_4, .int (0 : Int32)]) (rest := []) (t_fill_23 l E J τ L f hI.1 mq_4 tq_4 (0 : Int32)) my_J7_fill_53178 wd102 rfl rfl (Nat.le_of_ble_eq_true rfl) ⟨Nat.le_of_ble_eq_true rfl, Nat.le_of_ble_eq_true rfl⟩ ⟨rfl, rfl⟩ dX7_pass_5 (fun L1 f36 H locs hp hH => ?_)
  obtain ⟨rfl, s38, h39⟩ := hp
  have hI := hI.call s38 (by decide)
  refine lv_iconst (v := (0 : Int32)) hx hb dX7_pass_8 (by decide) ?_
  refine lv_istore_n (lv' := [(2, .int (0 : Int32)), (0, .ref q), (1, .int p1)]) hx hb dX7_pass_9 rfl hl (by decide) rfl (fun ls hl => ?_)
  exact cut10 5 _ _ _ _ (0 : Int32) (fu_i 5 rl_0 (by decide)) hI hH (rg_w rl_0 (by decide)) (lv_sub hl [1, 2, 0] rfl)
set_option maxHeartbeats 4000000 in
set_option maxRecDepth 100000 in
theorem t_X3_keepAct (l : Launch) (E : gE) (J : Nat → Nat) (τ : Nat → Nat) (L : List Nat) (f : gF) (hI : tI E L τ f) {q : Nat} (mq : q ∈ L) (tq : τ q = 3) (p1 : Int32) (rp1 : rg p1 0 23) (p2 : Int32) (rp2 : rg p2 0 3) (ha : actOK f q) : tMv l E J yX3_keepAct cX3_keepAct 3 (gRm (1) 0 0) [.ref q, .int p1, .int p2] L f (tPv E L τ [3, 10, 11] f (fun f1 => True)) := by
  refine tMv.intro (by decide) (Nat.le_of_ble_eq_true rfl) ?_
  intro p e s m below meth c A ls C hr hA hO hH hl
  have C : gC E cX3_keepAct 3 RX3 p s m _ meth c := C
  have hl : lv_has ls 3 [(0, .ref q), (1, .int p1), (2, .int p2)] := hl
  have hx := C.1
  have hb := C.2.1
  have hI := hI.S [3, 10, 11]
  obtain ⟨q_16, mq_16, tq_16, kq_16⟩ := t_fldr hI.1 mq tq td_3 (k := 16) rfl
  obtain ⟨q_17, mq_17, tq_17, kq_17⟩ := t_fldr hI.1 mq tq td_3 (k := 17) rfl
  obtain ⟨a0, ka0, ra0⟩ := ha
  refine lv_aload_n hx hb dX3_keepAct_0 rfl (lv_at hl 0 rfl) ?_
  refine t_getX C hH hI.1 mq tq td_3 iX3 rfl 16 (by decide) wd44 rfl (hI.rf kq_16) dX3_keepAct_1 ?_
  refine lv_aload_n hx hb dX3_keepAct_4 rfl (lv_at hl 0 rfl) ?_
  refine t_getX C hH hI.1 mq tq td_3 iX3 rfl 9 (by decide) wd16 rfl ka0 dX3_keepAct_5 ?_
  refine lv_iload_n hx hb dX3_keepAct_8 rfl (lv_at hl 1 rfl) ?_
  refine t_ast C hH hI mq_16 tq_16 (by decide) td_10 (rg_in ra0 (by decide)) (fun _ _ h => tR_upd h rp1) dX3_keepAct_9 (fun f1 H locs hH hI bf1 uf1 => ?_)
  have k2 : fld f1 q 9 (.int a0) := fld.eq ka0 (bf1 q (ty_ne tq tq_16 rfl))
  refine lv_aload_n hx hb dX3_keepAct_10 rfl (lv_at hl 0 rfl) ?_
  refine t_getX C hH hI.1 mq tq td_3 iX3 rfl 17 (by decide) wd46 rfl (hI.rf kq_17) dX3_keepAct_11 ?_
  refine lv_aload_n hx hb dX3_keepAct_14 rfl (lv_at hl 0 rfl) ?_
  refine t_getX C hH hI.1 mq tq td_3 iX3 rfl 9 (by decide) wd16 rfl k2 dX3_keepAct_15 ?_
  refine lv_iload_n hx hb dX3_keepAct_18 rfl (lv_at hl 2 rfl) ?_
  refine t_ast C hH hI mq_17 tq_17 (by decide) td_11 (rg_in ra0 (by decide)) (fun _ _ h => tR_upd h rp2) dX3_keepAct_19 (fun f3 H locs hH hI bf3 uf3 => ?_)
  have k4 : fld f3 q 9 (.int a0) := fld.eq k2 (bf3 q (ty_ne tq tq_17 rfl))
  refine lv_aload_n hx hb dX3_keepAct_20 rfl (lv_at hl 0 rfl) ?_
  refine lv_dup hx hb dX3_keepAct_21 rfl ?_
  refine t_getX C hH hI.1 mq tq td_3 iX3 rfl 9 (by decide) wd16 rfl k4 dX3_keepAct_22 ?_
  refine lv_iconst (v := (1 : Int32)) hx hb dX3_keepAct_25 (by decide) ?_
  refine lv_iadd hx hb dX3_keepAct_26 ?_
  refine lv_topi (fun z5 ez5 => ?_)
  have r6 : rg z5 1 40 := rg_add ez5 ra0 rl_1 (by decide)
  have a7 : z5.toInt = a0.toInt + 1 := ai_add ez5 ra0 tl_1 (by decide)
  refine t_put C hH hI mq tq (by decide) td_3 iX3 tyX3 tyX3_ok nmX3 rfl 9 (by decide) wd16 rfl rfl (v := .int z5) rfl rfl rfl ⟨_, rfl, (rg_w r6 (by decide))⟩ (fun _ h => nomatch h) dX3_keepAct_27 (fun f8 H locs hH hI nf8 of8 bf8 => ?_)
  exact g_vret C hr hH (Nat.zero_le _) (Nat.zero_le _) dX3_keepAct_30 ⟨rfl, hI, trivial⟩
set_option maxHeartbeats 4000000 in
set_option maxRecDepth 100000 in
theorem t_X3_putLamp (l : Launch) (E : gE) (J : Nat → Nat) (τ : Nat → Nat) (L : List Nat) (f : gF) (hI : tI E L τ f) {q : Nat} (mq : q ∈ L) (tq : τ q = 3) (p1 : Int32) (rp1 : rg p1 0 19) (p2 : Int32) (ha : actOK f q) : tMi l E J yX3_putLamp cX3_putLamp 4 .int (gRm (2) 0 0) [.ref q, .int p1, .int p2] L f (tPi E L τ [3, 10, 11] f (fun r f1 => rg r 0 1)) := by
  refine tMi.intro (by decide) (Nat.le_of_ble_eq_true rfl) ?_
  intro p e s m below meth c A ls C hr hA hO hH hl
  have C : gC E cX3_putLamp 4 RX3 p s m _ meth c := C
  have hl : lv_has ls 4 [(0, .ref q), (1, .int p1), (2, .int p2)] := hl
  have hx := C.1
  have hb := C.2.1
  have hI := hI.S [3, 10, 11]
  obtain ⟨a0, ka0, ra0⟩ := ha
  refine lv_aload_n hx hb dX3_putLamp_0 rfl (lv_at hl 0 rfl) ?_
  obtain ⟨z1, rz1, kz1⟩ := t_fldi hI.1 mq tq td_3 (k := 8) rfl
  refine t_getX C hH hI.1 mq tq td_3 iX3 rfl 8 (by decide) wd15 rfl kz1 dX3_putLamp_1 ?_
  refine lv_iload_n hx hb dX3_putLamp_4 rfl (lv_at hl 1 rfl) ?_
  refine lv_ishr hx hb dX3_putLamp_5 ?_
  refine lv_topi (fun z2 ez2 => ?_)
  refine lv_iconst (v := (1 : Int32)) hx hb dX3_putLamp_6 (by decide) ?_
  refine lv_iand hx hb dX3_putLamp_7 ?_
  refine lv_topi (fun z3 ez3 => ?_)
  have r4 : rg z3 0 1 := rg_andr ez3 rl_1 (by decide)
  refine lv_istore_n (lv' := [(3, .int z3), (0, .ref q), (1, .int p1), (2, .int p2)]) hx hb dX3_putLamp_8 rfl hl (by decide) rfl (fun ls hl => ?_)
  refine lv_aload_n hx hb dX3_putLamp_9 rfl (lv_at hl 1 rfl) ?_
  refine lv_iload_n hx hb dX3_putLamp_10 rfl (lv_at hl 2 rfl) ?_
  refine lv_iload_n hx hb dX3_putLamp_11 rfl (lv_at hl 0 rfl) ?_
  refine t_Vv C hO hl.1 hA hH hI.1 (As := [.int p1, .int z3]) (rest := []) (t_X3_keepAct l E J τ L f hI.1 mq tq p1 (rg_w rp1 (by decide)) z3 (rg_w r4 (by decide)) ⟨_, ka0, ra0⟩) my_X3_keepAct wd106 mq tq td_3 rfl rfl rfl (Nat.le_of_ble_eq_true rfl) ⟨Nat.le_of_ble_eq_true rfl, Nat.le_of_ble_eq_true rfl⟩ ⟨rfl, rfl⟩ dX3_putLamp_12 (fun L1 f5 H locs hp hH => ?_)
  obtain ⟨rfl, s7, h8⟩ := hp
  have hI := hI.call s7 (by decide)
  refine lv_aload_n hx hb dX3_putLamp_15 rfl (lv_at hl 1 rfl) ?_
  refine lv_iload_n hx hb dX3_putLamp_16 rfl (lv_at hl 2 rfl) ?_
  refine lv_iload_n hx hb dX3_putLamp_17 rfl (lv_at hl 3 rfl) ?_
  refine t_Vv C hO hl.1 hA hH hI.1 (As := [.int p1, .int p2]) (rest := []) (t_X3_setLamp l E J τ L f5 hI.1 mq tq p1 p2) my_X3_setLamp wd50 mq tq td_3 rfl rfl rfl (Nat.le_of_ble_eq_true rfl) ⟨Nat.le_of_ble_eq_true rfl, Nat.le_of_ble_eq_true rfl⟩ ⟨rfl, rfl⟩ dX3_putLamp_18 (fun L1 f9 H locs hp hH => ?_)
  obtain ⟨rfl, s11, h12⟩ := hp
  have hI := hI.call s11 (by decide)
  refine lv_iload_n hx hb dX3_putLamp_21 rfl (lv_at hl 0 rfl) ?_
  exact g_iret C hr hH (Nat.zero_le _) (Nat.zero_le _) dX3_putLamp_22 ⟨rfl, hI, r4⟩
set_option maxHeartbeats 4000000 in
set_option maxRecDepth 100000 in
theorem t_X3_putHeading (l : Launch) (E : gE) (J : Nat → Nat) (τ : Nat → Nat) (L : List Nat) (f : gF) (hI : tI E L τ f) {q : Nat} (mq : q ∈ L) (tq : τ q = 3) (p1 : Int32) (rp1 : rg p1 0 3) (p2 : Int32) (rp2 : rg p2 0 3) (ha : actOK f q) : tMi l E J yX3_putHeading cX3_putHeading 4 .int (gRm (2) 0 0) [.ref q, .int p1, .int p2] L f (tPi E L τ [3, 5, 10, 11] f (fun r f1 => rg r (-2147483648) 2147483647)) := by
  refine tMi.intro (by decide) (Nat.le_of_ble_eq_true rfl) ?_
  intro p e s m below meth c A ls C hr hA hO hH hl
  have C : gC E cX3_putHeading 4 RX3 p s m _ meth c := C
  have hl : lv_has ls 4 [(0, .ref q), (1, .int p1), (2, .int p2)] := hl
  have hx := C.1
  have hb := C.2.1
  have hI := hI.S [3, 5, 10, 11]
  obtain ⟨q_11, mq_11, tq_11, kq_11⟩ := t_fldr hI.1 mq tq td_3 (k := 11) rfl
  obtain ⟨a0, ka0, ra0⟩ := ha
  refine lv_aload_n hx hb dX3_putHeading_0 rfl (lv_at hl 0 rfl) ?_
  refine t_getX C hH hI.1 mq tq td_3 iX3 rfl 11 (by decide) wd45 rfl (hI.rf kq_11) dX3_putHeading_1 ?_
  refine lv_iload_n hx hb dX3_putHeading_4 rfl (lv_at hl 1 rfl) ?_
  refine t_aldR C hH hI.1 mq_11 tq_11 td_5 (rg_in rp1 (by decide)) dX3_putHeading_5 (fun z1 rz1 => ?_)
  refine lv_istore_n (lv' := [(3, .int z1), (0, .ref q), (1, .int p1), (2, .int p2)]) hx hb dX3_putHeading_6 rfl hl (by decide) rfl (fun ls hl => ?_)
  refine lv_aload_n hx hb dX3_putHeading_7 rfl (lv_at hl 1 rfl) ?_
  refine lv_bipush (v := (20 : Int32)) hx hb dX3_putHeading_8 (by decide) ?_
  refine lv_iload_n hx hb dX3_putHeading_10 rfl (lv_at hl 2 rfl) ?_
  refine lv_iadd hx hb dX3_putHeading_11 ?_
  refine lv_topi (fun z2 ez2 => ?_)
  have r3 : rg z2 20 23 := rg_add ez2 rl_20 rp1 (by decide)
  refine lv_iload_n hx hb dX3_putHeading_12 rfl (lv_at hl 0 rfl) ?_
  refine t_Vv C hO hl.1 hA hH hI.1 (As := [.int z2, .int z1]) (rest := []) (t_X3_keepAct l E J τ L f hI.1 mq tq z2 (rg_w r3 (by decide)) z1 rz1 ⟨_, ka0, ra0⟩) my_X3_keepAct wd106 mq tq td_3 rfl rfl rfl (Nat.le_of_ble_eq_true rfl) ⟨Nat.le_of_ble_eq_true rfl, Nat.le_of_ble_eq_true rfl⟩ ⟨rfl, rfl⟩ dX3_putHeading_13 (fun L1 f4 H locs hp hH => ?_)
  obtain ⟨rfl, s6, h7⟩ := hp
  have hI := hI.call s6 (by decide)
  refine lv_aload_n hx hb dX3_putHeading_16 rfl (lv_at hl 1 rfl) ?_
  refine t_getX C hH hI.1 mq tq td_3 iX3 rfl 11 (by decide) wd45 rfl (hI.rf kq_11) dX3_putHeading_17 ?_
  refine lv_iload_n hx hb dX3_putHeading_20 rfl (lv_at hl 2 rfl) ?_
  refine lv_iload_n hx hb dX3_putHeading_21 rfl (lv_at hl 3 rfl) ?_
  refine t_ast C hH hI mq_11 tq_11 (by decide) td_5 (rg_in rp1 (by decide)) (fun _ _ h => tR_upd h rp2) dX3_putHeading_22 (fun f8 H locs hH hI bf8 uf8 => ?_)
  refine lv_iload_n hx hb dX3_putHeading_23 rfl (lv_at hl 0 rfl) ?_
  exact g_iret C hr hH (Nat.zero_le _) (Nat.zero_le _) dX3_putHeading_24 ⟨rfl, hI, (rg_w rz1 (by decide))⟩
set_option maxHeartbeats 4000000 in
set_option maxRecDepth 100000 in
theorem t_cellsX (l : Launch) (E : gE) (J : Nat → Nat) (τ : Nat → Nat) (L : List Nat) (f : gF) (hI : tI E L τ f) {q : Nat} (mq : q ∈ L) (tq : τ q = 35) : tMi l E J yX3_cells cX3_cells 1 .int (gRm (1) 0 0) [.ref q] L f (tPi E L τ [] f (fun r f1 => rg r 0 20 ∧ (∀ W Hh : Int32, fld f q 1 (.int W) → fld f q 2 (.int Hh) → r = W * Hh))) := by
  refine tMi.intro (by decide) (Nat.le_of_ble_eq_true rfl) ?_
  intro p e s m below meth c A ls C hr hA hO hH hl
  have C : gC E cX3_cells 1 RX3 p s m _ meth c := C
  have hl : lv_has ls 1 [(0, .ref q)] := hl
  have hx := C.1
  have hb := C.2.1
  have hI := hI.S []
  refine lv_aload_n hx hb dX3_cells_0 rfl (lv_at hl 0 rfl) ?_
  obtain ⟨z1, rz1, kz1⟩ := t_fldi hI.1 mq tq td_35 (k := 1) rfl
  refine t_getX C hH hI.1 mq tq td_35 iX3 rfl 1 (by decide) wd8 rfl kz1 dX3_cells_1 ?_
  refine lv_aload_n hx hb dX3_cells_4 rfl (lv_at hl 0 rfl) ?_
  obtain ⟨z2, rz2, kz2⟩ := t_fldi hI.1 mq tq td_35 (k := 2) rfl
  refine t_getX C hH hI.1 mq tq td_35 iX3 rfl 2 (by decide) wd9 rfl kz2 dX3_cells_5 ?_
  refine lv_imul hx hb dX3_cells_8 ?_
  refine lv_topi (fun z3 ez3 => ?_)
  have r4 : rg z3 0 20 := rg_mul ez3 rz1 rz2 (by decide)
  exact g_iret C hr hH (Nat.zero_le _) (Nat.zero_le _) dX3_cells_9 ⟨rfl, hI, ⟨r4, (fun W Hh h1 h2 => by rw [fld_inj h1 kz1, fld_inj h2 kz2]; exact ez3)⟩⟩
set_option maxHeartbeats 4000000 in
set_option maxRecDepth 100000 in
theorem t_rowOfX (l : Launch) (E : gE) (J : Nat → Nat) (τ : Nat → Nat) (L : List Nat) (f : gF) (hI : tI E L τ f) {q : Nat} (mq : q ∈ L) (tq : τ q = 35) (p1 : Int32) : tMi l E J yX3_rowOf cX3_rowOf 2 .int (gRm (1) 0 0) [.ref q, .int p1] L f (tPi E L τ [] f (fun r f1 => rg r (-2147483648) 2147483647 ∧ (∀ W : Int32, fld f q 1 (.int W) → 1 ≤ W.toInt → 0 ≤ p1.toInt → r.toInt = p1.toInt / W.toInt))) := by
  refine tMi.intro (by decide) (Nat.le_of_ble_eq_true rfl) ?_
  intro p e s m below meth c A ls C hr hA hO hH hl
  have C : gC E cX3_rowOf 2 RX3 p s m _ meth c := C
  have hl : lv_has ls 2 [(0, .ref q), (1, .int p1)] := hl
  have hx := C.1
  have hb := C.2.1
  have hI := hI.S []
  refine lv_aload_n hx hb dX3_rowOf_0 rfl (lv_at hl 0 rfl) ?_
  obtain ⟨z1, rz1, kz1⟩ := t_fldi hI.1 mq tq td_35 (k := 1) rfl
  refine t_getX C hH hI.1 mq tq td_35 iX3 rfl 1 (by decide) wd8 rfl kz1 dX3_rowOf_1 ?_
  refine lv_iconst (v := (1 : Int32)) hx hb dX3_rowOf_4 (by decide) ?_
  refine lv_icmp_ge (tgt := 12) hx hb dX3_rowOf_5 (by decide) (fun c2 => ?_) (fun c2 => ?_)
  · skip
    have r3 : rg z1 1 5 := rf_ler (c_le c2) rl_1 rz1 (by decide)
    refine lv_iload_n hx hb dX3_rowOf_12 rfl (lv_at hl 1 rfl) ?_
    refine lv_aload_n hx hb dX3_rowOf_13 rfl (lv_at hl 0 rfl) ?_
    refine t_getX C hH hI.1 mq tq td_35 iX3 rfl 1 (by decide) wd8 rfl kz1 dX3_rowOf_14 ?_
    refine lv_idiv hx hb dX3_rowOf_17 (rg_ne0 r3 (by decide)) ?_
    refine lv_topi (fun z4 ez4 => ?_)
    exact g_iret C hr hH (Nat.zero_le _) (Nat.zero_le _) dX3_rowOf_18 ⟨rfl, hI, ⟨(rg_all _), (fun W h1 h2 h3 => by rw [fld_inj h1 kz1]; exact div_eq ez4 h3 (by rw [← fld_inj h1 kz1]; exact h2))⟩⟩
  · skip
    have r5 : rg z1 0 0 := rf_ltl (n_le c2) rz1 rl_1 (by decide)
    refine lv_iconst (v := (0 : Int32)) hx hb dX3_rowOf_8 (by decide) ?_
    refine lv_goto (tgt := 18) hx hb dX3_rowOf_9 (by decide) ?_
    exact g_iret C hr hH (Nat.zero_le _) (Nat.zero_le _) dX3_rowOf_18 ⟨rfl, hI, ⟨(rg_w rl_0 (by decide)), (fun W h1 h2 _ => by rw [fld_inj h1 kz1] at h2; exact absurd h2 (by have := (r5).2; omega))⟩⟩
set_option maxHeartbeats 4000000 in
set_option maxRecDepth 100000 in
theorem t_X3_neighbour (l : Launch) (E : gE) (J : Nat → Nat) (τ : Nat → Nat) (L : List Nat) (f : gF) (hI : tI E L τ f) {q : Nat} (mq : q ∈ L) (tq : τ q = 35) (p1 : Int32) (rp1 : rg p1 0 19) (p2 : Int32) (rp2 : rg p2 0 3) {W0 H0 : Int32} (kW : fld f q 1 (.int W0)) (kH : fld f q 2 (.int H0)) (hcw : p1.toInt < W0.toInt * H0.toInt) : tMi l E J yX3_neighbour cX3_neighbour 5 .int (gRm (2) 0 0) [.ref q, .int p1, .int p2] L f (tPi E L τ [] f (fun r f1 => rg r (-1) 19)) := by
  refine tMi.intro (by decide) (Nat.le_of_ble_eq_true rfl) ?_
  intro p e s m below meth c A ls C hr hA hO hH hl
  have C : gC E cX3_neighbour 5 RX3 p s m _ meth c := C
  have hl : lv_has ls 5 [(0, .ref q), (1, .int p1), (2, .int p2)] := hl
  have hx := C.1
  have hb := C.2.1
  have hI := hI.S []
  have rW0 : rg W0 0 5 := by
    obtain ⟨z, r, k⟩ := t_fldi hI.1 mq tq td_35 (k := 1) rfl
    rw [fld_inj kW k]
    exact r
  have rH0 : rg H0 0 4 := by
    obtain ⟨z, r, k⟩ := t_fldi hI.1 mq tq td_35 (k := 2) rfl
    rw [fld_inj kH k]
    exact r
  refine lv_aload_n hx hb dX3_neighbour_0 rfl (lv_at hl 0 rfl) ?_
  refine lv_iload_n hx hb dX3_neighbour_1 rfl (lv_at hl 1 rfl) ?_
  refine t_Vi C hO hl.1 hA hH hI.1 (As := [.int p1]) (rest := []) (t_rowOfX l E J τ L f hI.1 mq tq p1) my_X3_rowOf wd33 mq tq td_35 rfl rfl rfl (Nat.le_of_ble_eq_true rfl) ⟨Nat.le_of_ble_eq_true rfl, Nat.le_of_ble_eq_true rfl⟩ ⟨rfl, rfl⟩ dX3_neighbour_2 (fun r2 L1 f1 H locs hp hH => ?_)
  obtain ⟨rfl, s3, h4⟩ := hp
  have hJ := hI
  have hI := hI.call s3 (by decide)
  have k5 : fld f1 q 1 (.int W0) := fld.eq kW (s3.fr q mq (t_lim tq rfl))
  have k6 : fld f1 q 2 (.int H0) := fld.eq kH (s3.fr q mq (t_lim tq rfl))
  refine lv_istore_n (lv' := [(3, .int r2), (0, .ref q), (1, .int p1), (2, .int p2)]) hx hb dX3_neighbour_5 rfl hl (by decide) rfl (fun ls hl => ?_)
  refine lv_iload_n hx hb dX3_neighbour_6 rfl (lv_at hl 2 rfl) ?_
  refine lv_iload_n hx hb dX3_neighbour_7 rfl (lv_at hl 0 rfl) ?_
  refine lv_aload_n hx hb dX3_neighbour_8 rfl (lv_at hl 1 rfl) ?_
  refine t_getX C hH hI.1 mq tq td_35 iX3 rfl 1 (by decide) wd8 rfl k5 dX3_neighbour_9 ?_
  refine lv_imul hx hb dX3_neighbour_12 ?_
  refine lv_topi (fun z7 ez7 => ?_)
  refine lv_isub hx hb dX3_neighbour_13 ?_
  refine lv_topi (fun z8 ez8 => ?_)
  refine lv_istore (lv' := [(4, .int z8), (3, .int r2), (0, .ref q), (1, .int p1), (2, .int p2)]) hx hb dX3_neighbour_14 hl (by decide) rfl (fun ls hl => ?_)
  refine lv_iload_n hx hb dX3_neighbour_16 rfl (lv_at hl 4 rfl) ?_
  rcases g_sw p2 0 2 (by decide) with c9 | ⟨j, hj, ej⟩
  · refine lv_tableOut (tgt := 99) hx hb dX3_neighbour_17 c9 (by decide) ?_
    refine lv_iload hx hb dX3_neighbour_99 (lv_at hl 0 rfl) ?_
    refine lv_if_le (tgt := 110) hx hb dX3_neighbour_101 (by decide) (fun c10 => ?_) (fun c10 => ?_)
    · skip
      have r11 : rg z8 (-2147483648) 0 := rf_lel (c_le c10) (rg_all _) rl_0 (by decide)
      refine lv_iconst (v := (-1 : Int32)) hx hb dX3_neighbour_110 (by decide) ?_
      exact g_iret C hr hH (Nat.zero_le _) (Nat.zero_le _) dX3_neighbour_111 ⟨rfl, hI, (rg_w rl_m1 (by decide))⟩
    · skip
      have r12 : rg z8 1 2147483647 := rf_ltr (n_le c10) rl_0 (rg_all _) (by decide)
      refine lv_iload_n hx hb dX3_neighbour_104 rfl (lv_at hl 3 rfl) ?_
      refine lv_iconst (v := (1 : Int32)) hx hb dX3_neighbour_105 (by decide) ?_
      refine lv_isub hx hb dX3_neighbour_106 ?_
      refine lv_topi (fun z13 ez13 => ?_)
      have r14 : rg z13 (-1) 18 := rg_sub ez13 rp1 rl_1 (by decide)
      refine lv_goto (tgt := 111) hx hb dX3_neighbour_107 (by decide) ?_
      have g1 := nb_pos rp1.1 hcw rW0
      have g2 := h4.2 W0 kW g1 rp1.1
      have g3 := nb_col (q := 0) rp1 rW0 g1 g2 ez7 ez8
      obtain ⟨g4, g5, g6, g7⟩ := nb_lin g2 rp1.1 g1 rW0.2 rH0.1 rH0.2 hcw
      have r15 : rg z13 (-1) 19 := nbr3 rp1 (g7 (by rw [← g3]; have := (r12).1; omega)) ez13
      exact g_iret C hr hH (Nat.zero_le _) (Nat.zero_le _) dX3_neighbour_111 ⟨rfl, hI, r15⟩
  · rcases (show j = 0 ∨ j = 1 ∨ j = 2 by omega) with rfl | rfl | rfl
    · have y16 : p2 = (0 : Int32) := g_swE ej (by decide)
      have r17 : rg p2 0 0 := by rw [y16]; exact rl_0
      refine lv_tableIn (tgt := 44) (off := 27) hx hb dX3_neighbour_17 (by rw [y16]; decide) (by rw [y16]; decide) (by rw [y16]; decide) (by decide) ?_
      refine lv_iload_n hx hb dX3_neighbour_44 rfl (lv_at hl 1 rfl) ?_
      refine lv_if_le (tgt := 57) hx hb dX3_neighbour_45 (by decide) (fun c18 => ?_) (fun c18 => ?_)
      · skip
        have r19 : rg r2 (-2147483648) 0 := rf_lel (c_le c18) h4.1 rl_0 (by decide)
        refine lv_iconst (v := (-1 : Int32)) hx hb dX3_neighbour_57 (by decide) ?_
        exact g_iret C hr hH (Nat.zero_le _) (Nat.zero_le _) dX3_neighbour_58 ⟨rfl, hI, (rg_w rl_m1 (by decide))⟩
      · skip
        have r20 : rg r2 1 2147483647 := rf_ltr (n_le c18) rl_0 h4.1 (by decide)
        refine lv_iload_n hx hb dX3_neighbour_48 rfl (lv_at hl 3 rfl) ?_
        refine lv_aload_n hx hb dX3_neighbour_49 rfl (lv_at hl 2 rfl) ?_
        refine t_getX C hH hI.1 mq tq td_35 iX3 rfl 1 (by decide) wd8 rfl k5 dX3_neighbour_50 ?_
        refine lv_isub hx hb dX3_neighbour_53 ?_
        refine lv_topi (fun z21 ez21 => ?_)
        have r22 : rg z21 (-5) 19 := rg_sub ez21 rp1 rW0 (by decide)
        refine lv_goto (tgt := 58) hx hb dX3_neighbour_54 (by decide) ?_
        have g1 := nb_pos rp1.1 hcw rW0
        have g2 := h4.2 W0 kW g1 rp1.1
        have g3 := nb_col (q := 0) rp1 rW0 g1 g2 ez7 ez8
        obtain ⟨g4, g5, g6, g7⟩ := nb_lin g2 rp1.1 g1 rW0.2 rH0.1 rH0.2 hcw
        have r23 : rg z21 (-1) 19 := nbr0 rp1 rW0 (g4 (by have := (r20).1; omega)) ez21
        exact g_iret C hr hH (Nat.zero_le _) (Nat.zero_le _) dX3_neighbour_58 ⟨rfl, hI, r23⟩
    · have y24 : p2 = (1 : Int32) := g_swE ej (by decide)
      have r25 : rg p2 1 1 := by rw [y24]; exact rl_1
      refine lv_tableIn (tgt := 59) (off := 42) hx hb dX3_neighbour_17 (by rw [y24]; decide) (by rw [y24]; decide) (by rw [y24]; decide) (by decide) ?_
      refine lv_iload hx hb dX3_neighbour_59 (lv_at hl 0 rfl) ?_
      refine lv_aload_n hx hb dX3_neighbour_61 rfl (lv_at hl 2 rfl) ?_
      refine t_getX C hH hI.1 mq tq td_35 iX3 rfl 1 (by decide) wd8 rfl k5 dX3_neighbour_62 ?_
      refine lv_iconst (v := (1 : Int32)) hx hb dX3_neighbour_65 (by decide) ?_
      refine lv_isub hx hb dX3_neighbour_66 ?_
      refine lv_topi (fun z26 ez26 => ?_)
      have r27 : rg z26 (-1) 4 := rg_sub ez26 rW0 rl_1 (by decide)
      refine lv_icmp_ge (tgt := 76) hx hb dX3_neighbour_67 (by decide) (fun c28 => ?_) (fun c28 => ?_)
      · skip
        have r29 : rg z8 (-1) 2147483647 := rf_ler (c_le c28) r27 (rg_all _) (by decide)
        refine lv_iconst (v := (-1 : Int32)) hx hb dX3_neighbour_76 (by decide) ?_
        exact g_iret C hr hH (Nat.zero_le _) (Nat.zero_le _) dX3_neighbour_77 ⟨rfl, hI, (rg_w rl_m1 (by decide))⟩
      · skip
        have r30 : rg z8 (-2147483648) 3 := rf_ltl (n_le c28) (rg_all _) r27 (by decide)
        refine lv_iload_n hx hb dX3_neighbour_70 rfl (lv_at hl 3 rfl) ?_
        refine lv_iconst (v := (1 : Int32)) hx hb dX3_neighbour_71 (by decide) ?_
        refine lv_iadd hx hb dX3_neighbour_72 ?_
        refine lv_topi (fun z31 ez31 => ?_)
        have r32 : rg z31 1 20 := rg_add ez31 rp1 rl_1 (by decide)
        have a33 : z31.toInt = p1.toInt + 1 := ai_add ez31 rp1 tl_1 (by decide)
        refine lv_goto (tgt := 77) hx hb dX3_neighbour_73 (by decide) ?_
        have g1 := nb_pos rp1.1 hcw rW0
        have g2 := h4.2 W0 kW g1 rp1.1
        have g3 := nb_col (q := 0) rp1 rW0 g1 g2 ez7 ez8
        obtain ⟨g4, g5, g6, g7⟩ := nb_lin g2 rp1.1 g1 rW0.2 rH0.1 rH0.2 hcw
        have r34 : rg z31 (-1) 19 := nbr1 rp1 (g5 (by rw [← g3, ← nb_s1 (h := 5) rW0 (by decide) ez26]; exact n_le c28)) ez31
        exact g_iret C hr hH (Nat.zero_le _) (Nat.zero_le _) dX3_neighbour_77 ⟨rfl, hI, r34⟩
    · have y35 : p2 = (2 : Int32) := g_swE ej (by decide)
      have r36 : rg p2 2 2 := by rw [y35]; exact rl_2
      refine lv_tableIn (tgt := 78) (off := 61) hx hb dX3_neighbour_17 (by rw [y35]; decide) (by rw [y35]; decide) (by rw [y35]; decide) (by decide) ?_
      refine lv_iload_n hx hb dX3_neighbour_78 rfl (lv_at hl 1 rfl) ?_
      refine lv_aload_n hx hb dX3_neighbour_79 rfl (lv_at hl 2 rfl) ?_
      refine t_getX C hH hI.1 mq tq td_35 iX3 rfl 2 (by decide) wd9 rfl k6 dX3_neighbour_80 ?_
      refine lv_iconst (v := (1 : Int32)) hx hb dX3_neighbour_83 (by decide) ?_
      refine lv_isub hx hb dX3_neighbour_84 ?_
      refine lv_topi (fun z37 ez37 => ?_)
      have r38 : rg z37 (-1) 3 := rg_sub ez37 rH0 rl_1 (by decide)
      refine lv_icmp_ge (tgt := 97) hx hb dX3_neighbour_85 (by decide) (fun c39 => ?_) (fun c39 => ?_)
      · skip
        have r40 : rg r2 (-1) 2147483647 := rf_ler (c_le c39) r38 h4.1 (by decide)
        refine lv_iconst (v := (-1 : Int32)) hx hb dX3_neighbour_97 (by decide) ?_
        exact g_iret C hr hH (Nat.zero_le _) (Nat.zero_le _) dX3_neighbour_98 ⟨rfl, hI, (rg_w rl_m1 (by decide))⟩
      · skip
        have r41 : rg r2 (-2147483648) 2 := rf_ltl (n_le c39) h4.1 r38 (by decide)
        refine lv_iload_n hx hb dX3_neighbour_88 rfl (lv_at hl 3 rfl) ?_
        refine lv_aload_n hx hb dX3_neighbour_89 rfl (lv_at hl 2 rfl) ?_
        refine t_getX C hH hI.1 mq tq td_35 iX3 rfl 1 (by decide) wd8 rfl k5 dX3_neighbour_90 ?_
        refine lv_iadd hx hb dX3_neighbour_93 ?_
        refine lv_topi (fun z42 ez42 => ?_)
        have r43 : rg z42 0 24 := rg_add ez42 rp1 rW0 (by decide)
        refine lv_goto (tgt := 98) hx hb dX3_neighbour_94 (by decide) ?_
        have g1 := nb_pos rp1.1 hcw rW0
        have g2 := h4.2 W0 kW g1 rp1.1
        have g3 := nb_col (q := 0) rp1 rW0 g1 g2 ez7 ez8
        obtain ⟨g4, g5, g6, g7⟩ := nb_lin g2 rp1.1 g1 rW0.2 rH0.1 rH0.2 hcw
        have r44 : rg z42 (-1) 19 := nbr2 rp1 rW0 (g6 (by rw [← nb_s1 (h := 4) rH0 (by decide) ez37]; exact n_le c39)) ez42
        exact g_iret C hr hH (Nat.zero_le _) (Nat.zero_le _) dX3_neighbour_98 ⟨rfl, hI, r44⟩
set_option maxHeartbeats 4000000 in
set_option maxRecDepth 100000 in
theorem t_X3_survey (l : Launch) (E : gE) (J : Nat → Nat) (τ : Nat → Nat) (L : List Nat) (f : gF) (hI : tI E L τ f) {q : Nat} (mq : q ∈ L) (tq : τ q = 35) : tMv l E J yX3_survey cX3_survey 3 (gRm (3) 0 0) [.ref q] L f (tPv E L τ [12, 13] f (fun f1 => True)) := by
  refine tMv.intro (by decide) (Nat.le_of_ble_eq_true rfl) ?_
  intro p e s m below meth c A ls C hr hA hO hH hl
  have C : gC E cX3_survey 3 RX3 p s m _ meth c := C
  have hl : lv_has ls 3 [(0, .ref q)] := hl
  have hx := C.1
  have hb := C.2.1
  have hI := hI.S [12, 13]
  obtain ⟨q_18, mq_18, tq_18, kq_18⟩ := t_fldr hI.1 mq tq td_35 (k := 18) rfl
  obtain ⟨q_19, mq_19, tq_19, kq_19⟩ := t_fldr hI.1 mq tq td_35 (k := 19) rfl
  obtain ⟨W0, rW0, kW⟩ := t_fldi hI.1 mq tq td_35 (k := 1) rfl
  obtain ⟨H0, rH0, kH⟩ := t_fldi hI.1 mq tq td_35 (k := 2) rfl
  have cut2 : ∀ (n : Nat) (fh2 : gF) (H : Heap) (locs : List Loc) (ls : Array Slot) (v2_1 : Int32), 20 - v2_1.toInt < (n : Int) → tS E L τ [12, 13] f fh2 → gH E A L fh2 s.heap H locs → rg v2_1 0 20 → fld fh2 q 1 (.int W0) → fld fh2 q 2 (.int H0) → lv_has ls 3 [(0, .ref q), (1, .int v2_1)] → W p l e (gRm (3) 0 0) s m [.ref q].toArray below meth c H locs 0 0 (MQ below (gQv E A (tPv E L τ [12, 13] f (fun f1 => True))) [.ref q].toArray s (gRm (3) 0 0).cells (gRm (3) 0 0).slots A) (F0 m 2 ls []) := by
    intro n
    induction n with
    | zero =>
      intro fh2 H locs ls v2_1 hfu2 hI hH r_v2_1 P2_0 P2_1 hl
      exact (fu_0 hfu2 r_v2_1).elim
    | succ n ih2 =>
      intro fh2 H locs ls v2_1 hfu2 hI hH r_v2_1 P2_0 P2_1 hl
      have cut19 : ∀ (n : Nat) (fh19 : gF) (H : Heap) (locs : List Loc) (ls : Array Slot) (v19_2 : Int32), 20 - v19_2.toInt < (n : Int) → tS E L τ [12, 13] f fh19 → gH E A L fh19 s.heap H locs → rg v19_2 0 20 → rg v2_1 0 19 → v2_1.toInt < W0.toInt * H0.toInt → fld fh19 q 1 (.int W0) → fld fh19 q 2 (.int H0) → lv_has ls 3 [(0, .ref q), (1, .int v2_1), (2, .int v19_2)] → W p l e (gRm (3) 0 0) s m [.ref q].toArray below meth c H locs 0 0 (MQ below (gQv E A (tPv E L τ [12, 13] f (fun f1 => True))) [.ref q].toArray s (gRm (3) 0 0).cells (gRm (3) 0 0).slots A) (F0 m 19 ls []) := by
        intro n
        induction n with
        | zero =>
          intro fh19 H locs ls v19_2 hfu19 hI hH r_v19_2 r19_v2_1 F19_cw P19_0 P19_1 hl
          exact (fu_0 hfu19 r_v19_2).elim
        | succ n ih19 =>
          intro fh19 H locs ls v19_2 hfu19 hI hH r_v19_2 r19_v2_1 F19_cw P19_0 P19_1 hl
          have cut60 : ∀ (n : Nat) (fh60 : gF) (H : Heap) (locs : List Loc) (ls : Array Slot) (v60_2 : Int32), 4 - v60_2.toInt < (n : Int) → tS E L τ [12, 13] f fh60 → gH E A L fh60 s.heap H locs → rg v60_2 0 4 → fld fh60 q 1 (.int W0) → fld fh60 q 2 (.int H0) → lv_has ls 3 [(0, .ref q), (1, .int v2_1), (2, .int v60_2)] → W p l e (gRm (3) 0 0) s m [.ref q].toArray below meth c H locs 0 0 (MQ below (gQv E A (tPv E L τ [12, 13] f (fun f1 => True))) [.ref q].toArray s (gRm (3) 0 0).cells (gRm (3) 0 0).slots A) (F0 m 60 ls []) := by
            intro n
            induction n with
            | zero =>
              intro fh60 H locs ls v60_2 hfu60 hI hH r_v60_2 P60_0 P60_1 hl
              exact (fu_0 hfu60 r_v60_2).elim
            | succ n ih60 =>
              intro fh60 H locs ls v60_2 hfu60 hI hH r_v60_2 P60_0 P60_1 hl
              refine lv_iload_n hx hb dX3_survey_60 rfl (lv_at hl 2 rfl) ?_
              refine lv_iconst (v := (4 : Int32)) hx hb dX3_survey_61 (by decide) ?_
              refine lv_icmp_ge (tgt := 87) hx hb dX3_survey_62 (by decide) (fun c1 => ?_) (fun c1 => ?_)
              · skip
                have r2 : rg v60_2 4 4 := rf_ler (c_le c1) rl_4 r_v60_2 (by decide)
                obtain ⟨z3, ez3⟩ : ∃ y : Int32, y = v2_1 + (1 : Int32) := ⟨_, rfl⟩
                have r4 : rg z3 1 20 := rg_add ez3 r19_v2_1 rl_1 (by decide)
                have a5 : z3.toInt = v2_1.toInt + 1 := ai_add ez3 r19_v2_1 tl_1 (by decide)
                refine lv_iinc (v := z3) (lv' := [(1, .int z3), (0, .ref q), (2, .int v60_2)]) hx hb dX3_survey_87 hl (k := 1) rfl (by rw [ez3]; rfl) (by decide) rfl (fun ls hl => ?_)
                refine lv_goto (tgt := 2) hx hb dX3_survey_90 (by decide) ?_
                exact ih2 _ _ _ _ z3 (fu_s hfu2 a5 (by decide)) hI hH (rg_w r4 (by decide)) P60_0 P60_1 (lv_sub hl [1, 0] rfl)
              · skip
                have r6 : rg v60_2 0 3 := rf_ltl (n_le c1) r_v60_2 rl_4 (by decide)
                refine lv_aload_n hx hb dX3_survey_65 rfl (lv_at hl 0 rfl) ?_
                refine t_getX C hH hI.1 mq tq td_35 iX3 rfl 19 (by decide) wd57 rfl (hI.rf kq_19) dX3_survey_66 ?_
                refine lv_iload_n hx hb dX3_survey_69 rfl (lv_at hl 1 rfl) ?_
                refine lv_iconst (v := (4 : Int32)) hx hb dX3_survey_70 (by decide) ?_
                refine lv_imul hx hb dX3_survey_71 ?_
                refine lv_topi (fun z7 ez7 => ?_)
                have r8 : rg z7 0 76 := rg_mul ez7 r19_v2_1 rl_4 (by decide)
                refine lv_iload_n hx hb dX3_survey_72 rfl (lv_at hl 2 rfl) ?_
                refine lv_iadd hx hb dX3_survey_73 ?_
                refine lv_topi (fun z9 ez9 => ?_)
                have r10 : rg z9 0 79 := rg_add ez9 r8 r6 (by decide)
                refine lv_aload_n hx hb dX3_survey_74 rfl (lv_at hl 0 rfl) ?_
                refine lv_iload_n hx hb dX3_survey_75 rfl (lv_at hl 1 rfl) ?_
                refine lv_iload_n hx hb dX3_survey_76 rfl (lv_at hl 2 rfl) ?_
                refine t_Vi C hO hl.1 hA hH hI.1 (As := [.int v2_1, .int v60_2]) (rest := [.int z9, .ref q_19]) (t_X3_neighbour l E J τ L fh60 hI.1 mq tq v2_1 r19_v2_1 v60_2 r6 P60_0 P60_1 F19_cw) my_X3_neighbour wd110 mq tq td_35 rfl rfl rfl (Nat.le_of_ble_eq_true rfl) ⟨Nat.le_of_ble_eq_true rfl, Nat.le_of_ble_eq_true rfl⟩ ⟨rfl, rfl⟩ dX3_survey_77 (fun r12 L1 f11 H locs hp hH => ?_)
                obtain ⟨rfl, s13, h14⟩ := hp
                have hI := hI.call s13 (by decide)
                have k15 : fld f11 q 1 (.int W0) := fld.eq P60_0 (s13.fr q mq (t_lim tq rfl))
                have k16 : fld f11 q 2 (.int H0) := fld.eq P60_1 (s13.fr q mq (t_lim tq rfl))
                refine t_ast C hH hI mq_19 tq_19 (by decide) td_13 (rg_in r10 (by decide)) (fun _ _ h => tR_upd h h14) dX3_survey_80 (fun f17 H locs hH hI bf17 uf17 => ?_)
                have k18 : fld f17 q 1 (.int W0) := fld.eq k15 (bf17 q (ty_ne tq tq_19 rfl))
                have k19 : fld f17 q 2 (.int H0) := fld.eq k16 (bf17 q (ty_ne tq tq_19 rfl))
                obtain ⟨z20, ez20⟩ : ∃ y : Int32, y = v60_2 + (1 : Int32) := ⟨_, rfl⟩
                have r21 : rg z20 1 4 := rg_add ez20 r6 rl_1 (by decide)
                have a22 : z20.toInt = v60_2.toInt + 1 := ai_add ez20 r6 tl_1 (by decide)
                refine lv_iinc (v := z20) (lv' := [(2, .int z20), (0, .ref q), (1, .int v2_1)]) hx hb dX3_survey_81 hl (k := 2) rfl (by rw [ez20]; rfl) (by decide) rfl (fun ls hl => ?_)
                refine lv_goto (tgt := 60) hx hb dX3_survey_84 (by decide) ?_
                exact ih60 _ _ _ _ z20 (fu_s hfu60 a22 (by decide)) hI hH (rg_w r21 (by decide)) k18 k19 (lv_sub hl [1, 2, 0] rfl)
          refine lv_iload_n hx hb dX3_survey_19 rfl (lv_at hl 2 rfl) ?_
          refine lv_aload_n hx hb dX3_survey_20 rfl (lv_at hl 0 rfl) ?_
          refine t_Vi C hO hl.1 hA hH hI.1 (As := []) (rest := [.int v19_2]) (t_cellsX l E J τ L fh19 hI.1 mq tq) my_X3_cells wd21 mq tq td_35 rfl rfl rfl (Nat.le_of_ble_eq_true rfl) ⟨Nat.le_of_ble_eq_true rfl, Nat.le_of_ble_eq_true rfl⟩ ⟨rfl, rfl⟩ dX3_survey_21 (fun r24 L1 f23 H locs hp hH => ?_)
          obtain ⟨rfl, s25, h26⟩ := hp
          have hJ := hI
          have hI := hI.call s25 (by decide)
          have k27 : fld f23 q 1 (.int W0) := fld.eq P19_0 (s25.fr q mq (t_lim tq rfl))
          have k28 : fld f23 q 2 (.int H0) := fld.eq P19_1 (s25.fr q mq (t_lim tq rfl))
          have cw29 := h26.2 _ _ P19_0 P19_1
          refine lv_icmp_ge (tgt := 58) hx hb dX3_survey_24 (by decide) (fun c30 => ?_) (fun c30 => ?_)
          · skip
            refine lv_iconst (v := (0 : Int32)) hx hb dX3_survey_58 (by decide) ?_
            refine lv_istore_n (lv' := [(2, .int (0 : Int32)), (0, .ref q), (1, .int v2_1)]) hx hb dX3_survey_59 rfl hl (by decide) rfl (fun ls hl => ?_)
            exact cut60 5 _ _ _ _ (0 : Int32) (fu_i 5 rl_0 (by decide)) hI hH (rg_w rl_0 (by decide)) k27 k28 (lv_sub hl [1, 2, 0] rfl)
          · skip
            have r31 : rg v19_2 0 19 := rf_ltl (n_le c30) r_v19_2 h26.1 (by decide)
            have r32 : rg r24 1 20 := rf_ltr (n_le c30) r_v19_2 h26.1 (by decide)
            refine lv_aload_n hx hb dX3_survey_27 rfl (lv_at hl 0 rfl) ?_
            refine lv_iload_n hx hb dX3_survey_28 rfl (lv_at hl 1 rfl) ?_
            refine lv_iload_n hx hb dX3_survey_29 rfl (lv_at hl 2 rfl) ?_
            refine t_Vi C hO hl.1 hA hH hI.1 (As := [.int v2_1, .int v19_2]) (rest := []) (t_distance_d l E J τ L f23 hI.1 mq tq v2_1 v19_2) my_X3_distance wd114 mq tq td_35 rfl rfl rfl (Nat.le_of_ble_eq_true rfl) ⟨Nat.le_of_ble_eq_true rfl, Nat.le_of_ble_eq_true rfl⟩ ⟨rfl, rfl⟩ dX3_survey_30 (fun r34 L1 f33 H locs hp hH => ?_)
            obtain ⟨rfl, s35, h36⟩ := hp
            have hI := hI.call s35 (by decide)
            have k37 : fld f33 q 1 (.int W0) := fld.eq k27 (s35.fr q mq (t_lim tq rfl))
            have k38 : fld f33 q 2 (.int H0) := fld.eq k28 (s35.fr q mq (t_lim tq rfl))
            refine lv_aload_n hx hb dX3_survey_33 rfl (lv_at hl 0 rfl) ?_
            obtain ⟨z39, rz39, kz39⟩ := t_fldi hI.1 mq tq td_35 (k := 4) rfl
            refine t_getX C hH hI.1 mq tq td_35 iX3 rfl 4 (by decide) wd11 rfl kz39 dX3_survey_34 ?_
            refine lv_icmp_gt (tgt := 52) hx hb dX3_survey_37 (by decide) (fun c40 => ?_) (fun c40 => ?_)
            · skip
              have r41 : rg z39 (-2147483648) 2147483646 := rf_ltl (c_lt c40) rz39 h36 (by decide)
              have r42 : rg r34 (-2147483647) 2147483647 := rf_ltr (c_lt c40) rz39 h36 (by decide)
              obtain ⟨z43, ez43⟩ : ∃ y : Int32, y = v19_2 + (1 : Int32) := ⟨_, rfl⟩
              have r44 : rg z43 1 20 := rg_add ez43 r31 rl_1 (by decide)
              have a45 : z43.toInt = v19_2.toInt + 1 := ai_add ez43 r31 tl_1 (by decide)
              refine lv_iinc (v := z43) (lv' := [(2, .int z43), (0, .ref q), (1, .int v2_1)]) hx hb dX3_survey_52 hl (k := 2) rfl (by rw [ez43]; rfl) (by decide) rfl (fun ls hl => ?_)
              refine lv_goto (tgt := 19) hx hb dX3_survey_55 (by decide) ?_
              exact ih19 _ _ _ _ z43 (fu_s hfu19 a45 (by decide)) hI hH (rg_w r44 (by decide)) r19_v2_1 F19_cw k37 k38 (lv_sub hl [1, 2, 0] rfl)
            · skip
              refine lv_aload_n hx hb dX3_survey_40 rfl (lv_at hl 0 rfl) ?_
              refine t_getX C hH hI.1 mq tq td_35 iX3 rfl 18 (by decide) wd38 rfl (hI.rf kq_18) dX3_survey_41 ?_
              refine lv_iload_n hx hb dX3_survey_44 rfl (lv_at hl 1 rfl) ?_
              refine lv_dup2_11 hx hb dX3_survey_45 rfl rfl ?_
              refine t_ald C hH hI.1 mq_18 tq_18 td_12 (rg_in r19_v2_1 (by decide)) dX3_survey_46 (fun z46v az46 _ => ?_)
              refine lv_topi (fun z46 ez46 => ?_)
              refine lv_iconst (v := (1 : Int32)) hx hb dX3_survey_47 (by decide) ?_
              refine lv_iload_n hx hb dX3_survey_48 rfl (lv_at hl 2 rfl) ?_
              refine lv_ishl hx hb dX3_survey_49 ?_
              refine lv_topi (fun z47 ez47 => ?_)
              have r48 : rg z47 1 524288 := rg_shl 0 19 ez47 r31 (by decide)
              refine lv_ior hx hb dX3_survey_50 ?_
              refine lv_topi (fun z49 ez49 => ?_)
              refine t_ast C hH hI mq_18 tq_18 (by decide) td_12 (rg_in r19_v2_1 (by decide)) (fun _ _ _ => trivial) dX3_survey_51 (fun f50 H locs hH hI bf50 uf50 => ?_)
              have k51 : fld f50 q 1 (.int W0) := fld.eq k37 (bf50 q (ty_ne tq tq_18 rfl))
              have k52 : fld f50 q 2 (.int H0) := fld.eq k38 (bf50 q (ty_ne tq tq_18 rfl))
              have k53 : fld f50 q 4 (.int z39) := fld.eq kz39 (bf50 q (ty_ne tq tq_18 rfl))
              obtain ⟨z54, ez54⟩ : ∃ y : Int32, y = v19_2 + (1 : Int32) := ⟨_, rfl⟩
              have r55 : rg z54 1 20 := rg_add ez54 r31 rl_1 (by decide)
              have a56 : z54.toInt = v19_2.toInt + 1 := ai_add ez54 r31 tl_1 (by decide)
              refine lv_iinc (v := z54) (lv' := [(2, .int z54), (0, .ref q), (1, .int v2_1)]) hx hb dX3_survey_52 hl (k := 2) rfl (by rw [ez54]; rfl) (by decide) rfl (fun ls hl => ?_)
              refine lv_goto (tgt := 19) hx hb dX3_survey_55 (by decide) ?_
              exact ih19 _ _ _ _ z54 (fu_s hfu19 a56 (by decide)) hI hH (rg_w r55 (by decide)) r19_v2_1 F19_cw k51 k52 (lv_sub hl [1, 2, 0] rfl)
      refine lv_iload_n hx hb dX3_survey_2 rfl (lv_at hl 1 rfl) ?_
      refine lv_aload_n hx hb dX3_survey_3 rfl (lv_at hl 0 rfl) ?_
      refine t_Vi C hO hl.1 hA hH hI.1 (As := []) (rest := [.int v2_1]) (t_cellsX l E J τ L fh2 hI.1 mq tq) my_X3_cells wd21 mq tq td_35 rfl rfl rfl (Nat.le_of_ble_eq_true rfl) ⟨Nat.le_of_ble_eq_true rfl, Nat.le_of_ble_eq_true rfl⟩ ⟨rfl, rfl⟩ dX3_survey_4 (fun r58 L1 f57 H locs hp hH => ?_)
      obtain ⟨rfl, s59, h60⟩ := hp
      have hJ := hI
      have hI := hI.call s59 (by decide)
      have k61 : fld f57 q 1 (.int W0) := fld.eq P2_0 (s59.fr q mq (t_lim tq rfl))
      have k62 : fld f57 q 2 (.int H0) := fld.eq P2_1 (s59.fr q mq (t_lim tq rfl))
      have cw63 := h60.2 _ _ P2_0 P2_1
      refine lv_icmp_ge (tgt := 93) hx hb dX3_survey_7 (by decide) (fun c64 => ?_) (fun c64 => ?_)
      · skip
        exact g_vret C hr hH (Nat.zero_le _) (Nat.zero_le _) dX3_survey_93 ⟨rfl, hI, trivial⟩
      · skip
        have r65 : rg v2_1 0 19 := rf_ltl (n_le c64) r_v2_1 h60.1 (by decide)
        have r66 : rg r58 1 20 := rf_ltr (n_le c64) r_v2_1 h60.1 (by decide)
        have F67 := cw_lt (n_le c64) cw63 rW0 rH0
        refine lv_aload_n hx hb dX3_survey_10 rfl (lv_at hl 0 rfl) ?_
        refine t_getX C hH hI.1 mq tq td_35 iX3 rfl 18 (by decide) wd38 rfl (hI.rf kq_18) dX3_survey_11 ?_
        refine lv_iload_n hx hb dX3_survey_14 rfl (lv_at hl 1 rfl) ?_
        refine lv_iconst (v := (0 : Int32)) hx hb dX3_survey_15 (by decide) ?_
        refine t_ast C hH hI mq_18 tq_18 (by decide) td_12 (rg_in r65 (by decide)) (fun _ _ _ => trivial) dX3_survey_16 (fun f68 H locs hH hI bf68 uf68 => ?_)
        have k69 : fld f68 q 1 (.int W0) := fld.eq k61 (bf68 q (ty_ne tq tq_18 rfl))
        have k70 : fld f68 q 2 (.int H0) := fld.eq k62 (bf68 q (ty_ne tq tq_18 rfl))
        refine lv_iconst (v := (0 : Int32)) hx hb dX3_survey_17 (by decide) ?_
        refine lv_istore_n (lv' := [(2, .int (0 : Int32)), (0, .ref q), (1, .int v2_1)]) hx hb dX3_survey_18 rfl hl (by decide) rfl (fun ls hl => ?_)
        exact cut19 21 _ _ _ _ (0 : Int32) (fu_i 21 rl_0 (by decide)) hI hH (rg_w rl_0 (by decide)) r65 F67 k69 k70 (lv_sub hl [1, 2, 0] rfl)
  refine lv_iconst (v := (0 : Int32)) hx hb dX3_survey_0 (by decide) ?_
  refine lv_istore_n (lv' := [(1, .int (0 : Int32)), (0, .ref q)]) hx hb dX3_survey_1 rfl hl (by decide) rfl (fun ls hl => ?_)
  exact cut2 21 _ _ _ _ (0 : Int32) (fu_i 21 rl_0 (by decide)) hI hH (rg_w rl_0 (by decide)) kW kH (lv_sub hl [1, 0] rfl)
set_option maxHeartbeats 4000000 in
set_option maxRecDepth 100000 in
theorem t_bit5 (l : Launch) (E : gE) (J : Nat → Nat) (τ : Nat → Nat) (L : List Nat) (f : gF) (hI : tI E L τ f) (p0 : Int32) (rp0 : rg p0 0 62) : tMi l E J yJ6_bitCount_0f7a4 cJ6_bitCount_0f7a4 1 .int (gRm (1) 0 0) [.int p0] L f (tPi E L τ [] f (fun r f1 => rg r 0 5)) := by
  refine tMi.intro (by decide) (Nat.le_of_ble_eq_true rfl) ?_
  intro p e s m below meth c A ls C hr hA hO hH hl
  have C : gC E cJ6_bitCount_0f7a4 1 "java/lang/Integer" p s m _ meth c := C
  have hl : lv_has ls 1 [(0, .int p0)] := hl
  have hx := C.1
  have hb := C.2.1
  have hI := hI.S []
  refine lv_iload_n hx hb dJ6_bitCount_0f7a4_0 rfl (lv_at hl 0 rfl) ?_
  refine lv_iload_n hx hb dJ6_bitCount_0f7a4_1 rfl (lv_at hl 0 rfl) ?_
  refine lv_iconst (v := (1 : Int32)) hx hb dJ6_bitCount_0f7a4_2 (by decide) ?_
  refine lv_iushr (v := _) hx hb dJ6_bitCount_0f7a4_3 rfl ?_
  refine lv_topi (fun z1 ez1 => ?_)
  refine lv_ldcw hx hb C.2.2.2.1 (C.2.2.2.2.1 _ wd115) dJ6_bitCount_0f7a4_4 ?_
  refine lv_iand hx hb dJ6_bitCount_0f7a4_7 ?_
  refine lv_topi (fun z2 ez2 => ?_)
  have r3 : rg z2 0 1431655765 := rg_andr ez2 rl_1431655765 (by decide)
  refine lv_isub hx hb dJ6_bitCount_0f7a4_8 ?_
  refine lv_topi (fun z4 ez4 => ?_)
  have r5 : rg z4 (-1431655765) 62 := rg_sub ez4 rp0 r3 (by decide)
  refine lv_istore_n (lv' := [(0, .int z4)]) hx hb dJ6_bitCount_0f7a4_9 rfl hl (by decide) rfl (fun ls hl => ?_)
  refine lv_iload_n hx hb dJ6_bitCount_0f7a4_10 rfl (lv_at hl 0 rfl) ?_
  refine lv_ldcw hx hb C.2.2.2.1 (C.2.2.2.2.1 _ wd116) dJ6_bitCount_0f7a4_11 ?_
  refine lv_iand hx hb dJ6_bitCount_0f7a4_14 ?_
  refine lv_topi (fun z6 ez6 => ?_)
  have r7 : rg z6 0 858993459 := rg_andr ez6 rl_858993459 (by decide)
  refine lv_iload_n hx hb dJ6_bitCount_0f7a4_15 rfl (lv_at hl 0 rfl) ?_
  refine lv_iconst (v := (2 : Int32)) hx hb dJ6_bitCount_0f7a4_16 (by decide) ?_
  refine lv_iushr (v := _) hx hb dJ6_bitCount_0f7a4_17 rfl ?_
  refine lv_topi (fun z8 ez8 => ?_)
  refine lv_ldcw hx hb C.2.2.2.1 (C.2.2.2.2.1 _ wd116) dJ6_bitCount_0f7a4_18 ?_
  refine lv_iand hx hb dJ6_bitCount_0f7a4_21 ?_
  refine lv_topi (fun z9 ez9 => ?_)
  have r10 : rg z9 0 858993459 := rg_andr ez9 rl_858993459 (by decide)
  refine lv_iadd hx hb dJ6_bitCount_0f7a4_22 ?_
  refine lv_topi (fun z11 ez11 => ?_)
  have r12 : rg z11 0 1717986918 := rg_add ez11 r7 r10 (by decide)
  refine lv_istore_n (lv' := [(0, .int z11)]) hx hb dJ6_bitCount_0f7a4_23 rfl hl (by decide) rfl (fun ls hl => ?_)
  refine lv_iload_n hx hb dJ6_bitCount_0f7a4_24 rfl (lv_at hl 0 rfl) ?_
  refine lv_iload_n hx hb dJ6_bitCount_0f7a4_25 rfl (lv_at hl 0 rfl) ?_
  refine lv_iconst (v := (4 : Int32)) hx hb dJ6_bitCount_0f7a4_26 (by decide) ?_
  refine lv_iushr (v := _) hx hb dJ6_bitCount_0f7a4_27 rfl ?_
  refine lv_topi (fun z13 ez13 => ?_)
  refine lv_iadd hx hb dJ6_bitCount_0f7a4_28 ?_
  refine lv_topi (fun z14 ez14 => ?_)
  refine lv_ldcw hx hb C.2.2.2.1 (C.2.2.2.2.1 _ wd117) dJ6_bitCount_0f7a4_29 ?_
  refine lv_iand hx hb dJ6_bitCount_0f7a4_32 ?_
  refine lv_topi (fun z15 ez15 => ?_)
  have r16 : rg z15 0 252645135 := rg_andr ez15 rl_252645135 (by decide)
  refine lv_istore_n (lv' := [(0, .int z15)]) hx hb dJ6_bitCount_0f7a4_33 rfl hl (by decide) rfl (fun ls hl => ?_)
  refine lv_iload_n hx hb dJ6_bitCount_0f7a4_34 rfl (lv_at hl 0 rfl) ?_
  refine lv_iload_n hx hb dJ6_bitCount_0f7a4_35 rfl (lv_at hl 0 rfl) ?_
  refine lv_bipush (v := (8 : Int32)) hx hb dJ6_bitCount_0f7a4_36 (by decide) ?_
  refine lv_iushr (v := _) hx hb dJ6_bitCount_0f7a4_38 rfl ?_
  refine lv_topi (fun z17 ez17 => ?_)
  refine lv_iadd hx hb dJ6_bitCount_0f7a4_39 ?_
  refine lv_topi (fun z18 ez18 => ?_)
  refine lv_istore_n (lv' := [(0, .int z18)]) hx hb dJ6_bitCount_0f7a4_40 rfl hl (by decide) rfl (fun ls hl => ?_)
  refine lv_iload_n hx hb dJ6_bitCount_0f7a4_41 rfl (lv_at hl 0 rfl) ?_
  refine lv_iload_n hx hb dJ6_bitCount_0f7a4_42 rfl (lv_at hl 0 rfl) ?_
  refine lv_bipush (v := (16 : Int32)) hx hb dJ6_bitCount_0f7a4_43 (by decide) ?_
  refine lv_iushr (v := _) hx hb dJ6_bitCount_0f7a4_45 rfl ?_
  refine lv_topi (fun z19 ez19 => ?_)
  refine lv_iadd hx hb dJ6_bitCount_0f7a4_46 ?_
  refine lv_topi (fun z20 ez20 => ?_)
  refine lv_istore_n (lv' := [(0, .int z20)]) hx hb dJ6_bitCount_0f7a4_47 rfl hl (by decide) rfl (fun ls hl => ?_)
  refine lv_iload_n hx hb dJ6_bitCount_0f7a4_48 rfl (lv_at hl 0 rfl) ?_
  refine lv_bipush (v := (63 : Int32)) hx hb dJ6_bitCount_0f7a4_49 (by decide) ?_
  refine lv_iand hx hb dJ6_bitCount_0f7a4_51 ?_
  refine lv_topi (fun z21 ez21 => ?_)
  have r22 : rg z21 0 63 := rg_andr ez21 rl_63 (by decide)
  exact g_iret C hr hH (Nat.zero_le _) (Nat.zero_le _) dJ6_bitCount_0f7a4_52 ⟨rfl, hI, (bc_5 rp0 (by subst_vars; rfl))⟩
set_option maxHeartbeats 4000000 in
set_option maxRecDepth 100000 in
theorem t_bit6 (l : Launch) (E : gE) (J : Nat → Nat) (τ : Nat → Nat) (L : List Nat) (f : gF) (hI : tI E L τ f) (p0 : Int32) (rp0 : rg p0 0 63) : tMi l E J yJ6_bitCount_0f7a4 cJ6_bitCount_0f7a4 1 .int (gRm (1) 0 0) [.int p0] L f (tPi E L τ [] f (fun r f1 => rg r 0 6)) := by
  refine tMi.intro (by decide) (Nat.le_of_ble_eq_true rfl) ?_
  intro p e s m below meth c A ls C hr hA hO hH hl
  have C : gC E cJ6_bitCount_0f7a4 1 "java/lang/Integer" p s m _ meth c := C
  have hl : lv_has ls 1 [(0, .int p0)] := hl
  have hx := C.1
  have hb := C.2.1
  have hI := hI.S []
  refine lv_iload_n hx hb dJ6_bitCount_0f7a4_0 rfl (lv_at hl 0 rfl) ?_
  refine lv_iload_n hx hb dJ6_bitCount_0f7a4_1 rfl (lv_at hl 0 rfl) ?_
  refine lv_iconst (v := (1 : Int32)) hx hb dJ6_bitCount_0f7a4_2 (by decide) ?_
  refine lv_iushr (v := _) hx hb dJ6_bitCount_0f7a4_3 rfl ?_
  refine lv_topi (fun z1 ez1 => ?_)
  refine lv_ldcw hx hb C.2.2.2.1 (C.2.2.2.2.1 _ wd115) dJ6_bitCount_0f7a4_4 ?_
  refine lv_iand hx hb dJ6_bitCount_0f7a4_7 ?_
  refine lv_topi (fun z2 ez2 => ?_)
  have r3 : rg z2 0 1431655765 := rg_andr ez2 rl_1431655765 (by decide)
  refine lv_isub hx hb dJ6_bitCount_0f7a4_8 ?_
  refine lv_topi (fun z4 ez4 => ?_)
  have r5 : rg z4 (-1431655765) 63 := rg_sub ez4 rp0 r3 (by decide)
  refine lv_istore_n (lv' := [(0, .int z4)]) hx hb dJ6_bitCount_0f7a4_9 rfl hl (by decide) rfl (fun ls hl => ?_)
  refine lv_iload_n hx hb dJ6_bitCount_0f7a4_10 rfl (lv_at hl 0 rfl) ?_
  refine lv_ldcw hx hb C.2.2.2.1 (C.2.2.2.2.1 _ wd116) dJ6_bitCount_0f7a4_11 ?_
  refine lv_iand hx hb dJ6_bitCount_0f7a4_14 ?_
  refine lv_topi (fun z6 ez6 => ?_)
  have r7 : rg z6 0 858993459 := rg_andr ez6 rl_858993459 (by decide)
  refine lv_iload_n hx hb dJ6_bitCount_0f7a4_15 rfl (lv_at hl 0 rfl) ?_
  refine lv_iconst (v := (2 : Int32)) hx hb dJ6_bitCount_0f7a4_16 (by decide) ?_
  refine lv_iushr (v := _) hx hb dJ6_bitCount_0f7a4_17 rfl ?_
  refine lv_topi (fun z8 ez8 => ?_)
  refine lv_ldcw hx hb C.2.2.2.1 (C.2.2.2.2.1 _ wd116) dJ6_bitCount_0f7a4_18 ?_
  refine lv_iand hx hb dJ6_bitCount_0f7a4_21 ?_
  refine lv_topi (fun z9 ez9 => ?_)
  have r10 : rg z9 0 858993459 := rg_andr ez9 rl_858993459 (by decide)
  refine lv_iadd hx hb dJ6_bitCount_0f7a4_22 ?_
  refine lv_topi (fun z11 ez11 => ?_)
  have r12 : rg z11 0 1717986918 := rg_add ez11 r7 r10 (by decide)
  refine lv_istore_n (lv' := [(0, .int z11)]) hx hb dJ6_bitCount_0f7a4_23 rfl hl (by decide) rfl (fun ls hl => ?_)
  refine lv_iload_n hx hb dJ6_bitCount_0f7a4_24 rfl (lv_at hl 0 rfl) ?_
  refine lv_iload_n hx hb dJ6_bitCount_0f7a4_25 rfl (lv_at hl 0 rfl) ?_
  refine lv_iconst (v := (4 : Int32)) hx hb dJ6_bitCount_0f7a4_26 (by decide) ?_
  refine lv_iushr (v := _) hx hb dJ6_bitCount_0f7a4_27 rfl ?_
  refine lv_topi (fun z13 ez13 => ?_)
  refine lv_iadd hx hb dJ6_bitCount_0f7a4_28 ?_
  refine lv_topi (fun z14 ez14 => ?_)
  refine lv_ldcw hx hb C.2.2.2.1 (C.2.2.2.2.1 _ wd117) dJ6_bitCount_0f7a4_29 ?_
  refine lv_iand hx hb dJ6_bitCount_0f7a4_32 ?_
  refine lv_topi (fun z15 ez15 => ?_)
  have r16 : rg z15 0 252645135 := rg_andr ez15 rl_252645135 (by decide)
  refine lv_istore_n (lv' := [(0, .int z15)]) hx hb dJ6_bitCount_0f7a4_33 rfl hl (by decide) rfl (fun ls hl => ?_)
  refine lv_iload_n hx hb dJ6_bitCount_0f7a4_34 rfl (lv_at hl 0 rfl) ?_
  refine lv_iload_n hx hb dJ6_bitCount_0f7a4_35 rfl (lv_at hl 0 rfl) ?_
  refine lv_bipush (v := (8 : Int32)) hx hb dJ6_bitCount_0f7a4_36 (by decide) ?_
  refine lv_iushr (v := _) hx hb dJ6_bitCount_0f7a4_38 rfl ?_
  refine lv_topi (fun z17 ez17 => ?_)
  refine lv_iadd hx hb dJ6_bitCount_0f7a4_39 ?_
  refine lv_topi (fun z18 ez18 => ?_)
  refine lv_istore_n (lv' := [(0, .int z18)]) hx hb dJ6_bitCount_0f7a4_40 rfl hl (by decide) rfl (fun ls hl => ?_)
  refine lv_iload_n hx hb dJ6_bitCount_0f7a4_41 rfl (lv_at hl 0 rfl) ?_
  refine lv_iload_n hx hb dJ6_bitCount_0f7a4_42 rfl (lv_at hl 0 rfl) ?_
  refine lv_bipush (v := (16 : Int32)) hx hb dJ6_bitCount_0f7a4_43 (by decide) ?_
  refine lv_iushr (v := _) hx hb dJ6_bitCount_0f7a4_45 rfl ?_
  refine lv_topi (fun z19 ez19 => ?_)
  refine lv_iadd hx hb dJ6_bitCount_0f7a4_46 ?_
  refine lv_topi (fun z20 ez20 => ?_)
  refine lv_istore_n (lv' := [(0, .int z20)]) hx hb dJ6_bitCount_0f7a4_47 rfl hl (by decide) rfl (fun ls hl => ?_)
  refine lv_iload_n hx hb dJ6_bitCount_0f7a4_48 rfl (lv_at hl 0 rfl) ?_
  refine lv_bipush (v := (63 : Int32)) hx hb dJ6_bitCount_0f7a4_49 (by decide) ?_
  refine lv_iand hx hb dJ6_bitCount_0f7a4_51 ?_
  refine lv_topi (fun z21 ez21 => ?_)
  have r22 : rg z21 0 63 := rg_andr ez21 rl_63 (by decide)
  exact g_iret C hr hH (Nat.zero_le _) (Nat.zero_le _) dJ6_bitCount_0f7a4_52 ⟨rfl, hI, (bc_6 rp0 (by subst_vars; rfl))⟩
set_option maxHeartbeats 4000000 in
set_option maxRecDepth 100000 in
theorem t_bit (l : Launch) (E : gE) (J : Nat → Nat) (τ : Nat → Nat) (L : List Nat) (f : gF) (hI : tI E L τ f) (p0 : Int32) : tMi l E J yJ6_bitCount_0f7a4 cJ6_bitCount_0f7a4 1 .int (gRm (1) 0 0) [.int p0] L f (tPi E L τ [] f (fun r f1 => rg r 0 63)) := by
  refine tMi.intro (by decide) (Nat.le_of_ble_eq_true rfl) ?_
  intro p e s m below meth c A ls C hr hA hO hH hl
  have C : gC E cJ6_bitCount_0f7a4 1 "java/lang/Integer" p s m _ meth c := C
  have hl : lv_has ls 1 [(0, .int p0)] := hl
  have hx := C.1
  have hb := C.2.1
  have hI := hI.S []
  refine lv_iload_n hx hb dJ6_bitCount_0f7a4_0 rfl (lv_at hl 0 rfl) ?_
  refine lv_iload_n hx hb dJ6_bitCount_0f7a4_1 rfl (lv_at hl 0 rfl) ?_
  refine lv_iconst (v := (1 : Int32)) hx hb dJ6_bitCount_0f7a4_2 (by decide) ?_
  refine lv_iushr (v := _) hx hb dJ6_bitCount_0f7a4_3 rfl ?_
  refine lv_topi (fun z1 ez1 => ?_)
  refine lv_ldcw hx hb C.2.2.2.1 (C.2.2.2.2.1 _ wd115) dJ6_bitCount_0f7a4_4 ?_
  refine lv_iand hx hb dJ6_bitCount_0f7a4_7 ?_
  refine lv_topi (fun z2 ez2 => ?_)
  have r3 : rg z2 0 1431655765 := rg_andr ez2 rl_1431655765 (by decide)
  refine lv_isub hx hb dJ6_bitCount_0f7a4_8 ?_
  refine lv_topi (fun z4 ez4 => ?_)
  refine lv_istore_n (lv' := [(0, .int z4)]) hx hb dJ6_bitCount_0f7a4_9 rfl hl (by decide) rfl (fun ls hl => ?_)
  refine lv_iload_n hx hb dJ6_bitCount_0f7a4_10 rfl (lv_at hl 0 rfl) ?_
  refine lv_ldcw hx hb C.2.2.2.1 (C.2.2.2.2.1 _ wd116) dJ6_bitCount_0f7a4_11 ?_
  refine lv_iand hx hb dJ6_bitCount_0f7a4_14 ?_
  refine lv_topi (fun z5 ez5 => ?_)
  have r6 : rg z5 0 858993459 := rg_andr ez5 rl_858993459 (by decide)
  refine lv_iload_n hx hb dJ6_bitCount_0f7a4_15 rfl (lv_at hl 0 rfl) ?_
  refine lv_iconst (v := (2 : Int32)) hx hb dJ6_bitCount_0f7a4_16 (by decide) ?_
  refine lv_iushr (v := _) hx hb dJ6_bitCount_0f7a4_17 rfl ?_
  refine lv_topi (fun z7 ez7 => ?_)
  refine lv_ldcw hx hb C.2.2.2.1 (C.2.2.2.2.1 _ wd116) dJ6_bitCount_0f7a4_18 ?_
  refine lv_iand hx hb dJ6_bitCount_0f7a4_21 ?_
  refine lv_topi (fun z8 ez8 => ?_)
  have r9 : rg z8 0 858993459 := rg_andr ez8 rl_858993459 (by decide)
  refine lv_iadd hx hb dJ6_bitCount_0f7a4_22 ?_
  refine lv_topi (fun z10 ez10 => ?_)
  have r11 : rg z10 0 1717986918 := rg_add ez10 r6 r9 (by decide)
  refine lv_istore_n (lv' := [(0, .int z10)]) hx hb dJ6_bitCount_0f7a4_23 rfl hl (by decide) rfl (fun ls hl => ?_)
  refine lv_iload_n hx hb dJ6_bitCount_0f7a4_24 rfl (lv_at hl 0 rfl) ?_
  refine lv_iload_n hx hb dJ6_bitCount_0f7a4_25 rfl (lv_at hl 0 rfl) ?_
  refine lv_iconst (v := (4 : Int32)) hx hb dJ6_bitCount_0f7a4_26 (by decide) ?_
  refine lv_iushr (v := _) hx hb dJ6_bitCount_0f7a4_27 rfl ?_
  refine lv_topi (fun z12 ez12 => ?_)
  refine lv_iadd hx hb dJ6_bitCount_0f7a4_28 ?_
  refine lv_topi (fun z13 ez13 => ?_)
  refine lv_ldcw hx hb C.2.2.2.1 (C.2.2.2.2.1 _ wd117) dJ6_bitCount_0f7a4_29 ?_
  refine lv_iand hx hb dJ6_bitCount_0f7a4_32 ?_
  refine lv_topi (fun z14 ez14 => ?_)
  have r15 : rg z14 0 252645135 := rg_andr ez14 rl_252645135 (by decide)
  refine lv_istore_n (lv' := [(0, .int z14)]) hx hb dJ6_bitCount_0f7a4_33 rfl hl (by decide) rfl (fun ls hl => ?_)
  refine lv_iload_n hx hb dJ6_bitCount_0f7a4_34 rfl (lv_at hl 0 rfl) ?_
  refine lv_iload_n hx hb dJ6_bitCount_0f7a4_35 rfl (lv_at hl 0 rfl) ?_
  refine lv_bipush (v := (8 : Int32)) hx hb dJ6_bitCount_0f7a4_36 (by decide) ?_
  refine lv_iushr (v := _) hx hb dJ6_bitCount_0f7a4_38 rfl ?_
  refine lv_topi (fun z16 ez16 => ?_)
  refine lv_iadd hx hb dJ6_bitCount_0f7a4_39 ?_
  refine lv_topi (fun z17 ez17 => ?_)
  refine lv_istore_n (lv' := [(0, .int z17)]) hx hb dJ6_bitCount_0f7a4_40 rfl hl (by decide) rfl (fun ls hl => ?_)
  refine lv_iload_n hx hb dJ6_bitCount_0f7a4_41 rfl (lv_at hl 0 rfl) ?_
  refine lv_iload_n hx hb dJ6_bitCount_0f7a4_42 rfl (lv_at hl 0 rfl) ?_
  refine lv_bipush (v := (16 : Int32)) hx hb dJ6_bitCount_0f7a4_43 (by decide) ?_
  refine lv_iushr (v := _) hx hb dJ6_bitCount_0f7a4_45 rfl ?_
  refine lv_topi (fun z18 ez18 => ?_)
  refine lv_iadd hx hb dJ6_bitCount_0f7a4_46 ?_
  refine lv_topi (fun z19 ez19 => ?_)
  refine lv_istore_n (lv' := [(0, .int z19)]) hx hb dJ6_bitCount_0f7a4_47 rfl hl (by decide) rfl (fun ls hl => ?_)
  refine lv_iload_n hx hb dJ6_bitCount_0f7a4_48 rfl (lv_at hl 0 rfl) ?_
  refine lv_bipush (v := (63 : Int32)) hx hb dJ6_bitCount_0f7a4_49 (by decide) ?_
  refine lv_iand hx hb dJ6_bitCount_0f7a4_51 ?_
  refine lv_topi (fun z20 ez20 => ?_)
  have r21 : rg z20 0 63 := rg_andr ez20 rl_63 (by decide)
  exact g_iret C hr hH (Nat.zero_le _) (Nat.zero_le _) dJ6_bitCount_0f7a4_52 ⟨rfl, hI, r21⟩
set_option maxHeartbeats 4000000 in
set_option maxRecDepth 100000 in
theorem t_hasBit62 (l : Launch) (E : gE) (J : Nat → Nat) (τ : Nat → Nat) (L : List Nat) (f : gF) (hI : tI E L τ f) (p0 : Int32) (rp0 : rg p0 0 63) (p1 : Int32) (rp1 : rg p1 0 5) : tMi l E J yX9_hasBit cX9_hasBit 2 .boolean (gRm (1) 0 0) [.int p0, .int p1] L f (tPi E L τ [] f (fun r f1 => rg r 0 1 ∧ (r = 0 → rg p0 0 62))) := by
  refine tMi.intro (by decide) (Nat.le_of_ble_eq_true rfl) ?_
  intro p e s m below meth c A ls C hr hA hO hH hl
  have C : gC E cX9_hasBit 2 RX9 p s m _ meth c := C
  have hl : lv_has ls 2 [(0, .int p0), (1, .int p1)] := hl
  have hx := C.1
  have hb := C.2.1
  have hI := hI.S []
  refine lv_iload_n hx hb dX9_hasBit_0 rfl (lv_at hl 0 rfl) ?_
  refine lv_iload_n hx hb dX9_hasBit_1 rfl (lv_at hl 1 rfl) ?_
  refine lv_ishr hx hb dX9_hasBit_2 ?_
  refine lv_topi (fun z1 ez1 => ?_)
  refine lv_iconst (v := (1 : Int32)) hx hb dX9_hasBit_3 (by decide) ?_
  refine lv_iand hx hb dX9_hasBit_4 ?_
  refine lv_topi (fun z2 ez2 => ?_)
  have r3 : rg z2 0 1 := rg_andr ez2 rl_1 (by decide)
  refine lv_if_eq (tgt := 12) hx hb dX9_hasBit_5 (by decide) (fun c4 => ?_) (fun c4 => ?_)
  · skip
    have r5 : rg z2 0 0 := rf_eql (c_eq c4) r3 rl_0 (by decide)
    refine lv_iconst (v := (0 : Int32)) hx hb dX9_hasBit_12 (by decide) ?_
    exact g_zret C hr (rg_z (rg_w rl_0 (by decide))) hH (Nat.zero_le _) (Nat.zero_le _) dX9_hasBit_13 ⟨rfl, hI, ⟨(rg_w rl_0 (by decide)), (fun _ => hb_62 rp0 rp1 ez1 ez2 c4)⟩⟩
  · skip
    have r6 : rg z2 1 1 := rf_nel (n_eq c4) r3 rl_0 (by decide)
    refine lv_iconst (v := (1 : Int32)) hx hb dX9_hasBit_8 (by decide) ?_
    refine lv_goto (tgt := 13) hx hb dX9_hasBit_9 (by decide) ?_
    exact g_zret C hr (rg_z (rg_w rl_1 (by decide))) hH (Nat.zero_le _) (Nat.zero_le _) dX9_hasBit_13 ⟨rfl, hI, ⟨(rg_w rl_1 (by decide)), (fun h => absurd h (by decide))⟩⟩
set_option maxHeartbeats 4000000 in
set_option maxRecDepth 100000 in
theorem t_X1_allWeight (l : Launch) (E : gE) (J : Nat → Nat) (τ : Nat → Nat) (L : List Nat) (f : gF) (hI : tI E L τ f) {q : Nat} (mq : q ∈ L) (tq : τ q = 33) : tMi l E J yX1_allWeight cX1_allWeight 3 .int (gRm (1) 0 0) [.ref q] L f (tPi E L τ [] f (fun r f1 => rg r (-2147483648) 2147483647)) := by
  refine tMi.intro (by decide) (Nat.le_of_ble_eq_true rfl) ?_
  intro p e s m below meth c A ls C hr hA hO hH hl
  have C : gC E cX1_allWeight 3 RX1 p s m _ meth c := C
  have hl : lv_has ls 3 [(0, .ref q)] := hl
  have hx := C.1
  have hb := C.2.1
  have hI := hI.S []
  obtain ⟨q_0, mq_0, tq_0, kq_0⟩ := t_fldr hI.1 mq tq td_33 (k := 0) rfl
  have cut4 : ∀ (n : Nat) (fh4 : gF) (H : Heap) (locs : List Loc) (ls : Array Slot) (v4_1 : Int32) (v4_2 : Int32), 4 - v4_2.toInt < (n : Int) → tS E L τ [] f fh4 → gH E A L fh4 s.heap H locs → rg v4_2 0 4 → lv_has ls 3 [(0, .ref q), (1, .int v4_1), (2, .int v4_2)] → W p l e (gRm (1) 0 0) s m [.ref q].toArray below meth c H locs 0 0 (MQ below (gQi E A (tPi E L τ [] f (fun r f1 => rg r (-2147483648) 2147483647))) [.ref q].toArray s (gRm (1) 0 0).cells (gRm (1) 0 0).slots A) (F0 m 4 ls []) := by
    intro n
    induction n with
    | zero =>
      intro fh4 H locs ls v4_1 v4_2 hfu4 hI hH r_v4_2 hl
      exact (fu_0 hfu4 r_v4_2).elim
    | succ n ih4 =>
      intro fh4 H locs ls v4_1 v4_2 hfu4 hI hH r_v4_2 hl
      refine lv_iload_n hx hb dX1_allWeight_4 rfl (lv_at hl 2 rfl) ?_
      refine lv_aload_n hx hb dX1_allWeight_5 rfl (lv_at hl 0 rfl) ?_
      refine t_getX C hH hI.1 mq tq td_33 iX1 rfl 0 (by decide) wd118 rfl (hI.rf kq_0) dX1_allWeight_6 ?_
      refine t_geti C hH hI.1 mq_0 tq_0 td_3 iX3 rfl 6 (by decide) wd119 rfl rfl dX1_allWeight_9 (fun z1 rz1 => ?_)
      refine lv_icmp_ge (tgt := 26) hx hb dX1_allWeight_12 (by decide) (fun c2 => ?_) (fun c2 => ?_)
      · skip
        refine lv_iload_n hx hb dX1_allWeight_26 rfl (lv_at hl 1 rfl) ?_
        exact g_iret C hr hH (Nat.zero_le _) (Nat.zero_le _) dX1_allWeight_27 ⟨rfl, hI, (rg_all _)⟩
      · skip
        have r3 : rg v4_2 0 3 := rf_ltl (n_le c2) r_v4_2 rz1 (by decide)
        have r4 : rg z1 1 4 := rf_ltr (n_le c2) r_v4_2 rz1 (by decide)
        refine lv_iload_n hx hb dX1_allWeight_15 rfl (lv_at hl 1 rfl) ?_
        refine lv_bipush (v := (10 : Int32)) hx hb dX1_allWeight_16 (by decide) ?_
        refine lv_imul hx hb dX1_allWeight_18 ?_
        refine lv_topi (fun z5 ez5 => ?_)
        refine lv_istore_n (lv' := [(1, .int z5), (0, .ref q), (2, .int v4_2)]) hx hb dX1_allWeight_19 rfl hl (by decide) rfl (fun ls hl => ?_)
        obtain ⟨z6, ez6⟩ : ∃ y : Int32, y = v4_2 + (1 : Int32) := ⟨_, rfl⟩
        have r7 : rg z6 1 4 := rg_add ez6 r3 rl_1 (by decide)
        have a8 : z6.toInt = v4_2.toInt + 1 := ai_add ez6 r3 tl_1 (by decide)
        refine lv_iinc (v := z6) (lv' := [(2, .int z6), (1, .int z5), (0, .ref q)]) hx hb dX1_allWeight_20 hl (k := 2) rfl (by rw [ez6]; rfl) (by decide) rfl (fun ls hl => ?_)
        refine lv_goto (tgt := 4) hx hb dX1_allWeight_23 (by decide) ?_
        exact ih4 _ _ _ _ z5 z6 (fu_s hfu4 a8 (by decide)) hI hH (rg_w r7 (by decide)) (lv_sub hl [2, 1, 0] rfl)
  refine lv_iconst (v := (1 : Int32)) hx hb dX1_allWeight_0 (by decide) ?_
  refine lv_istore_n (lv' := [(1, .int (1 : Int32)), (0, .ref q)]) hx hb dX1_allWeight_1 rfl hl (by decide) rfl (fun ls hl => ?_)
  refine lv_iconst (v := (0 : Int32)) hx hb dX1_allWeight_2 (by decide) ?_
  refine lv_istore_n (lv' := [(2, .int (0 : Int32)), (1, .int (1 : Int32)), (0, .ref q)]) hx hb dX1_allWeight_3 rfl hl (by decide) rfl (fun ls hl => ?_)
  exact cut4 5 _ _ _ _ (1 : Int32) (0 : Int32) (fu_i 5 rl_0 (by decide)) hI hH (rg_w rl_0 (by decide)) (lv_sub hl [2, 1, 0] rfl)
set_option maxHeartbeats 4000000 in
set_option maxRecDepth 100000 in
theorem t_X1_weightOf (l : Launch) (E : gE) (J : Nat → Nat) (τ : Nat → Nat) (L : List Nat) (f : gF) (hI : tI E L τ f) {q : Nat} (mq : q ∈ L) (tq : τ q = 33) (p1 : Int32) : tMi l E J yX1_weightOf cX1_weightOf 4 .int (gRm (2) 0 0) [.ref q, .int p1] L f (tPi E L τ [] f (fun r f1 => rg r (-2147483648) 2147483647)) := by
  refine tMi.intro (by decide) (Nat.le_of_ble_eq_true rfl) ?_
  intro p e s m below meth c A ls C hr hA hO hH hl
  have C : gC E cX1_weightOf 4 RX1 p s m _ meth c := C
  have hl : lv_has ls 4 [(0, .ref q), (1, .int p1)] := hl
  have hx := C.1
  have hb := C.2.1
  have hI := hI.S []
  obtain ⟨q_0, mq_0, tq_0, kq_0⟩ := t_fldr hI.1 mq tq td_33 (k := 0) rfl
  have cut4 : ∀ (n : Nat) (fh4 : gF) (H : Heap) (locs : List Loc) (ls : Array Slot) (v4_2 : Int32) (v4_3 : Int32), 4 - v4_3.toInt < (n : Int) → tS E L τ [] f fh4 → gH E A L fh4 s.heap H locs → rg v4_3 0 4 → lv_has ls 4 [(0, .ref q), (1, .int p1), (2, .int v4_2), (3, .int v4_3)] → W p l e (gRm (2) 0 0) s m [.ref q, .int p1].toArray below meth c H locs 0 0 (MQ below (gQi E A (tPi E L τ [] f (fun r f1 => rg r (-2147483648) 2147483647))) [.ref q, .int p1].toArray s (gRm (2) 0 0).cells (gRm (2) 0 0).slots A) (F0 m 4 ls []) := by
    intro n
    induction n with
    | zero =>
      intro fh4 H locs ls v4_2 v4_3 hfu4 hI hH r_v4_3 hl
      exact (fu_0 hfu4 r_v4_3).elim
    | succ n ih4 =>
      intro fh4 H locs ls v4_2 v4_3 hfu4 hI hH r_v4_3 hl
      refine lv_iload_n hx hb dX1_weightOf_4 rfl (lv_at hl 3 rfl) ?_
      refine lv_aload_n hx hb dX1_weightOf_5 rfl (lv_at hl 0 rfl) ?_
      refine t_getX C hH hI.1 mq tq td_33 iX1 rfl 0 (by decide) wd118 rfl (hI.rf kq_0) dX1_weightOf_6 ?_
      refine t_geti C hH hI.1 mq_0 tq_0 td_3 iX3 rfl 6 (by decide) wd119 rfl rfl dX1_weightOf_9 (fun z1 rz1 => ?_)
      refine lv_icmp_ge (tgt := 52) hx hb dX1_weightOf_12 (by decide) (fun c2 => ?_) (fun c2 => ?_)
      · skip
        refine lv_iload_n hx hb dX1_weightOf_52 rfl (lv_at hl 2 rfl) ?_
        exact g_iret C hr hH (Nat.zero_le _) (Nat.zero_le _) dX1_weightOf_53 ⟨rfl, hI, (rg_all _)⟩
      · skip
        have r3 : rg v4_3 0 3 := rf_ltl (n_le c2) r_v4_3 rz1 (by decide)
        have r4 : rg z1 1 4 := rf_ltr (n_le c2) r_v4_3 rz1 (by decide)
        refine lv_iload_n hx hb dX1_weightOf_15 rfl (lv_at hl 2 rfl) ?_
        refine lv_iload_n hx hb dX1_weightOf_16 rfl (lv_at hl 1 rfl) ?_
        refine lv_iload_n hx hb dX1_weightOf_17 rfl (lv_at hl 3 rfl) ?_
        refine t_SNi C hO hl.1 hA hH (As := [.int p1, .int v4_3]) (rest := [.int v4_2]) (t_X9_hasBit l E J τ L fh4 hI.1 p1 v4_3) my_X9_hasBit (host := "GooseShares") (List.mem_of_getElem? (i := 4) rfl) rfl rfl (Nat.le_of_ble_eq_true rfl) ⟨Nat.le_of_ble_eq_true rfl, Nat.le_of_ble_eq_true rfl⟩ ⟨rfl, rfl⟩ dX1_weightOf_18 (fun r6 L1 f5 H locs hp hH => ?_)
        obtain ⟨rfl, s7, h8⟩ := hp
        have hI := hI.call s7 (by decide)
        refine lv_if_eq (tgt := 34) hx hb dX1_weightOf_21 (by decide) (fun c9 => ?_) (fun c9 => ?_)
        · skip
          have r10 : rg r6 0 0 := rf_eql (c_eq c9) h8 rl_0 (by decide)
          refine lv_bipush (v := (10 : Int32)) hx hb dX1_weightOf_34 (by decide) ?_
          refine lv_aload_n hx hb dX1_weightOf_36 rfl (lv_at hl 0 rfl) ?_
          refine t_getX C hH hI.1 mq tq td_33 iX1 rfl 0 (by decide) wd118 rfl (hI.rf kq_0) dX1_weightOf_37 ?_
          refine t_geti C hH hI.1 mq_0 tq_0 td_3 iX3 rfl 5 (by decide) wd120 rfl rfl dX1_weightOf_40 (fun z11 rz11 => ?_)
          refine lv_isub hx hb dX1_weightOf_43 ?_
          refine lv_topi (fun z12 ez12 => ?_)
          refine lv_imul hx hb dX1_weightOf_44 ?_
          refine lv_topi (fun z13 ez13 => ?_)
          refine lv_istore_n (lv' := [(2, .int z13), (0, .ref q), (1, .int p1), (3, .int v4_3)]) hx hb dX1_weightOf_45 rfl hl (by decide) rfl (fun ls hl => ?_)
          obtain ⟨z14, ez14⟩ : ∃ y : Int32, y = v4_3 + (1 : Int32) := ⟨_, rfl⟩
          have r15 : rg z14 1 4 := rg_add ez14 r3 rl_1 (by decide)
          have a16 : z14.toInt = v4_3.toInt + 1 := ai_add ez14 r3 tl_1 (by decide)
          refine lv_iinc (v := z14) (lv' := [(3, .int z14), (2, .int z13), (0, .ref q), (1, .int p1)]) hx hb dX1_weightOf_46 hl (k := 3) rfl (by rw [ez14]; rfl) (by decide) rfl (fun ls hl => ?_)
          refine lv_goto (tgt := 4) hx hb dX1_weightOf_49 (by decide) ?_
          exact ih4 _ _ _ _ z13 z14 (fu_s hfu4 a16 (by decide)) hI hH (rg_w r15 (by decide)) (lv_sub hl [2, 3, 1, 0] rfl)
        · skip
          have r17 : rg r6 1 1 := rf_nel (n_eq c9) h8 rl_0 (by decide)
          refine lv_aload_n hx hb dX1_weightOf_24 rfl (lv_at hl 0 rfl) ?_
          refine t_getX C hH hI.1 mq tq td_33 iX1 rfl 0 (by decide) wd118 rfl (hI.rf kq_0) dX1_weightOf_25 ?_
          refine t_geti C hH hI.1 mq_0 tq_0 td_3 iX3 rfl 5 (by decide) wd120 rfl rfl dX1_weightOf_28 (fun z18 rz18 => ?_)
          refine lv_goto (tgt := 44) hx hb dX1_weightOf_31 (by decide) ?_
          refine lv_imul hx hb dX1_weightOf_44 ?_
          refine lv_topi (fun z19 ez19 => ?_)
          refine lv_istore_n (lv' := [(2, .int z19), (0, .ref q), (1, .int p1), (3, .int v4_3)]) hx hb dX1_weightOf_45 rfl hl (by decide) rfl (fun ls hl => ?_)
          obtain ⟨z20, ez20⟩ : ∃ y : Int32, y = v4_3 + (1 : Int32) := ⟨_, rfl⟩
          have r21 : rg z20 1 4 := rg_add ez20 r3 rl_1 (by decide)
          have a22 : z20.toInt = v4_3.toInt + 1 := ai_add ez20 r3 tl_1 (by decide)
          refine lv_iinc (v := z20) (lv' := [(3, .int z20), (2, .int z19), (0, .ref q), (1, .int p1)]) hx hb dX1_weightOf_46 hl (k := 3) rfl (by rw [ez20]; rfl) (by decide) rfl (fun ls hl => ?_)
          refine lv_goto (tgt := 4) hx hb dX1_weightOf_49 (by decide) ?_
          exact ih4 _ _ _ _ z19 z20 (fu_s hfu4 a22 (by decide)) hI hH (rg_w r21 (by decide)) (lv_sub hl [2, 3, 1, 0] rfl)
  refine lv_iconst (v := (1 : Int32)) hx hb dX1_weightOf_0 (by decide) ?_
  refine lv_istore_n (lv' := [(2, .int (1 : Int32)), (0, .ref q), (1, .int p1)]) hx hb dX1_weightOf_1 rfl hl (by decide) rfl (fun ls hl => ?_)
  refine lv_iconst (v := (0 : Int32)) hx hb dX1_weightOf_2 (by decide) ?_
  refine lv_istore_n (lv' := [(3, .int (0 : Int32)), (2, .int (1 : Int32)), (0, .ref q), (1, .int p1)]) hx hb dX1_weightOf_3 rfl hl (by decide) rfl (fun ls hl => ?_)
  exact cut4 5 _ _ _ _ (1 : Int32) (0 : Int32) (fu_i 5 rl_0 (by decide)) hI hH (rg_w rl_0 (by decide)) (lv_sub hl [2, 3, 1, 0] rfl)
set_option maxHeartbeats 4000000 in
set_option maxRecDepth 100000 in
theorem t_X1_servedIn (l : Launch) (E : gE) (J : Nat → Nat) (τ : Nat → Nat) (L : List Nat) (f : gF) (hI : tI E L τ f) {q : Nat} (mq : q ∈ L) (tq : τ q = 33) (p1 : Int32) : tMi l E J yX1_servedIn cX1_servedIn 2 .int (gRm (4) 0 0) [.ref q, .int p1] L f (tPi E L τ [19, 20, 21, 23] f (fun r f1 => rg r 0 63)) := by
  refine tMi.intro (by decide) (Nat.le_of_ble_eq_true rfl) ?_
  intro p e s m below meth c A ls C hr hA hO hH hl
  have C : gC E cX1_servedIn 2 RX1 p s m _ meth c := C
  have hl : lv_has ls 2 [(0, .ref q), (1, .int p1)] := hl
  have hx := C.1
  have hb := C.2.1
  have hI := hI.S [19, 20, 21, 23]
  obtain ⟨q_1, mq_1, tq_1, kq_1⟩ := t_fldr hI.1 mq tq td_33 (k := 1) rfl
  obtain ⟨q_0, mq_0, tq_0, kq_0⟩ := t_fldr hI.1 mq tq td_33 (k := 0) rfl
  refine lv_aload_n hx hb dX1_servedIn_0 rfl (lv_at hl 0 rfl) ?_
  refine t_getX C hH hI.1 mq tq td_33 iX1 rfl 1 (by decide) wd121 rfl (hI.rf kq_1) dX1_servedIn_1 ?_
  refine lv_aload_n hx hb dX1_servedIn_4 rfl (lv_at hl 0 rfl) ?_
  refine t_getX C hH hI.1 mq tq td_33 iX1 rfl 0 (by decide) wd118 rfl (hI.rf kq_0) dX1_servedIn_5 ?_
  refine t_geti C hH hI.1 mq_0 tq_0 td_3 iX3 rfl 8 (by decide) wd122 rfl rfl dX1_servedIn_8 (fun z1 rz1 => ?_)
  refine lv_aload_n hx hb dX1_servedIn_11 rfl (lv_at hl 0 rfl) ?_
  refine t_getX C hH hI.1 mq tq td_33 iX1 rfl 0 (by decide) wd118 rfl (hI.rf kq_0) dX1_servedIn_12 ?_
  refine t_geti C hH hI.1 mq_0 tq_0 td_3 iX3 rfl 3 (by decide) wd123 rfl rfl dX1_servedIn_15 (fun z2 rz2 => ?_)
  refine t_Vv C hO hl.1 hA hH hI.1 (As := [.int z1, .int z2]) (rest := []) (t_X7_under l E J τ L f hI.1 mq_1 tq_1 z1 z2) my_X7_under wd127 mq_1 tq_1 td_19 rfl rfl rfl (Nat.le_of_ble_eq_true rfl) ⟨Nat.le_of_ble_eq_true rfl, Nat.le_of_ble_eq_true rfl⟩ ⟨rfl, rfl⟩ dX1_servedIn_18 (fun L1 f3 H locs hp hH => ?_)
  obtain ⟨rfl, s5, h6⟩ := hp
  have hI := hI.call s5 (by decide)
  refine lv_aload_n hx hb dX1_servedIn_21 rfl (lv_at hl 0 rfl) ?_
  refine t_getX C hH hI.1 mq tq td_33 iX1 rfl 1 (by decide) wd121 rfl (hI.rf kq_1) dX1_servedIn_22 ?_
  refine lv_bipush (v := (15 : Int32)) hx hb dX1_servedIn_25 (by decide) ?_
  refine lv_iload_n hx hb dX1_servedIn_27 rfl (lv_at hl 1 rfl) ?_
  refine lv_iconst (v := (-1 : Int32)) hx hb dX1_servedIn_28 (by decide) ?_
  refine lv_ixor hx hb dX1_servedIn_29 ?_
  refine lv_topi (fun z7 ez7 => ?_)
  refine lv_iand hx hb dX1_servedIn_30 ?_
  refine lv_topi (fun z8 ez8 => ?_)
  have r9 : rg z8 0 15 := rg_andl ez8 rl_15 (by decide)
  refine t_Vv C hO hl.1 hA hH hI.1 (As := [.int z8]) (rest := []) (t_X7_pass l E J τ L f3 hI.1 mq_1 tq_1 z8) my_X7_pass wd131 mq_1 tq_1 td_19 rfl rfl rfl (Nat.le_of_ble_eq_true rfl) ⟨Nat.le_of_ble_eq_true rfl, Nat.le_of_ble_eq_true rfl⟩ ⟨rfl, rfl⟩ dX1_servedIn_31 (fun L1 f10 H locs hp hH => ?_)
  obtain ⟨rfl, s12, h13⟩ := hp
  have hI := hI.call s12 (by decide)
  refine lv_aload_n hx hb dX1_servedIn_34 rfl (lv_at hl 0 rfl) ?_
  refine t_getX C hH hI.1 mq tq td_33 iX1 rfl 1 (by decide) wd121 rfl (hI.rf kq_1) dX1_servedIn_35 ?_
  refine t_Vi C hO hl.1 hA hH hI.1 (As := []) (rest := []) (t_X7_servedBits l E J τ L f10 hI.1 mq_1 tq_1) my_X7_servedBits wd135 mq_1 tq_1 td_19 rfl rfl rfl (Nat.le_of_ble_eq_true rfl) ⟨Nat.le_of_ble_eq_true rfl, Nat.le_of_ble_eq_true rfl⟩ ⟨rfl, rfl⟩ dX1_servedIn_38 (fun r15 L1 f14 H locs hp hH => ?_)
  obtain ⟨rfl, s16, h17⟩ := hp
  have hI := hI.call s16 (by decide)
  exact g_iret C hr hH (Nat.zero_le _) (Nat.zero_le _) dX1_servedIn_41 ⟨rfl, hI, h17⟩
set_option maxHeartbeats 4000000 in
set_option maxRecDepth 100000 in
theorem t_X1_servedWeight (l : Launch) (E : gE) (J : Nat → Nat) (τ : Nat → Nat) (L : List Nat) (f : gF) (hI : tI E L τ f) {q : Nat} (mq : q ∈ L) (tq : τ q = 33) (p1 : Int32) : tMi l E J yX1_servedWeight cX1_servedWeight 4 .int (gRm (5) 0 0) [.ref q, .int p1] L f (tPi E L τ [19, 20, 21, 23] f (fun r f1 => rg r (-2147483648) 2147483647)) := by
  refine tMi.intro (by decide) (Nat.le_of_ble_eq_true rfl) ?_
  intro p e s m below meth c A ls C hr hA hO hH hl
  have C : gC E cX1_servedWeight 4 RX1 p s m _ meth c := C
  have hl : lv_has ls 4 [(0, .ref q), (1, .int p1)] := hl
  have hx := C.1
  have hb := C.2.1
  have hI := hI.S [19, 20, 21, 23]
  obtain ⟨q_0, mq_0, tq_0, kq_0⟩ := t_fldr hI.1 mq tq td_33 (k := 0) rfl
  have cut4 : ∀ (n : Nat) (fh4 : gF) (H : Heap) (locs : List Loc) (ls : Array Slot) (v4_2 : Int32) (v4_3 : Int32), 16 - v4_3.toInt < (n : Int) → tS E L τ [19, 20, 21, 23] f fh4 → gH E A L fh4 s.heap H locs → rg v4_3 0 16 → lv_has ls 4 [(0, .ref q), (1, .int p1), (2, .int v4_2), (3, .int v4_3)] → W p l e (gRm (5) 0 0) s m [.ref q, .int p1].toArray below meth c H locs 0 0 (MQ below (gQi E A (tPi E L τ [19, 20, 21, 23] f (fun r f1 => rg r (-2147483648) 2147483647))) [.ref q, .int p1].toArray s (gRm (5) 0 0).cells (gRm (5) 0 0).slots A) (F0 m 4 ls []) := by
    intro n
    induction n with
    | zero =>
      intro fh4 H locs ls v4_2 v4_3 hfu4 hI hH r_v4_3 hl
      exact (fu_0 hfu4 r_v4_3).elim
    | succ n ih4 =>
      intro fh4 H locs ls v4_2 v4_3 hfu4 hI hH r_v4_3 hl
      refine lv_iload_n hx hb dX1_servedWeight_4 rfl (lv_at hl 3 rfl) ?_
      refine lv_iconst (v := (1 : Int32)) hx hb dX1_servedWeight_5 (by decide) ?_
      refine lv_aload_n hx hb dX1_servedWeight_6 rfl (lv_at hl 0 rfl) ?_
      refine t_getX C hH hI.1 mq tq td_33 iX1 rfl 0 (by decide) wd118 rfl (hI.rf kq_0) dX1_servedWeight_7 ?_
      refine t_geti C hH hI.1 mq_0 tq_0 td_3 iX3 rfl 6 (by decide) wd119 rfl rfl dX1_servedWeight_10 (fun z1 rz1 => ?_)
      refine lv_ishl hx hb dX1_servedWeight_13 ?_
      refine lv_topi (fun z2 ez2 => ?_)
      have r3 : rg z2 1 16 := rg_shl 0 4 ez2 rz1 (by decide)
      refine lv_icmp_ge (tgt := 43) hx hb dX1_servedWeight_14 (by decide) (fun c4 => ?_) (fun c4 => ?_)
      · skip
        have r5 : rg v4_3 1 16 := rf_ler (c_le c4) r3 r_v4_3 (by decide)
        refine lv_iload_n hx hb dX1_servedWeight_43 rfl (lv_at hl 2 rfl) ?_
        exact g_iret C hr hH (Nat.zero_le _) (Nat.zero_le _) dX1_servedWeight_44 ⟨rfl, hI, (rg_all _)⟩
      · skip
        have r6 : rg v4_3 0 15 := rf_ltl (n_le c4) r_v4_3 r3 (by decide)
        refine lv_aload_n hx hb dX1_servedWeight_17 rfl (lv_at hl 0 rfl) ?_
        refine lv_iload_n hx hb dX1_servedWeight_18 rfl (lv_at hl 3 rfl) ?_
        refine t_Vi C hO hl.1 hA hH hI.1 (As := [.int v4_3]) (rest := []) (t_X1_servedIn l E J τ L fh4 hI.1 mq tq v4_3) my_X1_servedIn wd140 mq tq td_33 rfl rfl rfl (Nat.le_of_ble_eq_true rfl) ⟨Nat.le_of_ble_eq_true rfl, Nat.le_of_ble_eq_true rfl⟩ ⟨rfl, rfl⟩ dX1_servedWeight_19 (fun r8 L1 f7 H locs hp hH => ?_)
        obtain ⟨rfl, s9, h10⟩ := hp
        have hI := hI.call s9 (by decide)
        refine lv_iload_n hx hb dX1_servedWeight_22 rfl (lv_at hl 1 rfl) ?_
        refine t_SNi C hO hl.1 hA hH (As := [.int r8, .int p1]) (rest := []) (t_X9_hasBit l E J τ L f7 hI.1 r8 p1) my_X9_hasBit (host := "GooseShares") (List.mem_of_getElem? (i := 4) rfl) rfl rfl (Nat.le_of_ble_eq_true rfl) ⟨Nat.le_of_ble_eq_true rfl, Nat.le_of_ble_eq_true rfl⟩ ⟨rfl, rfl⟩ dX1_servedWeight_23 (fun r12 L1 f11 H locs hp hH => ?_)
        obtain ⟨rfl, s13, h14⟩ := hp
        have hI := hI.call s13 (by decide)
        refine lv_if_eq (tgt := 37) hx hb dX1_servedWeight_26 (by decide) (fun c15 => ?_) (fun c15 => ?_)
        · skip
          have r16 : rg r12 0 0 := rf_eql (c_eq c15) h14 rl_0 (by decide)
          obtain ⟨z17, ez17⟩ : ∃ y : Int32, y = v4_3 + (1 : Int32) := ⟨_, rfl⟩
          have r18 : rg z17 1 16 := rg_add ez17 r6 rl_1 (by decide)
          have a19 : z17.toInt = v4_3.toInt + 1 := ai_add ez17 r6 tl_1 (by decide)
          refine lv_iinc (v := z17) (lv' := [(3, .int z17), (0, .ref q), (1, .int p1), (2, .int v4_2)]) hx hb dX1_servedWeight_37 hl (k := 3) rfl (by rw [ez17]; rfl) (by decide) rfl (fun ls hl => ?_)
          refine lv_goto (tgt := 4) hx hb dX1_servedWeight_40 (by decide) ?_
          exact ih4 _ _ _ _ v4_2 z17 (fu_s hfu4 a19 (by decide)) hI hH (rg_w r18 (by decide)) (lv_sub hl [1, 2, 3, 0] rfl)
        · skip
          have r20 : rg r12 1 1 := rf_nel (n_eq c15) h14 rl_0 (by decide)
          refine lv_iload_n hx hb dX1_servedWeight_29 rfl (lv_at hl 2 rfl) ?_
          refine lv_aload_n hx hb dX1_servedWeight_30 rfl (lv_at hl 0 rfl) ?_
          refine lv_iload_n hx hb dX1_servedWeight_31 rfl (lv_at hl 3 rfl) ?_
          refine t_Vi C hO hl.1 hA hH hI.1 (As := [.int v4_3]) (rest := [.int v4_2]) (t_X1_weightOf l E J τ L f11 hI.1 mq tq v4_3) my_X1_weightOf wd144 mq tq td_33 rfl rfl rfl (Nat.le_of_ble_eq_true rfl) ⟨Nat.le_of_ble_eq_true rfl, Nat.le_of_ble_eq_true rfl⟩ ⟨rfl, rfl⟩ dX1_servedWeight_32 (fun r22 L1 f21 H locs hp hH => ?_)
          obtain ⟨rfl, s23, h24⟩ := hp
          have hI := hI.call s23 (by decide)
          refine lv_iadd hx hb dX1_servedWeight_35 ?_
          refine lv_topi (fun z25 ez25 => ?_)
          refine lv_istore_n (lv' := [(2, .int z25), (0, .ref q), (1, .int p1), (3, .int v4_3)]) hx hb dX1_servedWeight_36 rfl hl (by decide) rfl (fun ls hl => ?_)
          obtain ⟨z26, ez26⟩ : ∃ y : Int32, y = v4_3 + (1 : Int32) := ⟨_, rfl⟩
          have r27 : rg z26 1 16 := rg_add ez26 r6 rl_1 (by decide)
          have a28 : z26.toInt = v4_3.toInt + 1 := ai_add ez26 r6 tl_1 (by decide)
          refine lv_iinc (v := z26) (lv' := [(3, .int z26), (2, .int z25), (0, .ref q), (1, .int p1)]) hx hb dX1_servedWeight_37 hl (k := 3) rfl (by rw [ez26]; rfl) (by decide) rfl (fun ls hl => ?_)
          refine lv_goto (tgt := 4) hx hb dX1_servedWeight_40 (by decide) ?_
          exact ih4 _ _ _ _ z25 z26 (fu_s hfu4 a28 (by decide)) hI hH (rg_w r27 (by decide)) (lv_sub hl [2, 3, 1, 0] rfl)
  refine lv_iconst (v := (0 : Int32)) hx hb dX1_servedWeight_0 (by decide) ?_
  refine lv_istore_n (lv' := [(2, .int (0 : Int32)), (0, .ref q), (1, .int p1)]) hx hb dX1_servedWeight_1 rfl hl (by decide) rfl (fun ls hl => ?_)
  refine lv_iconst (v := (0 : Int32)) hx hb dX1_servedWeight_2 (by decide) ?_
  refine lv_istore_n (lv' := [(3, .int (0 : Int32)), (2, .int (0 : Int32)), (0, .ref q), (1, .int p1)]) hx hb dX1_servedWeight_3 rfl hl (by decide) rfl (fun ls hl => ?_)
  exact cut4 17 _ _ _ _ (0 : Int32) (0 : Int32) (fu_i 17 rl_0 (by decide)) hI hH (rg_w rl_0 (by decide)) (lv_sub hl [2, 3, 1, 0] rfl)
set_option maxHeartbeats 4000000 in
set_option maxRecDepth 100000 in
theorem t_X1_paidWeight (l : Launch) (E : gE) (J : Nat → Nat) (τ : Nat → Nat) (L : List Nat) (f : gF) (hI : tI E L τ f) {q : Nat} (mq : q ∈ L) (tq : τ q = 33) : tMi l E J yX1_paidWeight cX1_paidWeight 3 .int (gRm (5) 0 0) [.ref q] L f (tPi E L τ [19, 20, 21, 23] f (fun r f1 => rg r (-2147483648) 2147483647)) := by
  refine tMi.intro (by decide) (Nat.le_of_ble_eq_true rfl) ?_
  intro p e s m below meth c A ls C hr hA hO hH hl
  have C : gC E cX1_paidWeight 3 RX1 p s m _ meth c := C
  have hl : lv_has ls 3 [(0, .ref q)] := hl
  have hx := C.1
  have hb := C.2.1
  have hI := hI.S [19, 20, 21, 23]
  obtain ⟨q_0, mq_0, tq_0, kq_0⟩ := t_fldr hI.1 mq tq td_33 (k := 0) rfl
  have cut4 : ∀ (n : Nat) (fh4 : gF) (H : Heap) (locs : List Loc) (ls : Array Slot) (v4_1 : Int32) (v4_2 : Int32), 16 - v4_2.toInt < (n : Int) → tS E L τ [19, 20, 21, 23] f fh4 → gH E A L fh4 s.heap H locs → rg v4_2 0 16 → lv_has ls 3 [(0, .ref q), (1, .int v4_1), (2, .int v4_2)] → W p l e (gRm (5) 0 0) s m [.ref q].toArray below meth c H locs 0 0 (MQ below (gQi E A (tPi E L τ [19, 20, 21, 23] f (fun r f1 => rg r (-2147483648) 2147483647))) [.ref q].toArray s (gRm (5) 0 0).cells (gRm (5) 0 0).slots A) (F0 m 4 ls []) := by
    intro n
    induction n with
    | zero =>
      intro fh4 H locs ls v4_1 v4_2 hfu4 hI hH r_v4_2 hl
      exact (fu_0 hfu4 r_v4_2).elim
    | succ n ih4 =>
      intro fh4 H locs ls v4_1 v4_2 hfu4 hI hH r_v4_2 hl
      refine lv_iload_n hx hb dX1_paidWeight_4 rfl (lv_at hl 2 rfl) ?_
      refine lv_iconst (v := (1 : Int32)) hx hb dX1_paidWeight_5 (by decide) ?_
      refine lv_aload_n hx hb dX1_paidWeight_6 rfl (lv_at hl 0 rfl) ?_
      refine t_getX C hH hI.1 mq tq td_33 iX1 rfl 0 (by decide) wd118 rfl (hI.rf kq_0) dX1_paidWeight_7 ?_
      refine t_geti C hH hI.1 mq_0 tq_0 td_3 iX3 rfl 6 (by decide) wd119 rfl rfl dX1_paidWeight_10 (fun z1 rz1 => ?_)
      refine lv_ishl hx hb dX1_paidWeight_13 ?_
      refine lv_topi (fun z2 ez2 => ?_)
      have r3 : rg z2 1 16 := rg_shl 0 4 ez2 rz1 (by decide)
      refine lv_icmp_ge (tgt := 44) hx hb dX1_paidWeight_14 (by decide) (fun c4 => ?_) (fun c4 => ?_)
      · skip
        have r5 : rg v4_2 1 16 := rf_ler (c_le c4) r3 r_v4_2 (by decide)
        refine lv_iload_n hx hb dX1_paidWeight_44 rfl (lv_at hl 1 rfl) ?_
        exact g_iret C hr hH (Nat.zero_le _) (Nat.zero_le _) dX1_paidWeight_45 ⟨rfl, hI, (rg_all _)⟩
      · skip
        have r6 : rg v4_2 0 15 := rf_ltl (n_le c4) r_v4_2 r3 (by decide)
        refine lv_iload_n hx hb dX1_paidWeight_17 rfl (lv_at hl 1 rfl) ?_
        refine lv_aload_n hx hb dX1_paidWeight_18 rfl (lv_at hl 0 rfl) ?_
        refine lv_iload_n hx hb dX1_paidWeight_19 rfl (lv_at hl 2 rfl) ?_
        refine t_Vi C hO hl.1 hA hH hI.1 (As := [.int v4_2]) (rest := [.int v4_1]) (t_X1_weightOf l E J τ L fh4 hI.1 mq tq v4_2) my_X1_weightOf wd144 mq tq td_33 rfl rfl rfl (Nat.le_of_ble_eq_true rfl) ⟨Nat.le_of_ble_eq_true rfl, Nat.le_of_ble_eq_true rfl⟩ ⟨rfl, rfl⟩ dX1_paidWeight_20 (fun r8 L1 f7 H locs hp hH => ?_)
        obtain ⟨rfl, s9, h10⟩ := hp
        have hI := hI.call s9 (by decide)
        refine lv_aload_n hx hb dX1_paidWeight_23 rfl (lv_at hl 0 rfl) ?_
        refine t_getX C hH hI.1 mq tq td_33 iX1 rfl 0 (by decide) wd118 rfl (hI.rf kq_0) dX1_paidWeight_24 ?_
        refine lv_aload_n hx hb dX1_paidWeight_27 rfl (lv_at hl 0 rfl) ?_
        refine lv_iload_n hx hb dX1_paidWeight_28 rfl (lv_at hl 2 rfl) ?_
        refine t_Vi C hO hl.1 hA hH hI.1 (As := [.int v4_2]) (rest := [.ref q_0, .int r8, .int v4_1]) (t_X1_servedIn l E J τ L f7 hI.1 mq tq v4_2) my_X1_servedIn wd140 mq tq td_33 rfl rfl rfl (Nat.le_of_ble_eq_true rfl) ⟨Nat.le_of_ble_eq_true rfl, Nat.le_of_ble_eq_true rfl⟩ ⟨rfl, rfl⟩ dX1_paidWeight_29 (fun r12 L1 f11 H locs hp hH => ?_)
        obtain ⟨rfl, s13, h14⟩ := hp
        have hI := hI.call s13 (by decide)
        refine t_Vi C hO hl.1 hA hH hI.1 (As := [.int r12]) (rest := [.int r8, .int v4_1]) (t_X3_paidBy l E J τ L f11 hI.1 mq_0 tq_0 r12) my_X3_paidBy wd148 mq_0 tq_0 td_3 rfl rfl rfl (Nat.le_of_ble_eq_true rfl) ⟨Nat.le_of_ble_eq_true rfl, Nat.le_of_ble_eq_true rfl⟩ ⟨rfl, rfl⟩ dX1_paidWeight_32 (fun r16 L1 f15 H locs hp hH => ?_)
        obtain ⟨rfl, s17, h18⟩ := hp
        have hI := hI.call s17 (by decide)
        refine lv_imul hx hb dX1_paidWeight_35 ?_
        refine lv_topi (fun z19 ez19 => ?_)
        refine lv_iadd hx hb dX1_paidWeight_36 ?_
        refine lv_topi (fun z20 ez20 => ?_)
        refine lv_istore_n (lv' := [(1, .int z20), (0, .ref q), (2, .int v4_2)]) hx hb dX1_paidWeight_37 rfl hl (by decide) rfl (fun ls hl => ?_)
        obtain ⟨z21, ez21⟩ : ∃ y : Int32, y = v4_2 + (1 : Int32) := ⟨_, rfl⟩
        have r22 : rg z21 1 16 := rg_add ez21 r6 rl_1 (by decide)
        have a23 : z21.toInt = v4_2.toInt + 1 := ai_add ez21 r6 tl_1 (by decide)
        refine lv_iinc (v := z21) (lv' := [(2, .int z21), (1, .int z20), (0, .ref q)]) hx hb dX1_paidWeight_38 hl (k := 2) rfl (by rw [ez21]; rfl) (by decide) rfl (fun ls hl => ?_)
        refine lv_goto (tgt := 4) hx hb dX1_paidWeight_41 (by decide) ?_
        exact ih4 _ _ _ _ z20 z21 (fu_s hfu4 a23 (by decide)) hI hH (rg_w r22 (by decide)) (lv_sub hl [2, 1, 0] rfl)
  refine lv_iconst (v := (0 : Int32)) hx hb dX1_paidWeight_0 (by decide) ?_
  refine lv_istore_n (lv' := [(1, .int (0 : Int32)), (0, .ref q)]) hx hb dX1_paidWeight_1 rfl hl (by decide) rfl (fun ls hl => ?_)
  refine lv_iconst (v := (0 : Int32)) hx hb dX1_paidWeight_2 (by decide) ?_
  refine lv_istore_n (lv' := [(2, .int (0 : Int32)), (1, .int (0 : Int32)), (0, .ref q)]) hx hb dX1_paidWeight_3 rfl hl (by decide) rfl (fun ls hl => ?_)
  exact cut4 17 _ _ _ _ (0 : Int32) (0 : Int32) (fu_i 17 rl_0 (by decide)) hI hH (rg_w rl_0 (by decide)) (lv_sub hl [2, 1, 0] rfl)
set_option maxHeartbeats 4000000 in
set_option maxRecDepth 100000 in
theorem t_X1_clearWeight (l : Launch) (E : gE) (J : Nat → Nat) (τ : Nat → Nat) (L : List Nat) (f : gF) (hI : tI E L τ f) {q : Nat} (mq : q ∈ L) (tq : τ q = 33) (p1 : Int32) : tMi l E J yX1_clearWeight cX1_clearWeight 4 .int (gRm (3) 0 0) [.ref q, .int p1] L f (tPi E L τ [] f (fun r f1 => rg r (-2147483648) 2147483647)) := by
  refine tMi.intro (by decide) (Nat.le_of_ble_eq_true rfl) ?_
  intro p e s m below meth c A ls C hr hA hO hH hl
  have C : gC E cX1_clearWeight 4 RX1 p s m _ meth c := C
  have hl : lv_has ls 4 [(0, .ref q), (1, .int p1)] := hl
  have hx := C.1
  have hb := C.2.1
  have hI := hI.S []
  obtain ⟨q_0, mq_0, tq_0, kq_0⟩ := t_fldr hI.1 mq tq td_33 (k := 0) rfl
  have cut4 : ∀ (n : Nat) (fh4 : gF) (H : Heap) (locs : List Loc) (ls : Array Slot) (v4_2 : Int32) (v4_3 : Int32), 16 - v4_3.toInt < (n : Int) → tS E L τ [] f fh4 → gH E A L fh4 s.heap H locs → rg v4_3 0 16 → lv_has ls 4 [(0, .ref q), (1, .int p1), (2, .int v4_2), (3, .int v4_3)] → W p l e (gRm (3) 0 0) s m [.ref q, .int p1].toArray below meth c H locs 0 0 (MQ below (gQi E A (tPi E L τ [] f (fun r f1 => rg r (-2147483648) 2147483647))) [.ref q, .int p1].toArray s (gRm (3) 0 0).cells (gRm (3) 0 0).slots A) (F0 m 4 ls []) := by
    intro n
    induction n with
    | zero =>
      intro fh4 H locs ls v4_2 v4_3 hfu4 hI hH r_v4_3 hl
      exact (fu_0 hfu4 r_v4_3).elim
    | succ n ih4 =>
      intro fh4 H locs ls v4_2 v4_3 hfu4 hI hH r_v4_3 hl
      refine lv_iload_n hx hb dX1_clearWeight_4 rfl (lv_at hl 3 rfl) ?_
      refine lv_iconst (v := (1 : Int32)) hx hb dX1_clearWeight_5 (by decide) ?_
      refine lv_aload_n hx hb dX1_clearWeight_6 rfl (lv_at hl 0 rfl) ?_
      refine t_getX C hH hI.1 mq tq td_33 iX1 rfl 0 (by decide) wd118 rfl (hI.rf kq_0) dX1_clearWeight_7 ?_
      refine t_geti C hH hI.1 mq_0 tq_0 td_3 iX3 rfl 6 (by decide) wd119 rfl rfl dX1_clearWeight_10 (fun z1 rz1 => ?_)
      refine lv_ishl hx hb dX1_clearWeight_13 ?_
      refine lv_topi (fun z2 ez2 => ?_)
      have r3 : rg z2 1 16 := rg_shl 0 4 ez2 rz1 (by decide)
      refine lv_icmp_ge (tgt := 47) hx hb dX1_clearWeight_14 (by decide) (fun c4 => ?_) (fun c4 => ?_)
      · skip
        have r5 : rg v4_3 1 16 := rf_ler (c_le c4) r3 r_v4_3 (by decide)
        refine lv_iload_n hx hb dX1_clearWeight_47 rfl (lv_at hl 2 rfl) ?_
        exact g_iret C hr hH (Nat.zero_le _) (Nat.zero_le _) dX1_clearWeight_48 ⟨rfl, hI, (rg_all _)⟩
      · skip
        have r6 : rg v4_3 0 15 := rf_ltl (n_le c4) r_v4_3 r3 (by decide)
        refine lv_aload_n hx hb dX1_clearWeight_17 rfl (lv_at hl 0 rfl) ?_
        refine t_getX C hH hI.1 mq tq td_33 iX1 rfl 0 (by decide) wd118 rfl (hI.rf kq_0) dX1_clearWeight_18 ?_
        refine t_geti C hH hI.1 mq_0 tq_0 td_3 iX3 rfl 6 (by decide) wd119 rfl rfl dX1_clearWeight_21 (fun z7 rz7 => ?_)
        refine lv_iload_n hx hb dX1_clearWeight_24 rfl (lv_at hl 3 rfl) ?_
        refine t_Si C hO hl.1 hA hH (As := [.int v4_3]) (rest := [.int z7]) (t_bit5 l E J τ L fh4 hI.1 v4_3 (rg_w r6 (by decide))) my_J6_bitCount_0f7a4 wd152 rfl rfl (Nat.le_of_ble_eq_true rfl) ⟨Nat.le_of_ble_eq_true rfl, Nat.le_of_ble_eq_true rfl⟩ ⟨rfl, rfl⟩ dX1_clearWeight_25 (fun r9 L1 f8 H locs hp hH => ?_)
        obtain ⟨rfl, s10, h11⟩ := hp
        have hI := hI.call s10 (by decide)
        refine lv_isub hx hb dX1_clearWeight_28 ?_
        refine lv_topi (fun z12 ez12 => ?_)
        have r13 : rg z12 (-5) 4 := rg_sub ez12 rz7 h11 (by decide)
        refine lv_iload_n hx hb dX1_clearWeight_29 rfl (lv_at hl 1 rfl) ?_
        refine lv_icmp_lt (tgt := 41) hx hb dX1_clearWeight_30 (by decide) (fun c14 => ?_) (fun c14 => ?_)
        · skip
          have r15 : rg p1 (-4) 2147483647 := rf_ltr (c_lt c14) r13 (rg_all _) (by decide)
          obtain ⟨z16, ez16⟩ : ∃ y : Int32, y = v4_3 + (1 : Int32) := ⟨_, rfl⟩
          have r17 : rg z16 1 16 := rg_add ez16 r6 rl_1 (by decide)
          have a18 : z16.toInt = v4_3.toInt + 1 := ai_add ez16 r6 tl_1 (by decide)
          refine lv_iinc (v := z16) (lv' := [(3, .int z16), (0, .ref q), (1, .int p1), (2, .int v4_2)]) hx hb dX1_clearWeight_41 hl (k := 3) rfl (by rw [ez16]; rfl) (by decide) rfl (fun ls hl => ?_)
          refine lv_goto (tgt := 4) hx hb dX1_clearWeight_44 (by decide) ?_
          exact ih4 _ _ _ _ v4_2 z16 (fu_s hfu4 a18 (by decide)) hI hH (rg_w r17 (by decide)) (lv_sub hl [1, 2, 3, 0] rfl)
        · skip
          have r19 : rg p1 (-2147483648) 4 := rf_lel (n_lt c14) (rg_all _) r13 (by decide)
          refine lv_iload_n hx hb dX1_clearWeight_33 rfl (lv_at hl 2 rfl) ?_
          refine lv_aload_n hx hb dX1_clearWeight_34 rfl (lv_at hl 0 rfl) ?_
          refine lv_iload_n hx hb dX1_clearWeight_35 rfl (lv_at hl 3 rfl) ?_
          refine t_Vi C hO hl.1 hA hH hI.1 (As := [.int v4_3]) (rest := [.int v4_2]) (t_X1_weightOf l E J τ L f8 hI.1 mq tq v4_3) my_X1_weightOf wd144 mq tq td_33 rfl rfl rfl (Nat.le_of_ble_eq_true rfl) ⟨Nat.le_of_ble_eq_true rfl, Nat.le_of_ble_eq_true rfl⟩ ⟨rfl, rfl⟩ dX1_clearWeight_36 (fun r21 L1 f20 H locs hp hH => ?_)
          obtain ⟨rfl, s22, h23⟩ := hp
          have hI := hI.call s22 (by decide)
          refine lv_iadd hx hb dX1_clearWeight_39 ?_
          refine lv_topi (fun z24 ez24 => ?_)
          refine lv_istore_n (lv' := [(2, .int z24), (0, .ref q), (1, .int p1), (3, .int v4_3)]) hx hb dX1_clearWeight_40 rfl hl (by decide) rfl (fun ls hl => ?_)
          obtain ⟨z25, ez25⟩ : ∃ y : Int32, y = v4_3 + (1 : Int32) := ⟨_, rfl⟩
          have r26 : rg z25 1 16 := rg_add ez25 r6 rl_1 (by decide)
          have a27 : z25.toInt = v4_3.toInt + 1 := ai_add ez25 r6 tl_1 (by decide)
          refine lv_iinc (v := z25) (lv' := [(3, .int z25), (2, .int z24), (0, .ref q), (1, .int p1)]) hx hb dX1_clearWeight_41 hl (k := 3) rfl (by rw [ez25]; rfl) (by decide) rfl (fun ls hl => ?_)
          refine lv_goto (tgt := 4) hx hb dX1_clearWeight_44 (by decide) ?_
          exact ih4 _ _ _ _ z24 z25 (fu_s hfu4 a27 (by decide)) hI hH (rg_w r26 (by decide)) (lv_sub hl [2, 3, 1, 0] rfl)
  refine lv_iconst (v := (0 : Int32)) hx hb dX1_clearWeight_0 (by decide) ?_
  refine lv_istore_n (lv' := [(2, .int (0 : Int32)), (0, .ref q), (1, .int p1)]) hx hb dX1_clearWeight_1 rfl hl (by decide) rfl (fun ls hl => ?_)
  refine lv_iconst (v := (0 : Int32)) hx hb dX1_clearWeight_2 (by decide) ?_
  refine lv_istore_n (lv' := [(3, .int (0 : Int32)), (2, .int (0 : Int32)), (0, .ref q), (1, .int p1)]) hx hb dX1_clearWeight_3 rfl hl (by decide) rfl (fun ls hl => ?_)
  exact cut4 17 _ _ _ _ (0 : Int32) (0 : Int32) (fu_i 17 rl_0 (by decide)) hI hH (rg_w rl_0 (by decide)) (lv_sub hl [2, 3, 1, 0] rfl)
set_option maxHeartbeats 4000000 in
set_option maxRecDepth 100000 in
theorem t_X1_drawFrom (l : Launch) (E : gE) (J : Nat → Nat) (τ : Nat → Nat) (L : List Nat) (f : gF) (hI : tI E L τ f) {q : Nat} (mq : q ∈ L) (tq : τ q = 33) (p1 : Int32) : tMi l E J yX1_drawFrom cX1_drawFrom 6 .int (gRm (1) 0 0) [.ref q, .int p1] L f (tPi E L τ [] f (fun r f1 => rg r (-2147483648) 2147483647)) := by
  refine tMi.intro (by decide) (Nat.le_of_ble_eq_true rfl) ?_
  intro p e s m below meth c A ls C hr hA hO hH hl
  have C : gC E cX1_drawFrom 6 RX1 p s m _ meth c := C
  have hl : lv_has ls 6 [(0, .ref q), (1, .int p1)] := hl
  have hx := C.1
  have hb := C.2.1
  have hI := hI.S []
  obtain ⟨q_0, mq_0, tq_0, kq_0⟩ := t_fldr hI.1 mq tq td_33 (k := 0) rfl
  have cut9 : ∀ (n : Nat) (fh9 : gF) (H : Heap) (locs : List Loc) (ls : Array Slot) (v9_2 : Int64) (v9_4 : Int32) (v9_5 : Int32), 4 - v9_5.toInt < (n : Int) → tS E L τ [] f fh9 → gH E A L fh9 s.heap H locs → rg v9_4 0 15 → rg v9_5 0 4 → lv_has ls 6 [(0, .ref q), (1, .int p1), (2, .long v9_2), (4, .int v9_4), (5, .int v9_5)] → W p l e (gRm (1) 0 0) s m [.ref q, .int p1].toArray below meth c H locs 0 0 (MQ below (gQi E A (tPi E L τ [] f (fun r f1 => rg r (-2147483648) 2147483647))) [.ref q, .int p1].toArray s (gRm (1) 0 0).cells (gRm (1) 0 0).slots A) (F0 m 9 ls []) := by
    intro n
    induction n with
    | zero =>
      intro fh9 H locs ls v9_2 v9_4 v9_5 hfu9 hI hH r_v9_4 r_v9_5 hl
      exact (fu_0 hfu9 r_v9_5).elim
    | succ n ih9 =>
      intro fh9 H locs ls v9_2 v9_4 v9_5 hfu9 hI hH r_v9_4 r_v9_5 hl
      refine lv_iload hx hb dX1_drawFrom_9 (lv_at hl 4 rfl) ?_
      refine lv_aload_n hx hb dX1_drawFrom_11 rfl (lv_at hl 0 rfl) ?_
      refine t_getX C hH hI.1 mq tq td_33 iX1 rfl 0 (by decide) wd118 rfl (hI.rf kq_0) dX1_drawFrom_12 ?_
      refine t_geti C hH hI.1 mq_0 tq_0 td_3 iX3 rfl 6 (by decide) wd119 rfl rfl dX1_drawFrom_15 (fun z1 rz1 => ?_)
      refine lv_icmp_ge (tgt := 71) hx hb dX1_drawFrom_18 (by decide) (fun c2 => ?_) (fun c2 => ?_)
      · skip
        refine lv_iload hx hb dX1_drawFrom_71 (lv_at hl 3 rfl) ?_
        exact g_iret C hr hH (Nat.zero_le _) (Nat.zero_le _) dX1_drawFrom_73 ⟨rfl, hI, (rg_w r_v9_4 (by decide))⟩
      · skip
        have r3 : rg v9_5 0 3 := rf_ltl (n_le c2) r_v9_5 rz1 (by decide)
        have r4 : rg z1 1 4 := rf_ltr (n_le c2) r_v9_5 rz1 (by decide)
        refine lv_ldc2 hx hb C.2.2.2.1 (C.2.2.2.2.1 _ wd153) dX1_drawFrom_21 ?_
        refine lv_lload_n hx hb dX1_drawFrom_24 rfl (lv_at hl 2 rfl) ?_
        refine lv_lmul hx hb dX1_drawFrom_25 ?_
        refine lv_topl (fun z5 ez5 => ?_)
        refine lv_ldc2 hx hb C.2.2.2.1 (C.2.2.2.2.1 _ wd154) dX1_drawFrom_26 ?_
        refine lv_ladd hx hb dX1_drawFrom_29 ?_
        refine lv_topl (fun z6 ez6 => ?_)
        refine lv_ldc2 hx hb C.2.2.2.1 (C.2.2.2.2.1 _ wd155) dX1_drawFrom_30 ?_
        refine lv_land hx hb dX1_drawFrom_33 ?_
        refine lv_topl (fun z7 ez7 => ?_)
        refine lv_lstore_n (lv' := [(2, .long z7), (0, .ref q), (1, .int p1), (4, .int v9_4), (5, .int v9_5)]) hx hb dX1_drawFrom_34 rfl hl (by decide) rfl (fun ls hl => ?_)
        refine lv_lload_n hx hb dX1_drawFrom_35 rfl (lv_at hl 0 rfl) ?_
        refine lv_ldc2 hx hb C.2.2.2.1 (C.2.2.2.2.1 _ wd156) dX1_drawFrom_36 ?_
        refine lv_ldiv hx hb dX1_drawFrom_39 (by decide) ?_
        refine lv_topl (fun z8 ez8 => ?_)
        refine lv_ldc2 hx hb C.2.2.2.1 (C.2.2.2.2.1 _ wd157) dX1_drawFrom_40 ?_
        refine lv_lrem hx hb dX1_drawFrom_43 (by decide) ?_
        refine lv_topl (fun z9 ez9 => ?_)
        refine lv_aload_n hx hb dX1_drawFrom_44 rfl (lv_at hl 1 rfl) ?_
        refine t_getX C hH hI.1 mq tq td_33 iX1 rfl 0 (by decide) wd118 rfl (hI.rf kq_0) dX1_drawFrom_45 ?_
        refine t_geti C hH hI.1 mq_0 tq_0 td_3 iX3 rfl 5 (by decide) wd120 rfl rfl dX1_drawFrom_48 (fun z10 rz10 => ?_)
        refine lv_i2l (v := (z10).toInt64) hx hb dX1_drawFrom_51 rfl ?_
        refine W.lcmp hx hb dX1_drawFrom_52 ?_
        refine lv_topi (fun z11 ez11 => ?_)
        refine lv_if_ge (tgt := 65) hx hb dX1_drawFrom_53 (by decide) (fun c12 => ?_) (fun c12 => ?_)
        · skip
          have r13 : rg z11 0 2147483647 := rf_ler (c_le c12) rl_0 (rg_all _) (by decide)
          obtain ⟨z14, ez14⟩ : ∃ y : Int32, y = v9_5 + (1 : Int32) := ⟨_, rfl⟩
          have r15 : rg z14 1 4 := rg_add ez14 r3 rl_1 (by decide)
          have a16 : z14.toInt = v9_5.toInt + 1 := ai_add ez14 r3 tl_1 (by decide)
          refine lv_iinc (v := z14) (lv' := [(5, .int z14), (2, .long z7), (0, .ref q), (1, .int p1), (4, .int v9_4)]) hx hb dX1_drawFrom_65 hl (k := 4) rfl (by rw [ez14]; rfl) (by decide) rfl (fun ls hl => ?_)
          refine lv_goto (tgt := 9) hx hb dX1_drawFrom_68 (by decide) ?_
          exact ih9 _ _ _ _ z7 v9_4 z14 (fu_s hfu9 a16 (by decide)) hI hH r_v9_4 (rg_w r15 (by decide)) (lv_sub hl [2, 3, 1, 4, 0] rfl)
        · skip
          have r17 : rg z11 (-2147483648) (-1) := rf_ltl (n_le c12) (rg_all _) rl_0 (by decide)
          refine lv_iload hx hb dX1_drawFrom_56 (lv_at hl 3 rfl) ?_
          refine lv_iconst (v := (1 : Int32)) hx hb dX1_drawFrom_58 (by decide) ?_
          refine lv_iload hx hb dX1_drawFrom_59 (lv_at hl 4 rfl) ?_
          refine lv_ishl hx hb dX1_drawFrom_61 ?_
          refine lv_topi (fun z18 ez18 => ?_)
          have r19 : rg z18 1 8 := rg_shl 0 3 ez18 r3 (by decide)
          refine lv_ior hx hb dX1_drawFrom_62 ?_
          refine lv_topi (fun z20 ez20 => ?_)
          have r21 : rg z20 0 15 := rg_or 4 ez20 r_v9_4 r19 (by decide)
          refine lv_istore (lv' := [(4, .int z20), (2, .long z7), (0, .ref q), (1, .int p1), (5, .int v9_5)]) hx hb dX1_drawFrom_63 hl (by decide) rfl (fun ls hl => ?_)
          obtain ⟨z22, ez22⟩ : ∃ y : Int32, y = v9_5 + (1 : Int32) := ⟨_, rfl⟩
          have r23 : rg z22 1 4 := rg_add ez22 r3 rl_1 (by decide)
          have a24 : z22.toInt = v9_5.toInt + 1 := ai_add ez22 r3 tl_1 (by decide)
          refine lv_iinc (v := z22) (lv' := [(5, .int z22), (4, .int z20), (2, .long z7), (0, .ref q), (1, .int p1)]) hx hb dX1_drawFrom_65 hl (k := 4) rfl (by rw [ez22]; rfl) (by decide) rfl (fun ls hl => ?_)
          refine lv_goto (tgt := 9) hx hb dX1_drawFrom_68 (by decide) ?_
          exact ih9 _ _ _ _ z7 z20 z22 (fu_s hfu9 a24 (by decide)) hI hH r21 (rg_w r23 (by decide)) (lv_sub hl [3, 4, 2, 1, 0] rfl)
  refine lv_iload_n hx hb dX1_drawFrom_0 rfl (lv_at hl 1 rfl) ?_
  refine lv_i2l (v := (p1).toInt64) hx hb dX1_drawFrom_1 rfl ?_
  refine lv_lstore_n (lv' := [(2, .long (p1).toInt64), (0, .ref q), (1, .int p1)]) hx hb dX1_drawFrom_2 rfl hl (by decide) rfl (fun ls hl => ?_)
  refine lv_iconst (v := (0 : Int32)) hx hb dX1_drawFrom_3 (by decide) ?_
  refine lv_istore (lv' := [(4, .int (0 : Int32)), (2, .long (p1).toInt64), (0, .ref q), (1, .int p1)]) hx hb dX1_drawFrom_4 hl (by decide) rfl (fun ls hl => ?_)
  refine lv_iconst (v := (0 : Int32)) hx hb dX1_drawFrom_6 (by decide) ?_
  refine lv_istore (lv' := [(5, .int (0 : Int32)), (4, .int (0 : Int32)), (2, .long (p1).toInt64), (0, .ref q), (1, .int p1)]) hx hb dX1_drawFrom_7 hl (by decide) rfl (fun ls hl => ?_)
  exact cut9 5 _ _ _ _ (p1).toInt64 (0 : Int32) (0 : Int32) (fu_i 5 rl_0 (by decide)) hI hH (rg_w rl_0 (by decide)) (rg_w rl_0 (by decide)) (lv_sub hl [3, 4, 2, 1, 0] rfl)
set_option maxHeartbeats 4000000 in
set_option maxRecDepth 100000 in
theorem t_X2_listen (l : Launch) (E : gE) (J : Nat → Nat) (τ : Nat → Nat) (L : List Nat) (f : gF) (hI : tI E L τ f) {q : Nat} (mq : q ∈ L) (tq : τ q = 30) : tMv l E J yX2_listen cX2_listen 2 (gRm (4) 0 0) [.ref q] L f (tPv E L τ [19, 20, 21, 23, 31] f (fun f1 => True)) := by
  refine tMv.intro (by decide) (Nat.le_of_ble_eq_true rfl) ?_
  intro p e s m below meth c A ls C hr hA hO hH hl
  have C : gC E cX2_listen 2 RX2 p s m _ meth c := C
  have hl : lv_has ls 2 [(0, .ref q)] := hl
  have hx := C.1
  have hb := C.2.1
  have hI := hI.S [19, 20, 21, 23, 31]
  obtain ⟨q_1, mq_1, tq_1, kq_1⟩ := t_fldr hI.1 mq tq td_30 (k := 1) rfl
  obtain ⟨q_0, mq_0, tq_0, kq_0⟩ := t_fldr hI.1 mq tq td_30 (k := 0) rfl
  obtain ⟨q_2, mq_2, tq_2, kq_2⟩ := t_fldr hI.1 mq tq td_30 (k := 2) rfl
  obtain ⟨q_0_13, mq_0_13, tq_0_13, kq_0_13⟩ := t_fldr hI.1 mq_0 tq_0 td_3 (k := 13) rfl
  have cut32 : ∀ (n : Nat) (fh32 : gF) (H : Heap) (locs : List Loc) (ls : Array Slot) (v32_1 : Int32), 6 - v32_1.toInt < (n : Int) → tS E L τ [19, 20, 21, 23, 31] f fh32 → gH E A L fh32 s.heap H locs → rg v32_1 0 6 → lv_has ls 2 [(0, .ref q), (1, .int v32_1)] → W p l e (gRm (4) 0 0) s m [.ref q].toArray below meth c H locs 0 0 (MQ below (gQv E A (tPv E L τ [19, 20, 21, 23, 31] f (fun f1 => True))) [.ref q].toArray s (gRm (4) 0 0).cells (gRm (4) 0 0).slots A) (F0 m 32 ls []) := by
    intro n
    induction n with
    | zero =>
      intro fh32 H locs ls v32_1 hfu32 hI hH r_v32_1 hl
      exact (fu_0 hfu32 r_v32_1).elim
    | succ n ih32 =>
      intro fh32 H locs ls v32_1 hfu32 hI hH r_v32_1 hl
      refine lv_iload_n hx hb dX2_listen_32 rfl (lv_at hl 1 rfl) ?_
      refine lv_aload_n hx hb dX2_listen_33 rfl (lv_at hl 0 rfl) ?_
      refine t_getX C hH hI.1 mq tq td_30 iX2 rfl 0 (by decide) wd158 rfl (hI.rf kq_0) dX2_listen_34 ?_
      refine t_geti C hH hI.1 mq_0 tq_0 td_3 iX3 rfl 7 (by decide) wd159 rfl rfl dX2_listen_37 (fun z1 rz1 => ?_)
      refine lv_icmp_ge (tgt := 71) hx hb dX2_listen_40 (by decide) (fun c2 => ?_) (fun c2 => ?_)
      · skip
        exact g_vret C hr hH (Nat.zero_le _) (Nat.zero_le _) dX2_listen_71 ⟨rfl, hI, trivial⟩
      · skip
        have r3 : rg v32_1 0 5 := rf_ltl (n_le c2) r_v32_1 rz1 (by decide)
        have r4 : rg z1 1 6 := rf_ltr (n_le c2) r_v32_1 rz1 (by decide)
        refine lv_aload_n hx hb dX2_listen_43 rfl (lv_at hl 0 rfl) ?_
        refine t_getX C hH hI.1 mq tq td_30 iX2 rfl 2 (by decide) wd160 rfl (hI.rf kq_2) dX2_listen_44 ?_
        refine lv_iload_n hx hb dX2_listen_47 rfl (lv_at hl 1 rfl) ?_
        refine lv_aload_n hx hb dX2_listen_48 rfl (lv_at hl 0 rfl) ?_
        refine t_getX C hH hI.1 mq tq td_30 iX2 rfl 1 (by decide) wd161 rfl (hI.rf kq_1) dX2_listen_49 ?_
        refine lv_aload_n hx hb dX2_listen_52 rfl (lv_at hl 0 rfl) ?_
        refine t_getX C hH hI.1 mq tq td_30 iX2 rfl 0 (by decide) wd158 rfl (hI.rf kq_0) dX2_listen_53 ?_
        refine t_getX C hH hI.1 mq_0 tq_0 td_3 iX3 rfl 13 (by decide) wd162 rfl (hI.rf kq_0_13) dX2_listen_56 ?_
        refine lv_iload_n hx hb dX2_listen_59 rfl (lv_at hl 1 rfl) ?_
        refine t_aldR C hH hI.1 mq_0_13 tq_0_13 td_7 (rg_in r3 (by decide)) dX2_listen_60 (fun z5 rz5 => ?_)
        refine t_Vi C hO hl.1 hA hH hI.1 (As := [.int z5]) (rest := [.int v32_1, .ref q_2]) (t_X7_heardIn l E J τ L fh32 hI.1 mq_1 tq_1 z5 rz5) my_X7_heardIn wd163 mq_1 tq_1 td_19 rfl rfl rfl (Nat.le_of_ble_eq_true rfl) ⟨Nat.le_of_ble_eq_true rfl, Nat.le_of_ble_eq_true rfl⟩ ⟨rfl, rfl⟩ dX2_listen_61 (fun r7 L1 f6 H locs hp hH => ?_)
        obtain ⟨rfl, s8, h9⟩ := hp
        have hI := hI.call s8 (by decide)
        refine t_ast C hH hI mq_2 tq_2 (by decide) td_31 (rg_in r3 (by decide)) (fun _ _ _ => trivial) dX2_listen_64 (fun f10 H locs hH hI bf10 uf10 => ?_)
        obtain ⟨z11, ez11⟩ : ∃ y : Int32, y = v32_1 + (1 : Int32) := ⟨_, rfl⟩
        have r12 : rg z11 1 6 := rg_add ez11 r3 rl_1 (by decide)
        have a13 : z11.toInt = v32_1.toInt + 1 := ai_add ez11 r3 tl_1 (by decide)
        refine lv_iinc (v := z11) (lv' := [(1, .int z11), (0, .ref q)]) hx hb dX2_listen_65 hl (k := 1) rfl (by rw [ez11]; rfl) (by decide) rfl (fun ls hl => ?_)
        refine lv_goto (tgt := 32) hx hb dX2_listen_68 (by decide) ?_
        exact ih32 _ _ _ _ z11 (fu_s hfu32 a13 (by decide)) hI hH (rg_w r12 (by decide)) (lv_sub hl [1, 0] rfl)
  refine lv_aload_n hx hb dX2_listen_0 rfl (lv_at hl 0 rfl) ?_
  refine t_getX C hH hI.1 mq tq td_30 iX2 rfl 1 (by decide) wd161 rfl (hI.rf kq_1) dX2_listen_1 ?_
  refine lv_aload_n hx hb dX2_listen_4 rfl (lv_at hl 0 rfl) ?_
  refine t_getX C hH hI.1 mq tq td_30 iX2 rfl 0 (by decide) wd158 rfl (hI.rf kq_0) dX2_listen_5 ?_
  refine t_geti C hH hI.1 mq_0 tq_0 td_3 iX3 rfl 8 (by decide) wd164 rfl rfl dX2_listen_8 (fun z14 rz14 => ?_)
  refine lv_aload_n hx hb dX2_listen_11 rfl (lv_at hl 0 rfl) ?_
  refine t_getX C hH hI.1 mq tq td_30 iX2 rfl 0 (by decide) wd158 rfl (hI.rf kq_0) dX2_listen_12 ?_
  refine t_geti C hH hI.1 mq_0 tq_0 td_3 iX3 rfl 3 (by decide) wd165 rfl rfl dX2_listen_15 (fun z15 rz15 => ?_)
  refine t_Vv C hO hl.1 hA hH hI.1 (As := [.int z14, .int z15]) (rest := []) (t_X7_under l E J τ L f hI.1 mq_1 tq_1 z14 z15) my_X7_under wd166 mq_1 tq_1 td_19 rfl rfl rfl (Nat.le_of_ble_eq_true rfl) ⟨Nat.le_of_ble_eq_true rfl, Nat.le_of_ble_eq_true rfl⟩ ⟨rfl, rfl⟩ dX2_listen_18 (fun L1 f16 H locs hp hH => ?_)
  obtain ⟨rfl, s18, h19⟩ := hp
  have hI := hI.call s18 (by decide)
  refine lv_aload_n hx hb dX2_listen_21 rfl (lv_at hl 0 rfl) ?_
  refine t_getX C hH hI.1 mq tq td_30 iX2 rfl 1 (by decide) wd161 rfl (hI.rf kq_1) dX2_listen_22 ?_
  refine lv_bipush (v := (15 : Int32)) hx hb dX2_listen_25 (by decide) ?_
  refine t_Vv C hO hl.1 hA hH hI.1 (As := [.int (15 : Int32)]) (rest := []) (t_X7_pass l E J τ L f16 hI.1 mq_1 tq_1 (15 : Int32)) my_X7_pass wd167 mq_1 tq_1 td_19 rfl rfl rfl (Nat.le_of_ble_eq_true rfl) ⟨Nat.le_of_ble_eq_true rfl, Nat.le_of_ble_eq_true rfl⟩ ⟨rfl, rfl⟩ dX2_listen_27 (fun L1 f20 H locs hp hH => ?_)
  obtain ⟨rfl, s22, h23⟩ := hp
  have hI := hI.call s22 (by decide)
  refine lv_iconst (v := (0 : Int32)) hx hb dX2_listen_30 (by decide) ?_
  refine lv_istore_n (lv' := [(1, .int (0 : Int32)), (0, .ref q)]) hx hb dX2_listen_31 rfl hl (by decide) rfl (fun ls hl => ?_)
  exact cut32 7 _ _ _ _ (0 : Int32) (fu_i 7 rl_0 (by decide)) hI hH (rg_w rl_0 (by decide)) (lv_sub hl [1, 0] rfl)
set_option maxHeartbeats 4000000 in
set_option maxRecDepth 100000 in
theorem t_X2_isServed (l : Launch) (E : gE) (J : Nat → Nat) (τ : Nat → Nat) (L : List Nat) (f : gF) (hI : tI E L τ f) {q : Nat} (mq : q ∈ L) (tq : τ q = 30) (p1 : Int32) (rp1 : rg p1 0 5) (p2 : Int32) (rp2 : rg p2 0 5) : tMi l E J yX2_isServed cX2_isServed 3 .boolean (gRm (2) 0 0) [.ref q, .int p1, .int p2] L f (tPi E L τ [] f (fun r f1 => rg r 0 1)) := by
  refine tMi.intro (by decide) (Nat.le_of_ble_eq_true rfl) ?_
  intro p e s m below meth c A ls C hr hA hO hH hl
  have C : gC E cX2_isServed 3 RX2 p s m _ meth c := C
  have hl : lv_has ls 3 [(0, .ref q), (1, .int p1), (2, .int p2)] := hl
  have hx := C.1
  have hb := C.2.1
  have hI := hI.S []
  obtain ⟨q_1, mq_1, tq_1, kq_1⟩ := t_fldr hI.1 mq tq td_30 (k := 1) rfl
  obtain ⟨q_2, mq_2, tq_2, kq_2⟩ := t_fldr hI.1 mq tq td_30 (k := 2) rfl
  refine lv_aload_n hx hb dX2_isServed_0 rfl (lv_at hl 0 rfl) ?_
  refine t_getX C hH hI.1 mq tq td_30 iX2 rfl 1 (by decide) wd161 rfl (hI.rf kq_1) dX2_isServed_1 ?_
  refine lv_iload_n hx hb dX2_isServed_4 rfl (lv_at hl 1 rfl) ?_
  refine lv_aload_n hx hb dX2_isServed_5 rfl (lv_at hl 0 rfl) ?_
  refine t_getX C hH hI.1 mq tq td_30 iX2 rfl 2 (by decide) wd160 rfl (hI.rf kq_2) dX2_isServed_6 ?_
  refine lv_iload_n hx hb dX2_isServed_9 rfl (lv_at hl 2 rfl) ?_
  refine t_ald C hH hI.1 mq_2 tq_2 td_31 (rg_in rp2 (by decide)) dX2_isServed_10 (fun z1v az1 _ => ?_)
  refine lv_topi (fun z1 ez1 => ?_)
  refine t_Vi C hO hl.1 hA hH hI.1 (As := [.int p1, .int z1]) (rest := []) (t_X7_wouldServe l E J τ L f hI.1 mq_1 tq_1 p1 rp1 z1) my_X7_wouldServe wd168 mq_1 tq_1 td_19 rfl rfl rfl (Nat.le_of_ble_eq_true rfl) ⟨Nat.le_of_ble_eq_true rfl, Nat.le_of_ble_eq_true rfl⟩ ⟨rfl, rfl⟩ dX2_isServed_11 (fun r3 L1 f2 H locs hp hH => ?_)
  obtain ⟨rfl, s4, h5⟩ := hp
  have hI := hI.call s4 (by decide)
  exact g_zret C hr (rg_z h5) hH (Nat.zero_le _) (Nat.zero_le _) dX2_isServed_14 ⟨rfl, hI, h5⟩
set_option maxHeartbeats 4000000 in
set_option maxRecDepth 100000 in
theorem t_X2_paidWith (l : Launch) (E : gE) (J : Nat → Nat) (τ : Nat → Nat) (L : List Nat) (f : gF) (hI : tI E L τ f) {q : Nat} (mq : q ∈ L) (tq : τ q = 30) (p1 : Int32) (rp1 : rg p1 0 62) (p2 : Int32) (rp2 : rg p2 0 5) : tMi l E J yX2_paidWith cX2_paidWith 5 .int (gRm (3) 0 0) [.ref q, .int p1, .int p2] L f (tPi E L τ [] f (fun r f1 => rg r (-2147483648) 2147483647)) := by
  refine tMi.intro (by decide) (Nat.le_of_ble_eq_true rfl) ?_
  intro p e s m below meth c A ls C hr hA hO hH hl
  have C : gC E cX2_paidWith 5 RX2 p s m _ meth c := C
  have hl : lv_has ls 5 [(0, .ref q), (1, .int p1), (2, .int p2)] := hl
  have hx := C.1
  have hb := C.2.1
  have hI := hI.S []
  obtain ⟨q_3, mq_3, tq_3, kq_3⟩ := t_fldr hI.1 mq tq td_30 (k := 3) rfl
  obtain ⟨q_0, mq_0, tq_0, kq_0⟩ := t_fldr hI.1 mq tq td_30 (k := 0) rfl
  obtain ⟨q_0_15, mq_0_15, tq_0_15, kq_0_15⟩ := t_fldr hI.1 mq_0 tq_0 td_3 (k := 15) rfl
  refine lv_iload_n hx hb dX2_paidWith_0 rfl (lv_at hl 1 rfl) ?_
  refine t_Si C hO hl.1 hA hH (As := [.int p1]) (rest := []) (t_bit5 l E J τ L f hI.1 p1 rp1) my_J6_bitCount_0f7a4 wd169 rfl rfl (Nat.le_of_ble_eq_true rfl) ⟨Nat.le_of_ble_eq_true rfl, Nat.le_of_ble_eq_true rfl⟩ ⟨rfl, rfl⟩ dX2_paidWith_1 (fun r2 L1 f1 H locs hp hH => ?_)
  obtain ⟨rfl, s3, h4⟩ := hp
  have hI := hI.call s3 (by decide)
  refine lv_istore_n (lv' := [(3, .int r2), (0, .ref q), (1, .int p1), (2, .int p2)]) hx hb dX2_paidWith_4 rfl hl (by decide) rfl (fun ls hl => ?_)
  refine lv_aload_n hx hb dX2_paidWith_5 rfl (lv_at hl 1 rfl) ?_
  refine lv_iload_n hx hb dX2_paidWith_6 rfl (lv_at hl 0 rfl) ?_
  refine lv_iload_n hx hb dX2_paidWith_7 rfl (lv_at hl 3 rfl) ?_
  refine t_Vi C hO hl.1 hA hH hI.1 (As := [.int r2, .int p2]) (rest := []) (t_X2_isServed l E J τ L f1 hI.1 mq tq r2 h4 p2 rp2) my_X2_isServed wd174 mq tq td_30 rfl rfl rfl (Nat.le_of_ble_eq_true rfl) ⟨Nat.le_of_ble_eq_true rfl, Nat.le_of_ble_eq_true rfl⟩ ⟨rfl, rfl⟩ dX2_paidWith_8 (fun r6 L1 f5 H locs hp hH => ?_)
  obtain ⟨rfl, s7, h8⟩ := hp
  have hI := hI.call s7 (by decide)
  refine lv_if_eq (tgt := 26) hx hb dX2_paidWith_11 (by decide) (fun c9 => ?_) (fun c9 => ?_)
  · skip
    have r10 : rg r6 0 0 := rf_eql (c_eq c9) h8 rl_0 (by decide)
    refine lv_iconst (v := (0 : Int32)) hx hb dX2_paidWith_26 (by decide) ?_
    refine lv_istore (lv' := [(4, .int (0 : Int32)), (3, .int r2), (0, .ref q), (1, .int p1), (2, .int p2)]) hx hb dX2_paidWith_27 hl (by decide) rfl (fun ls hl => ?_)
    refine lv_iload hx hb dX2_paidWith_29 (lv_at hl 0 rfl) ?_
    refine lv_aload_n hx hb dX2_paidWith_31 rfl (lv_at hl 2 rfl) ?_
    refine t_getX C hH hI.1 mq tq td_30 iX2 rfl 3 (by decide) wd175 rfl (hI.rf kq_3) dX2_paidWith_32 ?_
    refine lv_iload_n hx hb dX2_paidWith_35 rfl (lv_at hl 3 rfl) ?_
    refine lv_iconst (v := (1 : Int32)) hx hb dX2_paidWith_36 (by decide) ?_
    refine lv_iload_n hx hb dX2_paidWith_37 rfl (lv_at hl 4 rfl) ?_
    refine lv_ishl hx hb dX2_paidWith_38 ?_
    refine lv_topi (fun z11 ez11 => ?_)
    have r12 : rg z11 1 32 := rg_shl 0 5 ez11 rp2 (by decide)
    refine lv_ior hx hb dX2_paidWith_39 ?_
    refine lv_topi (fun z13 ez13 => ?_)
    have r14 : rg z13 0 63 := rg_or 6 ez13 rp1 r12 (by decide)
    refine t_ald C hH hI.1 mq_3 tq_3 td_32 (rg_in r14 (by decide)) dX2_paidWith_40 (fun z15v az15 _ => ?_)
    refine lv_topi (fun z15 ez15 => ?_)
    refine lv_iadd hx hb dX2_paidWith_41 ?_
    refine lv_topi (fun z16 ez16 => ?_)
    have r17 : rg z16 (-2147483648) 2147483647 := rg_add ez16 rl_0 (rg_all _) (by decide)
    exact g_iret C hr hH (Nat.zero_le _) (Nat.zero_le _) dX2_paidWith_42 ⟨rfl, hI, r17⟩
  · skip
    have r18 : rg r6 1 1 := rf_nel (n_eq c9) h8 rl_0 (by decide)
    refine lv_aload_n hx hb dX2_paidWith_14 rfl (lv_at hl 1 rfl) ?_
    refine t_getX C hH hI.1 mq tq td_30 iX2 rfl 0 (by decide) wd158 rfl (hI.rf kq_0) dX2_paidWith_15 ?_
    refine t_getX C hH hI.1 mq_0 tq_0 td_3 iX3 rfl 15 (by decide) wd176 rfl (hI.rf kq_0_15) dX2_paidWith_18 ?_
    refine lv_iload_n hx hb dX2_paidWith_21 rfl (lv_at hl 0 rfl) ?_
    refine t_ald C hH hI.1 mq_0_15 tq_0_15 td_9 (rg_in h4 (by decide)) dX2_paidWith_22 (fun z19v az19 _ => ?_)
    refine lv_topi (fun z19 ez19 => ?_)
    refine lv_goto (tgt := 27) hx hb dX2_paidWith_23 (by decide) ?_
    refine lv_istore (lv' := [(4, .int z19), (3, .int r2), (0, .ref q), (1, .int p1), (2, .int p2)]) hx hb dX2_paidWith_27 hl (by decide) rfl (fun ls hl => ?_)
    refine lv_iload hx hb dX2_paidWith_29 (lv_at hl 0 rfl) ?_
    refine lv_aload_n hx hb dX2_paidWith_31 rfl (lv_at hl 2 rfl) ?_
    refine t_getX C hH hI.1 mq tq td_30 iX2 rfl 3 (by decide) wd175 rfl (hI.rf kq_3) dX2_paidWith_32 ?_
    refine lv_iload_n hx hb dX2_paidWith_35 rfl (lv_at hl 3 rfl) ?_
    refine lv_iconst (v := (1 : Int32)) hx hb dX2_paidWith_36 (by decide) ?_
    refine lv_iload_n hx hb dX2_paidWith_37 rfl (lv_at hl 4 rfl) ?_
    refine lv_ishl hx hb dX2_paidWith_38 ?_
    refine lv_topi (fun z20 ez20 => ?_)
    have r21 : rg z20 1 32 := rg_shl 0 5 ez20 rp2 (by decide)
    refine lv_ior hx hb dX2_paidWith_39 ?_
    refine lv_topi (fun z22 ez22 => ?_)
    have r23 : rg z22 0 63 := rg_or 6 ez22 rp1 r21 (by decide)
    refine t_ald C hH hI.1 mq_3 tq_3 td_32 (rg_in r23 (by decide)) dX2_paidWith_40 (fun z24v az24 _ => ?_)
    refine lv_topi (fun z24 ez24 => ?_)
    refine lv_iadd hx hb dX2_paidWith_41 ?_
    refine lv_topi (fun z25 ez25 => ?_)
    exact g_iret C hr hH (Nat.zero_le _) (Nat.zero_le _) dX2_paidWith_42 ⟨rfl, hI, (rg_all _)⟩
set_option maxHeartbeats 4000000 in
set_option maxRecDepth 100000 in
theorem t_X2_weigh (l : Launch) (E : gE) (J : Nat → Nat) (τ : Nat → Nat) (L : List Nat) (f : gF) (hI : tI E L τ f) {q : Nat} (mq : q ∈ L) (tq : τ q = 30) : tMv l E J yX2_weigh cX2_weigh 4 (gRm (5) 0 0) [.ref q] L f (tPv E L τ [19, 20, 21, 23, 31, 32] f (fun f1 => True)) := by
  refine tMv.intro (by decide) (Nat.le_of_ble_eq_true rfl) ?_
  intro p e s m below meth c A ls C hr hA hO hH hl
  have C : gC E cX2_weigh 4 RX2 p s m _ meth c := C
  have hl : lv_has ls 4 [(0, .ref q)] := hl
  have hx := C.1
  have hb := C.2.1
  have hI := hI.S [19, 20, 21, 23, 31, 32]
  obtain ⟨q_0, mq_0, tq_0, kq_0⟩ := t_fldr hI.1 mq tq td_30 (k := 0) rfl
  obtain ⟨q_3, mq_3, tq_3, kq_3⟩ := t_fldr hI.1 mq tq td_30 (k := 3) rfl
  have cut23 : ∀ (n : Nat) (fh23 : gF) (H : Heap) (locs : List Loc) (ls : Array Slot) (v23_1 : Int32) (v23_2 : Int32), v23_2.toInt - (-1) < (n : Int) → tS E L τ [19, 20, 21, 23, 31, 32] f fh23 → gH E A L fh23 s.heap H locs → rg v23_1 0 63 → rg v23_2 (-1) 62 → lv_has ls 4 [(0, .ref q), (1, .int v23_1), (2, .int v23_2)] → W p l e (gRm (5) 0 0) s m [.ref q].toArray below meth c H locs 0 0 (MQ below (gQv E A (tPv E L τ [19, 20, 21, 23, 31, 32] f (fun f1 => True))) [.ref q].toArray s (gRm (5) 0 0).cells (gRm (5) 0 0).slots A) (F0 m 23 ls []) := by
    intro n
    induction n with
    | zero =>
      intro fh23 H locs ls v23_1 v23_2 hfu23 hI hH r_v23_1 r_v23_2 hl
      exact (fd_0 hfu23 r_v23_2).elim
    | succ n ih23 =>
      intro fh23 H locs ls v23_1 v23_2 hfu23 hI hH r_v23_1 r_v23_2 hl
      have cut36 : ∀ (n : Nat) (fh36 : gF) (H : Heap) (locs : List Loc) (ls : Array Slot) (v36_3 : Int32), 6 - v36_3.toInt < (n : Int) → tS E L τ [19, 20, 21, 23, 31, 32] f fh36 → gH E A L fh36 s.heap H locs → rg v36_3 0 6 → rg v23_2 0 62 → lv_has ls 4 [(0, .ref q), (1, .int v23_1), (2, .int v23_2), (3, .int v36_3)] → W p l e (gRm (5) 0 0) s m [.ref q].toArray below meth c H locs 0 0 (MQ below (gQv E A (tPv E L τ [19, 20, 21, 23, 31, 32] f (fun f1 => True))) [.ref q].toArray s (gRm (5) 0 0).cells (gRm (5) 0 0).slots A) (F0 m 36 ls []) := by
        intro n
        induction n with
        | zero =>
          intro fh36 H locs ls v36_3 hfu36 hI hH r_v36_3 r36_v23_2 hl
          exact (fu_0 hfu36 r_v36_3).elim
        | succ n ih36 =>
          intro fh36 H locs ls v36_3 hfu36 hI hH r_v36_3 r36_v23_2 hl
          refine lv_iload_n hx hb dX2_weigh_36 rfl (lv_at hl 3 rfl) ?_
          refine lv_aload_n hx hb dX2_weigh_37 rfl (lv_at hl 0 rfl) ?_
          refine t_getX C hH hI.1 mq tq td_30 iX2 rfl 0 (by decide) wd158 rfl (hI.rf kq_0) dX2_weigh_38 ?_
          refine t_geti C hH hI.1 mq_0 tq_0 td_3 iX3 rfl 7 (by decide) wd159 rfl rfl dX2_weigh_41 (fun z1 rz1 => ?_)
          refine lv_icmp_ge (tgt := 82) hx hb dX2_weigh_44 (by decide) (fun c2 => ?_) (fun c2 => ?_)
          · skip
            obtain ⟨z3, ez3⟩ : ∃ y : Int32, y = v23_2 + (-1 : Int32) := ⟨_, rfl⟩
            have r4 : rg z3 (-1) 61 := rg_add ez3 r36_v23_2 rl_m1 (by decide)
            have a5 : z3.toInt = v23_2.toInt + (-1) := ai_add ez3 r36_v23_2 tl_m1 (by decide)
            refine lv_iinc (v := z3) (lv' := [(2, .int z3), (0, .ref q), (1, .int v23_1), (3, .int v36_3)]) hx hb dX2_weigh_82 hl (k := 2) rfl (by rw [ez3]; rfl) (by decide) rfl (fun ls hl => ?_)
            refine lv_goto (tgt := 23) hx hb dX2_weigh_85 (by decide) ?_
            exact ih23 _ _ _ _ v23_1 z3 (fd_s hfu23 a5 (by decide)) hI hH r_v23_1 (rg_w r4 (by decide)) (lv_sub hl [1, 2, 0] rfl)
          · skip
            have r6 : rg v36_3 0 5 := rf_ltl (n_le c2) r_v36_3 rz1 (by decide)
            have r7 : rg z1 1 6 := rf_ltr (n_le c2) r_v36_3 rz1 (by decide)
            refine lv_iload_n hx hb dX2_weigh_47 rfl (lv_at hl 2 rfl) ?_
            refine lv_iload_n hx hb dX2_weigh_48 rfl (lv_at hl 3 rfl) ?_
            refine t_SNi C hO hl.1 hA hH (As := [.int v23_2, .int v36_3]) (rest := []) (t_hasBit62 l E J τ L fh36 hI.1 v23_2 (rg_w r36_v23_2 (by decide)) v36_3 r6) my_X9_hasBit (host := "GooseShares") (List.mem_of_getElem? (i := 5) rfl) rfl rfl (Nat.le_of_ble_eq_true rfl) ⟨Nat.le_of_ble_eq_true rfl, Nat.le_of_ble_eq_true rfl⟩ ⟨rfl, rfl⟩ dX2_weigh_49 (fun r9 L1 f8 H locs hp hH => ?_)
            obtain ⟨rfl, s10, h11⟩ := hp
            have hI := hI.call s10 (by decide)
            refine lv_if_ne (tgt := 76) hx hb dX2_weigh_52 (by decide) (fun c12 => ?_) (fun c12 => ?_)
            · skip
              have r13 : rg r9 1 1 := rf_nel (n_eq c12) h11.1 rl_0 (by decide)
              obtain ⟨z14, ez14⟩ : ∃ y : Int32, y = v36_3 + (1 : Int32) := ⟨_, rfl⟩
              have r15 : rg z14 1 6 := rg_add ez14 r6 rl_1 (by decide)
              have a16 : z14.toInt = v36_3.toInt + 1 := ai_add ez14 r6 tl_1 (by decide)
              refine lv_iinc (v := z14) (lv' := [(3, .int z14), (0, .ref q), (1, .int v23_1), (2, .int v23_2)]) hx hb dX2_weigh_76 hl (k := 3) rfl (by rw [ez14]; rfl) (by decide) rfl (fun ls hl => ?_)
              refine lv_goto (tgt := 36) hx hb dX2_weigh_79 (by decide) ?_
              exact ih36 _ _ _ _ z14 (fu_s hfu36 a16 (by decide)) hI hH (rg_w r15 (by decide)) r36_v23_2 (lv_sub hl [1, 2, 3, 0] rfl)
            · skip
              have r17 : rg r9 0 0 := rf_eql (c_eq c12) h11.1 rl_0 (by decide)
              refine lv_aload_n hx hb dX2_weigh_55 rfl (lv_at hl 0 rfl) ?_
              refine t_getX C hH hI.1 mq tq td_30 iX2 rfl 3 (by decide) wd175 rfl (hI.rf kq_3) dX2_weigh_56 ?_
              refine lv_iload_n hx hb dX2_weigh_59 rfl (lv_at hl 2 rfl) ?_
              refine lv_aload_n hx hb dX2_weigh_60 rfl (lv_at hl 0 rfl) ?_
              refine t_getX C hH hI.1 mq tq td_30 iX2 rfl 3 (by decide) wd175 rfl (hI.rf kq_3) dX2_weigh_61 ?_
              refine lv_iload_n hx hb dX2_weigh_64 rfl (lv_at hl 2 rfl) ?_
              refine t_ald C hH hI.1 mq_3 tq_3 td_32 (rg_in r36_v23_2 (by decide)) dX2_weigh_65 (fun z18v az18 _ => ?_)
              refine lv_topi (fun z18 ez18 => ?_)
              refine lv_aload_n hx hb dX2_weigh_66 rfl (lv_at hl 0 rfl) ?_
              refine lv_iload_n hx hb dX2_weigh_67 rfl (lv_at hl 2 rfl) ?_
              refine lv_iload_n hx hb dX2_weigh_68 rfl (lv_at hl 3 rfl) ?_
              refine t_Vi C hO hl.1 hA hH hI.1 (As := [.int v23_2, .int v36_3]) (rest := [.int z18, .int v23_2, .ref q_3]) (t_X2_paidWith l E J τ L f8 hI.1 mq tq v23_2 r36_v23_2 v36_3 r6) my_X2_paidWith wd180 mq tq td_30 rfl rfl rfl (Nat.le_of_ble_eq_true rfl) ⟨Nat.le_of_ble_eq_true rfl, Nat.le_of_ble_eq_true rfl⟩ ⟨rfl, rfl⟩ dX2_weigh_69 (fun r20 L1 f19 H locs hp hH => ?_)
              obtain ⟨rfl, s21, h22⟩ := hp
              have hI := hI.call s21 (by decide)
              refine va_mmax hx hb (C.2.2.1.trans hl.1.symm) C.2.2.2.1 (C.2.2.2.2.1 _ wd181) (C.2.2.2.2.1 _ wd182) (C.2.2.2.2.1 _ wd37) (C.2.2.2.2.1 _ wd183) (Nat.le_of_ble_eq_true rfl) (Nat.le_of_ble_eq_true rfl) (Nat.le_of_ble_eq_true rfl) (Nat.le_of_ble_eq_true rfl) dX2_weigh_72 ?_
              refine lv_topi (fun z23 ez23 => ?_)
              have r24 : rg z23 (-2147483648) 2147483647 := rg_max ez23 (rg_all _) h22 (by decide)
              refine t_ast C hH hI mq_3 tq_3 (by decide) td_32 (rg_in r36_v23_2 (by decide)) (fun _ _ _ => trivial) dX2_weigh_75 (fun f25 H locs hH hI bf25 uf25 => ?_)
              obtain ⟨z26, ez26⟩ : ∃ y : Int32, y = v36_3 + (1 : Int32) := ⟨_, rfl⟩
              have r27 : rg z26 1 6 := rg_add ez26 r6 rl_1 (by decide)
              have a28 : z26.toInt = v36_3.toInt + 1 := ai_add ez26 r6 tl_1 (by decide)
              refine lv_iinc (v := z26) (lv' := [(3, .int z26), (0, .ref q), (1, .int v23_1), (2, .int v23_2)]) hx hb dX2_weigh_76 hl (k := 3) rfl (by rw [ez26]; rfl) (by decide) rfl (fun ls hl => ?_)
              refine lv_goto (tgt := 36) hx hb dX2_weigh_79 (by decide) ?_
              exact ih36 _ _ _ _ z26 (fu_s hfu36 a28 (by decide)) hI hH (rg_w r27 (by decide)) r36_v23_2 (lv_sub hl [1, 2, 3, 0] rfl)
      refine lv_iload_n hx hb dX2_weigh_23 rfl (lv_at hl 2 rfl) ?_
      refine lv_if_lt (tgt := 88) hx hb dX2_weigh_24 (by decide) (fun c29 => ?_) (fun c29 => ?_)
      · skip
        have r30 : rg v23_2 (-1) (-1) := rf_ltl (c_lt c29) r_v23_2 rl_0 (by decide)
        exact g_vret C hr hH (Nat.zero_le _) (Nat.zero_le _) dX2_weigh_88 ⟨rfl, hI, trivial⟩
      · skip
        have r31 : rg v23_2 0 62 := rf_ler (n_lt c29) rl_0 r_v23_2 (by decide)
        refine lv_aload_n hx hb dX2_weigh_27 rfl (lv_at hl 0 rfl) ?_
        refine t_getX C hH hI.1 mq tq td_30 iX2 rfl 3 (by decide) wd175 rfl (hI.rf kq_3) dX2_weigh_28 ?_
        refine lv_iload_n hx hb dX2_weigh_31 rfl (lv_at hl 2 rfl) ?_
        refine lv_iconst (v := (0 : Int32)) hx hb dX2_weigh_32 (by decide) ?_
        refine t_ast C hH hI mq_3 tq_3 (by decide) td_32 (rg_in r31 (by decide)) (fun _ _ _ => trivial) dX2_weigh_33 (fun f32 H locs hH hI bf32 uf32 => ?_)
        refine lv_iconst (v := (0 : Int32)) hx hb dX2_weigh_34 (by decide) ?_
        refine lv_istore_n (lv' := [(3, .int (0 : Int32)), (0, .ref q), (1, .int v23_1), (2, .int v23_2)]) hx hb dX2_weigh_35 rfl hl (by decide) rfl (fun ls hl => ?_)
        exact cut36 7 _ _ _ _ (0 : Int32) (fu_i 7 rl_0 (by decide)) hI hH (rg_w rl_0 (by decide)) r31 (lv_sub hl [1, 2, 3, 0] rfl)
  refine lv_aload_n hx hb dX2_weigh_0 rfl (lv_at hl 0 rfl) ?_
  refine t_Vv C hO hl.1 hA hH hI.1 (As := []) (rest := []) (t_X2_listen l E J τ L f hI.1 mq tq) my_X2_listen wd187 mq tq td_30 rfl rfl rfl (Nat.le_of_ble_eq_true rfl) ⟨Nat.le_of_ble_eq_true rfl, Nat.le_of_ble_eq_true rfl⟩ ⟨rfl, rfl⟩ dX2_weigh_1 (fun L1 f33 H locs hp hH => ?_)
  obtain ⟨rfl, s35, h36⟩ := hp
  have hI := hI.call s35 (by decide)
  refine lv_aload_n hx hb dX2_weigh_4 rfl (lv_at hl 0 rfl) ?_
  refine t_getX C hH hI.1 mq tq td_30 iX2 rfl 0 (by decide) wd158 rfl (hI.rf kq_0) dX2_weigh_5 ?_
  refine t_Vi C hO hl.1 hA hH hI.1 (As := []) (rest := []) (t_X3_allMembers l E J τ L f33 hI.1 mq_0 tq_0) my_X3_allMembers wd188 mq_0 tq_0 td_3 rfl rfl rfl (Nat.le_of_ble_eq_true rfl) ⟨Nat.le_of_ble_eq_true rfl, Nat.le_of_ble_eq_true rfl⟩ ⟨rfl, rfl⟩ dX2_weigh_8 (fun r38 L1 f37 H locs hp hH => ?_)
  obtain ⟨rfl, s39, h40⟩ := hp
  have hI := hI.call s39 (by decide)
  refine lv_istore_n (lv' := [(1, .int r38), (0, .ref q)]) hx hb dX2_weigh_11 rfl hl (by decide) rfl (fun ls hl => ?_)
  refine lv_aload_n hx hb dX2_weigh_12 rfl (lv_at hl 1 rfl) ?_
  refine t_getX C hH hI.1 mq tq td_30 iX2 rfl 3 (by decide) wd175 rfl (hI.rf kq_3) dX2_weigh_13 ?_
  refine lv_iload_n hx hb dX2_weigh_16 rfl (lv_at hl 0 rfl) ?_
  refine lv_iconst (v := (0 : Int32)) hx hb dX2_weigh_17 (by decide) ?_
  refine t_ast C hH hI mq_3 tq_3 (by decide) td_32 (rg_in h40 (by decide)) (fun _ _ _ => trivial) dX2_weigh_18 (fun f41 H locs hH hI bf41 uf41 => ?_)
  refine lv_iload_n hx hb dX2_weigh_19 rfl (lv_at hl 0 rfl) ?_
  refine lv_iconst (v := (1 : Int32)) hx hb dX2_weigh_20 (by decide) ?_
  refine lv_isub hx hb dX2_weigh_21 ?_
  refine lv_topi (fun z42 ez42 => ?_)
  have r43 : rg z42 (-1) 62 := rg_sub ez42 h40 rl_1 (by decide)
  refine lv_istore_n (lv' := [(2, .int z42), (1, .int r38), (0, .ref q)]) hx hb dX2_weigh_22 rfl hl (by decide) rfl (fun ls hl => ?_)
  exact cut23 64 _ _ _ _ r38 z42 (fd_i 64 r43 (by decide)) hI hH h40 r43 (lv_sub hl [2, 1, 0] rfl)
set_option maxHeartbeats 4000000 in
set_option maxRecDepth 100000 in
theorem t_X2_leastHouse (l : Launch) (E : gE) (J : Nat → Nat) (τ : Nat → Nat) (L : List Nat) (f : gF) (hI : tI E L τ f) {q : Nat} (mq : q ∈ L) (tq : τ q = 30) (p1 : Int32) (rp1 : rg p1 0 63) : tMi l E J yX2_leastHouse cX2_leastHouse 5 .int (gRm (4) 0 0) [.ref q, .int p1] L f (tPi E L τ [] f (fun r f1 => rg r 0 5)) := by
  refine tMi.intro (by decide) (Nat.le_of_ble_eq_true rfl) ?_
  intro p e s m below meth c A ls C hr hA hO hH hl
  have C : gC E cX2_leastHouse 5 RX2 p s m _ meth c := C
  have hl : lv_has ls 5 [(0, .ref q), (1, .int p1)] := hl
  have hx := C.1
  have hb := C.2.1
  have hI := hI.S []
  obtain ⟨q_0, mq_0, tq_0, kq_0⟩ := t_fldr hI.1 mq tq td_30 (k := 0) rfl
  obtain ⟨q_3, mq_3, tq_3, kq_3⟩ := t_fldr hI.1 mq tq td_30 (k := 3) rfl
  obtain ⟨q_0_13, mq_0_13, tq_0_13, kq_0_13⟩ := t_fldr hI.1 mq_0 tq_0 td_3 (k := 13) rfl
  have cut4 : ∀ (n : Nat) (fh4 : gF) (H : Heap) (locs : List Loc) (ls : Array Slot) (v4_2 : Int32) (v4_3 : Int32), 6 - v4_3.toInt < (n : Int) → tS E L τ [] f fh4 → gH E A L fh4 s.heap H locs → rg v4_2 (-1) 5 → rg v4_3 0 6 → lv_has ls 5 [(0, .ref q), (1, .int p1), (2, .int v4_2), (3, .int v4_3)] → W p l e (gRm (4) 0 0) s m [.ref q, .int p1].toArray below meth c H locs 0 0 (MQ below (gQi E A (tPi E L τ [] f (fun r f1 => rg r 0 5))) [.ref q, .int p1].toArray s (gRm (4) 0 0).cells (gRm (4) 0 0).slots A) (F0 m 4 ls []) := by
    intro n
    induction n with
    | zero =>
      intro fh4 H locs ls v4_2 v4_3 hfu4 hI hH r_v4_2 r_v4_3 hl
      exact (fu_0 hfu4 r_v4_3).elim
    | succ n ih4 =>
      intro fh4 H locs ls v4_2 v4_3 hfu4 hI hH r_v4_2 r_v4_3 hl
      have cut42 : ∀ (fh42 : gF) (H : Heap) (locs : List Loc) (ls : Array Slot) , tS E L τ [] f fh42 → gH E A L fh42 s.heap H locs → rg v4_3 0 5 → lv_has ls 5 [(0, .ref q), (1, .int p1), (2, .int v4_2), (3, .int v4_3)] → W p l e (gRm (4) 0 0) s m [.ref q, .int p1].toArray below meth c H locs 0 0 (MQ below (gQi E A (tPi E L τ [] f (fun r f1 => rg r 0 5))) [.ref q, .int p1].toArray s (gRm (4) 0 0).cells (gRm (4) 0 0).slots A) (F0 m 42 ls []) := by
        intro fh42 H locs ls hI hH r42_v4_3 hl
        refine lv_iconst (v := (0 : Int32)) hx hb dX2_leastHouse_42 (by decide) ?_
        refine lv_istore (lv' := [(4, .int (0 : Int32)), (0, .ref q), (1, .int p1), (2, .int v4_2), (3, .int v4_3)]) hx hb dX2_leastHouse_43 hl (by decide) rfl (fun ls hl => ?_)
        refine lv_iload hx hb dX2_leastHouse_45 (lv_at hl 0 rfl) ?_
        refine lv_if_eq (tgt := 78) hx hb dX2_leastHouse_47 (by decide) (fun _ => ?_) (fun h => absurd (by decide) h)
        obtain ⟨z1, ez1⟩ : ∃ y : Int32, y = v4_3 + (1 : Int32) := ⟨_, rfl⟩
        have r2 : rg z1 1 6 := rg_add ez1 r42_v4_3 rl_1 (by decide)
        have a3 : z1.toInt = v4_3.toInt + 1 := ai_add ez1 r42_v4_3 tl_1 (by decide)
        refine lv_iinc (v := z1) (lv' := [(3, .int z1), (4, .int (0 : Int32)), (0, .ref q), (1, .int p1), (2, .int v4_2)]) hx hb dX2_leastHouse_78 hl (k := 4) rfl (by rw [ez1]; rfl) (by decide) rfl (fun ls hl => ?_)
        refine lv_goto (tgt := 4) hx hb dX2_leastHouse_81 (by decide) ?_
        exact ih4 _ _ _ _ v4_2 z1 (fu_s hfu4 a3 (by decide)) hI hH r_v4_2 (rg_w r2 (by decide)) (lv_sub hl [2, 3, 4, 0] rfl)
      refine lv_iload_n hx hb dX2_leastHouse_4 rfl (lv_at hl 3 rfl) ?_
      refine lv_aload_n hx hb dX2_leastHouse_5 rfl (lv_at hl 0 rfl) ?_
      refine t_getX C hH hI.1 mq tq td_30 iX2 rfl 0 (by decide) wd158 rfl (hI.rf kq_0) dX2_leastHouse_6 ?_
      refine t_geti C hH hI.1 mq_0 tq_0 td_3 iX3 rfl 7 (by decide) wd159 rfl rfl dX2_leastHouse_9 (fun z4 rz4 => ?_)
      refine lv_icmp_ge (tgt := 84) hx hb dX2_leastHouse_12 (by decide) (fun c5 => ?_) (fun c5 => ?_)
      · skip
        refine lv_iconst (v := (0 : Int32)) hx hb dX2_leastHouse_84 (by decide) ?_
        refine lv_iload_n hx hb dX2_leastHouse_85 rfl (lv_at hl 2 rfl) ?_
        refine va_mmax hx hb (C.2.2.1.trans hl.1.symm) C.2.2.2.1 (C.2.2.2.2.1 _ wd181) (C.2.2.2.2.1 _ wd182) (C.2.2.2.2.1 _ wd37) (C.2.2.2.2.1 _ wd183) (Nat.le_of_ble_eq_true rfl) (Nat.le_of_ble_eq_true rfl) (Nat.le_of_ble_eq_true rfl) (Nat.le_of_ble_eq_true rfl) dX2_leastHouse_86 ?_
        refine lv_topi (fun z6 ez6 => ?_)
        have r7 : rg z6 0 5 := rg_max ez6 rl_0 r_v4_2 (by decide)
        exact g_iret C hr hH (Nat.zero_le _) (Nat.zero_le _) dX2_leastHouse_89 ⟨rfl, hI, r7⟩
      · skip
        have r8 : rg v4_3 0 5 := rf_ltl (n_le c5) r_v4_3 rz4 (by decide)
        have r9 : rg z4 1 6 := rf_ltr (n_le c5) r_v4_3 rz4 (by decide)
        refine lv_iload_n hx hb dX2_leastHouse_15 rfl (lv_at hl 1 rfl) ?_
        refine lv_iload_n hx hb dX2_leastHouse_16 rfl (lv_at hl 3 rfl) ?_
        refine t_SNi C hO hl.1 hA hH (As := [.int p1, .int v4_3]) (rest := []) (t_hasBit62 l E J τ L fh4 hI.1 p1 rp1 v4_3 r8) my_X9_hasBit (host := "GooseShares") (List.mem_of_getElem? (i := 5) rfl) rfl rfl (Nat.le_of_ble_eq_true rfl) ⟨Nat.le_of_ble_eq_true rfl, Nat.le_of_ble_eq_true rfl⟩ ⟨rfl, rfl⟩ dX2_leastHouse_17 (fun r11 L1 f10 H locs hp hH => ?_)
        obtain ⟨rfl, s12, h13⟩ := hp
        have hI := hI.call s12 (by decide)
        refine lv_if_ne (tgt := 42) hx hb dX2_leastHouse_20 (by decide) (fun c14 => ?_) (fun c14 => ?_)
        · skip
          have r15 : rg r11 1 1 := rf_nel (n_eq c14) h13.1 rl_0 (by decide)
          exact cut42 _ _ _ _ hI hH r8 (lv_sub hl [0, 1, 2, 3] rfl)
        · skip
          have r16 : rg r11 0 0 := rf_eql (c_eq c14) h13.1 rl_0 (by decide)
          have r17 : rg p1 0 62 := h13.2 c14
          refine lv_aload_n hx hb dX2_leastHouse_23 rfl (lv_at hl 0 rfl) ?_
          refine lv_iload_n hx hb dX2_leastHouse_24 rfl (lv_at hl 1 rfl) ?_
          refine lv_iload_n hx hb dX2_leastHouse_25 rfl (lv_at hl 3 rfl) ?_
          refine t_Vi C hO hl.1 hA hH hI.1 (As := [.int p1, .int v4_3]) (rest := []) (t_X2_paidWith l E J τ L f10 hI.1 mq tq p1 r17 v4_3 r8) my_X2_paidWith wd180 mq tq td_30 rfl rfl rfl (Nat.le_of_ble_eq_true rfl) ⟨Nat.le_of_ble_eq_true rfl, Nat.le_of_ble_eq_true rfl⟩ ⟨rfl, rfl⟩ dX2_leastHouse_26 (fun r19 L1 f18 H locs hp hH => ?_)
          obtain ⟨rfl, s20, h21⟩ := hp
          have hI := hI.call s20 (by decide)
          refine lv_aload_n hx hb dX2_leastHouse_29 rfl (lv_at hl 0 rfl) ?_
          refine t_getX C hH hI.1 mq tq td_30 iX2 rfl 3 (by decide) wd175 rfl (hI.rf kq_3) dX2_leastHouse_30 ?_
          refine lv_iload_n hx hb dX2_leastHouse_33 rfl (lv_at hl 1 rfl) ?_
          refine t_ald C hH hI.1 mq_3 tq_3 td_32 (rg_in r17 (by decide)) dX2_leastHouse_34 (fun z22v az22 _ => ?_)
          refine lv_topi (fun z22 ez22 => ?_)
          refine lv_icmp_ne (tgt := 42) hx hb dX2_leastHouse_35 (by decide) (fun c23 => ?_) (fun c23 => ?_)
          · skip
            exact cut42 _ _ _ _ hI hH r8 (lv_sub hl [0, 1, 2, 3] rfl)
          · skip
            refine lv_iconst (v := (1 : Int32)) hx hb dX2_leastHouse_38 (by decide) ?_
            refine lv_goto (tgt := 43) hx hb dX2_leastHouse_39 (by decide) ?_
            refine lv_istore (lv' := [(4, .int (1 : Int32)), (0, .ref q), (1, .int p1), (2, .int v4_2), (3, .int v4_3)]) hx hb dX2_leastHouse_43 hl (by decide) rfl (fun ls hl => ?_)
            refine lv_iload hx hb dX2_leastHouse_45 (lv_at hl 0 rfl) ?_
            refine lv_if_eq (tgt := 78) hx hb dX2_leastHouse_47 (by decide) (fun h => absurd h (by decide)) (fun _ => ?_)
            refine lv_iload_n hx hb dX2_leastHouse_50 rfl (lv_at hl 3 rfl) ?_
            refine lv_iconst (v := (-1 : Int32)) hx hb dX2_leastHouse_51 (by decide) ?_
            refine lv_icmp_eq (tgt := 76) hx hb dX2_leastHouse_52 (by decide) (fun c24 => ?_) (fun c24 => ?_)
            · skip
              have r25 : rg v4_2 (-1) (-1) := rf_eql (c_eq c24) r_v4_2 rl_m1 (by decide)
              refine lv_iload_n hx hb dX2_leastHouse_76 rfl (lv_at hl 4 rfl) ?_
              refine lv_istore_n (lv' := [(2, .int v4_3), (4, .int (1 : Int32)), (0, .ref q), (1, .int p1), (3, .int v4_3)]) hx hb dX2_leastHouse_77 rfl hl (by decide) rfl (fun ls hl => ?_)
              obtain ⟨z26, ez26⟩ : ∃ y : Int32, y = v4_3 + (1 : Int32) := ⟨_, rfl⟩
              have r27 : rg z26 1 6 := rg_add ez26 r8 rl_1 (by decide)
              have a28 : z26.toInt = v4_3.toInt + 1 := ai_add ez26 r8 tl_1 (by decide)
              refine lv_iinc (v := z26) (lv' := [(3, .int z26), (2, .int v4_3), (4, .int (1 : Int32)), (0, .ref q), (1, .int p1)]) hx hb dX2_leastHouse_78 hl (k := 4) rfl (by rw [ez26]; rfl) (by decide) rfl (fun ls hl => ?_)
              refine lv_goto (tgt := 4) hx hb dX2_leastHouse_81 (by decide) ?_
              exact ih4 _ _ _ _ v4_3 z26 (fu_s hfu4 a28 (by decide)) hI hH (rg_w r8 (by decide)) (rg_w r27 (by decide)) (lv_sub hl [3, 4, 1, 0] rfl)
            · skip
              have r29 : rg v4_2 0 5 := rf_nel (n_eq c24) r_v4_2 rl_m1 (by decide)
              refine lv_aload_n hx hb dX2_leastHouse_55 rfl (lv_at hl 1 rfl) ?_
              refine t_getX C hH hI.1 mq tq td_30 iX2 rfl 0 (by decide) wd158 rfl (hI.rf kq_0) dX2_leastHouse_56 ?_
              refine t_getX C hH hI.1 mq_0 tq_0 td_3 iX3 rfl 13 (by decide) wd162 rfl (hI.rf kq_0_13) dX2_leastHouse_59 ?_
              refine lv_iload_n hx hb dX2_leastHouse_62 rfl (lv_at hl 4 rfl) ?_
              refine t_aldR C hH hI.1 mq_0_13 tq_0_13 td_7 (rg_in r8 (by decide)) dX2_leastHouse_63 (fun z30 rz30 => ?_)
              refine lv_aload_n hx hb dX2_leastHouse_64 rfl (lv_at hl 1 rfl) ?_
              refine t_getX C hH hI.1 mq tq td_30 iX2 rfl 0 (by decide) wd158 rfl (hI.rf kq_0) dX2_leastHouse_65 ?_
              refine t_getX C hH hI.1 mq_0 tq_0 td_3 iX3 rfl 13 (by decide) wd162 rfl (hI.rf kq_0_13) dX2_leastHouse_68 ?_
              refine lv_iload_n hx hb dX2_leastHouse_71 rfl (lv_at hl 3 rfl) ?_
              refine t_aldR C hH hI.1 mq_0_13 tq_0_13 td_7 (rg_in r29 (by decide)) dX2_leastHouse_72 (fun z31 rz31 => ?_)
              refine lv_icmp_ge (tgt := 78) hx hb dX2_leastHouse_73 (by decide) (fun c32 => ?_) (fun c32 => ?_)
              · skip
                obtain ⟨z33, ez33⟩ : ∃ y : Int32, y = v4_3 + (1 : Int32) := ⟨_, rfl⟩
                have r34 : rg z33 1 6 := rg_add ez33 r8 rl_1 (by decide)
                have a35 : z33.toInt = v4_3.toInt + 1 := ai_add ez33 r8 tl_1 (by decide)
                refine lv_iinc (v := z33) (lv' := [(3, .int z33), (4, .int (1 : Int32)), (0, .ref q), (1, .int p1), (2, .int v4_2)]) hx hb dX2_leastHouse_78 hl (k := 4) rfl (by rw [ez33]; rfl) (by decide) rfl (fun ls hl => ?_)
                refine lv_goto (tgt := 4) hx hb dX2_leastHouse_81 (by decide) ?_
                exact ih4 _ _ _ _ v4_2 z33 (fu_s hfu4 a35 (by decide)) hI hH (rg_w r29 (by decide)) (rg_w r34 (by decide)) (lv_sub hl [2, 3, 4, 0] rfl)
              · skip
                have r36 : rg z30 0 18 := rf_ltl (n_le c32) rz30 rz31 (by decide)
                have r37 : rg z31 1 19 := rf_ltr (n_le c32) rz30 rz31 (by decide)
                refine lv_iload_n hx hb dX2_leastHouse_76 rfl (lv_at hl 4 rfl) ?_
                refine lv_istore_n (lv' := [(2, .int v4_3), (4, .int (1 : Int32)), (0, .ref q), (1, .int p1), (3, .int v4_3)]) hx hb dX2_leastHouse_77 rfl hl (by decide) rfl (fun ls hl => ?_)
                obtain ⟨z38, ez38⟩ : ∃ y : Int32, y = v4_3 + (1 : Int32) := ⟨_, rfl⟩
                have r39 : rg z38 1 6 := rg_add ez38 r8 rl_1 (by decide)
                have a40 : z38.toInt = v4_3.toInt + 1 := ai_add ez38 r8 tl_1 (by decide)
                refine lv_iinc (v := z38) (lv' := [(3, .int z38), (2, .int v4_3), (4, .int (1 : Int32)), (0, .ref q), (1, .int p1)]) hx hb dX2_leastHouse_78 hl (k := 4) rfl (by rw [ez38]; rfl) (by decide) rfl (fun ls hl => ?_)
                refine lv_goto (tgt := 4) hx hb dX2_leastHouse_81 (by decide) ?_
                exact ih4 _ _ _ _ v4_3 z38 (fu_s hfu4 a40 (by decide)) hI hH (rg_w r8 (by decide)) (rg_w r39 (by decide)) (lv_sub hl [3, 4, 1, 0] rfl)
  refine lv_iconst (v := (-1 : Int32)) hx hb dX2_leastHouse_0 (by decide) ?_
  refine lv_istore_n (lv' := [(2, .int (-1 : Int32)), (0, .ref q), (1, .int p1)]) hx hb dX2_leastHouse_1 rfl hl (by decide) rfl (fun ls hl => ?_)
  refine lv_iconst (v := (0 : Int32)) hx hb dX2_leastHouse_2 (by decide) ?_
  refine lv_istore_n (lv' := [(3, .int (0 : Int32)), (2, .int (-1 : Int32)), (0, .ref q), (1, .int p1)]) hx hb dX2_leastHouse_3 rfl hl (by decide) rfl (fun ls hl => ?_)
  exact cut4 7 _ _ _ _ (-1 : Int32) (0 : Int32) (fu_i 7 rl_0 (by decide)) hI hH (rg_w rl_m1 (by decide)) (rg_w rl_0 (by decide)) (lv_sub hl [2, 3, 1, 0] rfl)
set_option maxHeartbeats 4000000 in
set_option maxRecDepth 100000 in
theorem t_X2_cellOf (l : Launch) (E : gE) (J : Nat → Nat) (τ : Nat → Nat) (L : List Nat) (f : gF) (hI : tI E L τ f) {q : Nat} (mq : q ∈ L) (tq : τ q = 30) (p1 : Int32) (rp1 : rg p1 0 5) : tMi l E J yX2_cellOf cX2_cellOf 6 .int (gRm (5) 0 0) [.ref q, .int p1] L f (tPi E L τ [] f (fun r f1 => rg r (-1) 19)) := by
  refine tMi.intro (by decide) (Nat.le_of_ble_eq_true rfl) ?_
  intro p e s m below meth c A ls C hr hA hO hH hl
  have C : gC E cX2_cellOf 6 RX2 p s m _ meth c := C
  have hl : lv_has ls 6 [(0, .ref q), (1, .int p1)] := hl
  have hx := C.1
  have hb := C.2.1
  have hI := hI.S []
  obtain ⟨q_0, mq_0, tq_0, kq_0⟩ := t_fldr hI.1 mq tq td_30 (k := 0) rfl
  obtain ⟨q_0_13, mq_0_13, tq_0_13, kq_0_13⟩ := t_fldr hI.1 mq_0 tq_0 td_3 (k := 13) rfl
  have cut7 : ∀ (n : Nat) (fh7 : gF) (H : Heap) (locs : List Loc) (ls : Array Slot) (v7_2 : Int32) (v7_3 : Int32) (v7_4 : Int32), 6 - v7_4.toInt < (n : Int) → tS E L τ [] f fh7 → gH E A L fh7 s.heap H locs → rg v7_2 0 63 → rg v7_3 (-1) 19 → rg v7_4 0 6 → lv_has ls 6 [(0, .ref q), (1, .int p1), (2, .int v7_2), (3, .int v7_3), (4, .int v7_4)] → W p l e (gRm (5) 0 0) s m [.ref q, .int p1].toArray below meth c H locs 0 0 (MQ below (gQi E A (tPi E L τ [] f (fun r f1 => rg r (-1) 19))) [.ref q, .int p1].toArray s (gRm (5) 0 0).cells (gRm (5) 0 0).slots A) (F0 m 7 ls []) := by
    intro n
    induction n with
    | zero =>
      intro fh7 H locs ls v7_2 v7_3 v7_4 hfu7 hI hH r_v7_2 r_v7_3 r_v7_4 hl
      exact (fu_0 hfu7 r_v7_4).elim
    | succ n ih7 =>
      intro fh7 H locs ls v7_2 v7_3 v7_4 hfu7 hI hH r_v7_2 r_v7_3 r_v7_4 hl
      refine lv_iload hx hb dX2_cellOf_7 (lv_at hl 4 rfl) ?_
      refine lv_iload_n hx hb dX2_cellOf_9 rfl (lv_at hl 1 rfl) ?_
      refine lv_icmp_gt (tgt := 44) hx hb dX2_cellOf_10 (by decide) (fun c1 => ?_) (fun c1 => ?_)
      · skip
        have r2 : rg v7_4 1 6 := rf_ltr (c_lt c1) rp1 r_v7_4 (by decide)
        refine lv_iload_n hx hb dX2_cellOf_44 rfl (lv_at hl 3 rfl) ?_
        exact g_iret C hr hH (Nat.zero_le _) (Nat.zero_le _) dX2_cellOf_45 ⟨rfl, hI, r_v7_3⟩
      · skip
        have r3 : rg v7_4 0 5 := rf_lel (n_lt c1) r_v7_4 rp1 (by decide)
        refine lv_aload_n hx hb dX2_cellOf_13 rfl (lv_at hl 0 rfl) ?_
        refine lv_iload_n hx hb dX2_cellOf_14 rfl (lv_at hl 2 rfl) ?_
        refine t_Vi C hO hl.1 hA hH hI.1 (As := [.int v7_2]) (rest := []) (t_X2_leastHouse l E J τ L fh7 hI.1 mq tq v7_2 r_v7_2) my_X2_leastHouse wd192 mq tq td_30 rfl rfl rfl (Nat.le_of_ble_eq_true rfl) ⟨Nat.le_of_ble_eq_true rfl, Nat.le_of_ble_eq_true rfl⟩ ⟨rfl, rfl⟩ dX2_cellOf_15 (fun r5 L1 f4 H locs hp hH => ?_)
        obtain ⟨rfl, s6, h7⟩ := hp
        have hI := hI.call s6 (by decide)
        refine lv_istore (lv' := [(5, .int r5), (0, .ref q), (1, .int p1), (2, .int v7_2), (3, .int v7_3), (4, .int v7_4)]) hx hb dX2_cellOf_18 hl (by decide) rfl (fun ls hl => ?_)
        refine lv_aload_n hx hb dX2_cellOf_20 rfl (lv_at hl 1 rfl) ?_
        refine t_getX C hH hI.1 mq tq td_30 iX2 rfl 0 (by decide) wd158 rfl (hI.rf kq_0) dX2_cellOf_21 ?_
        refine t_getX C hH hI.1 mq_0 tq_0 td_3 iX3 rfl 13 (by decide) wd162 rfl (hI.rf kq_0_13) dX2_cellOf_24 ?_
        refine lv_iload hx hb dX2_cellOf_27 (lv_at hl 0 rfl) ?_
        refine t_aldR C hH hI.1 mq_0_13 tq_0_13 td_7 (rg_in h7 (by decide)) dX2_cellOf_29 (fun z8 rz8 => ?_)
        refine lv_istore_n (lv' := [(3, .int z8), (5, .int r5), (0, .ref q), (1, .int p1), (2, .int v7_2), (4, .int v7_4)]) hx hb dX2_cellOf_30 rfl hl (by decide) rfl (fun ls hl => ?_)
        refine lv_iload_n hx hb dX2_cellOf_31 rfl (lv_at hl 4 rfl) ?_
        refine lv_iconst (v := (1 : Int32)) hx hb dX2_cellOf_32 (by decide) ?_
        refine lv_iload hx hb dX2_cellOf_33 (lv_at hl 1 rfl) ?_
        refine lv_ishl hx hb dX2_cellOf_35 ?_
        refine lv_topi (fun z9 ez9 => ?_)
        have r10 : rg z9 1 32 := rg_shl 0 5 ez9 h7 (by decide)
        refine lv_ior hx hb dX2_cellOf_36 ?_
        refine lv_topi (fun z11 ez11 => ?_)
        have r12 : rg z11 0 63 := rg_or 6 ez11 r_v7_2 r10 (by decide)
        refine lv_istore_n (lv' := [(2, .int z11), (3, .int z8), (5, .int r5), (0, .ref q), (1, .int p1), (4, .int v7_4)]) hx hb dX2_cellOf_37 rfl hl (by decide) rfl (fun ls hl => ?_)
        obtain ⟨z13, ez13⟩ : ∃ y : Int32, y = v7_4 + (1 : Int32) := ⟨_, rfl⟩
        have r14 : rg z13 1 6 := rg_add ez13 r3 rl_1 (by decide)
        have a15 : z13.toInt = v7_4.toInt + 1 := ai_add ez13 r3 tl_1 (by decide)
        refine lv_iinc (v := z13) (lv' := [(4, .int z13), (2, .int z11), (3, .int z8), (5, .int r5), (0, .ref q), (1, .int p1)]) hx hb dX2_cellOf_38 hl (k := 5) rfl (by rw [ez13]; rfl) (by decide) rfl (fun ls hl => ?_)
        refine lv_goto (tgt := 7) hx hb dX2_cellOf_41 (by decide) ?_
        exact ih7 _ _ _ _ z11 z8 z13 (fu_s hfu7 a15 (by decide)) hI hH r12 (rg_w rz8 (by decide)) (rg_w r14 (by decide)) (lv_sub hl [4, 5, 1, 2, 0] rfl)
  refine lv_iconst (v := (0 : Int32)) hx hb dX2_cellOf_0 (by decide) ?_
  refine lv_istore_n (lv' := [(2, .int (0 : Int32)), (0, .ref q), (1, .int p1)]) hx hb dX2_cellOf_1 rfl hl (by decide) rfl (fun ls hl => ?_)
  refine lv_iconst (v := (-1 : Int32)) hx hb dX2_cellOf_2 (by decide) ?_
  refine lv_istore_n (lv' := [(3, .int (-1 : Int32)), (2, .int (0 : Int32)), (0, .ref q), (1, .int p1)]) hx hb dX2_cellOf_3 rfl hl (by decide) rfl (fun ls hl => ?_)
  refine lv_iconst (v := (0 : Int32)) hx hb dX2_cellOf_4 (by decide) ?_
  refine lv_istore (lv' := [(4, .int (0 : Int32)), (3, .int (-1 : Int32)), (2, .int (0 : Int32)), (0, .ref q), (1, .int p1)]) hx hb dX2_cellOf_5 hl (by decide) rfl (fun ls hl => ?_)
  exact cut7 7 _ _ _ _ (0 : Int32) (-1 : Int32) (0 : Int32) (fu_i 7 rl_0 (by decide)) hI hH (rg_w rl_0 (by decide)) (rg_w rl_m1 (by decide)) (rg_w rl_0 (by decide)) (lv_sub hl [3, 4, 2, 1, 0] rfl)
set_option maxHeartbeats 4000000 in
set_option maxRecDepth 100000 in
theorem t_X2_isGoodSwap (l : Launch) (E : gE) (J : Nat → Nat) (τ : Nat → Nat) (L : List Nat) (f : gF) (hI : tI E L τ f) {q : Nat} (mq : q ∈ L) (tq : τ q = 30) (p1 : Int32) (rp1 : rg p1 0 5) (p2 : Int32) (rp2 : rg p2 0 5) : tMi l E J yX2_isGoodSwap cX2_isGoodSwap 4 .boolean (gRm (3) 0 0) [.ref q, .int p1, .int p2] L f (tPi E L τ [] f (fun r f1 => rg r 0 1)) := by
  refine tMi.intro (by decide) (Nat.le_of_ble_eq_true rfl) ?_
  intro p e s m below meth c A ls C hr hA hO hH hl
  have C : gC E cX2_isGoodSwap 4 RX2 p s m _ meth c := C
  have hl : lv_has ls 4 [(0, .ref q), (1, .int p1), (2, .int p2)] := hl
  have hx := C.1
  have hb := C.2.1
  have hI := hI.S []
  have cut22 : ∀ (fh22 : gF) (H : Heap) (locs : List Loc) (ls : Array Slot) , tS E L τ [] f fh22 → gH E A L fh22 s.heap H locs → lv_has ls 4 [(0, .ref q), (1, .int p1), (2, .int p2)] → W p l e (gRm (3) 0 0) s m [.ref q, .int p1, .int p2].toArray below meth c H locs 0 0 (MQ below (gQi E A (tPi E L τ [] f (fun r f1 => rg r 0 1))) [.ref q, .int p1, .int p2].toArray s (gRm (3) 0 0).cells (gRm (3) 0 0).slots A) (F0 m 22 ls []) := by
    intro fh22 H locs ls hI hH hl
    refine lv_iconst (v := (0 : Int32)) hx hb dX2_isGoodSwap_22 (by decide) ?_
    refine lv_istore_n (lv' := [(3, .int (0 : Int32)), (0, .ref q), (1, .int p1), (2, .int p2)]) hx hb dX2_isGoodSwap_23 rfl hl (by decide) rfl (fun ls hl => ?_)
    refine lv_iload_n hx hb dX2_isGoodSwap_24 rfl (lv_at hl 0 rfl) ?_
    refine lv_if_ne (tgt := 50) hx hb dX2_isGoodSwap_25 (by decide) (fun h => absurd (by decide) h) (fun _ => ?_)
    refine lv_aload_n hx hb dX2_isGoodSwap_28 rfl (lv_at hl 1 rfl) ?_
    refine lv_iload_n hx hb dX2_isGoodSwap_29 rfl (lv_at hl 2 rfl) ?_
    refine lv_iload_n hx hb dX2_isGoodSwap_30 rfl (lv_at hl 3 rfl) ?_
    refine t_Vi C hO hl.1 hA hH hI.1 (As := [.int p1, .int p2]) (rest := []) (t_X2_isServed l E J τ L fh22 hI.1 mq tq p1 rp1 p2 rp2) my_X2_isServed wd174 mq tq td_30 rfl rfl rfl (Nat.le_of_ble_eq_true rfl) ⟨Nat.le_of_ble_eq_true rfl, Nat.le_of_ble_eq_true rfl⟩ ⟨rfl, rfl⟩ dX2_isGoodSwap_31 (fun r2 L1 f1 H locs hp hH => ?_)
    obtain ⟨rfl, s3, h4⟩ := hp
    have hI := hI.call s3 (by decide)
    refine lv_if_eq (tgt := 50) hx hb dX2_isGoodSwap_34 (by decide) (fun c5 => ?_) (fun c5 => ?_)
    · skip
      have r6 : rg r2 0 0 := rf_eql (c_eq c5) h4 rl_0 (by decide)
      refine lv_iconst (v := (0 : Int32)) hx hb dX2_isGoodSwap_50 (by decide) ?_
      exact g_zret C hr (rg_z (rg_w rl_0 (by decide))) hH (Nat.zero_le _) (Nat.zero_le _) dX2_isGoodSwap_51 ⟨rfl, hI, (rg_w rl_0 (by decide))⟩
    · skip
      have r7 : rg r2 1 1 := rf_nel (n_eq c5) h4 rl_0 (by decide)
      refine lv_aload_n hx hb dX2_isGoodSwap_37 rfl (lv_at hl 1 rfl) ?_
      refine lv_iload_n hx hb dX2_isGoodSwap_38 rfl (lv_at hl 3 rfl) ?_
      refine lv_iload_n hx hb dX2_isGoodSwap_39 rfl (lv_at hl 2 rfl) ?_
      refine t_Vi C hO hl.1 hA hH hI.1 (As := [.int p2, .int p1]) (rest := []) (t_X2_isServed l E J τ L f1 hI.1 mq tq p2 rp2 p1 rp1) my_X2_isServed wd174 mq tq td_30 rfl rfl rfl (Nat.le_of_ble_eq_true rfl) ⟨Nat.le_of_ble_eq_true rfl, Nat.le_of_ble_eq_true rfl⟩ ⟨rfl, rfl⟩ dX2_isGoodSwap_40 (fun r9 L1 f8 H locs hp hH => ?_)
      obtain ⟨rfl, s10, h11⟩ := hp
      have hI := hI.call s10 (by decide)
      refine lv_if_eq (tgt := 50) hx hb dX2_isGoodSwap_43 (by decide) (fun c12 => ?_) (fun c12 => ?_)
      · skip
        have r13 : rg r9 0 0 := rf_eql (c_eq c12) h11 rl_0 (by decide)
        refine lv_iconst (v := (0 : Int32)) hx hb dX2_isGoodSwap_50 (by decide) ?_
        exact g_zret C hr (rg_z (rg_w rl_0 (by decide))) hH (Nat.zero_le _) (Nat.zero_le _) dX2_isGoodSwap_51 ⟨rfl, hI, (rg_w rl_0 (by decide))⟩
      · skip
        have r14 : rg r9 1 1 := rf_nel (n_eq c12) h11 rl_0 (by decide)
        refine lv_iconst (v := (1 : Int32)) hx hb dX2_isGoodSwap_46 (by decide) ?_
        refine lv_goto (tgt := 51) hx hb dX2_isGoodSwap_47 (by decide) ?_
        exact g_zret C hr (rg_z (rg_w rl_1 (by decide))) hH (Nat.zero_le _) (Nat.zero_le _) dX2_isGoodSwap_51 ⟨rfl, hI, (rg_w rl_1 (by decide))⟩
  refine lv_aload_n hx hb dX2_isGoodSwap_0 rfl (lv_at hl 0 rfl) ?_
  refine lv_iload_n hx hb dX2_isGoodSwap_1 rfl (lv_at hl 1 rfl) ?_
  refine lv_iload_n hx hb dX2_isGoodSwap_2 rfl (lv_at hl 1 rfl) ?_
  refine t_Vi C hO hl.1 hA hH hI.1 (As := [.int p1, .int p1]) (rest := []) (t_X2_isServed l E J τ L f hI.1 mq tq p1 rp1 p1 rp1) my_X2_isServed wd174 mq tq td_30 rfl rfl rfl (Nat.le_of_ble_eq_true rfl) ⟨Nat.le_of_ble_eq_true rfl, Nat.le_of_ble_eq_true rfl⟩ ⟨rfl, rfl⟩ dX2_isGoodSwap_3 (fun r16 L1 f15 H locs hp hH => ?_)
  obtain ⟨rfl, s17, h18⟩ := hp
  have hI := hI.call s17 (by decide)
  refine lv_if_eq (tgt := 22) hx hb dX2_isGoodSwap_6 (by decide) (fun c19 => ?_) (fun c19 => ?_)
  · skip
    have r20 : rg r16 0 0 := rf_eql (c_eq c19) h18 rl_0 (by decide)
    exact cut22 _ _ _ _ hI hH (lv_sub hl [0, 1, 2] rfl)
  · skip
    have r21 : rg r16 1 1 := rf_nel (n_eq c19) h18 rl_0 (by decide)
    refine lv_aload_n hx hb dX2_isGoodSwap_9 rfl (lv_at hl 0 rfl) ?_
    refine lv_iload_n hx hb dX2_isGoodSwap_10 rfl (lv_at hl 2 rfl) ?_
    refine lv_iload_n hx hb dX2_isGoodSwap_11 rfl (lv_at hl 2 rfl) ?_
    refine t_Vi C hO hl.1 hA hH hI.1 (As := [.int p2, .int p2]) (rest := []) (t_X2_isServed l E J τ L f15 hI.1 mq tq p2 rp2 p2 rp2) my_X2_isServed wd174 mq tq td_30 rfl rfl rfl (Nat.le_of_ble_eq_true rfl) ⟨Nat.le_of_ble_eq_true rfl, Nat.le_of_ble_eq_true rfl⟩ ⟨rfl, rfl⟩ dX2_isGoodSwap_12 (fun r23 L1 f22 H locs hp hH => ?_)
    obtain ⟨rfl, s24, h25⟩ := hp
    have hI := hI.call s24 (by decide)
    refine lv_if_eq (tgt := 22) hx hb dX2_isGoodSwap_15 (by decide) (fun c26 => ?_) (fun c26 => ?_)
    · skip
      have r27 : rg r23 0 0 := rf_eql (c_eq c26) h25 rl_0 (by decide)
      exact cut22 _ _ _ _ hI hH (lv_sub hl [0, 1, 2] rfl)
    · skip
      have r28 : rg r23 1 1 := rf_nel (n_eq c26) h25 rl_0 (by decide)
      refine lv_iconst (v := (1 : Int32)) hx hb dX2_isGoodSwap_18 (by decide) ?_
      refine lv_goto (tgt := 23) hx hb dX2_isGoodSwap_19 (by decide) ?_
      refine lv_istore_n (lv' := [(3, .int (1 : Int32)), (0, .ref q), (1, .int p1), (2, .int p2)]) hx hb dX2_isGoodSwap_23 rfl hl (by decide) rfl (fun ls hl => ?_)
      refine lv_iload_n hx hb dX2_isGoodSwap_24 rfl (lv_at hl 0 rfl) ?_
      refine lv_if_ne (tgt := 50) hx hb dX2_isGoodSwap_25 (by decide) (fun _ => ?_) (fun h => absurd h (by decide))
      refine lv_iconst (v := (0 : Int32)) hx hb dX2_isGoodSwap_50 (by decide) ?_
      exact g_zret C hr (rg_z (rg_w rl_0 (by decide))) hH (Nat.zero_le _) (Nat.zero_le _) dX2_isGoodSwap_51 ⟨rfl, hI, (rg_w rl_0 (by decide))⟩
set_option maxHeartbeats 4000000 in
set_option maxRecDepth 100000 in
theorem t_X2_goodSwaps (l : Launch) (E : gE) (J : Nat → Nat) (τ : Nat → Nat) (L : List Nat) (f : gF) (hI : tI E L τ f) {q : Nat} (mq : q ∈ L) (tq : τ q = 30) : tMi l E J yX2_goodSwaps cX2_goodSwaps 4 .int (gRm (5) 0 0) [.ref q] L f (tPi E L τ [19, 20, 21, 23, 31] f (fun r f1 => rg r (-2147483648) 2147483647)) := by
  refine tMi.intro (by decide) (Nat.le_of_ble_eq_true rfl) ?_
  intro p e s m below meth c A ls C hr hA hO hH hl
  have C : gC E cX2_goodSwaps 4 RX2 p s m _ meth c := C
  have hl : lv_has ls 4 [(0, .ref q)] := hl
  have hx := C.1
  have hb := C.2.1
  have hI := hI.S [19, 20, 21, 23, 31]
  obtain ⟨q_0, mq_0, tq_0, kq_0⟩ := t_fldr hI.1 mq tq td_30 (k := 0) rfl
  have cut8 : ∀ (n : Nat) (fh8 : gF) (H : Heap) (locs : List Loc) (ls : Array Slot) (v8_1 : Int32) (v8_2 : Int32), 6 - v8_2.toInt < (n : Int) → tS E L τ [19, 20, 21, 23, 31] f fh8 → gH E A L fh8 s.heap H locs → rg v8_2 0 6 → lv_has ls 4 [(0, .ref q), (1, .int v8_1), (2, .int v8_2)] → W p l e (gRm (5) 0 0) s m [.ref q].toArray below meth c H locs 0 0 (MQ below (gQi E A (tPi E L τ [19, 20, 21, 23, 31] f (fun r f1 => rg r (-2147483648) 2147483647))) [.ref q].toArray s (gRm (5) 0 0).cells (gRm (5) 0 0).slots A) (F0 m 8 ls []) := by
    intro n
    induction n with
    | zero =>
      intro fh8 H locs ls v8_1 v8_2 hfu8 hI hH r_v8_2 hl
      exact (fu_0 hfu8 r_v8_2).elim
    | succ n ih8 =>
      intro fh8 H locs ls v8_1 v8_2 hfu8 hI hH r_v8_2 hl
      have cut23 : ∀ (n : Nat) (fh23 : gF) (H : Heap) (locs : List Loc) (ls : Array Slot) (v23_1 : Int32) (v23_3 : Int32), 6 - v23_3.toInt < (n : Int) → tS E L τ [19, 20, 21, 23, 31] f fh23 → gH E A L fh23 s.heap H locs → rg v23_3 1 6 → rg v8_2 0 5 → lv_has ls 4 [(0, .ref q), (1, .int v23_1), (2, .int v8_2), (3, .int v23_3)] → W p l e (gRm (5) 0 0) s m [.ref q].toArray below meth c H locs 0 0 (MQ below (gQi E A (tPi E L τ [19, 20, 21, 23, 31] f (fun r f1 => rg r (-2147483648) 2147483647))) [.ref q].toArray s (gRm (5) 0 0).cells (gRm (5) 0 0).slots A) (F0 m 23 ls []) := by
        intro n
        induction n with
        | zero =>
          intro fh23 H locs ls v23_1 v23_3 hfu23 hI hH r_v23_3 r23_v8_2 hl
          exact (fu_0 hfu23 r_v23_3).elim
        | succ n ih23 =>
          intro fh23 H locs ls v23_1 v23_3 hfu23 hI hH r_v23_3 r23_v8_2 hl
          refine lv_iload_n hx hb dX2_goodSwaps_23 rfl (lv_at hl 3 rfl) ?_
          refine lv_aload_n hx hb dX2_goodSwaps_24 rfl (lv_at hl 0 rfl) ?_
          refine t_getX C hH hI.1 mq tq td_30 iX2 rfl 0 (by decide) wd158 rfl (hI.rf kq_0) dX2_goodSwaps_25 ?_
          refine t_geti C hH hI.1 mq_0 tq_0 td_3 iX3 rfl 7 (by decide) wd159 rfl rfl dX2_goodSwaps_28 (fun z1 rz1 => ?_)
          refine lv_icmp_ge (tgt := 52) hx hb dX2_goodSwaps_31 (by decide) (fun c2 => ?_) (fun c2 => ?_)
          · skip
            obtain ⟨z3, ez3⟩ : ∃ y : Int32, y = v8_2 + (1 : Int32) := ⟨_, rfl⟩
            have r4 : rg z3 1 6 := rg_add ez3 r23_v8_2 rl_1 (by decide)
            have a5 : z3.toInt = v8_2.toInt + 1 := ai_add ez3 r23_v8_2 tl_1 (by decide)
            refine lv_iinc (v := z3) (lv' := [(2, .int z3), (0, .ref q), (1, .int v23_1), (3, .int v23_3)]) hx hb dX2_goodSwaps_52 hl (k := 2) rfl (by rw [ez3]; rfl) (by decide) rfl (fun ls hl => ?_)
            refine lv_goto (tgt := 8) hx hb dX2_goodSwaps_55 (by decide) ?_
            exact ih8 _ _ _ _ v23_1 z3 (fu_s hfu8 a5 (by decide)) hI hH (rg_w r4 (by decide)) (lv_sub hl [1, 2, 0] rfl)
          · skip
            have r6 : rg v23_3 1 5 := rf_ltl (n_le c2) r_v23_3 rz1 (by decide)
            have r7 : rg z1 2 6 := rf_ltr (n_le c2) r_v23_3 rz1 (by decide)
            refine lv_aload_n hx hb dX2_goodSwaps_34 rfl (lv_at hl 0 rfl) ?_
            refine lv_iload_n hx hb dX2_goodSwaps_35 rfl (lv_at hl 2 rfl) ?_
            refine lv_iload_n hx hb dX2_goodSwaps_36 rfl (lv_at hl 3 rfl) ?_
            refine t_Vi C hO hl.1 hA hH hI.1 (As := [.int v8_2, .int v23_3]) (rest := []) (t_X2_isGoodSwap l E J τ L fh23 hI.1 mq tq v8_2 r23_v8_2 v23_3 (rg_w r6 (by decide))) my_X2_isGoodSwap wd196 mq tq td_30 rfl rfl rfl (Nat.le_of_ble_eq_true rfl) ⟨Nat.le_of_ble_eq_true rfl, Nat.le_of_ble_eq_true rfl⟩ ⟨rfl, rfl⟩ dX2_goodSwaps_37 (fun r9 L1 f8 H locs hp hH => ?_)
            obtain ⟨rfl, s10, h11⟩ := hp
            have hI := hI.call s10 (by decide)
            refine lv_if_eq (tgt := 46) hx hb dX2_goodSwaps_40 (by decide) (fun c12 => ?_) (fun c12 => ?_)
            · skip
              have r13 : rg r9 0 0 := rf_eql (c_eq c12) h11 rl_0 (by decide)
              obtain ⟨z14, ez14⟩ : ∃ y : Int32, y = v23_3 + (1 : Int32) := ⟨_, rfl⟩
              have r15 : rg z14 2 6 := rg_add ez14 r6 rl_1 (by decide)
              have a16 : z14.toInt = v23_3.toInt + 1 := ai_add ez14 r6 tl_1 (by decide)
              refine lv_iinc (v := z14) (lv' := [(3, .int z14), (0, .ref q), (1, .int v23_1), (2, .int v8_2)]) hx hb dX2_goodSwaps_46 hl (k := 3) rfl (by rw [ez14]; rfl) (by decide) rfl (fun ls hl => ?_)
              refine lv_goto (tgt := 23) hx hb dX2_goodSwaps_49 (by decide) ?_
              exact ih23 _ _ _ _ v23_1 z14 (fu_s hfu23 a16 (by decide)) hI hH (rg_w r15 (by decide)) r23_v8_2 (lv_sub hl [1, 2, 3, 0] rfl)
            · skip
              have r17 : rg r9 1 1 := rf_nel (n_eq c12) h11 rl_0 (by decide)
              obtain ⟨z18, ez18⟩ : ∃ y : Int32, y = v23_1 + (1 : Int32) := ⟨_, rfl⟩
              refine lv_iinc (v := z18) (lv' := [(1, .int z18), (0, .ref q), (2, .int v8_2), (3, .int v23_3)]) hx hb dX2_goodSwaps_43 hl (k := 1) rfl (by rw [ez18]; rfl) (by decide) rfl (fun ls hl => ?_)
              obtain ⟨z19, ez19⟩ : ∃ y : Int32, y = v23_3 + (1 : Int32) := ⟨_, rfl⟩
              have r20 : rg z19 2 6 := rg_add ez19 r6 rl_1 (by decide)
              have a21 : z19.toInt = v23_3.toInt + 1 := ai_add ez19 r6 tl_1 (by decide)
              refine lv_iinc (v := z19) (lv' := [(3, .int z19), (1, .int z18), (0, .ref q), (2, .int v8_2)]) hx hb dX2_goodSwaps_46 hl (k := 3) rfl (by rw [ez19]; rfl) (by decide) rfl (fun ls hl => ?_)
              refine lv_goto (tgt := 23) hx hb dX2_goodSwaps_49 (by decide) ?_
              exact ih23 _ _ _ _ z18 z19 (fu_s hfu23 a21 (by decide)) hI hH (rg_w r20 (by decide)) r23_v8_2 (lv_sub hl [2, 1, 3, 0] rfl)
      refine lv_iload_n hx hb dX2_goodSwaps_8 rfl (lv_at hl 2 rfl) ?_
      refine lv_aload_n hx hb dX2_goodSwaps_9 rfl (lv_at hl 0 rfl) ?_
      refine t_getX C hH hI.1 mq tq td_30 iX2 rfl 0 (by decide) wd158 rfl (hI.rf kq_0) dX2_goodSwaps_10 ?_
      refine t_geti C hH hI.1 mq_0 tq_0 td_3 iX3 rfl 7 (by decide) wd159 rfl rfl dX2_goodSwaps_13 (fun z22 rz22 => ?_)
      refine lv_icmp_ge (tgt := 58) hx hb dX2_goodSwaps_16 (by decide) (fun c23 => ?_) (fun c23 => ?_)
      · skip
        refine lv_iload_n hx hb dX2_goodSwaps_58 rfl (lv_at hl 1 rfl) ?_
        exact g_iret C hr hH (Nat.zero_le _) (Nat.zero_le _) dX2_goodSwaps_59 ⟨rfl, hI, (rg_all _)⟩
      · skip
        have r24 : rg v8_2 0 5 := rf_ltl (n_le c23) r_v8_2 rz22 (by decide)
        have r25 : rg z22 1 6 := rf_ltr (n_le c23) r_v8_2 rz22 (by decide)
        refine lv_iload_n hx hb dX2_goodSwaps_19 rfl (lv_at hl 2 rfl) ?_
        refine lv_iconst (v := (1 : Int32)) hx hb dX2_goodSwaps_20 (by decide) ?_
        refine lv_iadd hx hb dX2_goodSwaps_21 ?_
        refine lv_topi (fun z26 ez26 => ?_)
        have r27 : rg z26 1 6 := rg_add ez26 r24 rl_1 (by decide)
        have a28 : z26.toInt = v8_2.toInt + 1 := ai_add ez26 r24 tl_1 (by decide)
        refine lv_istore_n (lv' := [(3, .int z26), (0, .ref q), (1, .int v8_1), (2, .int v8_2)]) hx hb dX2_goodSwaps_22 rfl hl (by decide) rfl (fun ls hl => ?_)
        exact cut23 6 _ _ _ _ v8_1 z26 (fu_i 6 r27 (by decide)) hI hH r27 r24 (lv_sub hl [1, 2, 3, 0] rfl)
  refine lv_aload_n hx hb dX2_goodSwaps_0 rfl (lv_at hl 0 rfl) ?_
  refine t_Vv C hO hl.1 hA hH hI.1 (As := []) (rest := []) (t_X2_listen l E J τ L f hI.1 mq tq) my_X2_listen wd187 mq tq td_30 rfl rfl rfl (Nat.le_of_ble_eq_true rfl) ⟨Nat.le_of_ble_eq_true rfl, Nat.le_of_ble_eq_true rfl⟩ ⟨rfl, rfl⟩ dX2_goodSwaps_1 (fun L1 f29 H locs hp hH => ?_)
  obtain ⟨rfl, s31, h32⟩ := hp
  have hI := hI.call s31 (by decide)
  refine lv_iconst (v := (0 : Int32)) hx hb dX2_goodSwaps_4 (by decide) ?_
  refine lv_istore_n (lv' := [(1, .int (0 : Int32)), (0, .ref q)]) hx hb dX2_goodSwaps_5 rfl hl (by decide) rfl (fun ls hl => ?_)
  refine lv_iconst (v := (0 : Int32)) hx hb dX2_goodSwaps_6 (by decide) ?_
  refine lv_istore_n (lv' := [(2, .int (0 : Int32)), (1, .int (0 : Int32)), (0, .ref q)]) hx hb dX2_goodSwaps_7 rfl hl (by decide) rfl (fun ls hl => ?_)
  exact cut8 7 _ _ _ _ (0 : Int32) (0 : Int32) (fu_i 7 rl_0 (by decide)) hI hH (rg_w rl_0 (by decide)) (lv_sub hl [2, 1, 0] rfl)
set_option maxHeartbeats 4000000 in
set_option maxRecDepth 100000 in
theorem t_X2_firstSwap (l : Launch) (E : gE) (J : Nat → Nat) (τ : Nat → Nat) (L : List Nat) (f : gF) (hI : tI E L τ f) {q : Nat} (mq : q ∈ L) (tq : τ q = 30) : tMi l E J yX2_firstSwap cX2_firstSwap 3 .int (gRm (5) 0 0) [.ref q] L f (tPi E L τ [19, 20, 21, 23, 31] f (fun r f1 => rg r (-2147483648) 2147483647)) := by
  refine tMi.intro (by decide) (Nat.le_of_ble_eq_true rfl) ?_
  intro p e s m below meth c A ls C hr hA hO hH hl
  have C : gC E cX2_firstSwap 3 RX2 p s m _ meth c := C
  have hl : lv_has ls 3 [(0, .ref q)] := hl
  have hx := C.1
  have hb := C.2.1
  have hI := hI.S [19, 20, 21, 23, 31]
  obtain ⟨q_0, mq_0, tq_0, kq_0⟩ := t_fldr hI.1 mq tq td_30 (k := 0) rfl
  have cut6 : ∀ (n : Nat) (fh6 : gF) (H : Heap) (locs : List Loc) (ls : Array Slot) (v6_1 : Int32), 6 - v6_1.toInt < (n : Int) → tS E L τ [19, 20, 21, 23, 31] f fh6 → gH E A L fh6 s.heap H locs → rg v6_1 0 6 → lv_has ls 3 [(0, .ref q), (1, .int v6_1)] → W p l e (gRm (5) 0 0) s m [.ref q].toArray below meth c H locs 0 0 (MQ below (gQi E A (tPi E L τ [19, 20, 21, 23, 31] f (fun r f1 => rg r (-2147483648) 2147483647))) [.ref q].toArray s (gRm (5) 0 0).cells (gRm (5) 0 0).slots A) (F0 m 6 ls []) := by
    intro n
    induction n with
    | zero =>
      intro fh6 H locs ls v6_1 hfu6 hI hH r_v6_1 hl
      exact (fu_0 hfu6 r_v6_1).elim
    | succ n ih6 =>
      intro fh6 H locs ls v6_1 hfu6 hI hH r_v6_1 hl
      have cut21 : ∀ (n : Nat) (fh21 : gF) (H : Heap) (locs : List Loc) (ls : Array Slot) (v21_2 : Int32), 6 - v21_2.toInt < (n : Int) → tS E L τ [19, 20, 21, 23, 31] f fh21 → gH E A L fh21 s.heap H locs → rg v21_2 1 6 → rg v6_1 0 5 → lv_has ls 3 [(0, .ref q), (1, .int v6_1), (2, .int v21_2)] → W p l e (gRm (5) 0 0) s m [.ref q].toArray below meth c H locs 0 0 (MQ below (gQi E A (tPi E L τ [19, 20, 21, 23, 31] f (fun r f1 => rg r (-2147483648) 2147483647))) [.ref q].toArray s (gRm (5) 0 0).cells (gRm (5) 0 0).slots A) (F0 m 21 ls []) := by
        intro n
        induction n with
        | zero =>
          intro fh21 H locs ls v21_2 hfu21 hI hH r_v21_2 r21_v6_1 hl
          exact (fu_0 hfu21 r_v21_2).elim
        | succ n ih21 =>
          intro fh21 H locs ls v21_2 hfu21 hI hH r_v21_2 r21_v6_1 hl
          refine lv_iload_n hx hb dX2_firstSwap_21 rfl (lv_at hl 2 rfl) ?_
          refine lv_aload_n hx hb dX2_firstSwap_22 rfl (lv_at hl 0 rfl) ?_
          refine t_getX C hH hI.1 mq tq td_30 iX2 rfl 0 (by decide) wd158 rfl (hI.rf kq_0) dX2_firstSwap_23 ?_
          refine t_geti C hH hI.1 mq_0 tq_0 td_3 iX3 rfl 7 (by decide) wd159 rfl rfl dX2_firstSwap_26 (fun z1 rz1 => ?_)
          refine lv_icmp_ge (tgt := 54) hx hb dX2_firstSwap_29 (by decide) (fun c2 => ?_) (fun c2 => ?_)
          · skip
            obtain ⟨z3, ez3⟩ : ∃ y : Int32, y = v6_1 + (1 : Int32) := ⟨_, rfl⟩
            have r4 : rg z3 1 6 := rg_add ez3 r21_v6_1 rl_1 (by decide)
            have a5 : z3.toInt = v6_1.toInt + 1 := ai_add ez3 r21_v6_1 tl_1 (by decide)
            refine lv_iinc (v := z3) (lv' := [(1, .int z3), (0, .ref q), (2, .int v21_2)]) hx hb dX2_firstSwap_54 hl (k := 1) rfl (by rw [ez3]; rfl) (by decide) rfl (fun ls hl => ?_)
            refine lv_goto (tgt := 6) hx hb dX2_firstSwap_57 (by decide) ?_
            exact ih6 _ _ _ _ z3 (fu_s hfu6 a5 (by decide)) hI hH (rg_w r4 (by decide)) (lv_sub hl [1, 0] rfl)
          · skip
            have r6 : rg v21_2 1 5 := rf_ltl (n_le c2) r_v21_2 rz1 (by decide)
            have r7 : rg z1 2 6 := rf_ltr (n_le c2) r_v21_2 rz1 (by decide)
            refine lv_aload_n hx hb dX2_firstSwap_32 rfl (lv_at hl 0 rfl) ?_
            refine lv_iload_n hx hb dX2_firstSwap_33 rfl (lv_at hl 1 rfl) ?_
            refine lv_iload_n hx hb dX2_firstSwap_34 rfl (lv_at hl 2 rfl) ?_
            refine t_Vi C hO hl.1 hA hH hI.1 (As := [.int v6_1, .int v21_2]) (rest := []) (t_X2_isGoodSwap l E J τ L fh21 hI.1 mq tq v6_1 r21_v6_1 v21_2 (rg_w r6 (by decide))) my_X2_isGoodSwap wd196 mq tq td_30 rfl rfl rfl (Nat.le_of_ble_eq_true rfl) ⟨Nat.le_of_ble_eq_true rfl, Nat.le_of_ble_eq_true rfl⟩ ⟨rfl, rfl⟩ dX2_firstSwap_35 (fun r9 L1 f8 H locs hp hH => ?_)
            obtain ⟨rfl, s10, h11⟩ := hp
            have hI := hI.call s10 (by decide)
            refine lv_if_eq (tgt := 48) hx hb dX2_firstSwap_38 (by decide) (fun c12 => ?_) (fun c12 => ?_)
            · skip
              have r13 : rg r9 0 0 := rf_eql (c_eq c12) h11 rl_0 (by decide)
              obtain ⟨z14, ez14⟩ : ∃ y : Int32, y = v21_2 + (1 : Int32) := ⟨_, rfl⟩
              have r15 : rg z14 2 6 := rg_add ez14 r6 rl_1 (by decide)
              have a16 : z14.toInt = v21_2.toInt + 1 := ai_add ez14 r6 tl_1 (by decide)
              refine lv_iinc (v := z14) (lv' := [(2, .int z14), (0, .ref q), (1, .int v6_1)]) hx hb dX2_firstSwap_48 hl (k := 2) rfl (by rw [ez14]; rfl) (by decide) rfl (fun ls hl => ?_)
              refine lv_goto (tgt := 21) hx hb dX2_firstSwap_51 (by decide) ?_
              exact ih21 _ _ _ _ z14 (fu_s hfu21 a16 (by decide)) hI hH (rg_w r15 (by decide)) r21_v6_1 (lv_sub hl [1, 2, 0] rfl)
            · skip
              have r17 : rg r9 1 1 := rf_nel (n_eq c12) h11 rl_0 (by decide)
              refine lv_bipush (v := (10 : Int32)) hx hb dX2_firstSwap_41 (by decide) ?_
              refine lv_iload_n hx hb dX2_firstSwap_43 rfl (lv_at hl 1 rfl) ?_
              refine lv_imul hx hb dX2_firstSwap_44 ?_
              refine lv_topi (fun z18 ez18 => ?_)
              have r19 : rg z18 0 50 := rg_mul ez18 rl_10 r21_v6_1 (by decide)
              refine lv_iload_n hx hb dX2_firstSwap_45 rfl (lv_at hl 2 rfl) ?_
              refine lv_iadd hx hb dX2_firstSwap_46 ?_
              refine lv_topi (fun z20 ez20 => ?_)
              have r21 : rg z20 1 55 := rg_add ez20 r19 r6 (by decide)
              exact g_iret C hr hH (Nat.zero_le _) (Nat.zero_le _) dX2_firstSwap_47 ⟨rfl, hI, (rg_w r21 (by decide))⟩
      refine lv_iload_n hx hb dX2_firstSwap_6 rfl (lv_at hl 1 rfl) ?_
      refine lv_aload_n hx hb dX2_firstSwap_7 rfl (lv_at hl 0 rfl) ?_
      refine t_getX C hH hI.1 mq tq td_30 iX2 rfl 0 (by decide) wd158 rfl (hI.rf kq_0) dX2_firstSwap_8 ?_
      refine t_geti C hH hI.1 mq_0 tq_0 td_3 iX3 rfl 7 (by decide) wd159 rfl rfl dX2_firstSwap_11 (fun z22 rz22 => ?_)
      refine lv_icmp_ge (tgt := 60) hx hb dX2_firstSwap_14 (by decide) (fun c23 => ?_) (fun c23 => ?_)
      · skip
        refine lv_iconst (v := (-1 : Int32)) hx hb dX2_firstSwap_60 (by decide) ?_
        exact g_iret C hr hH (Nat.zero_le _) (Nat.zero_le _) dX2_firstSwap_61 ⟨rfl, hI, (rg_w rl_m1 (by decide))⟩
      · skip
        have r24 : rg v6_1 0 5 := rf_ltl (n_le c23) r_v6_1 rz22 (by decide)
        have r25 : rg z22 1 6 := rf_ltr (n_le c23) r_v6_1 rz22 (by decide)
        refine lv_iload_n hx hb dX2_firstSwap_17 rfl (lv_at hl 1 rfl) ?_
        refine lv_iconst (v := (1 : Int32)) hx hb dX2_firstSwap_18 (by decide) ?_
        refine lv_iadd hx hb dX2_firstSwap_19 ?_
        refine lv_topi (fun z26 ez26 => ?_)
        have r27 : rg z26 1 6 := rg_add ez26 r24 rl_1 (by decide)
        have a28 : z26.toInt = v6_1.toInt + 1 := ai_add ez26 r24 tl_1 (by decide)
        refine lv_istore_n (lv' := [(2, .int z26), (0, .ref q), (1, .int v6_1)]) hx hb dX2_firstSwap_20 rfl hl (by decide) rfl (fun ls hl => ?_)
        exact cut21 6 _ _ _ _ z26 (fu_i 6 r27 (by decide)) hI hH r27 r24 (lv_sub hl [1, 2, 0] rfl)
  refine lv_aload_n hx hb dX2_firstSwap_0 rfl (lv_at hl 0 rfl) ?_
  refine t_Vv C hO hl.1 hA hH hI.1 (As := []) (rest := []) (t_X2_listen l E J τ L f hI.1 mq tq) my_X2_listen wd187 mq tq td_30 rfl rfl rfl (Nat.le_of_ble_eq_true rfl) ⟨Nat.le_of_ble_eq_true rfl, Nat.le_of_ble_eq_true rfl⟩ ⟨rfl, rfl⟩ dX2_firstSwap_1 (fun L1 f29 H locs hp hH => ?_)
  obtain ⟨rfl, s31, h32⟩ := hp
  have hI := hI.call s31 (by decide)
  refine lv_iconst (v := (0 : Int32)) hx hb dX2_firstSwap_4 (by decide) ?_
  refine lv_istore_n (lv' := [(1, .int (0 : Int32)), (0, .ref q)]) hx hb dX2_firstSwap_5 rfl hl (by decide) rfl (fun ls hl => ?_)
  exact cut6 7 _ _ _ _ (0 : Int32) (fu_i 7 rl_0 (by decide)) hI hH (rg_w rl_0 (by decide)) (lv_sub hl [1, 0] rfl)
