/-! texts -/
theorem str_all : ∀ w ∈ gStr, 1 ≤ w.2.2 ∧ w.2.2 ≤ 6 := by decide +kernel
theorem str_rg {w : Nat × String × Nat} (h : w ∈ gStr) {z : Int32} (e : z = nI w.2.2) : rg z 1 6 := by
  obtain ⟨h1, h2⟩ := str_all w h
  unfold rg
  rw [e, nI_toInt (by omega)]
  omega
theorem ch_all : ∀ n : Fin 256, narrow .char (.int (Int32.ofNat n.val)) = .int (Int32.ofNat n.val) := by decide +kernel
theorem rg_ch {r : Int32} (h : rg r 0 255) : narrow .char (.int r) = .int r := by
  obtain ⟨n, hn, h2, -⟩ := rg_nat h
  have h3 := ch_all ⟨n, by have := h.2; omega⟩
  simp only at h3
  rw [hn]
  exact h3
theorem i2c_all : ∀ n : Fin 256, ((Int32.ofNat n.val).toUInt32 % 65536).toInt32 = Int32.ofNat n.val := by decide +kernel
theorem i2c_rg {x z : Int32} (h : rg x 0 255) (e : z = (x.toUInt32 % 65536).toInt32) : rg z 0 255 := by
  obtain ⟨n, hn, h2, -⟩ := rg_nat h
  have h3 := i2c_all ⟨n, by have := h.2; omega⟩
  simp only at h3
  rw [e, hn, h3, ← hn]
  exact h
theorem rg_eq {x c : Int32} {n : Int} (h : rg x n n) (hc : c.toInt = n) : x = c := Int32.toInt_inj.mp (by unfold rg at h; omega)
theorem shr0 {x y z : Int32} (h : rg x 1 6) (hy : rg y 0 0) (e : z = x >>> (y &&& 31)) : z = x := by
  rw [rg_eq (c := 0) hy (by decide)] at e
  obtain ⟨n, hn, h2, -⟩ := rg_nat (rg_w h (by decide) : rg x 0 6)
  have key : ∀ k : Fin 7, (Int32.ofNat k.val) >>> ((0 : Int32) &&& 31) = Int32.ofNat k.val := by decide +kernel
  have h3 := key ⟨n, by have := h.2; omega⟩
  simp only at h3
  rw [e, hn, h3]
theorem iw_ix {st sp z16 r i r2 z : Int32} {n : Nat} (rst : rg st 0 800) (rsp : rg sp 0 800) (hw : sp.toInt - st.toInt = (nI n).toInt) (hi : i.toInt < r2.toInt) (hr2 : r2 = nI n) (e : z = st + i) (ri : rg i 0 6) : rg z 0 799 := by
  rw [hr2] at hi
  unfold rg at *
  rw [e, Int32.toInt_add, bmI (by omega) (by omega)]
  omega
theorem iw_eq {st sp z r : Int32} {n : Nat} (rst : rg st 0 800) (rsp : rg sp 0 800) (e : z = sp - st) (h : z.toInt = r.toInt) (hr : r = nI n) : sp.toInt - st.toInt = (nI n).toInt := by
  unfold rg at *
  rw [← hr, ← h, e, Int32.toInt_sub, bmI (by omega) (by omega)]
section TS
variable {p : Program} {l : Launch} {e : Env} {R : Room} {s : State} {m : MethodId} {args : Array Value} {below : List Frame} {meth : Method} {c : Code} {H : Heap} {locs : List Loc} {Q : State → Prop}
variable {E : gE} {J : Nat → Nat} {cc : ByteArray} {nl : Nat} {own : String} {A : Nat → Prop} {L : List Nat} {τ : Nat → Nat} {f : gF} {pc : Nat} {ls : Array Slot} {rest : List Value}
theorem s_fact (hO : oW J A s s.heap) {w : Nat × String × Nat} (hw : w ∈ gStr) : oS (J (2 * w.1)) (J (2 * w.1 + 1)) w.2.2 A s s.heap := (hO.2.2.2 w hw).2
theorem t_ViS (C : gC E cc nl own p s m args meth c) (hO : oW J A s s.heap) (hls : ls.size = nl) (hA : ∀ q, s.heap.size ≤ q → A q) (hH : gH E A L f s.heap H locs) {w : Nat × String × Nat} (hw : w ∈ gStr) {y : MethodName} {bytes : ByteArray} {maxL n index : Nat} {ret : FieldType} {rm : Room} {As st0 : List Value} {post : Int32 → List Nat → gF → Prop} (M : tMi l E J y bytes maxL ret rm (.ref (J (2 * w.1)) :: As) L f post) (wy : gWV "java/lang/String" y bytes maxL (some ret) n) (hl : Cond.methodLink own index y ∈ gW) (hn : As.length = n) (hst : st0 = As.reverse ++ .ref (J (2 * w.1)) :: rest) (hw8 : (rest.map fun v => v.category).sum ≤ 8) (hR : rm.frames + 1 ≤ R.frames ∧ 8 + (maxL + 11) + rm.locals ≤ R.locals) (hz : rm.cells = 0 ∧ rm.slots = 0) (hdg : decode cc pc = .ok (.invokevirtual index, 3))
    (kk : ∀ (r : Int32) (L1 : List Nat) (f1 : gF) (H1 : Heap) (locs1 : List Loc), post r L1 f1 → gH E A L1 f1 s.heap H1 locs1 → W p l e R s m args below meth c H1 locs1 0 0 Q (F0 m (pc + 3) ls (.int r :: rest))) : W p l e R s m args below meth c H locs 0 0 Q (F0 m pc ls st0) := by
  have hrec : ∃ cellB : Cell, H[J (2 * w.1)]? = some cellB ∧ cellB.vm.isStatics = false ∧ s.vm.findClass "java/lang/String" = some cellB.cls := by
    obtain ⟨cell, h1, h2, h3, -⟩ := (s_fact hO hw).1.kept hH.2.2.2.1
    exact ⟨cell, h1, h2, h3⟩
  exact t_callI hz hH hA (va_runV (As := As) (b := J (2 * w.1)) (rest := rest) ⟨C.1, C.2.1, C.2.2.1, C.2.2.2.1, C.2.2.2.2.1⟩ (M H.size) (g_cwV C.2.2.2.2.1 wy hl hR) ⟨t_blind, hrec, t_pre C hO hA hH _⟩ rfl hn hls hst (lv_room hw8) hdg ⟨by rw [hz.1]; exact Nat.zero_le _, by rw [hz.2]; exact Nat.zero_le _⟩) kk
end TS
set_option maxHeartbeats 4000000 in
set_option maxRecDepth 100000 in
theorem t_J0_coder_7d493 (l : Launch) (E : gE) (J : Nat → Nat) (τ : Nat → Nat) (L : List Nat) (f : gF) (hI : tI E L τ f) (p0 : Nat × String × Nat) (hp0 : p0 ∈ gStr) : tMi l E J yJ0_coder_7d493 cJ0_coder_7d493 1 .byte (gRm (1) 0 0) [.ref (J (2 * p0.1))] L f (tPi E L τ [] f (fun r f1 => rg r 0 0)) := by
  refine tMi.intro (by decide) (Nat.le_of_ble_eq_true rfl) ?_
  intro p e s m below meth c A ls C hr hA hO hH hl
  have C : gC E cJ0_coder_7d493 1 "java/lang/String" p s m _ meth c := C
  have hl : lv_has ls 1 [(0, .ref (J (2 * p0.1)))] := hl
  have hx := C.1
  have hb := C.2.1
  have hI := hI.S []
  refine va_gets hx hb hO.2.1 hH.2.2 C.2.2.2.1 (C.2.2.2.2.1 _ wd306) (fun _ h => h) dJ0_coder_7d493_0 ?_
  refine lv_if_eq (tgt := 13) hx hb dJ0_coder_7d493_3 (by decide) (fun h => absurd h (by decide)) (fun _ => ?_)
  refine lv_aload_n hx hb dJ0_coder_7d493_6 rfl (lv_at hl 0 rfl) ?_
  refine vk_getf hx hb (s_fact hO hp0).2.1 hH.2.2 C.2.2.2.1 (C.2.2.2.2.1 _ wd307) (fun _ h => h) dJ0_coder_7d493_7 ?_
  refine lv_goto (tgt := 14) hx hb dJ0_coder_7d493_10 (by decide) ?_
  exact g_zret C hr rfl hH (Nat.zero_le _) (Nat.zero_le _) dJ0_coder_7d493_14 ⟨rfl, hI, rl_0⟩
set_option maxHeartbeats 4000000 in
set_option maxRecDepth 100000 in
theorem t_J0_length_8abf5 (l : Launch) (E : gE) (J : Nat → Nat) (τ : Nat → Nat) (L : List Nat) (f : gF) (hI : tI E L τ f) (p0 : Nat × String × Nat) (hp0 : p0 ∈ gStr) : tMi l E J yJ0_length_8abf5 cJ0_length_8abf5 1 .int (gRm (2) 0 0) [.ref (J (2 * p0.1))] L f (tPi E L τ [] f (fun r f1 => rg r 1 6 ∧ (r = nI p0.2.2))) := by
  refine tMi.intro (by decide) (Nat.le_of_ble_eq_true rfl) ?_
  intro p e s m below meth c A ls C hr hA hO hH hl
  have C : gC E cJ0_length_8abf5 1 "java/lang/String" p s m _ meth c := C
  have hl : lv_has ls 1 [(0, .ref (J (2 * p0.1)))] := hl
  have hx := C.1
  have hb := C.2.1
  have hI := hI.S []
  refine lv_aload_n hx hb dJ0_length_8abf5_0 rfl (lv_at hl 0 rfl) ?_
  refine vk_getf hx hb (s_fact hO hp0).2.2.1 hH.2.2 C.2.2.2.1 (C.2.2.2.2.1 _ wd308) (fun _ h => h) dJ0_length_8abf5_1 ?_
  obtain ⟨bsz1, hTz1⟩ := (s_fact hO hp0).2.2.2
  refine va_tlen hx hb hTz1 hH.2.2 (v := nI p0.2.2) rfl dJ0_length_8abf5_4 ?_
  refine lv_topi (fun z1 ez1 => ?_)
  have r2 : rg z1 1 6 := str_rg hp0 ez1
  refine lv_aload_n hx hb dJ0_length_8abf5_5 rfl (lv_at hl 0 rfl) ?_
  refine t_ViS C hO hl.1 hA hH hp0 (As := []) (rest := [.int z1]) (t_J0_coder_7d493 l E J τ L f hI.1 p0 hp0) my_J0_coder_7d493 wd313 rfl rfl (Nat.le_of_ble_eq_true rfl) ⟨Nat.le_of_ble_eq_true rfl, Nat.le_of_ble_eq_true rfl⟩ ⟨rfl, rfl⟩ dJ0_length_8abf5_6 (fun r4 L1 f3 H locs hp hH => ?_)
  obtain ⟨rfl, s5, h6⟩ := hp
  have hI := hI.call s5 (by decide)
  refine lv_ishr hx hb dJ0_length_8abf5_9 ?_
  refine lv_topi (fun z7 ez7 => ?_)
  have q0 := shr0 r2 h6 ez7
  have q1 : rg z7 1 6 := by rw [q0]; exact r2
  exact g_iret C hr hH (Nat.zero_le _) (Nat.zero_le _) dJ0_length_8abf5_10 ⟨rfl, hI, ⟨q1, (q0.trans ez1)⟩⟩
set_option maxHeartbeats 4000000 in
set_option maxRecDepth 100000 in
theorem t_J0_isLatin1_aae02 (l : Launch) (E : gE) (J : Nat → Nat) (τ : Nat → Nat) (L : List Nat) (f : gF) (hI : tI E L τ f) (p0 : Nat × String × Nat) (hp0 : p0 ∈ gStr) : tMi l E J yJ0_isLatin1_aae02 cJ0_isLatin1_aae02 1 .boolean (gRm (1) 0 0) [.ref (J (2 * p0.1))] L f (tPi E L τ [] f (fun r f1 => rg r 1 1)) := by
  refine tMi.intro (by decide) (Nat.le_of_ble_eq_true rfl) ?_
  intro p e s m below meth c A ls C hr hA hO hH hl
  have C : gC E cJ0_isLatin1_aae02 1 "java/lang/String" p s m _ meth c := C
  have hl : lv_has ls 1 [(0, .ref (J (2 * p0.1)))] := hl
  have hx := C.1
  have hb := C.2.1
  have hI := hI.S []
  refine va_gets hx hb hO.2.1 hH.2.2 C.2.2.2.1 (C.2.2.2.2.1 _ wd306) (fun _ h => h) dJ0_isLatin1_aae02_0 ?_
  refine lv_if_eq (tgt := 17) hx hb dJ0_isLatin1_aae02_3 (by decide) (fun h => absurd h (by decide)) (fun _ => ?_)
  refine lv_aload_n hx hb dJ0_isLatin1_aae02_6 rfl (lv_at hl 0 rfl) ?_
  refine vk_getf hx hb (s_fact hO hp0).2.1 hH.2.2 C.2.2.2.1 (C.2.2.2.2.1 _ wd307) (fun _ h => h) dJ0_isLatin1_aae02_7 ?_
  refine lv_if_ne (tgt := 17) hx hb dJ0_isLatin1_aae02_10 (by decide) (fun h => absurd (by decide) h) (fun _ => ?_)
  refine lv_iconst (v := (1 : Int32)) hx hb dJ0_isLatin1_aae02_13 (by decide) ?_
  refine lv_goto (tgt := 18) hx hb dJ0_isLatin1_aae02_14 (by decide) ?_
  exact g_zret C hr (rg_z (rg_w rl_1 (by decide))) hH (Nat.zero_le _) (Nat.zero_le _) dJ0_isLatin1_aae02_18 ⟨rfl, hI, rl_1⟩
set_option maxHeartbeats 4000000 in
set_option maxRecDepth 100000 in
theorem t_ckN (l : Launch) (E : gE) (J : Nat → Nat) (τ : Nat → Nat) (L : List Nat) (f : gF) (hI : tI E L τ f) (p0 : Int32) (rp0 : rg p0 0 2147483647) (p1 : Int32) (hlt : p0.toInt < p1.toInt) : tMi l E J yJ3_checkIndex_8e157 cJ3_checkIndex_8e157 3 .int (gRm (1) 0 0) [.int p0, .int p1, .null] L f (tPi E L τ [] f (fun r f1 => rg r (-2147483648) 2147483647)) := by
  refine tMi.intro (by decide) (Nat.le_of_ble_eq_true rfl) ?_
  intro p e s m below meth c A ls C hr hA hO hH hl
  have C : gC E cJ3_checkIndex_8e157 3 "jdk/internal/util/Preconditions" p s m _ meth c := C
  have hl : lv_has ls 3 [(0, .int p0), (1, .int p1), (2, .null)] := hl
  have hx := C.1
  have hb := C.2.1
  have hI := hI.S []
  refine lv_iload_n hx hb dJ3_checkIndex_8e157_0 rfl (lv_at hl 0 rfl) ?_
  refine lv_if_lt (tgt := 9) hx hb dJ3_checkIndex_8e157_1 (by decide) (fun c1 => ?_) (fun c1 => ?_)
  · skip
    exact (rg_no (show rg p0 0 (-1) from rf_ltl (c_lt c1) rp0 rl_0 (by decide)) (by decide)).elim
  · skip
    refine lv_iload_n hx hb dJ3_checkIndex_8e157_4 rfl (lv_at hl 0 rfl) ?_
    refine lv_iload_n hx hb dJ3_checkIndex_8e157_5 rfl (lv_at hl 1 rfl) ?_
    refine lv_icmp_lt (tgt := 16) hx hb dJ3_checkIndex_8e157_6 (by decide) (fun c2 => ?_) (fun c2 => ?_)
    · skip
      have r3 : rg p0 0 2147483646 := rf_ltl (c_lt c2) rp0 (rg_all _) (by decide)
      have r4 : rg p1 1 2147483647 := rf_ltr (c_lt c2) rp0 (rg_all _) (by decide)
      refine lv_iload_n hx hb dJ3_checkIndex_8e157_16 rfl (lv_at hl 0 rfl) ?_
      exact g_iret C hr hH (Nat.zero_le _) (Nat.zero_le _) dJ3_checkIndex_8e157_17 ⟨rfl, hI, (rg_w r3 (by decide))⟩
    · skip
      exact absurd hlt (Int.not_lt.mpr (n_lt c2))
set_option maxHeartbeats 4000000 in
set_option maxRecDepth 100000 in
theorem t_ckX (l : Launch) (E : gE) (J : Nat → Nat) (τ : Nat → Nat) (L : List Nat) (f : gF) (hI : tI E L τ f) (p0 : Int32) (rp0 : rg p0 0 2147483647) (p1 : Int32) (p2 : Nat) (hlt : p0.toInt < p1.toInt) : tMi l E J yJ3_checkIndex_8e157 cJ3_checkIndex_8e157 3 .int (gRm (1) 0 0) [.int p0, .int p1, .ref p2] L f (tPi E L τ [] f (fun r f1 => rg r (-2147483648) 2147483647)) := by
  refine tMi.intro (by decide) (Nat.le_of_ble_eq_true rfl) ?_
  intro p e s m below meth c A ls C hr hA hO hH hl
  have C : gC E cJ3_checkIndex_8e157 3 "jdk/internal/util/Preconditions" p s m _ meth c := C
  have hl : lv_has ls 3 [(0, .int p0), (1, .int p1), (2, .ref p2)] := hl
  have hx := C.1
  have hb := C.2.1
  have hI := hI.S []
  refine lv_iload_n hx hb dJ3_checkIndex_8e157_0 rfl (lv_at hl 0 rfl) ?_
  refine lv_if_lt (tgt := 9) hx hb dJ3_checkIndex_8e157_1 (by decide) (fun c1 => ?_) (fun c1 => ?_)
  · skip
    exact (rg_no (show rg p0 0 (-1) from rf_ltl (c_lt c1) rp0 rl_0 (by decide)) (by decide)).elim
  · skip
    refine lv_iload_n hx hb dJ3_checkIndex_8e157_4 rfl (lv_at hl 0 rfl) ?_
    refine lv_iload_n hx hb dJ3_checkIndex_8e157_5 rfl (lv_at hl 1 rfl) ?_
    refine lv_icmp_lt (tgt := 16) hx hb dJ3_checkIndex_8e157_6 (by decide) (fun c2 => ?_) (fun c2 => ?_)
    · skip
      have r3 : rg p0 0 2147483646 := rf_ltl (c_lt c2) rp0 (rg_all _) (by decide)
      have r4 : rg p1 1 2147483647 := rf_ltr (c_lt c2) rp0 (rg_all _) (by decide)
      refine lv_iload_n hx hb dJ3_checkIndex_8e157_16 rfl (lv_at hl 0 rfl) ?_
      exact g_iret C hr hH (Nat.zero_le _) (Nat.zero_le _) dJ3_checkIndex_8e157_17 ⟨rfl, hI, (rg_w r3 (by decide))⟩
    · skip
      exact absurd hlt (Int.not_lt.mpr (n_lt c2))
set_option maxHeartbeats 4000000 in
set_option maxRecDepth 100000 in
theorem t_J0_checkIndex_df160 (l : Launch) (E : gE) (J : Nat → Nat) (τ : Nat → Nat) (L : List Nat) (f : gF) (hI : tI E L τ f) (p0 : Int32) (rp0 : rg p0 0 2147483647) (p1 : Int32) (hlt : p0.toInt < p1.toInt) : tMv l E J yJ0_checkIndex_df160 cJ0_checkIndex_df160 2 (gRm (2) 0 0) [.int p0, .int p1] L f (tPv E L τ [] f (fun f1 => True)) := by
  refine tMv.intro (by decide) (Nat.le_of_ble_eq_true rfl) ?_
  intro p e s m below meth c A ls C hr hA hO hH hl
  have C : gC E cJ0_checkIndex_df160 2 "java/lang/String" p s m _ meth c := C
  have hl : lv_has ls 2 [(0, .int p0), (1, .int p1)] := hl
  have hx := C.1
  have hb := C.2.1
  have hI := hI.S []
  refine lv_iload_n hx hb dJ0_checkIndex_df160_0 rfl (lv_at hl 0 rfl) ?_
  refine lv_iload_n hx hb dJ0_checkIndex_df160_1 rfl (lv_at hl 1 rfl) ?_
  rcases hO.2.2.1 with hZ | ⟨t0, hZ⟩
  · refine va_gets hx hb hZ hH.2.2 C.2.2.2.1 (C.2.2.2.2.1 _ wd314) (fun _ h => h) dJ0_checkIndex_df160_2 ?_
    refine t_Si C hO hl.1 hA hH (As := [.int p0, .int p1, .null]) (rest := []) (t_ckN l E J τ L f hI.1 p0 rp0 p1 hlt) my_J3_checkIndex_8e157 wd318 rfl rfl (Nat.le_of_ble_eq_true rfl) ⟨Nat.le_of_ble_eq_true rfl, Nat.le_of_ble_eq_true rfl⟩ ⟨rfl, rfl⟩ dJ0_checkIndex_df160_5 (fun r2 L1 f1 H locs hp hH => ?_)
    obtain ⟨rfl, s3, h4⟩ := hp
    have hI := hI.call s3 (by decide)
    refine lv_pop hx hb dJ0_checkIndex_df160_8 rfl ?_
    exact g_vret C hr hH (Nat.zero_le _) (Nat.zero_le _) dJ0_checkIndex_df160_9 ⟨rfl, hI, trivial⟩
  · refine va_gets hx hb hZ hH.2.2 C.2.2.2.1 (C.2.2.2.2.1 _ wd314) (fun _ h => h) dJ0_checkIndex_df160_2 ?_
    refine t_Si C hO hl.1 hA hH (As := [.int p0, .int p1, .ref t0]) (rest := []) (t_ckX l E J τ L f hI.1 p0 rp0 p1 t0 hlt) my_J3_checkIndex_8e157 wd318 rfl rfl (Nat.le_of_ble_eq_true rfl) ⟨Nat.le_of_ble_eq_true rfl, Nat.le_of_ble_eq_true rfl⟩ ⟨rfl, rfl⟩ dJ0_checkIndex_df160_5 (fun r6 L1 f5 H locs hp hH => ?_)
    obtain ⟨rfl, s7, h8⟩ := hp
    have hI := hI.call s7 (by decide)
    refine lv_pop hx hb dJ0_checkIndex_df160_8 rfl ?_
    exact g_vret C hr hH (Nat.zero_le _) (Nat.zero_le _) dJ0_checkIndex_df160_9 ⟨rfl, hI, trivial⟩
set_option maxHeartbeats 4000000 in
set_option maxRecDepth 100000 in
theorem t_J1_charAt_3b067 (l : Launch) (E : gE) (J : Nat → Nat) (τ : Nat → Nat) (L : List Nat) (f : gF) (hI : tI E L τ f) (p0 : Nat × String × Nat) (hp0 : p0 ∈ gStr) (p1 : Int32) (rp1 : rg p1 0 2147483647) (hlt : p1.toInt < (nI p0.2.2).toInt) : tMi l E J yJ1_charAt_3b067 cJ1_charAt_3b067 2 .char (gRm (3) 0 0) [.ref (J (2 * p0.1 + 1)), .int p1] L f (tPi E L τ [] f (fun r f1 => rg r 0 255)) := by
  refine tMi.intro (by decide) (Nat.le_of_ble_eq_true rfl) ?_
  intro p e s m below meth c A ls C hr hA hO hH hl
  have C : gC E cJ1_charAt_3b067 2 "java/lang/StringLatin1" p s m _ meth c := C
  have hl : lv_has ls 2 [(0, .ref (J (2 * p0.1 + 1))), (1, .int p1)] := hl
  have hx := C.1
  have hb := C.2.1
  have hI := hI.S []
  have hin : vp_in p1 p0.2.2 := vp_in_iff.mpr ⟨rp1.1, by have := str_all p0 hp0; rw [nI_toInt (by omega)] at hlt; exact hlt⟩
  refine lv_iload_n hx hb dJ1_charAt_3b067_0 rfl (lv_at hl 1 rfl) ?_
  refine lv_aload_n hx hb dJ1_charAt_3b067_1 rfl (lv_at hl 0 rfl) ?_
  obtain ⟨bsz1, hTz1⟩ := (s_fact hO hp0).2.2.2
  refine va_tlen hx hb hTz1 hH.2.2 (v := nI p0.2.2) rfl dJ1_charAt_3b067_2 ?_
  refine lv_topi (fun z1 ez1 => ?_)
  have r2 : rg z1 1 6 := str_rg hp0 ez1
  refine t_Sv C hO hl.1 hA hH (As := [.int p1, .int z1]) (rest := []) (t_J0_checkIndex_df160 l E J τ L f hI.1 p1 rp1 z1 (by rw [ez1]; exact hlt)) my_J0_checkIndex_df160 wd321 rfl rfl (Nat.le_of_ble_eq_true rfl) ⟨Nat.le_of_ble_eq_true rfl, Nat.le_of_ble_eq_true rfl⟩ ⟨rfl, rfl⟩ dJ1_charAt_3b067_3 (fun L1 f3 H locs hp hH => ?_)
  obtain ⟨rfl, s5, h6⟩ := hp
  have hI := hI.call s5 (by decide)
  refine lv_aload_n hx hb dJ1_charAt_3b067_6 rfl (lv_at hl 0 rfl) ?_
  refine lv_iload_n hx hb dJ1_charAt_3b067_7 rfl (lv_at hl 1 rfl) ?_
  obtain ⟨bsz7, hTz7⟩ := (s_fact hO hp0).2.2.2
  refine va_tb hx hb hTz7 hH.2.2 hin rfl dJ1_charAt_3b067_8 ?_
  refine lv_topi (fun z7 ez7 => ?_)
  refine lv_sipush (v := (255 : Int32)) hx hb dJ1_charAt_3b067_9 (by decide) ?_
  refine lv_iand hx hb dJ1_charAt_3b067_12 ?_
  refine lv_topi (fun z8 ez8 => ?_)
  have r9 : rg z8 0 255 := rg_andr ez8 rl_255 (by decide)
  refine lv_i2c (v := _) hx hb dJ1_charAt_3b067_13 rfl ?_
  refine lv_topi (fun z10 ez10 => ?_)
  have r11 : rg z10 0 255 := i2c_rg r9 ez10
  exact g_zret C hr (rg_ch r11) hH (Nat.zero_le _) (Nat.zero_le _) dJ1_charAt_3b067_14 ⟨rfl, hI, r11⟩
set_option maxHeartbeats 4000000 in
set_option maxRecDepth 100000 in
theorem t_J0_charAt_5068e (l : Launch) (E : gE) (J : Nat → Nat) (τ : Nat → Nat) (L : List Nat) (f : gF) (hI : tI E L τ f) (p0 : Nat × String × Nat) (hp0 : p0 ∈ gStr) (p1 : Int32) (rp1 : rg p1 0 2147483647) (hlt : p1.toInt < (nI p0.2.2).toInt) : tMi l E J yJ0_charAt_5068e cJ0_charAt_5068e 2 .char (gRm (4) 0 0) [.ref (J (2 * p0.1)), .int p1] L f (tPi E L τ [] f (fun r f1 => rg r 0 255)) := by
  refine tMi.intro (by decide) (Nat.le_of_ble_eq_true rfl) ?_
  intro p e s m below meth c A ls C hr hA hO hH hl
  have C : gC E cJ0_charAt_5068e 2 "java/lang/String" p s m _ meth c := C
  have hl : lv_has ls 2 [(0, .ref (J (2 * p0.1))), (1, .int p1)] := hl
  have hx := C.1
  have hb := C.2.1
  have hI := hI.S []
  refine lv_aload_n hx hb dJ0_charAt_5068e_0 rfl (lv_at hl 0 rfl) ?_
  refine t_ViS C hO hl.1 hA hH hp0 (As := []) (rest := []) (t_J0_isLatin1_aae02 l E J τ L f hI.1 p0 hp0) my_J0_isLatin1_aae02 wd325 rfl rfl (Nat.le_of_ble_eq_true rfl) ⟨Nat.le_of_ble_eq_true rfl, Nat.le_of_ble_eq_true rfl⟩ ⟨rfl, rfl⟩ dJ0_charAt_5068e_1 (fun r2 L1 f1 H locs hp hH => ?_)
  obtain ⟨rfl, s3, h4⟩ := hp
  have hI := hI.call s3 (by decide)
  refine lv_if_eq (tgt := 16) hx hb dJ0_charAt_5068e_4 (by decide) (fun c5 => ?_) (fun c5 => ?_)
  · skip
    exact (rg_no (show rg r2 1 0 from rf_eql (c_eq c5) h4 rl_0 (by decide)) (by decide)).elim
  · skip
    refine lv_aload_n hx hb dJ0_charAt_5068e_7 rfl (lv_at hl 0 rfl) ?_
    refine vk_getf hx hb (s_fact hO hp0).2.2.1 hH.2.2 C.2.2.2.1 (C.2.2.2.2.1 _ wd308) (fun _ h => h) dJ0_charAt_5068e_8 ?_
    refine lv_iload_n hx hb dJ0_charAt_5068e_11 rfl (lv_at hl 1 rfl) ?_
    refine t_Si C hO hl.1 hA hH (As := [.ref (J (2 * p0.1 + 1)), .int p1]) (rest := []) (t_J1_charAt_3b067 l E J τ L f1 hI.1 p0 hp0 p1 rp1 hlt) my_J1_charAt_3b067 wd329 rfl rfl (Nat.le_of_ble_eq_true rfl) ⟨Nat.le_of_ble_eq_true rfl, Nat.le_of_ble_eq_true rfl⟩ ⟨rfl, rfl⟩ dJ0_charAt_5068e_12 (fun r7 L1 f6 H locs hp hH => ?_)
    obtain ⟨rfl, s8, h9⟩ := hp
    have hI := hI.call s8 (by decide)
    exact g_zret C hr (rg_ch h9) hH (Nat.zero_le _) (Nat.zero_le _) dJ0_charAt_5068e_15 ⟨rfl, hI, h9⟩
set_option maxHeartbeats 4000000 in
set_option maxRecDepth 100000 in
theorem t_X5_kindOf (l : Launch) (E : gE) (J : Nat → Nat) (τ : Nat → Nat) (L : List Nat) (f : gF) (hI : tI E L τ f) (p0 : Int32) : tMi l E J yX5_kindOf cX5_kindOf 1 .int (gRm (1) 0 0) [.int p0] L f (tPi E L τ [] f (fun r f1 => rg r (-2147483648) 2147483647)) := by
  refine tMi.intro (by decide) (Nat.le_of_ble_eq_true rfl) ?_
  intro p e s m below meth c A ls C hr hA hO hH hl
  have C : gC E cX5_kindOf 1 RX5 p s m _ meth c := C
  have hl : lv_has ls 1 [(0, .int p0)] := hl
  have hx := C.1
  have hb := C.2.1
  have hI := hI.S []
  have cut28 : ∀ (fh28 : gF) (H : Heap) (locs : List Loc) (ls : Array Slot) , tS E L τ [] f fh28 → gH E A L fh28 s.heap H locs → lv_has ls 1 [(0, .int p0)] → W p l e (gRm (1) 0 0) s m [.int p0].toArray below meth c H locs 0 0 (MQ below (gQi E A (tPi E L τ [] f (fun r f1 => rg r (-2147483648) 2147483647))) [.int p0].toArray s (gRm (1) 0 0).cells (gRm (1) 0 0).slots A) (F0 m 28 ls []) := by
    intro fh28 H locs ls hI hH hl
    have cut42 : ∀ (fh42 : gF) (H : Heap) (locs : List Loc) (ls : Array Slot) , tS E L τ [] f fh42 → gH E A L fh42 s.heap H locs → lv_has ls 1 [(0, .int p0)] → W p l e (gRm (1) 0 0) s m [.int p0].toArray below meth c H locs 0 0 (MQ below (gQi E A (tPi E L τ [] f (fun r f1 => rg r (-2147483648) 2147483647))) [.int p0].toArray s (gRm (1) 0 0).cells (gRm (1) 0 0).slots A) (F0 m 42 ls []) := by
      intro fh42 H locs ls hI hH hl
      refine lv_iload_n hx hb dX5_kindOf_42 rfl (lv_at hl 0 rfl) ?_
      refine lv_bipush (v := (59 : Int32)) hx hb dX5_kindOf_43 (by decide) ?_
      refine lv_icmp_ne (tgt := 52) hx hb dX5_kindOf_45 (by decide) (fun c1 => ?_) (fun c1 => ?_)
      · skip
        refine lv_iconst (v := (5 : Int32)) hx hb dX5_kindOf_52 (by decide) ?_
        exact g_iret C hr hH (Nat.zero_le _) (Nat.zero_le _) dX5_kindOf_53 ⟨rfl, hI, (rg_w rl_5 (by decide))⟩
      · skip
        have r2 : rg p0 59 59 := rf_eql (c_eq c1) (rg_all _) rl_59 (by decide)
        refine lv_iconst (v := (3 : Int32)) hx hb dX5_kindOf_48 (by decide) ?_
        refine lv_goto (tgt := 53) hx hb dX5_kindOf_49 (by decide) ?_
        exact g_iret C hr hH (Nat.zero_le _) (Nat.zero_le _) dX5_kindOf_53 ⟨rfl, hI, (rg_w rl_3 (by decide))⟩
    refine lv_iload_n hx hb dX5_kindOf_28 rfl (lv_at hl 0 rfl) ?_
    refine lv_bipush (v := (48 : Int32)) hx hb dX5_kindOf_29 (by decide) ?_
    refine lv_icmp_lt (tgt := 42) hx hb dX5_kindOf_31 (by decide) (fun c3 => ?_) (fun c3 => ?_)
    · skip
      have r4 : rg p0 (-2147483648) 47 := rf_ltl (c_lt c3) (rg_all _) rl_48 (by decide)
      exact cut42 _ _ _ _ hI hH (lv_sub hl [0] rfl)
    · skip
      have r5 : rg p0 48 2147483647 := rf_ler (n_lt c3) rl_48 (rg_all _) (by decide)
      refine lv_iload_n hx hb dX5_kindOf_34 rfl (lv_at hl 0 rfl) ?_
      refine lv_bipush (v := (57 : Int32)) hx hb dX5_kindOf_35 (by decide) ?_
      refine lv_icmp_gt (tgt := 42) hx hb dX5_kindOf_37 (by decide) (fun c6 => ?_) (fun c6 => ?_)
      · skip
        have r7 : rg p0 58 2147483647 := rf_ltr (c_lt c6) rl_57 r5 (by decide)
        exact cut42 _ _ _ _ hI hH (lv_sub hl [0] rfl)
      · skip
        have r8 : rg p0 48 57 := rf_lel (n_lt c6) r5 rl_57 (by decide)
        refine lv_iconst (v := (2 : Int32)) hx hb dX5_kindOf_40 (by decide) ?_
        exact g_iret C hr hH (Nat.zero_le _) (Nat.zero_le _) dX5_kindOf_41 ⟨rfl, hI, (rg_w rl_2 (by decide))⟩
  refine lv_iload_n hx hb dX5_kindOf_0 rfl (lv_at hl 0 rfl) ?_
  refine lv_bipush (v := (32 : Int32)) hx hb dX5_kindOf_1 (by decide) ?_
  refine lv_icmp_eq (tgt := 12) hx hb dX5_kindOf_3 (by decide) (fun c9 => ?_) (fun c9 => ?_)
  · skip
    have r10 : rg p0 32 32 := rf_eql (c_eq c9) (rg_all _) rl_32 (by decide)
    refine lv_iconst (v := (4 : Int32)) hx hb dX5_kindOf_12 (by decide) ?_
    exact g_iret C hr hH (Nat.zero_le _) (Nat.zero_le _) dX5_kindOf_13 ⟨rfl, hI, (rg_w rl_4 (by decide))⟩
  · skip
    refine lv_iload_n hx hb dX5_kindOf_6 rfl (lv_at hl 0 rfl) ?_
    refine lv_bipush (v := (10 : Int32)) hx hb dX5_kindOf_7 (by decide) ?_
    refine lv_icmp_ne (tgt := 14) hx hb dX5_kindOf_9 (by decide) (fun c11 => ?_) (fun c11 => ?_)
    · skip
      refine lv_iload_n hx hb dX5_kindOf_14 rfl (lv_at hl 0 rfl) ?_
      refine lv_bipush (v := (97 : Int32)) hx hb dX5_kindOf_15 (by decide) ?_
      refine lv_icmp_lt (tgt := 28) hx hb dX5_kindOf_17 (by decide) (fun c12 => ?_) (fun c12 => ?_)
      · skip
        have r13 : rg p0 (-2147483648) 96 := rf_ltl (c_lt c12) (rg_all _) rl_97 (by decide)
        exact cut28 _ _ _ _ hI hH (lv_sub hl [0] rfl)
      · skip
        have r14 : rg p0 97 2147483647 := rf_ler (n_lt c12) rl_97 (rg_all _) (by decide)
        refine lv_iload_n hx hb dX5_kindOf_20 rfl (lv_at hl 0 rfl) ?_
        refine lv_bipush (v := (122 : Int32)) hx hb dX5_kindOf_21 (by decide) ?_
        refine lv_icmp_gt (tgt := 28) hx hb dX5_kindOf_23 (by decide) (fun c15 => ?_) (fun c15 => ?_)
        · skip
          have r16 : rg p0 123 2147483647 := rf_ltr (c_lt c15) rl_122 r14 (by decide)
          exact cut28 _ _ _ _ hI hH (lv_sub hl [0] rfl)
        · skip
          have r17 : rg p0 97 122 := rf_lel (n_lt c15) r14 rl_122 (by decide)
          refine lv_iconst (v := (1 : Int32)) hx hb dX5_kindOf_26 (by decide) ?_
          exact g_iret C hr hH (Nat.zero_le _) (Nat.zero_le _) dX5_kindOf_27 ⟨rfl, hI, (rg_w rl_1 (by decide))⟩
    · skip
      have r18 : rg p0 10 10 := rf_eql (c_eq c11) (rg_all _) rl_10 (by decide)
      refine lv_iconst (v := (4 : Int32)) hx hb dX5_kindOf_12 (by decide) ?_
      exact g_iret C hr hH (Nat.zero_le _) (Nat.zero_le _) dX5_kindOf_13 ⟨rfl, hI, (rg_w rl_4 (by decide))⟩
set_option maxHeartbeats 4000000 in
set_option maxRecDepth 100000 in
theorem t_X5_refuse (l : Launch) (E : gE) (J : Nat → Nat) (τ : Nat → Nat) (L : List Nat) (f : gF) (hI : tI E L τ f) {q : Nat} (mq : q ∈ L) (tq : τ q = 14) (p1 : Int32) : tMv l E J yX5_refuse cX5_refuse 2 (gRm (1) 0 0) [.ref q, .int p1] L f (tPv E L τ [14] f (fun f1 => True)) := by
  refine tMv.intro (by decide) (Nat.le_of_ble_eq_true rfl) ?_
  intro p e s m below meth c A ls C hr hA hO hH hl
  have C : gC E cX5_refuse 2 RX5 p s m _ meth c := C
  have hl : lv_has ls 2 [(0, .ref q), (1, .int p1)] := hl
  have hx := C.1
  have hb := C.2.1
  have hI := hI.S [14]
  refine lv_aload_n hx hb dX5_refuse_0 rfl (lv_at hl 0 rfl) ?_
  refine t_geti C hH hI.1 mq tq td_14 iX5 rfl 5 (by decide) wd330 rfl rfl dX5_refuse_1 (fun z1 rz1 => ?_)
  refine lv_if_ne (tgt := 20) hx hb dX5_refuse_4 (by decide) (fun c2 => ?_) (fun c2 => ?_)
  · skip
    exact g_vret C hr hH (Nat.zero_le _) (Nat.zero_le _) dX5_refuse_20 ⟨rfl, hI, trivial⟩
  · skip
    have r3 : rg z1 0 0 := rf_eql (c_eq c2) rz1 rl_0 (by decide)
    refine lv_aload_n hx hb dX5_refuse_7 rfl (lv_at hl 0 rfl) ?_
    refine lv_iload_n hx hb dX5_refuse_8 rfl (lv_at hl 1 rfl) ?_
    refine t_put C hH hI mq tq (by decide) td_14 iX5 tyX5 tyX5_ok nmX5 rfl 5 (by decide) wd330 rfl rfl (v := .int p1) rfl rfl rfl ⟨_, rfl, (rg_all _)⟩ (fun _ h => nomatch h) dX5_refuse_9 (fun f4 H locs hH hI nf4 of4 bf4 => ?_)
    refine lv_aload_n hx hb dX5_refuse_12 rfl (lv_at hl 0 rfl) ?_
    refine lv_aload_n hx hb dX5_refuse_13 rfl (lv_at hl 0 rfl) ?_
    refine t_geti C hH hI.1 mq tq td_14 iX5 rfl 3 (by decide) wd331 rfl rfl dX5_refuse_14 (fun z5 rz5 => ?_)
    refine t_put C hH hI mq tq (by decide) td_14 iX5 tyX5 tyX5_ok nmX5 rfl 6 (by decide) wd332 rfl rfl (v := .int z5) rfl rfl rfl ⟨_, rfl, (rg_w rz5 (by decide))⟩ (fun _ h => nomatch h) dX5_refuse_17 (fun f6 H locs hH hI nf6 of6 bf6 => ?_)
    exact g_vret C hr hH (Nat.zero_le _) (Nat.zero_le _) dX5_refuse_20 ⟨rfl, hI, trivial⟩
set_option maxHeartbeats 4000000 in
set_option maxRecDepth 100000 in
theorem t_X5_isWord (l : Launch) (E : gE) (J : Nat → Nat) (τ : Nat → Nat) (L : List Nat) (f : gF) (hI : tI E L τ f) {q : Nat} (mq : q ∈ L) (tq : τ q = 14) (p1 : Nat × String × Nat) (hp1 : p1 ∈ gStr) : tMi l E J yX5_isWord cX5_isWord 3 .boolean (gRm (5) 0 0) [.ref q, .ref (J (2 * p1.1))] L f (tPi E L τ [] f (fun r f1 => rg r 0 1)) := by
  refine tMi.intro (by decide) (Nat.le_of_ble_eq_true rfl) ?_
  intro p e s m below meth c A ls C hr hA hO hH hl
  have C : gC E cX5_isWord 3 RX5 p s m _ meth c := C
  have hl : lv_has ls 3 [(0, .ref q), (1, .ref (J (2 * p1.1)))] := hl
  have hx := C.1
  have hb := C.2.1
  have hI := hI.S []
  obtain ⟨q_0, mq_0, tq_0, kq_0⟩ := t_fldr hI.1 mq tq td_14 (k := 0) rfl
  obtain ⟨q_0_0, mq_0_0, tq_0_0, kq_0_0⟩ := t_fldr hI.1 mq_0 tq_0 td_1 (k := 0) rfl
  obtain ⟨st0, rst0, kst0⟩ := t_fldi hI.1 mq tq td_14 (k := 3) rfl
  obtain ⟨sp0, rsp0, ksp0⟩ := t_fldi hI.1 mq tq td_14 (k := 4) rfl
  have cut28 : ∀ (n : Nat) (fh28 : gF) (H : Heap) (locs : List Loc) (ls : Array Slot) (v28_2 : Int32), 6 - v28_2.toInt < (n : Int) → tS E L τ [] f fh28 → gH E A L fh28 s.heap H locs → rg v28_2 0 6 → sp0.toInt - st0.toInt = (nI p1.2.2).toInt → lv_has ls 3 [(0, .ref q), (1, .ref (J (2 * p1.1))), (2, .int v28_2)] → W p l e (gRm (5) 0 0) s m [.ref q, .ref (J (2 * p1.1))].toArray below meth c H locs 0 0 (MQ below (gQi E A (tPi E L τ [] f (fun r f1 => rg r 0 1))) [.ref q, .ref (J (2 * p1.1))].toArray s (gRm (5) 0 0).cells (gRm (5) 0 0).slots A) (F0 m 28 ls []) := by
    intro n
    induction n with
    | zero =>
      intro fh28 H locs ls v28_2 hfu28 hI hH r_v28_2 F28_wl hl
      exact (fu_0 hfu28 r_v28_2).elim
    | succ n ih28 =>
      intro fh28 H locs ls v28_2 hfu28 hI hH r_v28_2 F28_wl hl
      refine lv_iload_n hx hb dX5_isWord_28 rfl (lv_at hl 2 rfl) ?_
      refine lv_aload_n hx hb dX5_isWord_29 rfl (lv_at hl 1 rfl) ?_
      refine t_ViS C hO hl.1 hA hH hp1 (As := []) (rest := [.int v28_2]) (t_J0_length_8abf5 l E J τ L fh28 hI.1 p1 hp1) my_J0_length_8abf5 wd336 rfl rfl (Nat.le_of_ble_eq_true rfl) ⟨Nat.le_of_ble_eq_true rfl, Nat.le_of_ble_eq_true rfl⟩ ⟨rfl, rfl⟩ dX5_isWord_30 (fun r2 L1 f1 H locs hp hH => ?_)
      obtain ⟨rfl, s3, h4⟩ := hp
      have hJ := hI
      have hI := hI.call s3 (by decide)
      refine lv_icmp_ge (tgt := 66) hx hb dX5_isWord_33 (by decide) (fun c5 => ?_) (fun c5 => ?_)
      · skip
        have r6 : rg v28_2 1 6 := rf_ler (c_le c5) h4.1 r_v28_2 (by decide)
        refine lv_iconst (v := (1 : Int32)) hx hb dX5_isWord_66 (by decide) ?_
        exact g_zret C hr (rg_z (rg_w rl_1 (by decide))) hH (Nat.zero_le _) (Nat.zero_le _) dX5_isWord_67 ⟨rfl, hI, (rg_w rl_1 (by decide))⟩
      · skip
        have r7 : rg v28_2 0 5 := rf_ltl (n_le c5) r_v28_2 h4.1 (by decide)
        refine lv_aload_n hx hb dX5_isWord_36 rfl (lv_at hl 0 rfl) ?_
        refine t_getX C hH hI.1 mq tq td_14 iX5 rfl 0 (by decide) wd337 rfl (hI.rf kq_0) dX5_isWord_37 ?_
        refine t_getX C hH hI.1 mq_0 tq_0 td_1 iX8 rfl 0 (by decide) wd338 rfl (hI.rf kq_0_0) dX5_isWord_40 ?_
        refine lv_aload_n hx hb dX5_isWord_43 rfl (lv_at hl 0 rfl) ?_
        refine t_getX C hH hI.1 mq tq td_14 iX5 rfl 3 (by decide) wd331 rfl (fld.eq kst0 (hI.fr q mq (t_lim tq rfl))) dX5_isWord_44 ?_
        refine lv_iload_n hx hb dX5_isWord_47 rfl (lv_at hl 2 rfl) ?_
        refine lv_iadd hx hb dX5_isWord_48 ?_
        refine lv_topi (fun z8 ez8 => ?_)
        have r9 : rg z8 0 805 := rg_add ez8 rst0 r7 (by decide)
        have r10 : rg z8 0 799 := iw_ix (z16 := 0) (r := 0) rst0 rsp0 F28_wl (n_le c5) h4.2 ez8 (rg_w r7 (by decide))
        refine t_bald C hH hI.1 mq_0_0 tq_0_0 td_2 (rg_in r10 (by decide)) dX5_isWord_49 (fun z11 => ?_)
        refine lv_aload_n hx hb dX5_isWord_50 rfl (lv_at hl 1 rfl) ?_
        refine lv_iload_n hx hb dX5_isWord_51 rfl (lv_at hl 2 rfl) ?_
        refine t_ViS C hO hl.1 hA hH hp1 (As := [.int v28_2]) (rest := [.int z11]) (t_J0_charAt_5068e l E J τ L f1 hI.1 p1 hp1 v28_2 (rg_w r7 (by decide)) (by rw [← h4.2]; exact n_le c5)) my_J0_charAt_5068e wd342 rfl rfl (Nat.le_of_ble_eq_true rfl) ⟨Nat.le_of_ble_eq_true rfl, Nat.le_of_ble_eq_true rfl⟩ ⟨rfl, rfl⟩ dX5_isWord_52 (fun r13 L1 f12 H locs hp hH => ?_)
        obtain ⟨rfl, s14, h15⟩ := hp
        have hI := hI.call s14 (by decide)
        refine lv_icmp_eq (tgt := 60) hx hb dX5_isWord_55 (by decide) (fun c16 => ?_) (fun c16 => ?_)
        · skip
          have r17 : rg z11 0 255 := rf_eql (c_eq c16) (rg_all _) h15 (by decide)
          obtain ⟨z18, ez18⟩ : ∃ y : Int32, y = v28_2 + (1 : Int32) := ⟨_, rfl⟩
          have r19 : rg z18 1 6 := rg_add ez18 r7 rl_1 (by decide)
          have a20 : z18.toInt = v28_2.toInt + 1 := ai_add ez18 r7 tl_1 (by decide)
          refine lv_iinc (v := z18) (lv' := [(2, .int z18), (0, .ref q), (1, .ref (J (2 * p1.1)))]) hx hb dX5_isWord_60 hl (k := 2) rfl (by rw [ez18]; rfl) (by decide) rfl (fun ls hl => ?_)
          refine lv_goto (tgt := 28) hx hb dX5_isWord_63 (by decide) ?_
          exact ih28 _ _ _ _ z18 (fu_s hfu28 a20 (by decide)) hI hH (rg_w r19 (by decide)) F28_wl (lv_sub hl [1, 2, 0] rfl)
        · skip
          refine lv_iconst (v := (0 : Int32)) hx hb dX5_isWord_58 (by decide) ?_
          exact g_zret C hr (rg_z (rg_w rl_0 (by decide))) hH (Nat.zero_le _) (Nat.zero_le _) dX5_isWord_59 ⟨rfl, hI, (rg_w rl_0 (by decide))⟩
  refine lv_aload_n hx hb dX5_isWord_0 rfl (lv_at hl 0 rfl) ?_
  refine t_geti C hH hI.1 mq tq td_14 iX5 rfl 2 (by decide) wd343 rfl rfl dX5_isWord_1 (fun z21 rz21 => ?_)
  refine lv_iconst (v := (1 : Int32)) hx hb dX5_isWord_4 (by decide) ?_
  refine lv_icmp_ne (tgt := 24) hx hb dX5_isWord_5 (by decide) (fun c22 => ?_) (fun c22 => ?_)
  · skip
    refine lv_iconst (v := (0 : Int32)) hx hb dX5_isWord_24 (by decide) ?_
    exact g_zret C hr (rg_z (rg_w rl_0 (by decide))) hH (Nat.zero_le _) (Nat.zero_le _) dX5_isWord_25 ⟨rfl, hI, (rg_w rl_0 (by decide))⟩
  · skip
    have r23 : rg z21 1 1 := rf_eql (c_eq c22) rz21 rl_1 (by decide)
    refine lv_aload_n hx hb dX5_isWord_8 rfl (lv_at hl 0 rfl) ?_
    refine t_getX C hH hI.1 mq tq td_14 iX5 rfl 4 (by decide) wd344 rfl (fld.eq ksp0 (hI.fr q mq (t_lim tq rfl))) dX5_isWord_9 ?_
    refine lv_aload_n hx hb dX5_isWord_12 rfl (lv_at hl 0 rfl) ?_
    refine t_getX C hH hI.1 mq tq td_14 iX5 rfl 3 (by decide) wd331 rfl (fld.eq kst0 (hI.fr q mq (t_lim tq rfl))) dX5_isWord_13 ?_
    refine lv_isub hx hb dX5_isWord_16 ?_
    refine lv_topi (fun z24 ez24 => ?_)
    have r25 : rg z24 (-800) 800 := rg_sub ez24 rsp0 rst0 (by decide)
    refine lv_aload_n hx hb dX5_isWord_17 rfl (lv_at hl 1 rfl) ?_
    refine t_ViS C hO hl.1 hA hH hp1 (As := []) (rest := [.int z24]) (t_J0_length_8abf5 l E J τ L f hI.1 p1 hp1) my_J0_length_8abf5 wd336 rfl rfl (Nat.le_of_ble_eq_true rfl) ⟨Nat.le_of_ble_eq_true rfl, Nat.le_of_ble_eq_true rfl⟩ ⟨rfl, rfl⟩ dX5_isWord_18 (fun r27 L1 f26 H locs hp hH => ?_)
    obtain ⟨rfl, s28, h29⟩ := hp
    have hJ := hI
    have hI := hI.call s28 (by decide)
    refine lv_icmp_eq (tgt := 26) hx hb dX5_isWord_21 (by decide) (fun c30 => ?_) (fun c30 => ?_)
    · skip
      have r31 : rg z24 1 6 := rf_eql (c_eq c30) r25 h29.1 (by decide)
      have F32 := iw_eq rst0 rsp0 ez24 (c_eq c30) h29.2
      refine lv_iconst (v := (0 : Int32)) hx hb dX5_isWord_26 (by decide) ?_
      refine lv_istore_n (lv' := [(2, .int (0 : Int32)), (0, .ref q), (1, .ref (J (2 * p1.1)))]) hx hb dX5_isWord_27 rfl hl (by decide) rfl (fun ls hl => ?_)
      exact cut28 7 _ _ _ _ (0 : Int32) (fu_i 7 rl_0 (by decide)) hI hH (rg_w rl_0 (by decide)) F32 (lv_sub hl [1, 2, 0] rfl)
    · skip
      refine lv_iconst (v := (0 : Int32)) hx hb dX5_isWord_24 (by decide) ?_
      exact g_zret C hr (rg_z (rg_w rl_0 (by decide))) hH (Nat.zero_le _) (Nat.zero_le _) dX5_isWord_25 ⟨rfl, hI, (rg_w rl_0 (by decide))⟩
set_option maxHeartbeats 4000000 in
set_option maxRecDepth 100000 in
theorem t_X5_numberRead (l : Launch) (E : gE) (J : Nat → Nat) (τ : Nat → Nat) (L : List Nat) (f : gF) (hI : tI E L τ f) {q : Nat} (mq : q ∈ L) (tq : τ q = 14) : tMi l E J yX5_numberRead cX5_numberRead 3 .int (gRm (2) 0 0) [.ref q] L f (tPi E L τ [] f (fun r f1 => rg r (-2147483648) 2147483647)) := by
  refine tMi.intro (by decide) (Nat.le_of_ble_eq_true rfl) ?_
  intro p e s m below meth c A ls C hr hA hO hH hl
  have C : gC E cX5_numberRead 3 RX5 p s m _ meth c := C
  have hl : lv_has ls 3 [(0, .ref q)] := hl
  have hx := C.1
  have hb := C.2.1
  have hI := hI.S []
  obtain ⟨q_0, mq_0, tq_0, kq_0⟩ := t_fldr hI.1 mq tq td_14 (k := 0) rfl
  obtain ⟨q_0_0, mq_0_0, tq_0_0, kq_0_0⟩ := t_fldr hI.1 mq_0 tq_0 td_1 (k := 0) rfl
  have cut7 : ∀ (n : Nat) (fh7 : gF) (H : Heap) (locs : List Loc) (ls : Array Slot) (v7_1 : Int32) (v7_2 : Int32), 800 - v7_2.toInt < (n : Int) → tS E L τ [] f fh7 → gH E A L fh7 s.heap H locs → rg v7_1 (-2147483648) 1000 → rg v7_2 0 800 → lv_has ls 3 [(0, .ref q), (1, .int v7_1), (2, .int v7_2)] → W p l e (gRm (2) 0 0) s m [.ref q].toArray below meth c H locs 0 0 (MQ below (gQi E A (tPi E L τ [] f (fun r f1 => rg r (-2147483648) 2147483647))) [.ref q].toArray s (gRm (2) 0 0).cells (gRm (2) 0 0).slots A) (F0 m 7 ls []) := by
    intro n
    induction n with
    | zero =>
      intro fh7 H locs ls v7_1 v7_2 hfu7 hI hH r_v7_1 r_v7_2 hl
      exact (fu_0 hfu7 r_v7_2).elim
    | succ n ih7 =>
      intro fh7 H locs ls v7_1 v7_2 hfu7 hI hH r_v7_1 r_v7_2 hl
      refine lv_iload_n hx hb dX5_numberRead_7 rfl (lv_at hl 2 rfl) ?_
      refine lv_aload_n hx hb dX5_numberRead_8 rfl (lv_at hl 0 rfl) ?_
      refine t_geti C hH hI.1 mq tq td_14 iX5 rfl 4 (by decide) wd344 rfl rfl dX5_numberRead_9 (fun z1 rz1 => ?_)
      refine lv_icmp_ge (tgt := 45) hx hb dX5_numberRead_12 (by decide) (fun c2 => ?_) (fun c2 => ?_)
      · skip
        refine lv_iload_n hx hb dX5_numberRead_45 rfl (lv_at hl 1 rfl) ?_
        exact g_iret C hr hH (Nat.zero_le _) (Nat.zero_le _) dX5_numberRead_46 ⟨rfl, hI, (rg_w r_v7_1 (by decide))⟩
      · skip
        have r3 : rg v7_2 0 799 := rf_ltl (n_le c2) r_v7_2 rz1 (by decide)
        have r4 : rg z1 1 800 := rf_ltr (n_le c2) r_v7_2 rz1 (by decide)
        refine lv_sipush (v := (1000 : Int32)) hx hb dX5_numberRead_15 (by decide) ?_
        refine lv_iload_n hx hb dX5_numberRead_18 rfl (lv_at hl 1 rfl) ?_
        refine lv_bipush (v := (10 : Int32)) hx hb dX5_numberRead_19 (by decide) ?_
        refine lv_imul hx hb dX5_numberRead_21 ?_
        refine lv_topi (fun z5 ez5 => ?_)
        refine lv_aload_n hx hb dX5_numberRead_22 rfl (lv_at hl 0 rfl) ?_
        refine t_getX C hH hI.1 mq tq td_14 iX5 rfl 0 (by decide) wd337 rfl (hI.rf kq_0) dX5_numberRead_23 ?_
        refine t_getX C hH hI.1 mq_0 tq_0 td_1 iX8 rfl 0 (by decide) wd338 rfl (hI.rf kq_0_0) dX5_numberRead_26 ?_
        refine lv_iload_n hx hb dX5_numberRead_29 rfl (lv_at hl 2 rfl) ?_
        refine t_bald C hH hI.1 mq_0_0 tq_0_0 td_2 (rg_in r3 (by decide)) dX5_numberRead_30 (fun z6 => ?_)
        refine lv_iadd hx hb dX5_numberRead_31 ?_
        refine lv_topi (fun z7 ez7 => ?_)
        refine lv_bipush (v := (48 : Int32)) hx hb dX5_numberRead_32 (by decide) ?_
        refine lv_isub hx hb dX5_numberRead_34 ?_
        refine lv_topi (fun z8 ez8 => ?_)
        refine va_mmin hx hb (C.2.2.1.trans hl.1.symm) C.2.2.2.1 (C.2.2.2.2.1 _ wd345) (C.2.2.2.2.1 _ wd346) (C.2.2.2.2.1 _ wd37) (C.2.2.2.2.1 _ wd347) (Nat.le_of_ble_eq_true rfl) (Nat.le_of_ble_eq_true rfl) (Nat.le_of_ble_eq_true rfl) (Nat.le_of_ble_eq_true rfl) dX5_numberRead_35 ?_
        refine lv_topi (fun z9 ez9 => ?_)
        have r10 : rg z9 (-2147483648) 1000 := rg_min ez9 rl_1000 (rg_all _) (by decide)
        refine lv_istore_n (lv' := [(1, .int z9), (0, .ref q), (2, .int v7_2)]) hx hb dX5_numberRead_38 rfl hl (by decide) rfl (fun ls hl => ?_)
        obtain ⟨z11, ez11⟩ : ∃ y : Int32, y = v7_2 + (1 : Int32) := ⟨_, rfl⟩
        have r12 : rg z11 1 800 := rg_add ez11 r3 rl_1 (by decide)
        have a13 : z11.toInt = v7_2.toInt + 1 := ai_add ez11 r3 tl_1 (by decide)
        refine lv_iinc (v := z11) (lv' := [(2, .int z11), (1, .int z9), (0, .ref q)]) hx hb dX5_numberRead_39 hl (k := 2) rfl (by rw [ez11]; rfl) (by decide) rfl (fun ls hl => ?_)
        refine lv_goto (tgt := 7) hx hb dX5_numberRead_42 (by decide) ?_
        exact ih7 _ _ _ _ z9 z11 (fu_s hfu7 a13 (by decide)) hI hH r10 (rg_w r12 (by decide)) (lv_sub hl [2, 1, 0] rfl)
  refine lv_iconst (v := (0 : Int32)) hx hb dX5_numberRead_0 (by decide) ?_
  refine lv_istore_n (lv' := [(1, .int (0 : Int32)), (0, .ref q)]) hx hb dX5_numberRead_1 rfl hl (by decide) rfl (fun ls hl => ?_)
  refine lv_aload_n hx hb dX5_numberRead_2 rfl (lv_at hl 1 rfl) ?_
  refine t_geti C hH hI.1 mq tq td_14 iX5 rfl 3 (by decide) wd331 rfl rfl dX5_numberRead_3 (fun z14 rz14 => ?_)
  refine lv_istore_n (lv' := [(2, .int z14), (1, .int (0 : Int32)), (0, .ref q)]) hx hb dX5_numberRead_6 rfl hl (by decide) rfl (fun ls hl => ?_)
  exact cut7 801 _ _ _ _ (0 : Int32) z14 (fu_i 801 rz14 (by decide)) hI hH (rg_w rl_0 (by decide)) rz14 (lv_sub hl [2, 1, 0] rfl)
set_option maxHeartbeats 4000000 in
set_option maxRecDepth 100000 in
theorem t_X5_advance (l : Launch) (E : gE) (J : Nat → Nat) (τ : Nat → Nat) (L : List Nat) (f : gF) (hI : tI E L τ f) {q : Nat} (mq : q ∈ L) (tq : τ q = 14) : tMv l E J yX5_advance cX5_advance 1 (gRm (2) 0 0) [.ref q] L f (tPv E L τ [14] f (fun f1 => True)) := by
  refine tMv.intro (by decide) (Nat.le_of_ble_eq_true rfl) ?_
  intro p e s m below meth c A ls C hr hA hO hH hl
  have C : gC E cX5_advance 1 RX5 p s m _ meth c := C
  have hl : lv_has ls 1 [(0, .ref q)] := hl
  have hx := C.1
  have hb := C.2.1
  have hI := hI.S [14]
  obtain ⟨q_0, mq_0, tq_0, kq_0⟩ := t_fldr hI.1 mq tq td_14 (k := 0) rfl
  obtain ⟨q_0_0, mq_0_0, tq_0_0, kq_0_0⟩ := t_fldr hI.1 mq_0 tq_0 td_1 (k := 0) rfl
  have cut8 : ∀ (n : Nat) (fh8 : gF) (H : Heap) (locs : List Loc) (ls : Array Slot) (g8_0 : Int32), 800 - g8_0.toInt < (n : Int) → tS E L τ [14] f fh8 → gH E A L fh8 s.heap H locs → rg g8_0 0 800 → fld fh8 q 3 (.int g8_0) → lv_has ls 1 [(0, .ref q)] → W p l e (gRm (2) 0 0) s m [.ref q].toArray below meth c H locs 0 0 (MQ below (gQv E A (tPv E L τ [14] f (fun f1 => True))) [.ref q].toArray s (gRm (2) 0 0).cells (gRm (2) 0 0).slots A) (F0 m 8 ls []) := by
    intro n
    induction n with
    | zero =>
      intro fh8 H locs ls g8_0 hfu8 hI hH Gr8_0 G8_0 hl
      exact (fu_0 hfu8 Gr8_0).elim
    | succ n ih8 =>
      intro fh8 H locs ls g8_0 hfu8 hI hH Gr8_0 G8_0 hl
      have cut54 : ∀ (fh54 : gF) (H : Heap) (locs : List Loc) (ls : Array Slot) (g54_0 : Int32), tS E L τ [14] f fh54 → gH E A L fh54 s.heap H locs → rg g54_0 0 800 → fld fh54 q 3 (.int g54_0) → lv_has ls 1 [(0, .ref q)] → W p l e (gRm (2) 0 0) s m [.ref q].toArray below meth c H locs 0 0 (MQ below (gQv E A (tPv E L τ [14] f (fun f1 => True))) [.ref q].toArray s (gRm (2) 0 0).cells (gRm (2) 0 0).slots A) (F0 m 54 ls []) := by
        intro fh54 H locs ls g54_0 hI hH Gr54_0 G54_0 hl
        have cut127 : ∀ (n : Nat) (fh127 : gF) (H : Heap) (locs : List Loc) (ls : Array Slot) (g127_0 : Int32), 800 - g127_0.toInt < (n : Int) → tS E L τ [14] f fh127 → gH E A L fh127 s.heap H locs → rg g127_0 0 800 → fld fh127 q 4 (.int g127_0) → lv_has ls 1 [(0, .ref q)] → W p l e (gRm (2) 0 0) s m [.ref q].toArray below meth c H locs 0 0 (MQ below (gQv E A (tPv E L τ [14] f (fun f1 => True))) [.ref q].toArray s (gRm (2) 0 0).cells (gRm (2) 0 0).slots A) (F0 m 127 ls []) := by
          intro n
          induction n with
          | zero =>
            intro fh127 H locs ls g127_0 hfu127 hI hH Gr127_0 G127_0 hl
            exact (fu_0 hfu127 Gr127_0).elim
          | succ n ih127 =>
            intro fh127 H locs ls g127_0 hfu127 hI hH Gr127_0 G127_0 hl
            refine lv_aload_n hx hb dX5_advance_127 rfl (lv_at hl 0 rfl) ?_
            refine t_getX C hH hI.1 mq tq td_14 iX5 rfl 4 (by decide) wd344 rfl G127_0 dX5_advance_128 ?_
            refine lv_aload_n hx hb dX5_advance_131 rfl (lv_at hl 0 rfl) ?_
            refine t_getX C hH hI.1 mq tq td_14 iX5 rfl 0 (by decide) wd337 rfl (hI.rf kq_0) dX5_advance_132 ?_
            obtain ⟨z1, rz1, kz1⟩ := t_fldi hI.1 mq_0 tq_0 td_1 (k := 1) rfl
            refine t_getX C hH hI.1 mq_0 tq_0 td_1 iX8 rfl 1 (by decide) wd348 rfl kz1 dX5_advance_135 ?_
            refine lv_icmp_ge (tgt := 176) hx hb dX5_advance_138 (by decide) (fun c2 => ?_) (fun c2 => ?_)
            · skip
              exact g_vret C hr hH (Nat.zero_le _) (Nat.zero_le _) dX5_advance_176 ⟨rfl, hI, trivial⟩
            · skip
              have r3 : rg g127_0 0 799 := rf_ltl (n_le c2) Gr127_0 rz1 (by decide)
              have r4 : rg z1 1 800 := rf_ltr (n_le c2) Gr127_0 rz1 (by decide)
              refine lv_aload_n hx hb dX5_advance_141 rfl (lv_at hl 0 rfl) ?_
              refine t_getX C hH hI.1 mq tq td_14 iX5 rfl 0 (by decide) wd337 rfl (hI.rf kq_0) dX5_advance_142 ?_
              refine t_getX C hH hI.1 mq_0 tq_0 td_1 iX8 rfl 0 (by decide) wd338 rfl (hI.rf kq_0_0) dX5_advance_145 ?_
              refine lv_aload_n hx hb dX5_advance_148 rfl (lv_at hl 0 rfl) ?_
              refine t_getX C hH hI.1 mq tq td_14 iX5 rfl 4 (by decide) wd344 rfl G127_0 dX5_advance_149 ?_
              refine t_bald C hH hI.1 mq_0_0 tq_0_0 td_2 (rg_in r3 (by decide)) dX5_advance_152 (fun z5 => ?_)
              refine t_Si C hO hl.1 hA hH (As := [.int z5]) (rest := []) (t_X5_kindOf l E J τ L fh127 hI.1 z5) my_X5_kindOf wd352 rfl rfl (Nat.le_of_ble_eq_true rfl) ⟨Nat.le_of_ble_eq_true rfl, Nat.le_of_ble_eq_true rfl⟩ ⟨rfl, rfl⟩ dX5_advance_153 (fun r7 L1 f6 H locs hp hH => ?_)
              obtain ⟨rfl, s8, h9⟩ := hp
              have hI := hI.call s8 (by decide)
              have k10 : fld f6 q 4 (.int g127_0) := fld.eq G127_0 (s8.fr q mq (t_lim tq rfl))
              have k11 : fld f6 q_0 1 (.int z1) := fld.eq kz1 (s8.fr q_0 mq_0 (t_lim tq_0 rfl))
              refine lv_aload_n hx hb dX5_advance_156 rfl (lv_at hl 0 rfl) ?_
              obtain ⟨z12, rz12, kz12⟩ := t_fldi hI.1 mq tq td_14 (k := 2) rfl
              refine t_getX C hH hI.1 mq tq td_14 iX5 rfl 2 (by decide) wd343 rfl kz12 dX5_advance_157 ?_
              refine lv_icmp_ne (tgt := 176) hx hb dX5_advance_160 (by decide) (fun c13 => ?_) (fun c13 => ?_)
              · skip
                exact g_vret C hr hH (Nat.zero_le _) (Nat.zero_le _) dX5_advance_176 ⟨rfl, hI, trivial⟩
              · skip
                refine lv_aload_n hx hb dX5_advance_163 rfl (lv_at hl 0 rfl) ?_
                refine lv_dup hx hb dX5_advance_164 rfl ?_
                refine t_getX C hH hI.1 mq tq td_14 iX5 rfl 4 (by decide) wd344 rfl k10 dX5_advance_165 ?_
                refine lv_iconst (v := (1 : Int32)) hx hb dX5_advance_168 (by decide) ?_
                refine lv_iadd hx hb dX5_advance_169 ?_
                refine lv_topi (fun z14 ez14 => ?_)
                have r15 : rg z14 1 800 := rg_add ez14 r3 rl_1 (by decide)
                have a16 : z14.toInt = g127_0.toInt + 1 := ai_add ez14 r3 tl_1 (by decide)
                refine t_put C hH hI mq tq (by decide) td_14 iX5 tyX5 tyX5_ok nmX5 rfl 4 (by decide) wd344 rfl rfl (v := .int z14) rfl rfl rfl ⟨_, rfl, (rg_w r15 (by decide))⟩ (fun _ h => nomatch h) dX5_advance_170 (fun f17 H locs hH hI nf17 of17 bf17 => ?_)
                have k18 : fld f17 q_0 1 (.int z1) := fld.eq k11 (bf17 q_0 (ty_ne tq_0 tq rfl))
                have k19 : fld f17 q 2 (.int z12) := of17 2 _ (by decide) kz12
                refine lv_goto (tgt := 127) hx hb dX5_advance_173 (by decide) ?_
                exact ih127 _ _ _ _ z14 (fu_s hfu127 a16 (by decide)) hI hH (rg_w r15 (by decide)) nf17 (lv_sub hl [0] rfl)
        refine lv_aload_n hx hb dX5_advance_54 rfl (lv_at hl 0 rfl) ?_
        refine lv_aload_n hx hb dX5_advance_55 rfl (lv_at hl 0 rfl) ?_
        refine t_getX C hH hI.1 mq tq td_14 iX5 rfl 3 (by decide) wd331 rfl G54_0 dX5_advance_56 ?_
        refine t_put C hH hI mq tq (by decide) td_14 iX5 tyX5 tyX5_ok nmX5 rfl 4 (by decide) wd344 rfl rfl (v := .int g54_0) rfl rfl rfl ⟨_, rfl, Gr54_0⟩ (fun _ h => nomatch h) dX5_advance_59 (fun f20 H locs hH hI nf20 of20 bf20 => ?_)
        have k21 : fld f20 q 3 (.int g54_0) := of20 3 _ (by decide) G54_0
        refine lv_aload_n hx hb dX5_advance_62 rfl (lv_at hl 0 rfl) ?_
        refine t_getX C hH hI.1 mq tq td_14 iX5 rfl 3 (by decide) wd331 rfl k21 dX5_advance_63 ?_
        refine lv_aload_n hx hb dX5_advance_66 rfl (lv_at hl 0 rfl) ?_
        refine t_getX C hH hI.1 mq tq td_14 iX5 rfl 0 (by decide) wd337 rfl (hI.rf kq_0) dX5_advance_67 ?_
        obtain ⟨z22, rz22, kz22⟩ := t_fldi hI.1 mq_0 tq_0 td_1 (k := 1) rfl
        refine t_getX C hH hI.1 mq_0 tq_0 td_1 iX8 rfl 1 (by decide) wd348 rfl kz22 dX5_advance_70 ?_
        refine lv_icmp_lt (tgt := 82) hx hb dX5_advance_73 (by decide) (fun c23 => ?_) (fun c23 => ?_)
        · skip
          have r24 : rg g54_0 0 799 := rf_ltl (c_lt c23) Gr54_0 rz22 (by decide)
          have r25 : rg z22 1 800 := rf_ltr (c_lt c23) Gr54_0 rz22 (by decide)
          refine lv_aload_n hx hb dX5_advance_82 rfl (lv_at hl 0 rfl) ?_
          refine lv_aload_n hx hb dX5_advance_83 rfl (lv_at hl 0 rfl) ?_
          refine t_getX C hH hI.1 mq tq td_14 iX5 rfl 0 (by decide) wd337 rfl (hI.rf kq_0) dX5_advance_84 ?_
          refine t_getX C hH hI.1 mq_0 tq_0 td_1 iX8 rfl 0 (by decide) wd338 rfl (hI.rf kq_0_0) dX5_advance_87 ?_
          refine lv_aload_n hx hb dX5_advance_90 rfl (lv_at hl 0 rfl) ?_
          refine t_getX C hH hI.1 mq tq td_14 iX5 rfl 3 (by decide) wd331 rfl k21 dX5_advance_91 ?_
          refine t_bald C hH hI.1 mq_0_0 tq_0_0 td_2 (rg_in r24 (by decide)) dX5_advance_94 (fun z26 => ?_)
          refine t_Si C hO hl.1 hA hH (As := [.int z26]) (rest := [.ref q]) (t_X5_kindOf l E J τ L f20 hI.1 z26) my_X5_kindOf wd352 rfl rfl (Nat.le_of_ble_eq_true rfl) ⟨Nat.le_of_ble_eq_true rfl, Nat.le_of_ble_eq_true rfl⟩ ⟨rfl, rfl⟩ dX5_advance_95 (fun r28 L1 f27 H locs hp hH => ?_)
          obtain ⟨rfl, s29, h30⟩ := hp
          have hI := hI.call s29 (by decide)
          have k31 : fld f27 q 3 (.int g54_0) := fld.eq k21 (s29.fr q mq (t_lim tq rfl))
          have k32 : fld f27 q 4 (.int g54_0) := fld.eq nf20 (s29.fr q mq (t_lim tq rfl))
          have k33 : fld f27 q_0 1 (.int z22) := fld.eq kz22 (s29.fr q_0 mq_0 (t_lim tq_0 rfl))
          refine t_put C hH hI mq tq (by decide) td_14 iX5 tyX5 tyX5_ok nmX5 rfl 2 (by decide) wd343 rfl rfl (v := .int r28) rfl rfl rfl ⟨_, rfl, h30⟩ (fun _ h => nomatch h) dX5_advance_98 (fun f34 H locs hH hI nf34 of34 bf34 => ?_)
          have k35 : fld f34 q 3 (.int g54_0) := of34 3 _ (by decide) k31
          have k36 : fld f34 q 4 (.int g54_0) := of34 4 _ (by decide) k32
          have k37 : fld f34 q_0 1 (.int z22) := fld.eq k33 (bf34 q_0 (ty_ne tq_0 tq rfl))
          refine lv_aload_n hx hb dX5_advance_101 rfl (lv_at hl 0 rfl) ?_
          refine lv_dup hx hb dX5_advance_102 rfl ?_
          refine t_getX C hH hI.1 mq tq td_14 iX5 rfl 4 (by decide) wd344 rfl k36 dX5_advance_103 ?_
          refine lv_iconst (v := (1 : Int32)) hx hb dX5_advance_106 (by decide) ?_
          refine lv_iadd hx hb dX5_advance_107 ?_
          refine lv_topi (fun z38 ez38 => ?_)
          have r39 : rg z38 1 800 := rg_add ez38 r24 rl_1 (by decide)
          have a40 : z38.toInt = g54_0.toInt + 1 := ai_add ez38 r24 tl_1 (by decide)
          refine t_put C hH hI mq tq (by decide) td_14 iX5 tyX5 tyX5_ok nmX5 rfl 4 (by decide) wd344 rfl rfl (v := .int z38) rfl rfl rfl ⟨_, rfl, (rg_w r39 (by decide))⟩ (fun _ h => nomatch h) dX5_advance_108 (fun f41 H locs hH hI nf41 of41 bf41 => ?_)
          have k42 : fld f41 q 3 (.int g54_0) := of41 3 _ (by decide) k35
          have k43 : fld f41 q_0 1 (.int z22) := fld.eq k37 (bf41 q_0 (ty_ne tq_0 tq rfl))
          have k44 : fld f41 q 2 (.int r28) := of41 2 _ (by decide) nf34
          refine lv_aload_n hx hb dX5_advance_111 rfl (lv_at hl 0 rfl) ?_
          refine t_getX C hH hI.1 mq tq td_14 iX5 rfl 2 (by decide) wd343 rfl k44 dX5_advance_112 ?_
          refine lv_iconst (v := (1 : Int32)) hx hb dX5_advance_115 (by decide) ?_
          refine lv_icmp_eq (tgt := 127) hx hb dX5_advance_116 (by decide) (fun c45 => ?_) (fun c45 => ?_)
          · skip
            have r46 : rg r28 1 1 := rf_eql (c_eq c45) h30 rl_1 (by decide)
            exact cut127 801 _ _ _ _ z38 (fu_i 801 r39 (by decide)) hI hH (rg_w r39 (by decide)) nf41 (lv_sub hl [0] rfl)
          · skip
            refine lv_aload_n hx hb dX5_advance_119 rfl (lv_at hl 0 rfl) ?_
            refine t_getX C hH hI.1 mq tq td_14 iX5 rfl 2 (by decide) wd343 rfl k44 dX5_advance_120 ?_
            refine lv_iconst (v := (2 : Int32)) hx hb dX5_advance_123 (by decide) ?_
            refine lv_icmp_ne (tgt := 176) hx hb dX5_advance_124 (by decide) (fun c47 => ?_) (fun c47 => ?_)
            · skip
              exact g_vret C hr hH (Nat.zero_le _) (Nat.zero_le _) dX5_advance_176 ⟨rfl, hI, trivial⟩
            · skip
              have r48 : rg r28 2 2 := rf_eql (c_eq c47) h30 rl_2 (by decide)
              exact cut127 801 _ _ _ _ z38 (fu_i 801 r39 (by decide)) hI hH (rg_w r39 (by decide)) nf41 (lv_sub hl [0] rfl)
        · skip
          refine lv_aload_n hx hb dX5_advance_76 rfl (lv_at hl 0 rfl) ?_
          refine lv_iconst (v := (0 : Int32)) hx hb dX5_advance_77 (by decide) ?_
          refine t_put C hH hI mq tq (by decide) td_14 iX5 tyX5 tyX5_ok nmX5 rfl 2 (by decide) wd343 rfl rfl (v := .int (0 : Int32)) rfl rfl rfl ⟨_, rfl, (rg_w rl_0 (by decide))⟩ (fun _ h => nomatch h) dX5_advance_78 (fun f49 H locs hH hI nf49 of49 bf49 => ?_)
          have k50 : fld f49 q 3 (.int g54_0) := of49 3 _ (by decide) k21
          have k51 : fld f49 q 4 (.int g54_0) := of49 4 _ (by decide) nf20
          have k52 : fld f49 q_0 1 (.int z22) := fld.eq kz22 (bf49 q_0 (ty_ne tq_0 tq rfl))
          exact g_vret C hr hH (Nat.zero_le _) (Nat.zero_le _) dX5_advance_81 ⟨rfl, hI, trivial⟩
      refine lv_aload_n hx hb dX5_advance_8 rfl (lv_at hl 0 rfl) ?_
      refine t_getX C hH hI.1 mq tq td_14 iX5 rfl 3 (by decide) wd331 rfl G8_0 dX5_advance_9 ?_
      refine lv_aload_n hx hb dX5_advance_12 rfl (lv_at hl 0 rfl) ?_
      refine t_getX C hH hI.1 mq tq td_14 iX5 rfl 0 (by decide) wd337 rfl (hI.rf kq_0) dX5_advance_13 ?_
      obtain ⟨z53, rz53, kz53⟩ := t_fldi hI.1 mq_0 tq_0 td_1 (k := 1) rfl
      refine t_getX C hH hI.1 mq_0 tq_0 td_1 iX8 rfl 1 (by decide) wd348 rfl kz53 dX5_advance_16 ?_
      refine lv_icmp_ge (tgt := 54) hx hb dX5_advance_19 (by decide) (fun c54 => ?_) (fun c54 => ?_)
      · skip
        exact cut54 _ _ _ _ g8_0 hI hH Gr8_0 G8_0 (lv_sub hl [0] rfl)
      · skip
        have r55 : rg g8_0 0 799 := rf_ltl (n_le c54) Gr8_0 rz53 (by decide)
        have r56 : rg z53 1 800 := rf_ltr (n_le c54) Gr8_0 rz53 (by decide)
        refine lv_aload_n hx hb dX5_advance_22 rfl (lv_at hl 0 rfl) ?_
        refine t_getX C hH hI.1 mq tq td_14 iX5 rfl 0 (by decide) wd337 rfl (hI.rf kq_0) dX5_advance_23 ?_
        refine t_getX C hH hI.1 mq_0 tq_0 td_1 iX8 rfl 0 (by decide) wd338 rfl (hI.rf kq_0_0) dX5_advance_26 ?_
        refine lv_aload_n hx hb dX5_advance_29 rfl (lv_at hl 0 rfl) ?_
        refine t_getX C hH hI.1 mq tq td_14 iX5 rfl 3 (by decide) wd331 rfl G8_0 dX5_advance_30 ?_
        refine t_bald C hH hI.1 mq_0_0 tq_0_0 td_2 (rg_in r55 (by decide)) dX5_advance_33 (fun z57 => ?_)
        refine t_Si C hO hl.1 hA hH (As := [.int z57]) (rest := []) (t_X5_kindOf l E J τ L fh8 hI.1 z57) my_X5_kindOf wd352 rfl rfl (Nat.le_of_ble_eq_true rfl) ⟨Nat.le_of_ble_eq_true rfl, Nat.le_of_ble_eq_true rfl⟩ ⟨rfl, rfl⟩ dX5_advance_34 (fun r59 L1 f58 H locs hp hH => ?_)
        obtain ⟨rfl, s60, h61⟩ := hp
        have hI := hI.call s60 (by decide)
        have k62 : fld f58 q 3 (.int g8_0) := fld.eq G8_0 (s60.fr q mq (t_lim tq rfl))
        have k63 : fld f58 q_0 1 (.int z53) := fld.eq kz53 (s60.fr q_0 mq_0 (t_lim tq_0 rfl))
        refine lv_iconst (v := (4 : Int32)) hx hb dX5_advance_37 (by decide) ?_
        refine lv_icmp_ne (tgt := 54) hx hb dX5_advance_38 (by decide) (fun c64 => ?_) (fun c64 => ?_)
        · skip
          exact cut54 _ _ _ _ g8_0 hI hH (rg_w r55 (by decide)) k62 (lv_sub hl [0] rfl)
        · skip
          have r65 : rg r59 4 4 := rf_eql (c_eq c64) h61 rl_4 (by decide)
          refine lv_aload_n hx hb dX5_advance_41 rfl (lv_at hl 0 rfl) ?_
          refine lv_dup hx hb dX5_advance_42 rfl ?_
          refine t_getX C hH hI.1 mq tq td_14 iX5 rfl 3 (by decide) wd331 rfl k62 dX5_advance_43 ?_
          refine lv_iconst (v := (1 : Int32)) hx hb dX5_advance_46 (by decide) ?_
          refine lv_iadd hx hb dX5_advance_47 ?_
          refine lv_topi (fun z66 ez66 => ?_)
          have r67 : rg z66 1 800 := rg_add ez66 r55 rl_1 (by decide)
          have a68 : z66.toInt = g8_0.toInt + 1 := ai_add ez66 r55 tl_1 (by decide)
          refine t_put C hH hI mq tq (by decide) td_14 iX5 tyX5 tyX5_ok nmX5 rfl 3 (by decide) wd331 rfl rfl (v := .int z66) rfl rfl rfl ⟨_, rfl, (rg_w r67 (by decide))⟩ (fun _ h => nomatch h) dX5_advance_48 (fun f69 H locs hH hI nf69 of69 bf69 => ?_)
          have k70 : fld f69 q_0 1 (.int z53) := fld.eq k63 (bf69 q_0 (ty_ne tq_0 tq rfl))
          refine lv_goto (tgt := 8) hx hb dX5_advance_51 (by decide) ?_
          exact ih8 _ _ _ _ z66 (fu_s hfu8 a68 (by decide)) hI hH (rg_w r67 (by decide)) nf69 (lv_sub hl [0] rfl)
  refine lv_aload_n hx hb dX5_advance_0 rfl (lv_at hl 0 rfl) ?_
  refine lv_aload_n hx hb dX5_advance_1 rfl (lv_at hl 0 rfl) ?_
  obtain ⟨z71, rz71, kz71⟩ := t_fldi hI.1 mq tq td_14 (k := 4) rfl
  refine t_getX C hH hI.1 mq tq td_14 iX5 rfl 4 (by decide) wd344 rfl kz71 dX5_advance_2 ?_
  refine t_put C hH hI mq tq (by decide) td_14 iX5 tyX5 tyX5_ok nmX5 rfl 3 (by decide) wd331 rfl rfl (v := .int z71) rfl rfl rfl ⟨_, rfl, rz71⟩ (fun _ h => nomatch h) dX5_advance_5 (fun f72 H locs hH hI nf72 of72 bf72 => ?_)
  have k73 : fld f72 q 4 (.int z71) := of72 4 _ (by decide) kz71
  exact cut8 801 _ _ _ _ z71 (fu_i 801 rz71 (by decide)) hI hH rz71 nf72 (lv_sub hl [0] rfl)
set_option maxHeartbeats 4000000 in
set_option maxRecDepth 100000 in
theorem t_readField_1_5 (l : Launch) (E : gE) (J : Nat → Nat) (τ : Nat → Nat) (L : List Nat) (f : gF) (hI : tI E L τ f) {q : Nat} (mq : q ∈ L) (tq : τ q = 14) (p1 : Nat × String × Nat) (hp1 : p1 ∈ gStr) (p2 : Int32) (rp2 : rg p2 1 1) (p3 : Int32) (rp3 : rg p3 5 5) : tMi l E J yX5_readField cX5_readField 5 .int (gRm (6) 0 0) [.ref q, .ref (J (2 * p1.1)), .int p2, .int p3] L f (tPi E L τ [14] f (fun r f1 => rg r 1 5)) := by
  refine tMi.intro (by decide) (Nat.le_of_ble_eq_true rfl) ?_
  intro p e s m below meth c A ls C hr hA hO hH hl
  have C : gC E cX5_readField 5 RX5 p s m _ meth c := C
  obtain rfl : p2 = (1 : Int32) := Int32.toInt_inj.mp (Int.le_antisymm (by rw [tl_1]; exact rp2.2) (by rw [tl_1]; exact rp2.1))
  obtain rfl : p3 = (5 : Int32) := Int32.toInt_inj.mp (Int.le_antisymm (by rw [tl_5]; exact rp3.2) (by rw [tl_5]; exact rp3.1))
  have hl : lv_has ls 5 [(0, .ref q), (1, .ref (J (2 * p1.1))), (2, .int (1 : Int32)), (3, .int (5 : Int32))] := hl
  have hx := C.1
  have hb := C.2.1
  have hI := hI.S [14]
  refine lv_aload_n hx hb dX5_readField_0 rfl (lv_at hl 0 rfl) ?_
  refine t_geti C hH hI.1 mq tq td_14 iX5 rfl 5 (by decide) wd330 rfl rfl dX5_readField_1 (fun z1 rz1 => ?_)
  refine lv_if_eq (tgt := 9) hx hb dX5_readField_4 (by decide) (fun c2 => ?_) (fun c2 => ?_)
  · skip
    have r3 : rg z1 0 0 := rf_eql (c_eq c2) rz1 rl_0 (by decide)
    refine lv_aload_n hx hb dX5_readField_9 rfl (lv_at hl 0 rfl) ?_
    refine lv_aload_n hx hb dX5_readField_10 rfl (lv_at hl 1 rfl) ?_
    refine t_Vi C hO hl.1 hA hH hI.1 (As := [.ref (J (2 * p1.1))]) (rest := []) (t_X5_isWord l E J τ L f hI.1 mq tq p1 hp1) my_X5_isWord wd356 mq tq td_14 rfl rfl rfl (Nat.le_of_ble_eq_true rfl) ⟨Nat.le_of_ble_eq_true rfl, Nat.le_of_ble_eq_true rfl⟩ ⟨rfl, rfl⟩ dX5_readField_11 (fun r5 L1 f4 H locs hp hH => ?_)
    obtain ⟨rfl, s6, h7⟩ := hp
    have hI := hI.call s6 (by decide)
    refine lv_if_ne (tgt := 24) hx hb dX5_readField_14 (by decide) (fun c8 => ?_) (fun c8 => ?_)
    · skip
      have r9 : rg r5 1 1 := rf_nel (n_eq c8) h7 rl_0 (by decide)
      refine lv_aload_n hx hb dX5_readField_24 rfl (lv_at hl 0 rfl) ?_
      refine t_Vv C hO hl.1 hA hH hI.1 (As := []) (rest := []) (t_X5_advance l E J τ L f4 hI.1 mq tq) my_X5_advance wd360 mq tq td_14 rfl rfl rfl (Nat.le_of_ble_eq_true rfl) ⟨Nat.le_of_ble_eq_true rfl, Nat.le_of_ble_eq_true rfl⟩ ⟨rfl, rfl⟩ dX5_readField_25 (fun L1 f10 H locs hp hH => ?_)
      obtain ⟨rfl, s12, h13⟩ := hp
      have hI := hI.call s12 (by decide)
      refine lv_aload_n hx hb dX5_readField_28 rfl (lv_at hl 0 rfl) ?_
      refine t_geti C hH hI.1 mq tq td_14 iX5 rfl 2 (by decide) wd343 rfl rfl dX5_readField_29 (fun z14 rz14 => ?_)
      refine lv_iconst (v := (2 : Int32)) hx hb dX5_readField_32 (by decide) ?_
      refine lv_icmp_eq (tgt := 43) hx hb dX5_readField_33 (by decide) (fun c15 => ?_) (fun c15 => ?_)
      · skip
        have r16 : rg z14 2 2 := rf_eql (c_eq c15) rz14 rl_2 (by decide)
        refine lv_aload_n hx hb dX5_readField_43 rfl (lv_at hl 0 rfl) ?_
        refine t_Vi C hO hl.1 hA hH hI.1 (As := []) (rest := []) (t_X5_numberRead l E J τ L f10 hI.1 mq tq) my_X5_numberRead wd364 mq tq td_14 rfl rfl rfl (Nat.le_of_ble_eq_true rfl) ⟨Nat.le_of_ble_eq_true rfl, Nat.le_of_ble_eq_true rfl⟩ ⟨rfl, rfl⟩ dX5_readField_44 (fun r18 L1 f17 H locs hp hH => ?_)
        obtain ⟨rfl, s19, h20⟩ := hp
        have hI := hI.call s19 (by decide)
        refine lv_istore (lv' := [(4, .int r18), (0, .ref q), (1, .ref (J (2 * p1.1))), (2, .int (1 : Int32)), (3, .int (5 : Int32))]) hx hb dX5_readField_47 hl (by decide) rfl (fun ls hl => ?_)
        refine lv_iload hx hb dX5_readField_49 (lv_at hl 0 rfl) ?_
        refine lv_iload_n hx hb dX5_readField_51 rfl (lv_at hl 3 rfl) ?_
        refine lv_icmp_lt (tgt := 61) hx hb dX5_readField_52 (by decide) (fun c21 => ?_) (fun c21 => ?_)
        · skip
          have r22 : rg r18 (-2147483648) 0 := rf_ltl (c_lt c21) h20 rl_1 (by decide)
          refine lv_aload_n hx hb dX5_readField_61 rfl (lv_at hl 1 rfl) ?_
          refine lv_iconst (v := (2 : Int32)) hx hb dX5_readField_62 (by decide) ?_
          refine t_Vv C hO hl.1 hA hH hI.1 (As := [.int (2 : Int32)]) (rest := []) (t_X5_refuse l E J τ L f17 hI.1 mq tq (2 : Int32)) my_X5_refuse wd368 mq tq td_14 rfl rfl rfl (Nat.le_of_ble_eq_true rfl) ⟨Nat.le_of_ble_eq_true rfl, Nat.le_of_ble_eq_true rfl⟩ ⟨rfl, rfl⟩ dX5_readField_63 (fun L1 f23 H locs hp hH => ?_)
          obtain ⟨rfl, s25, h26⟩ := hp
          have hI := hI.call s25 (by decide)
          refine lv_iload_n hx hb dX5_readField_66 rfl (lv_at hl 3 rfl) ?_
          exact g_iret C hr hH (Nat.zero_le _) (Nat.zero_le _) dX5_readField_67 ⟨rfl, hI, (rg_w rl_1 (by decide))⟩
        · skip
          have r27 : rg r18 1 2147483647 := rf_ler (n_lt c21) rl_1 h20 (by decide)
          refine lv_iload hx hb dX5_readField_55 (lv_at hl 0 rfl) ?_
          refine lv_iload_n hx hb dX5_readField_57 rfl (lv_at hl 4 rfl) ?_
          refine lv_icmp_le (tgt := 68) hx hb dX5_readField_58 (by decide) (fun c28 => ?_) (fun c28 => ?_)
          · skip
            have r29 : rg r18 1 5 := rf_lel (c_le c28) r27 rl_5 (by decide)
            refine lv_aload_n hx hb dX5_readField_68 rfl (lv_at hl 1 rfl) ?_
            refine t_Vv C hO hl.1 hA hH hI.1 (As := []) (rest := []) (t_X5_advance l E J τ L f17 hI.1 mq tq) my_X5_advance wd360 mq tq td_14 rfl rfl rfl (Nat.le_of_ble_eq_true rfl) ⟨Nat.le_of_ble_eq_true rfl, Nat.le_of_ble_eq_true rfl⟩ ⟨rfl, rfl⟩ dX5_readField_69 (fun L1 f30 H locs hp hH => ?_)
            obtain ⟨rfl, s32, h33⟩ := hp
            have hI := hI.call s32 (by decide)
            refine lv_iload hx hb dX5_readField_72 (lv_at hl 0 rfl) ?_
            exact g_iret C hr hH (Nat.zero_le _) (Nat.zero_le _) dX5_readField_74 ⟨rfl, hI, r29⟩
          · skip
            have r34 : rg r18 6 2147483647 := rf_ltr (n_le c28) rl_5 r27 (by decide)
            refine lv_aload_n hx hb dX5_readField_61 rfl (lv_at hl 1 rfl) ?_
            refine lv_iconst (v := (2 : Int32)) hx hb dX5_readField_62 (by decide) ?_
            refine t_Vv C hO hl.1 hA hH hI.1 (As := [.int (2 : Int32)]) (rest := []) (t_X5_refuse l E J τ L f17 hI.1 mq tq (2 : Int32)) my_X5_refuse wd368 mq tq td_14 rfl rfl rfl (Nat.le_of_ble_eq_true rfl) ⟨Nat.le_of_ble_eq_true rfl, Nat.le_of_ble_eq_true rfl⟩ ⟨rfl, rfl⟩ dX5_readField_63 (fun L1 f35 H locs hp hH => ?_)
            obtain ⟨rfl, s37, h38⟩ := hp
            have hI := hI.call s37 (by decide)
            refine lv_iload_n hx hb dX5_readField_66 rfl (lv_at hl 3 rfl) ?_
            exact g_iret C hr hH (Nat.zero_le _) (Nat.zero_le _) dX5_readField_67 ⟨rfl, hI, (rg_w rl_1 (by decide))⟩
      · skip
        refine lv_aload_n hx hb dX5_readField_36 rfl (lv_at hl 0 rfl) ?_
        refine lv_iconst (v := (1 : Int32)) hx hb dX5_readField_37 (by decide) ?_
        refine t_Vv C hO hl.1 hA hH hI.1 (As := [.int (1 : Int32)]) (rest := []) (t_X5_refuse l E J τ L f10 hI.1 mq tq (1 : Int32)) my_X5_refuse wd368 mq tq td_14 rfl rfl rfl (Nat.le_of_ble_eq_true rfl) ⟨Nat.le_of_ble_eq_true rfl, Nat.le_of_ble_eq_true rfl⟩ ⟨rfl, rfl⟩ dX5_readField_38 (fun L1 f39 H locs hp hH => ?_)
        obtain ⟨rfl, s41, h42⟩ := hp
        have hI := hI.call s41 (by decide)
        refine lv_iload_n hx hb dX5_readField_41 rfl (lv_at hl 2 rfl) ?_
        exact g_iret C hr hH (Nat.zero_le _) (Nat.zero_le _) dX5_readField_42 ⟨rfl, hI, (rg_w rl_1 (by decide))⟩
    · skip
      have r43 : rg r5 0 0 := rf_eql (c_eq c8) h7 rl_0 (by decide)
      refine lv_aload_n hx hb dX5_readField_17 rfl (lv_at hl 0 rfl) ?_
      refine lv_iconst (v := (1 : Int32)) hx hb dX5_readField_18 (by decide) ?_
      refine t_Vv C hO hl.1 hA hH hI.1 (As := [.int (1 : Int32)]) (rest := []) (t_X5_refuse l E J τ L f4 hI.1 mq tq (1 : Int32)) my_X5_refuse wd368 mq tq td_14 rfl rfl rfl (Nat.le_of_ble_eq_true rfl) ⟨Nat.le_of_ble_eq_true rfl, Nat.le_of_ble_eq_true rfl⟩ ⟨rfl, rfl⟩ dX5_readField_19 (fun L1 f44 H locs hp hH => ?_)
      obtain ⟨rfl, s46, h47⟩ := hp
      have hI := hI.call s46 (by decide)
      refine lv_iload_n hx hb dX5_readField_22 rfl (lv_at hl 2 rfl) ?_
      exact g_iret C hr hH (Nat.zero_le _) (Nat.zero_le _) dX5_readField_23 ⟨rfl, hI, (rg_w rl_1 (by decide))⟩
  · skip
    refine lv_iload_n hx hb dX5_readField_7 rfl (lv_at hl 2 rfl) ?_
    exact g_iret C hr hH (Nat.zero_le _) (Nat.zero_le _) dX5_readField_8 ⟨rfl, hI, (rg_w rl_1 (by decide))⟩
set_option maxHeartbeats 4000000 in
set_option maxRecDepth 100000 in
theorem t_readField_1_4 (l : Launch) (E : gE) (J : Nat → Nat) (τ : Nat → Nat) (L : List Nat) (f : gF) (hI : tI E L τ f) {q : Nat} (mq : q ∈ L) (tq : τ q = 14) (p1 : Nat × String × Nat) (hp1 : p1 ∈ gStr) (p2 : Int32) (rp2 : rg p2 1 1) (p3 : Int32) (rp3 : rg p3 4 4) : tMi l E J yX5_readField cX5_readField 5 .int (gRm (6) 0 0) [.ref q, .ref (J (2 * p1.1)), .int p2, .int p3] L f (tPi E L τ [14] f (fun r f1 => rg r 1 4)) := by
  refine tMi.intro (by decide) (Nat.le_of_ble_eq_true rfl) ?_
  intro p e s m below meth c A ls C hr hA hO hH hl
  have C : gC E cX5_readField 5 RX5 p s m _ meth c := C
  obtain rfl : p2 = (1 : Int32) := Int32.toInt_inj.mp (Int.le_antisymm (by rw [tl_1]; exact rp2.2) (by rw [tl_1]; exact rp2.1))
  obtain rfl : p3 = (4 : Int32) := Int32.toInt_inj.mp (Int.le_antisymm (by rw [tl_4]; exact rp3.2) (by rw [tl_4]; exact rp3.1))
  have hl : lv_has ls 5 [(0, .ref q), (1, .ref (J (2 * p1.1))), (2, .int (1 : Int32)), (3, .int (4 : Int32))] := hl
  have hx := C.1
  have hb := C.2.1
  have hI := hI.S [14]
  refine lv_aload_n hx hb dX5_readField_0 rfl (lv_at hl 0 rfl) ?_
  refine t_geti C hH hI.1 mq tq td_14 iX5 rfl 5 (by decide) wd330 rfl rfl dX5_readField_1 (fun z1 rz1 => ?_)
  refine lv_if_eq (tgt := 9) hx hb dX5_readField_4 (by decide) (fun c2 => ?_) (fun c2 => ?_)
  · skip
    have r3 : rg z1 0 0 := rf_eql (c_eq c2) rz1 rl_0 (by decide)
    refine lv_aload_n hx hb dX5_readField_9 rfl (lv_at hl 0 rfl) ?_
    refine lv_aload_n hx hb dX5_readField_10 rfl (lv_at hl 1 rfl) ?_
    refine t_Vi C hO hl.1 hA hH hI.1 (As := [.ref (J (2 * p1.1))]) (rest := []) (t_X5_isWord l E J τ L f hI.1 mq tq p1 hp1) my_X5_isWord wd356 mq tq td_14 rfl rfl rfl (Nat.le_of_ble_eq_true rfl) ⟨Nat.le_of_ble_eq_true rfl, Nat.le_of_ble_eq_true rfl⟩ ⟨rfl, rfl⟩ dX5_readField_11 (fun r5 L1 f4 H locs hp hH => ?_)
    obtain ⟨rfl, s6, h7⟩ := hp
    have hI := hI.call s6 (by decide)
    refine lv_if_ne (tgt := 24) hx hb dX5_readField_14 (by decide) (fun c8 => ?_) (fun c8 => ?_)
    · skip
      have r9 : rg r5 1 1 := rf_nel (n_eq c8) h7 rl_0 (by decide)
      refine lv_aload_n hx hb dX5_readField_24 rfl (lv_at hl 0 rfl) ?_
      refine t_Vv C hO hl.1 hA hH hI.1 (As := []) (rest := []) (t_X5_advance l E J τ L f4 hI.1 mq tq) my_X5_advance wd360 mq tq td_14 rfl rfl rfl (Nat.le_of_ble_eq_true rfl) ⟨Nat.le_of_ble_eq_true rfl, Nat.le_of_ble_eq_true rfl⟩ ⟨rfl, rfl⟩ dX5_readField_25 (fun L1 f10 H locs hp hH => ?_)
      obtain ⟨rfl, s12, h13⟩ := hp
      have hI := hI.call s12 (by decide)
      refine lv_aload_n hx hb dX5_readField_28 rfl (lv_at hl 0 rfl) ?_
      refine t_geti C hH hI.1 mq tq td_14 iX5 rfl 2 (by decide) wd343 rfl rfl dX5_readField_29 (fun z14 rz14 => ?_)
      refine lv_iconst (v := (2 : Int32)) hx hb dX5_readField_32 (by decide) ?_
      refine lv_icmp_eq (tgt := 43) hx hb dX5_readField_33 (by decide) (fun c15 => ?_) (fun c15 => ?_)
      · skip
        have r16 : rg z14 2 2 := rf_eql (c_eq c15) rz14 rl_2 (by decide)
        refine lv_aload_n hx hb dX5_readField_43 rfl (lv_at hl 0 rfl) ?_
        refine t_Vi C hO hl.1 hA hH hI.1 (As := []) (rest := []) (t_X5_numberRead l E J τ L f10 hI.1 mq tq) my_X5_numberRead wd364 mq tq td_14 rfl rfl rfl (Nat.le_of_ble_eq_true rfl) ⟨Nat.le_of_ble_eq_true rfl, Nat.le_of_ble_eq_true rfl⟩ ⟨rfl, rfl⟩ dX5_readField_44 (fun r18 L1 f17 H locs hp hH => ?_)
        obtain ⟨rfl, s19, h20⟩ := hp
        have hI := hI.call s19 (by decide)
        refine lv_istore (lv' := [(4, .int r18), (0, .ref q), (1, .ref (J (2 * p1.1))), (2, .int (1 : Int32)), (3, .int (4 : Int32))]) hx hb dX5_readField_47 hl (by decide) rfl (fun ls hl => ?_)
        refine lv_iload hx hb dX5_readField_49 (lv_at hl 0 rfl) ?_
        refine lv_iload_n hx hb dX5_readField_51 rfl (lv_at hl 3 rfl) ?_
        refine lv_icmp_lt (tgt := 61) hx hb dX5_readField_52 (by decide) (fun c21 => ?_) (fun c21 => ?_)
        · skip
          have r22 : rg r18 (-2147483648) 0 := rf_ltl (c_lt c21) h20 rl_1 (by decide)
          refine lv_aload_n hx hb dX5_readField_61 rfl (lv_at hl 1 rfl) ?_
          refine lv_iconst (v := (2 : Int32)) hx hb dX5_readField_62 (by decide) ?_
          refine t_Vv C hO hl.1 hA hH hI.1 (As := [.int (2 : Int32)]) (rest := []) (t_X5_refuse l E J τ L f17 hI.1 mq tq (2 : Int32)) my_X5_refuse wd368 mq tq td_14 rfl rfl rfl (Nat.le_of_ble_eq_true rfl) ⟨Nat.le_of_ble_eq_true rfl, Nat.le_of_ble_eq_true rfl⟩ ⟨rfl, rfl⟩ dX5_readField_63 (fun L1 f23 H locs hp hH => ?_)
          obtain ⟨rfl, s25, h26⟩ := hp
          have hI := hI.call s25 (by decide)
          refine lv_iload_n hx hb dX5_readField_66 rfl (lv_at hl 3 rfl) ?_
          exact g_iret C hr hH (Nat.zero_le _) (Nat.zero_le _) dX5_readField_67 ⟨rfl, hI, (rg_w rl_1 (by decide))⟩
        · skip
          have r27 : rg r18 1 2147483647 := rf_ler (n_lt c21) rl_1 h20 (by decide)
          refine lv_iload hx hb dX5_readField_55 (lv_at hl 0 rfl) ?_
          refine lv_iload_n hx hb dX5_readField_57 rfl (lv_at hl 4 rfl) ?_
          refine lv_icmp_le (tgt := 68) hx hb dX5_readField_58 (by decide) (fun c28 => ?_) (fun c28 => ?_)
          · skip
            have r29 : rg r18 1 4 := rf_lel (c_le c28) r27 rl_4 (by decide)
            refine lv_aload_n hx hb dX5_readField_68 rfl (lv_at hl 1 rfl) ?_
            refine t_Vv C hO hl.1 hA hH hI.1 (As := []) (rest := []) (t_X5_advance l E J τ L f17 hI.1 mq tq) my_X5_advance wd360 mq tq td_14 rfl rfl rfl (Nat.le_of_ble_eq_true rfl) ⟨Nat.le_of_ble_eq_true rfl, Nat.le_of_ble_eq_true rfl⟩ ⟨rfl, rfl⟩ dX5_readField_69 (fun L1 f30 H locs hp hH => ?_)
            obtain ⟨rfl, s32, h33⟩ := hp
            have hI := hI.call s32 (by decide)
            refine lv_iload hx hb dX5_readField_72 (lv_at hl 0 rfl) ?_
            exact g_iret C hr hH (Nat.zero_le _) (Nat.zero_le _) dX5_readField_74 ⟨rfl, hI, r29⟩
          · skip
            have r34 : rg r18 5 2147483647 := rf_ltr (n_le c28) rl_4 r27 (by decide)
            refine lv_aload_n hx hb dX5_readField_61 rfl (lv_at hl 1 rfl) ?_
            refine lv_iconst (v := (2 : Int32)) hx hb dX5_readField_62 (by decide) ?_
            refine t_Vv C hO hl.1 hA hH hI.1 (As := [.int (2 : Int32)]) (rest := []) (t_X5_refuse l E J τ L f17 hI.1 mq tq (2 : Int32)) my_X5_refuse wd368 mq tq td_14 rfl rfl rfl (Nat.le_of_ble_eq_true rfl) ⟨Nat.le_of_ble_eq_true rfl, Nat.le_of_ble_eq_true rfl⟩ ⟨rfl, rfl⟩ dX5_readField_63 (fun L1 f35 H locs hp hH => ?_)
            obtain ⟨rfl, s37, h38⟩ := hp
            have hI := hI.call s37 (by decide)
            refine lv_iload_n hx hb dX5_readField_66 rfl (lv_at hl 3 rfl) ?_
            exact g_iret C hr hH (Nat.zero_le _) (Nat.zero_le _) dX5_readField_67 ⟨rfl, hI, (rg_w rl_1 (by decide))⟩
      · skip
        refine lv_aload_n hx hb dX5_readField_36 rfl (lv_at hl 0 rfl) ?_
        refine lv_iconst (v := (1 : Int32)) hx hb dX5_readField_37 (by decide) ?_
        refine t_Vv C hO hl.1 hA hH hI.1 (As := [.int (1 : Int32)]) (rest := []) (t_X5_refuse l E J τ L f10 hI.1 mq tq (1 : Int32)) my_X5_refuse wd368 mq tq td_14 rfl rfl rfl (Nat.le_of_ble_eq_true rfl) ⟨Nat.le_of_ble_eq_true rfl, Nat.le_of_ble_eq_true rfl⟩ ⟨rfl, rfl⟩ dX5_readField_38 (fun L1 f39 H locs hp hH => ?_)
        obtain ⟨rfl, s41, h42⟩ := hp
        have hI := hI.call s41 (by decide)
        refine lv_iload_n hx hb dX5_readField_41 rfl (lv_at hl 2 rfl) ?_
        exact g_iret C hr hH (Nat.zero_le _) (Nat.zero_le _) dX5_readField_42 ⟨rfl, hI, (rg_w rl_1 (by decide))⟩
    · skip
      have r43 : rg r5 0 0 := rf_eql (c_eq c8) h7 rl_0 (by decide)
      refine lv_aload_n hx hb dX5_readField_17 rfl (lv_at hl 0 rfl) ?_
      refine lv_iconst (v := (1 : Int32)) hx hb dX5_readField_18 (by decide) ?_
      refine t_Vv C hO hl.1 hA hH hI.1 (As := [.int (1 : Int32)]) (rest := []) (t_X5_refuse l E J τ L f4 hI.1 mq tq (1 : Int32)) my_X5_refuse wd368 mq tq td_14 rfl rfl rfl (Nat.le_of_ble_eq_true rfl) ⟨Nat.le_of_ble_eq_true rfl, Nat.le_of_ble_eq_true rfl⟩ ⟨rfl, rfl⟩ dX5_readField_19 (fun L1 f44 H locs hp hH => ?_)
      obtain ⟨rfl, s46, h47⟩ := hp
      have hI := hI.call s46 (by decide)
      refine lv_iload_n hx hb dX5_readField_22 rfl (lv_at hl 2 rfl) ?_
      exact g_iret C hr hH (Nat.zero_le _) (Nat.zero_le _) dX5_readField_23 ⟨rfl, hI, (rg_w rl_1 (by decide))⟩
  · skip
    refine lv_iload_n hx hb dX5_readField_7 rfl (lv_at hl 2 rfl) ?_
    exact g_iret C hr hH (Nat.zero_le _) (Nat.zero_le _) dX5_readField_8 ⟨rfl, hI, (rg_w rl_1 (by decide))⟩
set_option maxHeartbeats 4000000 in
set_option maxRecDepth 100000 in
theorem t_readField_0_3 (l : Launch) (E : gE) (J : Nat → Nat) (τ : Nat → Nat) (L : List Nat) (f : gF) (hI : tI E L τ f) {q : Nat} (mq : q ∈ L) (tq : τ q = 14) (p1 : Nat × String × Nat) (hp1 : p1 ∈ gStr) (p2 : Int32) (rp2 : rg p2 0 0) (p3 : Int32) (rp3 : rg p3 3 3) : tMi l E J yX5_readField cX5_readField 5 .int (gRm (6) 0 0) [.ref q, .ref (J (2 * p1.1)), .int p2, .int p3] L f (tPi E L τ [14] f (fun r f1 => rg r 0 3)) := by
  refine tMi.intro (by decide) (Nat.le_of_ble_eq_true rfl) ?_
  intro p e s m below meth c A ls C hr hA hO hH hl
  have C : gC E cX5_readField 5 RX5 p s m _ meth c := C
  obtain rfl : p2 = (0 : Int32) := Int32.toInt_inj.mp (Int.le_antisymm (by rw [tl_0]; exact rp2.2) (by rw [tl_0]; exact rp2.1))
  obtain rfl : p3 = (3 : Int32) := Int32.toInt_inj.mp (Int.le_antisymm (by rw [tl_3]; exact rp3.2) (by rw [tl_3]; exact rp3.1))
  have hl : lv_has ls 5 [(0, .ref q), (1, .ref (J (2 * p1.1))), (2, .int (0 : Int32)), (3, .int (3 : Int32))] := hl
  have hx := C.1
  have hb := C.2.1
  have hI := hI.S [14]
  refine lv_aload_n hx hb dX5_readField_0 rfl (lv_at hl 0 rfl) ?_
  refine t_geti C hH hI.1 mq tq td_14 iX5 rfl 5 (by decide) wd330 rfl rfl dX5_readField_1 (fun z1 rz1 => ?_)
  refine lv_if_eq (tgt := 9) hx hb dX5_readField_4 (by decide) (fun c2 => ?_) (fun c2 => ?_)
  · skip
    have r3 : rg z1 0 0 := rf_eql (c_eq c2) rz1 rl_0 (by decide)
    refine lv_aload_n hx hb dX5_readField_9 rfl (lv_at hl 0 rfl) ?_
    refine lv_aload_n hx hb dX5_readField_10 rfl (lv_at hl 1 rfl) ?_
    refine t_Vi C hO hl.1 hA hH hI.1 (As := [.ref (J (2 * p1.1))]) (rest := []) (t_X5_isWord l E J τ L f hI.1 mq tq p1 hp1) my_X5_isWord wd356 mq tq td_14 rfl rfl rfl (Nat.le_of_ble_eq_true rfl) ⟨Nat.le_of_ble_eq_true rfl, Nat.le_of_ble_eq_true rfl⟩ ⟨rfl, rfl⟩ dX5_readField_11 (fun r5 L1 f4 H locs hp hH => ?_)
    obtain ⟨rfl, s6, h7⟩ := hp
    have hI := hI.call s6 (by decide)
    refine lv_if_ne (tgt := 24) hx hb dX5_readField_14 (by decide) (fun c8 => ?_) (fun c8 => ?_)
    · skip
      have r9 : rg r5 1 1 := rf_nel (n_eq c8) h7 rl_0 (by decide)
      refine lv_aload_n hx hb dX5_readField_24 rfl (lv_at hl 0 rfl) ?_
      refine t_Vv C hO hl.1 hA hH hI.1 (As := []) (rest := []) (t_X5_advance l E J τ L f4 hI.1 mq tq) my_X5_advance wd360 mq tq td_14 rfl rfl rfl (Nat.le_of_ble_eq_true rfl) ⟨Nat.le_of_ble_eq_true rfl, Nat.le_of_ble_eq_true rfl⟩ ⟨rfl, rfl⟩ dX5_readField_25 (fun L1 f10 H locs hp hH => ?_)
      obtain ⟨rfl, s12, h13⟩ := hp
      have hI := hI.call s12 (by decide)
      refine lv_aload_n hx hb dX5_readField_28 rfl (lv_at hl 0 rfl) ?_
      refine t_geti C hH hI.1 mq tq td_14 iX5 rfl 2 (by decide) wd343 rfl rfl dX5_readField_29 (fun z14 rz14 => ?_)
      refine lv_iconst (v := (2 : Int32)) hx hb dX5_readField_32 (by decide) ?_
      refine lv_icmp_eq (tgt := 43) hx hb dX5_readField_33 (by decide) (fun c15 => ?_) (fun c15 => ?_)
      · skip
        have r16 : rg z14 2 2 := rf_eql (c_eq c15) rz14 rl_2 (by decide)
        refine lv_aload_n hx hb dX5_readField_43 rfl (lv_at hl 0 rfl) ?_
        refine t_Vi C hO hl.1 hA hH hI.1 (As := []) (rest := []) (t_X5_numberRead l E J τ L f10 hI.1 mq tq) my_X5_numberRead wd364 mq tq td_14 rfl rfl rfl (Nat.le_of_ble_eq_true rfl) ⟨Nat.le_of_ble_eq_true rfl, Nat.le_of_ble_eq_true rfl⟩ ⟨rfl, rfl⟩ dX5_readField_44 (fun r18 L1 f17 H locs hp hH => ?_)
        obtain ⟨rfl, s19, h20⟩ := hp
        have hI := hI.call s19 (by decide)
        refine lv_istore (lv' := [(4, .int r18), (0, .ref q), (1, .ref (J (2 * p1.1))), (2, .int (0 : Int32)), (3, .int (3 : Int32))]) hx hb dX5_readField_47 hl (by decide) rfl (fun ls hl => ?_)
        refine lv_iload hx hb dX5_readField_49 (lv_at hl 0 rfl) ?_
        refine lv_iload_n hx hb dX5_readField_51 rfl (lv_at hl 3 rfl) ?_
        refine lv_icmp_lt (tgt := 61) hx hb dX5_readField_52 (by decide) (fun c21 => ?_) (fun c21 => ?_)
        · skip
          have r22 : rg r18 (-2147483648) (-1) := rf_ltl (c_lt c21) h20 rl_0 (by decide)
          refine lv_aload_n hx hb dX5_readField_61 rfl (lv_at hl 1 rfl) ?_
          refine lv_iconst (v := (2 : Int32)) hx hb dX5_readField_62 (by decide) ?_
          refine t_Vv C hO hl.1 hA hH hI.1 (As := [.int (2 : Int32)]) (rest := []) (t_X5_refuse l E J τ L f17 hI.1 mq tq (2 : Int32)) my_X5_refuse wd368 mq tq td_14 rfl rfl rfl (Nat.le_of_ble_eq_true rfl) ⟨Nat.le_of_ble_eq_true rfl, Nat.le_of_ble_eq_true rfl⟩ ⟨rfl, rfl⟩ dX5_readField_63 (fun L1 f23 H locs hp hH => ?_)
          obtain ⟨rfl, s25, h26⟩ := hp
          have hI := hI.call s25 (by decide)
          refine lv_iload_n hx hb dX5_readField_66 rfl (lv_at hl 3 rfl) ?_
          exact g_iret C hr hH (Nat.zero_le _) (Nat.zero_le _) dX5_readField_67 ⟨rfl, hI, (rg_w rl_0 (by decide))⟩
        · skip
          have r27 : rg r18 0 2147483647 := rf_ler (n_lt c21) rl_0 h20 (by decide)
          refine lv_iload hx hb dX5_readField_55 (lv_at hl 0 rfl) ?_
          refine lv_iload_n hx hb dX5_readField_57 rfl (lv_at hl 4 rfl) ?_
          refine lv_icmp_le (tgt := 68) hx hb dX5_readField_58 (by decide) (fun c28 => ?_) (fun c28 => ?_)
          · skip
            have r29 : rg r18 0 3 := rf_lel (c_le c28) r27 rl_3 (by decide)
            refine lv_aload_n hx hb dX5_readField_68 rfl (lv_at hl 1 rfl) ?_
            refine t_Vv C hO hl.1 hA hH hI.1 (As := []) (rest := []) (t_X5_advance l E J τ L f17 hI.1 mq tq) my_X5_advance wd360 mq tq td_14 rfl rfl rfl (Nat.le_of_ble_eq_true rfl) ⟨Nat.le_of_ble_eq_true rfl, Nat.le_of_ble_eq_true rfl⟩ ⟨rfl, rfl⟩ dX5_readField_69 (fun L1 f30 H locs hp hH => ?_)
            obtain ⟨rfl, s32, h33⟩ := hp
            have hI := hI.call s32 (by decide)
            refine lv_iload hx hb dX5_readField_72 (lv_at hl 0 rfl) ?_
            exact g_iret C hr hH (Nat.zero_le _) (Nat.zero_le _) dX5_readField_74 ⟨rfl, hI, r29⟩
          · skip
            have r34 : rg r18 4 2147483647 := rf_ltr (n_le c28) rl_3 r27 (by decide)
            refine lv_aload_n hx hb dX5_readField_61 rfl (lv_at hl 1 rfl) ?_
            refine lv_iconst (v := (2 : Int32)) hx hb dX5_readField_62 (by decide) ?_
            refine t_Vv C hO hl.1 hA hH hI.1 (As := [.int (2 : Int32)]) (rest := []) (t_X5_refuse l E J τ L f17 hI.1 mq tq (2 : Int32)) my_X5_refuse wd368 mq tq td_14 rfl rfl rfl (Nat.le_of_ble_eq_true rfl) ⟨Nat.le_of_ble_eq_true rfl, Nat.le_of_ble_eq_true rfl⟩ ⟨rfl, rfl⟩ dX5_readField_63 (fun L1 f35 H locs hp hH => ?_)
            obtain ⟨rfl, s37, h38⟩ := hp
            have hI := hI.call s37 (by decide)
            refine lv_iload_n hx hb dX5_readField_66 rfl (lv_at hl 3 rfl) ?_
            exact g_iret C hr hH (Nat.zero_le _) (Nat.zero_le _) dX5_readField_67 ⟨rfl, hI, (rg_w rl_0 (by decide))⟩
      · skip
        refine lv_aload_n hx hb dX5_readField_36 rfl (lv_at hl 0 rfl) ?_
        refine lv_iconst (v := (1 : Int32)) hx hb dX5_readField_37 (by decide) ?_
        refine t_Vv C hO hl.1 hA hH hI.1 (As := [.int (1 : Int32)]) (rest := []) (t_X5_refuse l E J τ L f10 hI.1 mq tq (1 : Int32)) my_X5_refuse wd368 mq tq td_14 rfl rfl rfl (Nat.le_of_ble_eq_true rfl) ⟨Nat.le_of_ble_eq_true rfl, Nat.le_of_ble_eq_true rfl⟩ ⟨rfl, rfl⟩ dX5_readField_38 (fun L1 f39 H locs hp hH => ?_)
        obtain ⟨rfl, s41, h42⟩ := hp
        have hI := hI.call s41 (by decide)
        refine lv_iload_n hx hb dX5_readField_41 rfl (lv_at hl 2 rfl) ?_
        exact g_iret C hr hH (Nat.zero_le _) (Nat.zero_le _) dX5_readField_42 ⟨rfl, hI, (rg_w rl_0 (by decide))⟩
    · skip
      have r43 : rg r5 0 0 := rf_eql (c_eq c8) h7 rl_0 (by decide)
      refine lv_aload_n hx hb dX5_readField_17 rfl (lv_at hl 0 rfl) ?_
      refine lv_iconst (v := (1 : Int32)) hx hb dX5_readField_18 (by decide) ?_
      refine t_Vv C hO hl.1 hA hH hI.1 (As := [.int (1 : Int32)]) (rest := []) (t_X5_refuse l E J τ L f4 hI.1 mq tq (1 : Int32)) my_X5_refuse wd368 mq tq td_14 rfl rfl rfl (Nat.le_of_ble_eq_true rfl) ⟨Nat.le_of_ble_eq_true rfl, Nat.le_of_ble_eq_true rfl⟩ ⟨rfl, rfl⟩ dX5_readField_19 (fun L1 f44 H locs hp hH => ?_)
      obtain ⟨rfl, s46, h47⟩ := hp
      have hI := hI.call s46 (by decide)
      refine lv_iload_n hx hb dX5_readField_22 rfl (lv_at hl 2 rfl) ?_
      exact g_iret C hr hH (Nat.zero_le _) (Nat.zero_le _) dX5_readField_23 ⟨rfl, hI, (rg_w rl_0 (by decide))⟩
  · skip
    refine lv_iload_n hx hb dX5_readField_7 rfl (lv_at hl 2 rfl) ?_
    exact g_iret C hr hH (Nat.zero_le _) (Nat.zero_le _) dX5_readField_8 ⟨rfl, hI, (rg_w rl_0 (by decide))⟩
set_option maxHeartbeats 4000000 in
set_option maxRecDepth 100000 in
theorem t_readField_0_8 (l : Launch) (E : gE) (J : Nat → Nat) (τ : Nat → Nat) (L : List Nat) (f : gF) (hI : tI E L τ f) {q : Nat} (mq : q ∈ L) (tq : τ q = 14) (p1 : Nat × String × Nat) (hp1 : p1 ∈ gStr) (p2 : Int32) (rp2 : rg p2 0 0) (p3 : Int32) (rp3 : rg p3 8 8) : tMi l E J yX5_readField cX5_readField 5 .int (gRm (6) 0 0) [.ref q, .ref (J (2 * p1.1)), .int p2, .int p3] L f (tPi E L τ [14] f (fun r f1 => rg r 0 8)) := by
  refine tMi.intro (by decide) (Nat.le_of_ble_eq_true rfl) ?_
  intro p e s m below meth c A ls C hr hA hO hH hl
  have C : gC E cX5_readField 5 RX5 p s m _ meth c := C
  obtain rfl : p2 = (0 : Int32) := Int32.toInt_inj.mp (Int.le_antisymm (by rw [tl_0]; exact rp2.2) (by rw [tl_0]; exact rp2.1))
  obtain rfl : p3 = (8 : Int32) := Int32.toInt_inj.mp (Int.le_antisymm (by rw [tl_8]; exact rp3.2) (by rw [tl_8]; exact rp3.1))
  have hl : lv_has ls 5 [(0, .ref q), (1, .ref (J (2 * p1.1))), (2, .int (0 : Int32)), (3, .int (8 : Int32))] := hl
  have hx := C.1
  have hb := C.2.1
  have hI := hI.S [14]
  refine lv_aload_n hx hb dX5_readField_0 rfl (lv_at hl 0 rfl) ?_
  refine t_geti C hH hI.1 mq tq td_14 iX5 rfl 5 (by decide) wd330 rfl rfl dX5_readField_1 (fun z1 rz1 => ?_)
  refine lv_if_eq (tgt := 9) hx hb dX5_readField_4 (by decide) (fun c2 => ?_) (fun c2 => ?_)
  · skip
    have r3 : rg z1 0 0 := rf_eql (c_eq c2) rz1 rl_0 (by decide)
    refine lv_aload_n hx hb dX5_readField_9 rfl (lv_at hl 0 rfl) ?_
    refine lv_aload_n hx hb dX5_readField_10 rfl (lv_at hl 1 rfl) ?_
    refine t_Vi C hO hl.1 hA hH hI.1 (As := [.ref (J (2 * p1.1))]) (rest := []) (t_X5_isWord l E J τ L f hI.1 mq tq p1 hp1) my_X5_isWord wd356 mq tq td_14 rfl rfl rfl (Nat.le_of_ble_eq_true rfl) ⟨Nat.le_of_ble_eq_true rfl, Nat.le_of_ble_eq_true rfl⟩ ⟨rfl, rfl⟩ dX5_readField_11 (fun r5 L1 f4 H locs hp hH => ?_)
    obtain ⟨rfl, s6, h7⟩ := hp
    have hI := hI.call s6 (by decide)
    refine lv_if_ne (tgt := 24) hx hb dX5_readField_14 (by decide) (fun c8 => ?_) (fun c8 => ?_)
    · skip
      have r9 : rg r5 1 1 := rf_nel (n_eq c8) h7 rl_0 (by decide)
      refine lv_aload_n hx hb dX5_readField_24 rfl (lv_at hl 0 rfl) ?_
      refine t_Vv C hO hl.1 hA hH hI.1 (As := []) (rest := []) (t_X5_advance l E J τ L f4 hI.1 mq tq) my_X5_advance wd360 mq tq td_14 rfl rfl rfl (Nat.le_of_ble_eq_true rfl) ⟨Nat.le_of_ble_eq_true rfl, Nat.le_of_ble_eq_true rfl⟩ ⟨rfl, rfl⟩ dX5_readField_25 (fun L1 f10 H locs hp hH => ?_)
      obtain ⟨rfl, s12, h13⟩ := hp
      have hI := hI.call s12 (by decide)
      refine lv_aload_n hx hb dX5_readField_28 rfl (lv_at hl 0 rfl) ?_
      refine t_geti C hH hI.1 mq tq td_14 iX5 rfl 2 (by decide) wd343 rfl rfl dX5_readField_29 (fun z14 rz14 => ?_)
      refine lv_iconst (v := (2 : Int32)) hx hb dX5_readField_32 (by decide) ?_
      refine lv_icmp_eq (tgt := 43) hx hb dX5_readField_33 (by decide) (fun c15 => ?_) (fun c15 => ?_)
      · skip
        have r16 : rg z14 2 2 := rf_eql (c_eq c15) rz14 rl_2 (by decide)
        refine lv_aload_n hx hb dX5_readField_43 rfl (lv_at hl 0 rfl) ?_
        refine t_Vi C hO hl.1 hA hH hI.1 (As := []) (rest := []) (t_X5_numberRead l E J τ L f10 hI.1 mq tq) my_X5_numberRead wd364 mq tq td_14 rfl rfl rfl (Nat.le_of_ble_eq_true rfl) ⟨Nat.le_of_ble_eq_true rfl, Nat.le_of_ble_eq_true rfl⟩ ⟨rfl, rfl⟩ dX5_readField_44 (fun r18 L1 f17 H locs hp hH => ?_)
        obtain ⟨rfl, s19, h20⟩ := hp
        have hI := hI.call s19 (by decide)
        refine lv_istore (lv' := [(4, .int r18), (0, .ref q), (1, .ref (J (2 * p1.1))), (2, .int (0 : Int32)), (3, .int (8 : Int32))]) hx hb dX5_readField_47 hl (by decide) rfl (fun ls hl => ?_)
        refine lv_iload hx hb dX5_readField_49 (lv_at hl 0 rfl) ?_
        refine lv_iload_n hx hb dX5_readField_51 rfl (lv_at hl 3 rfl) ?_
        refine lv_icmp_lt (tgt := 61) hx hb dX5_readField_52 (by decide) (fun c21 => ?_) (fun c21 => ?_)
        · skip
          have r22 : rg r18 (-2147483648) (-1) := rf_ltl (c_lt c21) h20 rl_0 (by decide)
          refine lv_aload_n hx hb dX5_readField_61 rfl (lv_at hl 1 rfl) ?_
          refine lv_iconst (v := (2 : Int32)) hx hb dX5_readField_62 (by decide) ?_
          refine t_Vv C hO hl.1 hA hH hI.1 (As := [.int (2 : Int32)]) (rest := []) (t_X5_refuse l E J τ L f17 hI.1 mq tq (2 : Int32)) my_X5_refuse wd368 mq tq td_14 rfl rfl rfl (Nat.le_of_ble_eq_true rfl) ⟨Nat.le_of_ble_eq_true rfl, Nat.le_of_ble_eq_true rfl⟩ ⟨rfl, rfl⟩ dX5_readField_63 (fun L1 f23 H locs hp hH => ?_)
          obtain ⟨rfl, s25, h26⟩ := hp
          have hI := hI.call s25 (by decide)
          refine lv_iload_n hx hb dX5_readField_66 rfl (lv_at hl 3 rfl) ?_
          exact g_iret C hr hH (Nat.zero_le _) (Nat.zero_le _) dX5_readField_67 ⟨rfl, hI, (rg_w rl_0 (by decide))⟩
        · skip
          have r27 : rg r18 0 2147483647 := rf_ler (n_lt c21) rl_0 h20 (by decide)
          refine lv_iload hx hb dX5_readField_55 (lv_at hl 0 rfl) ?_
          refine lv_iload_n hx hb dX5_readField_57 rfl (lv_at hl 4 rfl) ?_
          refine lv_icmp_le (tgt := 68) hx hb dX5_readField_58 (by decide) (fun c28 => ?_) (fun c28 => ?_)
          · skip
            have r29 : rg r18 0 8 := rf_lel (c_le c28) r27 rl_8 (by decide)
            refine lv_aload_n hx hb dX5_readField_68 rfl (lv_at hl 1 rfl) ?_
            refine t_Vv C hO hl.1 hA hH hI.1 (As := []) (rest := []) (t_X5_advance l E J τ L f17 hI.1 mq tq) my_X5_advance wd360 mq tq td_14 rfl rfl rfl (Nat.le_of_ble_eq_true rfl) ⟨Nat.le_of_ble_eq_true rfl, Nat.le_of_ble_eq_true rfl⟩ ⟨rfl, rfl⟩ dX5_readField_69 (fun L1 f30 H locs hp hH => ?_)
            obtain ⟨rfl, s32, h33⟩ := hp
            have hI := hI.call s32 (by decide)
            refine lv_iload hx hb dX5_readField_72 (lv_at hl 0 rfl) ?_
            exact g_iret C hr hH (Nat.zero_le _) (Nat.zero_le _) dX5_readField_74 ⟨rfl, hI, r29⟩
          · skip
            have r34 : rg r18 9 2147483647 := rf_ltr (n_le c28) rl_8 r27 (by decide)
            refine lv_aload_n hx hb dX5_readField_61 rfl (lv_at hl 1 rfl) ?_
            refine lv_iconst (v := (2 : Int32)) hx hb dX5_readField_62 (by decide) ?_
            refine t_Vv C hO hl.1 hA hH hI.1 (As := [.int (2 : Int32)]) (rest := []) (t_X5_refuse l E J τ L f17 hI.1 mq tq (2 : Int32)) my_X5_refuse wd368 mq tq td_14 rfl rfl rfl (Nat.le_of_ble_eq_true rfl) ⟨Nat.le_of_ble_eq_true rfl, Nat.le_of_ble_eq_true rfl⟩ ⟨rfl, rfl⟩ dX5_readField_63 (fun L1 f35 H locs hp hH => ?_)
            obtain ⟨rfl, s37, h38⟩ := hp
            have hI := hI.call s37 (by decide)
            refine lv_iload_n hx hb dX5_readField_66 rfl (lv_at hl 3 rfl) ?_
            exact g_iret C hr hH (Nat.zero_le _) (Nat.zero_le _) dX5_readField_67 ⟨rfl, hI, (rg_w rl_0 (by decide))⟩
      · skip
        refine lv_aload_n hx hb dX5_readField_36 rfl (lv_at hl 0 rfl) ?_
        refine lv_iconst (v := (1 : Int32)) hx hb dX5_readField_37 (by decide) ?_
        refine t_Vv C hO hl.1 hA hH hI.1 (As := [.int (1 : Int32)]) (rest := []) (t_X5_refuse l E J τ L f10 hI.1 mq tq (1 : Int32)) my_X5_refuse wd368 mq tq td_14 rfl rfl rfl (Nat.le_of_ble_eq_true rfl) ⟨Nat.le_of_ble_eq_true rfl, Nat.le_of_ble_eq_true rfl⟩ ⟨rfl, rfl⟩ dX5_readField_38 (fun L1 f39 H locs hp hH => ?_)
        obtain ⟨rfl, s41, h42⟩ := hp
        have hI := hI.call s41 (by decide)
        refine lv_iload_n hx hb dX5_readField_41 rfl (lv_at hl 2 rfl) ?_
        exact g_iret C hr hH (Nat.zero_le _) (Nat.zero_le _) dX5_readField_42 ⟨rfl, hI, (rg_w rl_0 (by decide))⟩
    · skip
      have r43 : rg r5 0 0 := rf_eql (c_eq c8) h7 rl_0 (by decide)
      refine lv_aload_n hx hb dX5_readField_17 rfl (lv_at hl 0 rfl) ?_
      refine lv_iconst (v := (1 : Int32)) hx hb dX5_readField_18 (by decide) ?_
      refine t_Vv C hO hl.1 hA hH hI.1 (As := [.int (1 : Int32)]) (rest := []) (t_X5_refuse l E J τ L f4 hI.1 mq tq (1 : Int32)) my_X5_refuse wd368 mq tq td_14 rfl rfl rfl (Nat.le_of_ble_eq_true rfl) ⟨Nat.le_of_ble_eq_true rfl, Nat.le_of_ble_eq_true rfl⟩ ⟨rfl, rfl⟩ dX5_readField_19 (fun L1 f44 H locs hp hH => ?_)
      obtain ⟨rfl, s46, h47⟩ := hp
      have hI := hI.call s46 (by decide)
      refine lv_iload_n hx hb dX5_readField_22 rfl (lv_at hl 2 rfl) ?_
      exact g_iret C hr hH (Nat.zero_le _) (Nat.zero_le _) dX5_readField_23 ⟨rfl, hI, (rg_w rl_0 (by decide))⟩
  · skip
    refine lv_iload_n hx hb dX5_readField_7 rfl (lv_at hl 2 rfl) ?_
    exact g_iret C hr hH (Nat.zero_le _) (Nat.zero_le _) dX5_readField_8 ⟨rfl, hI, (rg_w rl_0 (by decide))⟩
set_option maxHeartbeats 4000000 in
set_option maxRecDepth 100000 in
theorem t_readField_0_10 (l : Launch) (E : gE) (J : Nat → Nat) (τ : Nat → Nat) (L : List Nat) (f : gF) (hI : tI E L τ f) {q : Nat} (mq : q ∈ L) (tq : τ q = 14) (p1 : Nat × String × Nat) (hp1 : p1 ∈ gStr) (p2 : Int32) (rp2 : rg p2 0 0) (p3 : Int32) (rp3 : rg p3 10 10) : tMi l E J yX5_readField cX5_readField 5 .int (gRm (6) 0 0) [.ref q, .ref (J (2 * p1.1)), .int p2, .int p3] L f (tPi E L τ [14] f (fun r f1 => rg r 0 10)) := by
  refine tMi.intro (by decide) (Nat.le_of_ble_eq_true rfl) ?_
  intro p e s m below meth c A ls C hr hA hO hH hl
  have C : gC E cX5_readField 5 RX5 p s m _ meth c := C
  obtain rfl : p2 = (0 : Int32) := Int32.toInt_inj.mp (Int.le_antisymm (by rw [tl_0]; exact rp2.2) (by rw [tl_0]; exact rp2.1))
  obtain rfl : p3 = (10 : Int32) := Int32.toInt_inj.mp (Int.le_antisymm (by rw [tl_10]; exact rp3.2) (by rw [tl_10]; exact rp3.1))
  have hl : lv_has ls 5 [(0, .ref q), (1, .ref (J (2 * p1.1))), (2, .int (0 : Int32)), (3, .int (10 : Int32))] := hl
  have hx := C.1
  have hb := C.2.1
  have hI := hI.S [14]
  refine lv_aload_n hx hb dX5_readField_0 rfl (lv_at hl 0 rfl) ?_
  refine t_geti C hH hI.1 mq tq td_14 iX5 rfl 5 (by decide) wd330 rfl rfl dX5_readField_1 (fun z1 rz1 => ?_)
  refine lv_if_eq (tgt := 9) hx hb dX5_readField_4 (by decide) (fun c2 => ?_) (fun c2 => ?_)
  · skip
    have r3 : rg z1 0 0 := rf_eql (c_eq c2) rz1 rl_0 (by decide)
    refine lv_aload_n hx hb dX5_readField_9 rfl (lv_at hl 0 rfl) ?_
    refine lv_aload_n hx hb dX5_readField_10 rfl (lv_at hl 1 rfl) ?_
    refine t_Vi C hO hl.1 hA hH hI.1 (As := [.ref (J (2 * p1.1))]) (rest := []) (t_X5_isWord l E J τ L f hI.1 mq tq p1 hp1) my_X5_isWord wd356 mq tq td_14 rfl rfl rfl (Nat.le_of_ble_eq_true rfl) ⟨Nat.le_of_ble_eq_true rfl, Nat.le_of_ble_eq_true rfl⟩ ⟨rfl, rfl⟩ dX5_readField_11 (fun r5 L1 f4 H locs hp hH => ?_)
    obtain ⟨rfl, s6, h7⟩ := hp
    have hI := hI.call s6 (by decide)
    refine lv_if_ne (tgt := 24) hx hb dX5_readField_14 (by decide) (fun c8 => ?_) (fun c8 => ?_)
    · skip
      have r9 : rg r5 1 1 := rf_nel (n_eq c8) h7 rl_0 (by decide)
      refine lv_aload_n hx hb dX5_readField_24 rfl (lv_at hl 0 rfl) ?_
      refine t_Vv C hO hl.1 hA hH hI.1 (As := []) (rest := []) (t_X5_advance l E J τ L f4 hI.1 mq tq) my_X5_advance wd360 mq tq td_14 rfl rfl rfl (Nat.le_of_ble_eq_true rfl) ⟨Nat.le_of_ble_eq_true rfl, Nat.le_of_ble_eq_true rfl⟩ ⟨rfl, rfl⟩ dX5_readField_25 (fun L1 f10 H locs hp hH => ?_)
      obtain ⟨rfl, s12, h13⟩ := hp
      have hI := hI.call s12 (by decide)
      refine lv_aload_n hx hb dX5_readField_28 rfl (lv_at hl 0 rfl) ?_
      refine t_geti C hH hI.1 mq tq td_14 iX5 rfl 2 (by decide) wd343 rfl rfl dX5_readField_29 (fun z14 rz14 => ?_)
      refine lv_iconst (v := (2 : Int32)) hx hb dX5_readField_32 (by decide) ?_
      refine lv_icmp_eq (tgt := 43) hx hb dX5_readField_33 (by decide) (fun c15 => ?_) (fun c15 => ?_)
      · skip
        have r16 : rg z14 2 2 := rf_eql (c_eq c15) rz14 rl_2 (by decide)
        refine lv_aload_n hx hb dX5_readField_43 rfl (lv_at hl 0 rfl) ?_
        refine t_Vi C hO hl.1 hA hH hI.1 (As := []) (rest := []) (t_X5_numberRead l E J τ L f10 hI.1 mq tq) my_X5_numberRead wd364 mq tq td_14 rfl rfl rfl (Nat.le_of_ble_eq_true rfl) ⟨Nat.le_of_ble_eq_true rfl, Nat.le_of_ble_eq_true rfl⟩ ⟨rfl, rfl⟩ dX5_readField_44 (fun r18 L1 f17 H locs hp hH => ?_)
        obtain ⟨rfl, s19, h20⟩ := hp
        have hI := hI.call s19 (by decide)
        refine lv_istore (lv' := [(4, .int r18), (0, .ref q), (1, .ref (J (2 * p1.1))), (2, .int (0 : Int32)), (3, .int (10 : Int32))]) hx hb dX5_readField_47 hl (by decide) rfl (fun ls hl => ?_)
        refine lv_iload hx hb dX5_readField_49 (lv_at hl 0 rfl) ?_
        refine lv_iload_n hx hb dX5_readField_51 rfl (lv_at hl 3 rfl) ?_
        refine lv_icmp_lt (tgt := 61) hx hb dX5_readField_52 (by decide) (fun c21 => ?_) (fun c21 => ?_)
        · skip
          have r22 : rg r18 (-2147483648) (-1) := rf_ltl (c_lt c21) h20 rl_0 (by decide)
          refine lv_aload_n hx hb dX5_readField_61 rfl (lv_at hl 1 rfl) ?_
          refine lv_iconst (v := (2 : Int32)) hx hb dX5_readField_62 (by decide) ?_
          refine t_Vv C hO hl.1 hA hH hI.1 (As := [.int (2 : Int32)]) (rest := []) (t_X5_refuse l E J τ L f17 hI.1 mq tq (2 : Int32)) my_X5_refuse wd368 mq tq td_14 rfl rfl rfl (Nat.le_of_ble_eq_true rfl) ⟨Nat.le_of_ble_eq_true rfl, Nat.le_of_ble_eq_true rfl⟩ ⟨rfl, rfl⟩ dX5_readField_63 (fun L1 f23 H locs hp hH => ?_)
          obtain ⟨rfl, s25, h26⟩ := hp
          have hI := hI.call s25 (by decide)
          refine lv_iload_n hx hb dX5_readField_66 rfl (lv_at hl 3 rfl) ?_
          exact g_iret C hr hH (Nat.zero_le _) (Nat.zero_le _) dX5_readField_67 ⟨rfl, hI, (rg_w rl_0 (by decide))⟩
        · skip
          have r27 : rg r18 0 2147483647 := rf_ler (n_lt c21) rl_0 h20 (by decide)
          refine lv_iload hx hb dX5_readField_55 (lv_at hl 0 rfl) ?_
          refine lv_iload_n hx hb dX5_readField_57 rfl (lv_at hl 4 rfl) ?_
          refine lv_icmp_le (tgt := 68) hx hb dX5_readField_58 (by decide) (fun c28 => ?_) (fun c28 => ?_)
          · skip
            have r29 : rg r18 0 10 := rf_lel (c_le c28) r27 rl_10 (by decide)
            refine lv_aload_n hx hb dX5_readField_68 rfl (lv_at hl 1 rfl) ?_
            refine t_Vv C hO hl.1 hA hH hI.1 (As := []) (rest := []) (t_X5_advance l E J τ L f17 hI.1 mq tq) my_X5_advance wd360 mq tq td_14 rfl rfl rfl (Nat.le_of_ble_eq_true rfl) ⟨Nat.le_of_ble_eq_true rfl, Nat.le_of_ble_eq_true rfl⟩ ⟨rfl, rfl⟩ dX5_readField_69 (fun L1 f30 H locs hp hH => ?_)
            obtain ⟨rfl, s32, h33⟩ := hp
            have hI := hI.call s32 (by decide)
            refine lv_iload hx hb dX5_readField_72 (lv_at hl 0 rfl) ?_
            exact g_iret C hr hH (Nat.zero_le _) (Nat.zero_le _) dX5_readField_74 ⟨rfl, hI, r29⟩
          · skip
            have r34 : rg r18 11 2147483647 := rf_ltr (n_le c28) rl_10 r27 (by decide)
            refine lv_aload_n hx hb dX5_readField_61 rfl (lv_at hl 1 rfl) ?_
            refine lv_iconst (v := (2 : Int32)) hx hb dX5_readField_62 (by decide) ?_
            refine t_Vv C hO hl.1 hA hH hI.1 (As := [.int (2 : Int32)]) (rest := []) (t_X5_refuse l E J τ L f17 hI.1 mq tq (2 : Int32)) my_X5_refuse wd368 mq tq td_14 rfl rfl rfl (Nat.le_of_ble_eq_true rfl) ⟨Nat.le_of_ble_eq_true rfl, Nat.le_of_ble_eq_true rfl⟩ ⟨rfl, rfl⟩ dX5_readField_63 (fun L1 f35 H locs hp hH => ?_)
            obtain ⟨rfl, s37, h38⟩ := hp
            have hI := hI.call s37 (by decide)
            refine lv_iload_n hx hb dX5_readField_66 rfl (lv_at hl 3 rfl) ?_
            exact g_iret C hr hH (Nat.zero_le _) (Nat.zero_le _) dX5_readField_67 ⟨rfl, hI, (rg_w rl_0 (by decide))⟩
      · skip
        refine lv_aload_n hx hb dX5_readField_36 rfl (lv_at hl 0 rfl) ?_
        refine lv_iconst (v := (1 : Int32)) hx hb dX5_readField_37 (by decide) ?_
        refine t_Vv C hO hl.1 hA hH hI.1 (As := [.int (1 : Int32)]) (rest := []) (t_X5_refuse l E J τ L f10 hI.1 mq tq (1 : Int32)) my_X5_refuse wd368 mq tq td_14 rfl rfl rfl (Nat.le_of_ble_eq_true rfl) ⟨Nat.le_of_ble_eq_true rfl, Nat.le_of_ble_eq_true rfl⟩ ⟨rfl, rfl⟩ dX5_readField_38 (fun L1 f39 H locs hp hH => ?_)
        obtain ⟨rfl, s41, h42⟩ := hp
        have hI := hI.call s41 (by decide)
        refine lv_iload_n hx hb dX5_readField_41 rfl (lv_at hl 2 rfl) ?_
        exact g_iret C hr hH (Nat.zero_le _) (Nat.zero_le _) dX5_readField_42 ⟨rfl, hI, (rg_w rl_0 (by decide))⟩
    · skip
      have r43 : rg r5 0 0 := rf_eql (c_eq c8) h7 rl_0 (by decide)
      refine lv_aload_n hx hb dX5_readField_17 rfl (lv_at hl 0 rfl) ?_
      refine lv_iconst (v := (1 : Int32)) hx hb dX5_readField_18 (by decide) ?_
      refine t_Vv C hO hl.1 hA hH hI.1 (As := [.int (1 : Int32)]) (rest := []) (t_X5_refuse l E J τ L f4 hI.1 mq tq (1 : Int32)) my_X5_refuse wd368 mq tq td_14 rfl rfl rfl (Nat.le_of_ble_eq_true rfl) ⟨Nat.le_of_ble_eq_true rfl, Nat.le_of_ble_eq_true rfl⟩ ⟨rfl, rfl⟩ dX5_readField_19 (fun L1 f44 H locs hp hH => ?_)
      obtain ⟨rfl, s46, h47⟩ := hp
      have hI := hI.call s46 (by decide)
      refine lv_iload_n hx hb dX5_readField_22 rfl (lv_at hl 2 rfl) ?_
      exact g_iret C hr hH (Nat.zero_le _) (Nat.zero_le _) dX5_readField_23 ⟨rfl, hI, (rg_w rl_0 (by decide))⟩
  · skip
    refine lv_iload_n hx hb dX5_readField_7 rfl (lv_at hl 2 rfl) ?_
    exact g_iret C hr hH (Nat.zero_le _) (Nat.zero_le _) dX5_readField_8 ⟨rfl, hI, (rg_w rl_0 (by decide))⟩
set_option maxHeartbeats 4000000 in
set_option maxRecDepth 100000 in
theorem t_readField_0_19 (l : Launch) (E : gE) (J : Nat → Nat) (τ : Nat → Nat) (L : List Nat) (f : gF) (hI : tI E L τ f) {q : Nat} (mq : q ∈ L) (tq : τ q = 14) (p1 : Nat × String × Nat) (hp1 : p1 ∈ gStr) (p2 : Int32) (rp2 : rg p2 0 0) (p3 : Int32) (rp3 : rg p3 (-1) 19) : tMi l E J yX5_readField cX5_readField 5 .int (gRm (6) 0 0) [.ref q, .ref (J (2 * p1.1)), .int p2, .int p3] L f (tPi E L τ [14] f (fun r f1 => rg r 0 19)) := by
  refine tMi.intro (by decide) (Nat.le_of_ble_eq_true rfl) ?_
  intro p e s m below meth c A ls C hr hA hO hH hl
  have C : gC E cX5_readField 5 RX5 p s m _ meth c := C
  obtain rfl : p2 = (0 : Int32) := Int32.toInt_inj.mp (Int.le_antisymm (by rw [tl_0]; exact rp2.2) (by rw [tl_0]; exact rp2.1))
  have hl : lv_has ls 5 [(0, .ref q), (1, .ref (J (2 * p1.1))), (2, .int (0 : Int32)), (3, .int p3)] := hl
  have hx := C.1
  have hb := C.2.1
  have hI := hI.S [14]
  refine lv_aload_n hx hb dX5_readField_0 rfl (lv_at hl 0 rfl) ?_
  refine t_geti C hH hI.1 mq tq td_14 iX5 rfl 5 (by decide) wd330 rfl rfl dX5_readField_1 (fun z1 rz1 => ?_)
  refine lv_if_eq (tgt := 9) hx hb dX5_readField_4 (by decide) (fun c2 => ?_) (fun c2 => ?_)
  · skip
    have r3 : rg z1 0 0 := rf_eql (c_eq c2) rz1 rl_0 (by decide)
    refine lv_aload_n hx hb dX5_readField_9 rfl (lv_at hl 0 rfl) ?_
    refine lv_aload_n hx hb dX5_readField_10 rfl (lv_at hl 1 rfl) ?_
    refine t_Vi C hO hl.1 hA hH hI.1 (As := [.ref (J (2 * p1.1))]) (rest := []) (t_X5_isWord l E J τ L f hI.1 mq tq p1 hp1) my_X5_isWord wd356 mq tq td_14 rfl rfl rfl (Nat.le_of_ble_eq_true rfl) ⟨Nat.le_of_ble_eq_true rfl, Nat.le_of_ble_eq_true rfl⟩ ⟨rfl, rfl⟩ dX5_readField_11 (fun r5 L1 f4 H locs hp hH => ?_)
    obtain ⟨rfl, s6, h7⟩ := hp
    have hI := hI.call s6 (by decide)
    refine lv_if_ne (tgt := 24) hx hb dX5_readField_14 (by decide) (fun c8 => ?_) (fun c8 => ?_)
    · skip
      have r9 : rg r5 1 1 := rf_nel (n_eq c8) h7 rl_0 (by decide)
      refine lv_aload_n hx hb dX5_readField_24 rfl (lv_at hl 0 rfl) ?_
      refine t_Vv C hO hl.1 hA hH hI.1 (As := []) (rest := []) (t_X5_advance l E J τ L f4 hI.1 mq tq) my_X5_advance wd360 mq tq td_14 rfl rfl rfl (Nat.le_of_ble_eq_true rfl) ⟨Nat.le_of_ble_eq_true rfl, Nat.le_of_ble_eq_true rfl⟩ ⟨rfl, rfl⟩ dX5_readField_25 (fun L1 f10 H locs hp hH => ?_)
      obtain ⟨rfl, s12, h13⟩ := hp
      have hI := hI.call s12 (by decide)
      refine lv_aload_n hx hb dX5_readField_28 rfl (lv_at hl 0 rfl) ?_
      refine t_geti C hH hI.1 mq tq td_14 iX5 rfl 2 (by decide) wd343 rfl rfl dX5_readField_29 (fun z14 rz14 => ?_)
      refine lv_iconst (v := (2 : Int32)) hx hb dX5_readField_32 (by decide) ?_
      refine lv_icmp_eq (tgt := 43) hx hb dX5_readField_33 (by decide) (fun c15 => ?_) (fun c15 => ?_)
      · skip
        have r16 : rg z14 2 2 := rf_eql (c_eq c15) rz14 rl_2 (by decide)
        refine lv_aload_n hx hb dX5_readField_43 rfl (lv_at hl 0 rfl) ?_
        refine t_Vi C hO hl.1 hA hH hI.1 (As := []) (rest := []) (t_X5_numberRead l E J τ L f10 hI.1 mq tq) my_X5_numberRead wd364 mq tq td_14 rfl rfl rfl (Nat.le_of_ble_eq_true rfl) ⟨Nat.le_of_ble_eq_true rfl, Nat.le_of_ble_eq_true rfl⟩ ⟨rfl, rfl⟩ dX5_readField_44 (fun r18 L1 f17 H locs hp hH => ?_)
        obtain ⟨rfl, s19, h20⟩ := hp
        have hI := hI.call s19 (by decide)
        refine lv_istore (lv' := [(4, .int r18), (0, .ref q), (1, .ref (J (2 * p1.1))), (2, .int (0 : Int32)), (3, .int p3)]) hx hb dX5_readField_47 hl (by decide) rfl (fun ls hl => ?_)
        refine lv_iload hx hb dX5_readField_49 (lv_at hl 0 rfl) ?_
        refine lv_iload_n hx hb dX5_readField_51 rfl (lv_at hl 3 rfl) ?_
        refine lv_icmp_lt (tgt := 61) hx hb dX5_readField_52 (by decide) (fun c21 => ?_) (fun c21 => ?_)
        · skip
          have r22 : rg r18 (-2147483648) (-1) := rf_ltl (c_lt c21) h20 rl_0 (by decide)
          refine lv_aload_n hx hb dX5_readField_61 rfl (lv_at hl 1 rfl) ?_
          refine lv_iconst (v := (2 : Int32)) hx hb dX5_readField_62 (by decide) ?_
          refine t_Vv C hO hl.1 hA hH hI.1 (As := [.int (2 : Int32)]) (rest := []) (t_X5_refuse l E J τ L f17 hI.1 mq tq (2 : Int32)) my_X5_refuse wd368 mq tq td_14 rfl rfl rfl (Nat.le_of_ble_eq_true rfl) ⟨Nat.le_of_ble_eq_true rfl, Nat.le_of_ble_eq_true rfl⟩ ⟨rfl, rfl⟩ dX5_readField_63 (fun L1 f23 H locs hp hH => ?_)
          obtain ⟨rfl, s25, h26⟩ := hp
          have hI := hI.call s25 (by decide)
          refine lv_iload_n hx hb dX5_readField_66 rfl (lv_at hl 3 rfl) ?_
          exact g_iret C hr hH (Nat.zero_le _) (Nat.zero_le _) dX5_readField_67 ⟨rfl, hI, (rg_w rl_0 (by decide))⟩
        · skip
          have r27 : rg r18 0 2147483647 := rf_ler (n_lt c21) rl_0 h20 (by decide)
          refine lv_iload hx hb dX5_readField_55 (lv_at hl 0 rfl) ?_
          refine lv_iload_n hx hb dX5_readField_57 rfl (lv_at hl 4 rfl) ?_
          refine lv_icmp_le (tgt := 68) hx hb dX5_readField_58 (by decide) (fun c28 => ?_) (fun c28 => ?_)
          · skip
            have r29 : rg r18 0 19 := rf_lel (c_le c28) r27 rp3 (by decide)
            have r30 : rg p3 0 19 := rf_ler (c_le c28) r27 rp3 (by decide)
            refine lv_aload_n hx hb dX5_readField_68 rfl (lv_at hl 1 rfl) ?_
            refine t_Vv C hO hl.1 hA hH hI.1 (As := []) (rest := []) (t_X5_advance l E J τ L f17 hI.1 mq tq) my_X5_advance wd360 mq tq td_14 rfl rfl rfl (Nat.le_of_ble_eq_true rfl) ⟨Nat.le_of_ble_eq_true rfl, Nat.le_of_ble_eq_true rfl⟩ ⟨rfl, rfl⟩ dX5_readField_69 (fun L1 f31 H locs hp hH => ?_)
            obtain ⟨rfl, s33, h34⟩ := hp
            have hI := hI.call s33 (by decide)
            refine lv_iload hx hb dX5_readField_72 (lv_at hl 0 rfl) ?_
            exact g_iret C hr hH (Nat.zero_le _) (Nat.zero_le _) dX5_readField_74 ⟨rfl, hI, r29⟩
          · skip
            refine lv_aload_n hx hb dX5_readField_61 rfl (lv_at hl 1 rfl) ?_
            refine lv_iconst (v := (2 : Int32)) hx hb dX5_readField_62 (by decide) ?_
            refine t_Vv C hO hl.1 hA hH hI.1 (As := [.int (2 : Int32)]) (rest := []) (t_X5_refuse l E J τ L f17 hI.1 mq tq (2 : Int32)) my_X5_refuse wd368 mq tq td_14 rfl rfl rfl (Nat.le_of_ble_eq_true rfl) ⟨Nat.le_of_ble_eq_true rfl, Nat.le_of_ble_eq_true rfl⟩ ⟨rfl, rfl⟩ dX5_readField_63 (fun L1 f35 H locs hp hH => ?_)
            obtain ⟨rfl, s37, h38⟩ := hp
            have hI := hI.call s37 (by decide)
            refine lv_iload_n hx hb dX5_readField_66 rfl (lv_at hl 3 rfl) ?_
            exact g_iret C hr hH (Nat.zero_le _) (Nat.zero_le _) dX5_readField_67 ⟨rfl, hI, (rg_w rl_0 (by decide))⟩
      · skip
        refine lv_aload_n hx hb dX5_readField_36 rfl (lv_at hl 0 rfl) ?_
        refine lv_iconst (v := (1 : Int32)) hx hb dX5_readField_37 (by decide) ?_
        refine t_Vv C hO hl.1 hA hH hI.1 (As := [.int (1 : Int32)]) (rest := []) (t_X5_refuse l E J τ L f10 hI.1 mq tq (1 : Int32)) my_X5_refuse wd368 mq tq td_14 rfl rfl rfl (Nat.le_of_ble_eq_true rfl) ⟨Nat.le_of_ble_eq_true rfl, Nat.le_of_ble_eq_true rfl⟩ ⟨rfl, rfl⟩ dX5_readField_38 (fun L1 f39 H locs hp hH => ?_)
        obtain ⟨rfl, s41, h42⟩ := hp
        have hI := hI.call s41 (by decide)
        refine lv_iload_n hx hb dX5_readField_41 rfl (lv_at hl 2 rfl) ?_
        exact g_iret C hr hH (Nat.zero_le _) (Nat.zero_le _) dX5_readField_42 ⟨rfl, hI, (rg_w rl_0 (by decide))⟩
    · skip
      have r43 : rg r5 0 0 := rf_eql (c_eq c8) h7 rl_0 (by decide)
      refine lv_aload_n hx hb dX5_readField_17 rfl (lv_at hl 0 rfl) ?_
      refine lv_iconst (v := (1 : Int32)) hx hb dX5_readField_18 (by decide) ?_
      refine t_Vv C hO hl.1 hA hH hI.1 (As := [.int (1 : Int32)]) (rest := []) (t_X5_refuse l E J τ L f4 hI.1 mq tq (1 : Int32)) my_X5_refuse wd368 mq tq td_14 rfl rfl rfl (Nat.le_of_ble_eq_true rfl) ⟨Nat.le_of_ble_eq_true rfl, Nat.le_of_ble_eq_true rfl⟩ ⟨rfl, rfl⟩ dX5_readField_19 (fun L1 f44 H locs hp hH => ?_)
      obtain ⟨rfl, s46, h47⟩ := hp
      have hI := hI.call s46 (by decide)
      refine lv_iload_n hx hb dX5_readField_22 rfl (lv_at hl 2 rfl) ?_
      exact g_iret C hr hH (Nat.zero_le _) (Nat.zero_le _) dX5_readField_23 ⟨rfl, hI, (rg_w rl_0 (by decide))⟩
  · skip
    refine lv_iload_n hx hb dX5_readField_7 rfl (lv_at hl 2 rfl) ?_
    exact g_iret C hr hH (Nat.zero_le _) (Nat.zero_le _) dX5_readField_8 ⟨rfl, hI, (rg_w rl_0 (by decide))⟩
set_option maxHeartbeats 4000000 in
set_option maxRecDepth 100000 in
theorem t_readField_1_20 (l : Launch) (E : gE) (J : Nat → Nat) (τ : Nat → Nat) (L : List Nat) (f : gF) (hI : tI E L τ f) {q : Nat} (mq : q ∈ L) (tq : τ q = 14) (p1 : Nat × String × Nat) (hp1 : p1 ∈ gStr) (p2 : Int32) (rp2 : rg p2 1 1) (p3 : Int32) (rp3 : rg p3 20 20) : tMi l E J yX5_readField cX5_readField 5 .int (gRm (6) 0 0) [.ref q, .ref (J (2 * p1.1)), .int p2, .int p3] L f (tPi E L τ [14] f (fun r f1 => rg r 1 20)) := by
  refine tMi.intro (by decide) (Nat.le_of_ble_eq_true rfl) ?_
  intro p e s m below meth c A ls C hr hA hO hH hl
  have C : gC E cX5_readField 5 RX5 p s m _ meth c := C
  obtain rfl : p2 = (1 : Int32) := Int32.toInt_inj.mp (Int.le_antisymm (by rw [tl_1]; exact rp2.2) (by rw [tl_1]; exact rp2.1))
  obtain rfl : p3 = (20 : Int32) := Int32.toInt_inj.mp (Int.le_antisymm (by rw [tl_20]; exact rp3.2) (by rw [tl_20]; exact rp3.1))
  have hl : lv_has ls 5 [(0, .ref q), (1, .ref (J (2 * p1.1))), (2, .int (1 : Int32)), (3, .int (20 : Int32))] := hl
  have hx := C.1
  have hb := C.2.1
  have hI := hI.S [14]
  refine lv_aload_n hx hb dX5_readField_0 rfl (lv_at hl 0 rfl) ?_
  refine t_geti C hH hI.1 mq tq td_14 iX5 rfl 5 (by decide) wd330 rfl rfl dX5_readField_1 (fun z1 rz1 => ?_)
  refine lv_if_eq (tgt := 9) hx hb dX5_readField_4 (by decide) (fun c2 => ?_) (fun c2 => ?_)
  · skip
    have r3 : rg z1 0 0 := rf_eql (c_eq c2) rz1 rl_0 (by decide)
    refine lv_aload_n hx hb dX5_readField_9 rfl (lv_at hl 0 rfl) ?_
    refine lv_aload_n hx hb dX5_readField_10 rfl (lv_at hl 1 rfl) ?_
    refine t_Vi C hO hl.1 hA hH hI.1 (As := [.ref (J (2 * p1.1))]) (rest := []) (t_X5_isWord l E J τ L f hI.1 mq tq p1 hp1) my_X5_isWord wd356 mq tq td_14 rfl rfl rfl (Nat.le_of_ble_eq_true rfl) ⟨Nat.le_of_ble_eq_true rfl, Nat.le_of_ble_eq_true rfl⟩ ⟨rfl, rfl⟩ dX5_readField_11 (fun r5 L1 f4 H locs hp hH => ?_)
    obtain ⟨rfl, s6, h7⟩ := hp
    have hI := hI.call s6 (by decide)
    refine lv_if_ne (tgt := 24) hx hb dX5_readField_14 (by decide) (fun c8 => ?_) (fun c8 => ?_)
    · skip
      have r9 : rg r5 1 1 := rf_nel (n_eq c8) h7 rl_0 (by decide)
      refine lv_aload_n hx hb dX5_readField_24 rfl (lv_at hl 0 rfl) ?_
      refine t_Vv C hO hl.1 hA hH hI.1 (As := []) (rest := []) (t_X5_advance l E J τ L f4 hI.1 mq tq) my_X5_advance wd360 mq tq td_14 rfl rfl rfl (Nat.le_of_ble_eq_true rfl) ⟨Nat.le_of_ble_eq_true rfl, Nat.le_of_ble_eq_true rfl⟩ ⟨rfl, rfl⟩ dX5_readField_25 (fun L1 f10 H locs hp hH => ?_)
      obtain ⟨rfl, s12, h13⟩ := hp
      have hI := hI.call s12 (by decide)
      refine lv_aload_n hx hb dX5_readField_28 rfl (lv_at hl 0 rfl) ?_
      refine t_geti C hH hI.1 mq tq td_14 iX5 rfl 2 (by decide) wd343 rfl rfl dX5_readField_29 (fun z14 rz14 => ?_)
      refine lv_iconst (v := (2 : Int32)) hx hb dX5_readField_32 (by decide) ?_
      refine lv_icmp_eq (tgt := 43) hx hb dX5_readField_33 (by decide) (fun c15 => ?_) (fun c15 => ?_)
      · skip
        have r16 : rg z14 2 2 := rf_eql (c_eq c15) rz14 rl_2 (by decide)
        refine lv_aload_n hx hb dX5_readField_43 rfl (lv_at hl 0 rfl) ?_
        refine t_Vi C hO hl.1 hA hH hI.1 (As := []) (rest := []) (t_X5_numberRead l E J τ L f10 hI.1 mq tq) my_X5_numberRead wd364 mq tq td_14 rfl rfl rfl (Nat.le_of_ble_eq_true rfl) ⟨Nat.le_of_ble_eq_true rfl, Nat.le_of_ble_eq_true rfl⟩ ⟨rfl, rfl⟩ dX5_readField_44 (fun r18 L1 f17 H locs hp hH => ?_)
        obtain ⟨rfl, s19, h20⟩ := hp
        have hI := hI.call s19 (by decide)
        refine lv_istore (lv' := [(4, .int r18), (0, .ref q), (1, .ref (J (2 * p1.1))), (2, .int (1 : Int32)), (3, .int (20 : Int32))]) hx hb dX5_readField_47 hl (by decide) rfl (fun ls hl => ?_)
        refine lv_iload hx hb dX5_readField_49 (lv_at hl 0 rfl) ?_
        refine lv_iload_n hx hb dX5_readField_51 rfl (lv_at hl 3 rfl) ?_
        refine lv_icmp_lt (tgt := 61) hx hb dX5_readField_52 (by decide) (fun c21 => ?_) (fun c21 => ?_)
        · skip
          have r22 : rg r18 (-2147483648) 0 := rf_ltl (c_lt c21) h20 rl_1 (by decide)
          refine lv_aload_n hx hb dX5_readField_61 rfl (lv_at hl 1 rfl) ?_
          refine lv_iconst (v := (2 : Int32)) hx hb dX5_readField_62 (by decide) ?_
          refine t_Vv C hO hl.1 hA hH hI.1 (As := [.int (2 : Int32)]) (rest := []) (t_X5_refuse l E J τ L f17 hI.1 mq tq (2 : Int32)) my_X5_refuse wd368 mq tq td_14 rfl rfl rfl (Nat.le_of_ble_eq_true rfl) ⟨Nat.le_of_ble_eq_true rfl, Nat.le_of_ble_eq_true rfl⟩ ⟨rfl, rfl⟩ dX5_readField_63 (fun L1 f23 H locs hp hH => ?_)
          obtain ⟨rfl, s25, h26⟩ := hp
          have hI := hI.call s25 (by decide)
          refine lv_iload_n hx hb dX5_readField_66 rfl (lv_at hl 3 rfl) ?_
          exact g_iret C hr hH (Nat.zero_le _) (Nat.zero_le _) dX5_readField_67 ⟨rfl, hI, (rg_w rl_1 (by decide))⟩
        · skip
          have r27 : rg r18 1 2147483647 := rf_ler (n_lt c21) rl_1 h20 (by decide)
          refine lv_iload hx hb dX5_readField_55 (lv_at hl 0 rfl) ?_
          refine lv_iload_n hx hb dX5_readField_57 rfl (lv_at hl 4 rfl) ?_
          refine lv_icmp_le (tgt := 68) hx hb dX5_readField_58 (by decide) (fun c28 => ?_) (fun c28 => ?_)
          · skip
            have r29 : rg r18 1 20 := rf_lel (c_le c28) r27 rl_20 (by decide)
            refine lv_aload_n hx hb dX5_readField_68 rfl (lv_at hl 1 rfl) ?_
            refine t_Vv C hO hl.1 hA hH hI.1 (As := []) (rest := []) (t_X5_advance l E J τ L f17 hI.1 mq tq) my_X5_advance wd360 mq tq td_14 rfl rfl rfl (Nat.le_of_ble_eq_true rfl) ⟨Nat.le_of_ble_eq_true rfl, Nat.le_of_ble_eq_true rfl⟩ ⟨rfl, rfl⟩ dX5_readField_69 (fun L1 f30 H locs hp hH => ?_)
            obtain ⟨rfl, s32, h33⟩ := hp
            have hI := hI.call s32 (by decide)
            refine lv_iload hx hb dX5_readField_72 (lv_at hl 0 rfl) ?_
            exact g_iret C hr hH (Nat.zero_le _) (Nat.zero_le _) dX5_readField_74 ⟨rfl, hI, r29⟩
          · skip
            have r34 : rg r18 21 2147483647 := rf_ltr (n_le c28) rl_20 r27 (by decide)
            refine lv_aload_n hx hb dX5_readField_61 rfl (lv_at hl 1 rfl) ?_
            refine lv_iconst (v := (2 : Int32)) hx hb dX5_readField_62 (by decide) ?_
            refine t_Vv C hO hl.1 hA hH hI.1 (As := [.int (2 : Int32)]) (rest := []) (t_X5_refuse l E J τ L f17 hI.1 mq tq (2 : Int32)) my_X5_refuse wd368 mq tq td_14 rfl rfl rfl (Nat.le_of_ble_eq_true rfl) ⟨Nat.le_of_ble_eq_true rfl, Nat.le_of_ble_eq_true rfl⟩ ⟨rfl, rfl⟩ dX5_readField_63 (fun L1 f35 H locs hp hH => ?_)
            obtain ⟨rfl, s37, h38⟩ := hp
            have hI := hI.call s37 (by decide)
            refine lv_iload_n hx hb dX5_readField_66 rfl (lv_at hl 3 rfl) ?_
            exact g_iret C hr hH (Nat.zero_le _) (Nat.zero_le _) dX5_readField_67 ⟨rfl, hI, (rg_w rl_1 (by decide))⟩
      · skip
        refine lv_aload_n hx hb dX5_readField_36 rfl (lv_at hl 0 rfl) ?_
        refine lv_iconst (v := (1 : Int32)) hx hb dX5_readField_37 (by decide) ?_
        refine t_Vv C hO hl.1 hA hH hI.1 (As := [.int (1 : Int32)]) (rest := []) (t_X5_refuse l E J τ L f10 hI.1 mq tq (1 : Int32)) my_X5_refuse wd368 mq tq td_14 rfl rfl rfl (Nat.le_of_ble_eq_true rfl) ⟨Nat.le_of_ble_eq_true rfl, Nat.le_of_ble_eq_true rfl⟩ ⟨rfl, rfl⟩ dX5_readField_38 (fun L1 f39 H locs hp hH => ?_)
        obtain ⟨rfl, s41, h42⟩ := hp
        have hI := hI.call s41 (by decide)
        refine lv_iload_n hx hb dX5_readField_41 rfl (lv_at hl 2 rfl) ?_
        exact g_iret C hr hH (Nat.zero_le _) (Nat.zero_le _) dX5_readField_42 ⟨rfl, hI, (rg_w rl_1 (by decide))⟩
    · skip
      have r43 : rg r5 0 0 := rf_eql (c_eq c8) h7 rl_0 (by decide)
      refine lv_aload_n hx hb dX5_readField_17 rfl (lv_at hl 0 rfl) ?_
      refine lv_iconst (v := (1 : Int32)) hx hb dX5_readField_18 (by decide) ?_
      refine t_Vv C hO hl.1 hA hH hI.1 (As := [.int (1 : Int32)]) (rest := []) (t_X5_refuse l E J τ L f4 hI.1 mq tq (1 : Int32)) my_X5_refuse wd368 mq tq td_14 rfl rfl rfl (Nat.le_of_ble_eq_true rfl) ⟨Nat.le_of_ble_eq_true rfl, Nat.le_of_ble_eq_true rfl⟩ ⟨rfl, rfl⟩ dX5_readField_19 (fun L1 f44 H locs hp hH => ?_)
      obtain ⟨rfl, s46, h47⟩ := hp
      have hI := hI.call s46 (by decide)
      refine lv_iload_n hx hb dX5_readField_22 rfl (lv_at hl 2 rfl) ?_
      exact g_iret C hr hH (Nat.zero_le _) (Nat.zero_le _) dX5_readField_23 ⟨rfl, hI, (rg_w rl_1 (by decide))⟩
  · skip
    refine lv_iload_n hx hb dX5_readField_7 rfl (lv_at hl 2 rfl) ?_
    exact g_iret C hr hH (Nat.zero_le _) (Nat.zero_le _) dX5_readField_8 ⟨rfl, hI, (rg_w rl_1 (by decide))⟩
set_option maxHeartbeats 4000000 in
set_option maxRecDepth 100000 in
theorem t_readField_0_99 (l : Launch) (E : gE) (J : Nat → Nat) (τ : Nat → Nat) (L : List Nat) (f : gF) (hI : tI E L τ f) {q : Nat} (mq : q ∈ L) (tq : τ q = 14) (p1 : Nat × String × Nat) (hp1 : p1 ∈ gStr) (p2 : Int32) (rp2 : rg p2 0 0) (p3 : Int32) (rp3 : rg p3 99 99) : tMi l E J yX5_readField cX5_readField 5 .int (gRm (6) 0 0) [.ref q, .ref (J (2 * p1.1)), .int p2, .int p3] L f (tPi E L τ [14] f (fun r f1 => rg r 0 99)) := by
  refine tMi.intro (by decide) (Nat.le_of_ble_eq_true rfl) ?_
  intro p e s m below meth c A ls C hr hA hO hH hl
  have C : gC E cX5_readField 5 RX5 p s m _ meth c := C
  obtain rfl : p2 = (0 : Int32) := Int32.toInt_inj.mp (Int.le_antisymm (by rw [tl_0]; exact rp2.2) (by rw [tl_0]; exact rp2.1))
  obtain rfl : p3 = (99 : Int32) := Int32.toInt_inj.mp (Int.le_antisymm (by rw [tl_99]; exact rp3.2) (by rw [tl_99]; exact rp3.1))
  have hl : lv_has ls 5 [(0, .ref q), (1, .ref (J (2 * p1.1))), (2, .int (0 : Int32)), (3, .int (99 : Int32))] := hl
  have hx := C.1
  have hb := C.2.1
  have hI := hI.S [14]
  refine lv_aload_n hx hb dX5_readField_0 rfl (lv_at hl 0 rfl) ?_
  refine t_geti C hH hI.1 mq tq td_14 iX5 rfl 5 (by decide) wd330 rfl rfl dX5_readField_1 (fun z1 rz1 => ?_)
  refine lv_if_eq (tgt := 9) hx hb dX5_readField_4 (by decide) (fun c2 => ?_) (fun c2 => ?_)
  · skip
    have r3 : rg z1 0 0 := rf_eql (c_eq c2) rz1 rl_0 (by decide)
    refine lv_aload_n hx hb dX5_readField_9 rfl (lv_at hl 0 rfl) ?_
    refine lv_aload_n hx hb dX5_readField_10 rfl (lv_at hl 1 rfl) ?_
    refine t_Vi C hO hl.1 hA hH hI.1 (As := [.ref (J (2 * p1.1))]) (rest := []) (t_X5_isWord l E J τ L f hI.1 mq tq p1 hp1) my_X5_isWord wd356 mq tq td_14 rfl rfl rfl (Nat.le_of_ble_eq_true rfl) ⟨Nat.le_of_ble_eq_true rfl, Nat.le_of_ble_eq_true rfl⟩ ⟨rfl, rfl⟩ dX5_readField_11 (fun r5 L1 f4 H locs hp hH => ?_)
    obtain ⟨rfl, s6, h7⟩ := hp
    have hI := hI.call s6 (by decide)
    refine lv_if_ne (tgt := 24) hx hb dX5_readField_14 (by decide) (fun c8 => ?_) (fun c8 => ?_)
    · skip
      have r9 : rg r5 1 1 := rf_nel (n_eq c8) h7 rl_0 (by decide)
      refine lv_aload_n hx hb dX5_readField_24 rfl (lv_at hl 0 rfl) ?_
      refine t_Vv C hO hl.1 hA hH hI.1 (As := []) (rest := []) (t_X5_advance l E J τ L f4 hI.1 mq tq) my_X5_advance wd360 mq tq td_14 rfl rfl rfl (Nat.le_of_ble_eq_true rfl) ⟨Nat.le_of_ble_eq_true rfl, Nat.le_of_ble_eq_true rfl⟩ ⟨rfl, rfl⟩ dX5_readField_25 (fun L1 f10 H locs hp hH => ?_)
      obtain ⟨rfl, s12, h13⟩ := hp
      have hI := hI.call s12 (by decide)
      refine lv_aload_n hx hb dX5_readField_28 rfl (lv_at hl 0 rfl) ?_
      refine t_geti C hH hI.1 mq tq td_14 iX5 rfl 2 (by decide) wd343 rfl rfl dX5_readField_29 (fun z14 rz14 => ?_)
      refine lv_iconst (v := (2 : Int32)) hx hb dX5_readField_32 (by decide) ?_
      refine lv_icmp_eq (tgt := 43) hx hb dX5_readField_33 (by decide) (fun c15 => ?_) (fun c15 => ?_)
      · skip
        have r16 : rg z14 2 2 := rf_eql (c_eq c15) rz14 rl_2 (by decide)
        refine lv_aload_n hx hb dX5_readField_43 rfl (lv_at hl 0 rfl) ?_
        refine t_Vi C hO hl.1 hA hH hI.1 (As := []) (rest := []) (t_X5_numberRead l E J τ L f10 hI.1 mq tq) my_X5_numberRead wd364 mq tq td_14 rfl rfl rfl (Nat.le_of_ble_eq_true rfl) ⟨Nat.le_of_ble_eq_true rfl, Nat.le_of_ble_eq_true rfl⟩ ⟨rfl, rfl⟩ dX5_readField_44 (fun r18 L1 f17 H locs hp hH => ?_)
        obtain ⟨rfl, s19, h20⟩ := hp
        have hI := hI.call s19 (by decide)
        refine lv_istore (lv' := [(4, .int r18), (0, .ref q), (1, .ref (J (2 * p1.1))), (2, .int (0 : Int32)), (3, .int (99 : Int32))]) hx hb dX5_readField_47 hl (by decide) rfl (fun ls hl => ?_)
        refine lv_iload hx hb dX5_readField_49 (lv_at hl 0 rfl) ?_
        refine lv_iload_n hx hb dX5_readField_51 rfl (lv_at hl 3 rfl) ?_
        refine lv_icmp_lt (tgt := 61) hx hb dX5_readField_52 (by decide) (fun c21 => ?_) (fun c21 => ?_)
        · skip
          have r22 : rg r18 (-2147483648) (-1) := rf_ltl (c_lt c21) h20 rl_0 (by decide)
          refine lv_aload_n hx hb dX5_readField_61 rfl (lv_at hl 1 rfl) ?_
          refine lv_iconst (v := (2 : Int32)) hx hb dX5_readField_62 (by decide) ?_
          refine t_Vv C hO hl.1 hA hH hI.1 (As := [.int (2 : Int32)]) (rest := []) (t_X5_refuse l E J τ L f17 hI.1 mq tq (2 : Int32)) my_X5_refuse wd368 mq tq td_14 rfl rfl rfl (Nat.le_of_ble_eq_true rfl) ⟨Nat.le_of_ble_eq_true rfl, Nat.le_of_ble_eq_true rfl⟩ ⟨rfl, rfl⟩ dX5_readField_63 (fun L1 f23 H locs hp hH => ?_)
          obtain ⟨rfl, s25, h26⟩ := hp
          have hI := hI.call s25 (by decide)
          refine lv_iload_n hx hb dX5_readField_66 rfl (lv_at hl 3 rfl) ?_
          exact g_iret C hr hH (Nat.zero_le _) (Nat.zero_le _) dX5_readField_67 ⟨rfl, hI, (rg_w rl_0 (by decide))⟩
        · skip
          have r27 : rg r18 0 2147483647 := rf_ler (n_lt c21) rl_0 h20 (by decide)
          refine lv_iload hx hb dX5_readField_55 (lv_at hl 0 rfl) ?_
          refine lv_iload_n hx hb dX5_readField_57 rfl (lv_at hl 4 rfl) ?_
          refine lv_icmp_le (tgt := 68) hx hb dX5_readField_58 (by decide) (fun c28 => ?_) (fun c28 => ?_)
          · skip
            have r29 : rg r18 0 99 := rf_lel (c_le c28) r27 rl_99 (by decide)
            refine lv_aload_n hx hb dX5_readField_68 rfl (lv_at hl 1 rfl) ?_
            refine t_Vv C hO hl.1 hA hH hI.1 (As := []) (rest := []) (t_X5_advance l E J τ L f17 hI.1 mq tq) my_X5_advance wd360 mq tq td_14 rfl rfl rfl (Nat.le_of_ble_eq_true rfl) ⟨Nat.le_of_ble_eq_true rfl, Nat.le_of_ble_eq_true rfl⟩ ⟨rfl, rfl⟩ dX5_readField_69 (fun L1 f30 H locs hp hH => ?_)
            obtain ⟨rfl, s32, h33⟩ := hp
            have hI := hI.call s32 (by decide)
            refine lv_iload hx hb dX5_readField_72 (lv_at hl 0 rfl) ?_
            exact g_iret C hr hH (Nat.zero_le _) (Nat.zero_le _) dX5_readField_74 ⟨rfl, hI, r29⟩
          · skip
            have r34 : rg r18 100 2147483647 := rf_ltr (n_le c28) rl_99 r27 (by decide)
            refine lv_aload_n hx hb dX5_readField_61 rfl (lv_at hl 1 rfl) ?_
            refine lv_iconst (v := (2 : Int32)) hx hb dX5_readField_62 (by decide) ?_
            refine t_Vv C hO hl.1 hA hH hI.1 (As := [.int (2 : Int32)]) (rest := []) (t_X5_refuse l E J τ L f17 hI.1 mq tq (2 : Int32)) my_X5_refuse wd368 mq tq td_14 rfl rfl rfl (Nat.le_of_ble_eq_true rfl) ⟨Nat.le_of_ble_eq_true rfl, Nat.le_of_ble_eq_true rfl⟩ ⟨rfl, rfl⟩ dX5_readField_63 (fun L1 f35 H locs hp hH => ?_)
            obtain ⟨rfl, s37, h38⟩ := hp
            have hI := hI.call s37 (by decide)
            refine lv_iload_n hx hb dX5_readField_66 rfl (lv_at hl 3 rfl) ?_
            exact g_iret C hr hH (Nat.zero_le _) (Nat.zero_le _) dX5_readField_67 ⟨rfl, hI, (rg_w rl_0 (by decide))⟩
      · skip
        refine lv_aload_n hx hb dX5_readField_36 rfl (lv_at hl 0 rfl) ?_
        refine lv_iconst (v := (1 : Int32)) hx hb dX5_readField_37 (by decide) ?_
        refine t_Vv C hO hl.1 hA hH hI.1 (As := [.int (1 : Int32)]) (rest := []) (t_X5_refuse l E J τ L f10 hI.1 mq tq (1 : Int32)) my_X5_refuse wd368 mq tq td_14 rfl rfl rfl (Nat.le_of_ble_eq_true rfl) ⟨Nat.le_of_ble_eq_true rfl, Nat.le_of_ble_eq_true rfl⟩ ⟨rfl, rfl⟩ dX5_readField_38 (fun L1 f39 H locs hp hH => ?_)
        obtain ⟨rfl, s41, h42⟩ := hp
        have hI := hI.call s41 (by decide)
        refine lv_iload_n hx hb dX5_readField_41 rfl (lv_at hl 2 rfl) ?_
        exact g_iret C hr hH (Nat.zero_le _) (Nat.zero_le _) dX5_readField_42 ⟨rfl, hI, (rg_w rl_0 (by decide))⟩
    · skip
      have r43 : rg r5 0 0 := rf_eql (c_eq c8) h7 rl_0 (by decide)
      refine lv_aload_n hx hb dX5_readField_17 rfl (lv_at hl 0 rfl) ?_
      refine lv_iconst (v := (1 : Int32)) hx hb dX5_readField_18 (by decide) ?_
      refine t_Vv C hO hl.1 hA hH hI.1 (As := [.int (1 : Int32)]) (rest := []) (t_X5_refuse l E J τ L f4 hI.1 mq tq (1 : Int32)) my_X5_refuse wd368 mq tq td_14 rfl rfl rfl (Nat.le_of_ble_eq_true rfl) ⟨Nat.le_of_ble_eq_true rfl, Nat.le_of_ble_eq_true rfl⟩ ⟨rfl, rfl⟩ dX5_readField_19 (fun L1 f44 H locs hp hH => ?_)
      obtain ⟨rfl, s46, h47⟩ := hp
      have hI := hI.call s46 (by decide)
      refine lv_iload_n hx hb dX5_readField_22 rfl (lv_at hl 2 rfl) ?_
      exact g_iret C hr hH (Nat.zero_le _) (Nat.zero_le _) dX5_readField_23 ⟨rfl, hI, (rg_w rl_0 (by decide))⟩
  · skip
    refine lv_iload_n hx hb dX5_readField_7 rfl (lv_at hl 2 rfl) ?_
    exact g_iret C hr hH (Nat.zero_le _) (Nat.zero_le _) dX5_readField_8 ⟨rfl, hI, (rg_w rl_0 (by decide))⟩
set_option maxHeartbeats 4000000 in
set_option maxRecDepth 100000 in
theorem t_X5_readHeadLine (l : Launch) (E : gE) (J : Nat → Nat) (τ : Nat → Nat) (L : List Nat) (f : gF) (hI : tI E L τ f) {q : Nat} (mq : q ∈ L) (tq : τ q = 14) : tMv l E J yX5_readHeadLine cX5_readHeadLine 1 (gRm (7) 0 0) [.ref q] L f (tPv E L τ [14, 35] f (fun f1 => True)) := by
  refine tMv.intro (by decide) (Nat.le_of_ble_eq_true rfl) ?_
  intro p e s m below meth c A ls C hr hA hO hH hl
  have C : gC E cX5_readHeadLine 1 RX5 p s m _ meth c := C
  have hl : lv_has ls 1 [(0, .ref q)] := hl
  have hx := C.1
  have hb := C.2.1
  have hI := hI.S [14, 35]
  obtain ⟨q_1, mq_1, tq_1, kq_1⟩ := t_fldr hI.1 mq tq td_14 (k := 1) rfl
  refine lv_aload_n hx hb dX5_readHeadLine_0 rfl (lv_at hl 0 rfl) ?_
  have hs1 : ((85, "land", 4) : Nat × String × Nat) ∈ gStr := (List.mem_of_getElem? (i := 4) rfl)
  refine va_ldcS hx hb C.2.2.2.1 (hO.2.2.2 _ hs1).1 dX5_readHeadLine_1 ?_
  refine t_Vi C hO hl.1 hA hH hI.1 (As := [.ref (J (2 * ((85, "land", 4) : Nat × String × Nat).1))]) (rest := []) (t_X5_isWord l E J τ L f hI.1 mq tq ((85, "land", 4) : Nat × String × Nat) hs1) my_X5_isWord wd356 mq tq td_14 rfl rfl rfl (Nat.le_of_ble_eq_true rfl) ⟨Nat.le_of_ble_eq_true rfl, Nat.le_of_ble_eq_true rfl⟩ ⟨rfl, rfl⟩ dX5_readHeadLine_3 (fun r3 L1 f2 H locs hp hH => ?_)
  obtain ⟨rfl, s4, h5⟩ := hp
  have hI := hI.call s4 (by decide)
  refine lv_if_ne (tgt := 15) hx hb dX5_readHeadLine_6 (by decide) (fun c6 => ?_) (fun c6 => ?_)
  · skip
    have r7 : rg r3 1 1 := rf_nel (n_eq c6) h5 rl_0 (by decide)
    refine lv_aload_n hx hb dX5_readHeadLine_15 rfl (lv_at hl 0 rfl) ?_
    refine t_Vv C hO hl.1 hA hH hI.1 (As := []) (rest := []) (t_X5_advance l E J τ L f2 hI.1 mq tq) my_X5_advance wd360 mq tq td_14 rfl rfl rfl (Nat.le_of_ble_eq_true rfl) ⟨Nat.le_of_ble_eq_true rfl, Nat.le_of_ble_eq_true rfl⟩ ⟨rfl, rfl⟩ dX5_readHeadLine_16 (fun L1 f8 H locs hp hH => ?_)
    obtain ⟨rfl, s10, h11⟩ := hp
    have hI := hI.call s10 (by decide)
    refine lv_aload_n hx hb dX5_readHeadLine_19 rfl (lv_at hl 0 rfl) ?_
    refine t_getX C hH hI.1 mq tq td_14 iX5 rfl 1 (by decide) wd369 rfl (hI.rf kq_1) dX5_readHeadLine_20 ?_
    refine lv_aload_n hx hb dX5_readHeadLine_23 rfl (lv_at hl 0 rfl) ?_
    have hs12 : ((87, "wide", 4) : Nat × String × Nat) ∈ gStr := (List.mem_of_getElem? (i := 5) rfl)
    refine va_ldcS hx hb C.2.2.2.1 (hO.2.2.2 _ hs12).1 dX5_readHeadLine_24 ?_
    refine lv_iconst (v := (1 : Int32)) hx hb dX5_readHeadLine_26 (by decide) ?_
    refine lv_iconst (v := (5 : Int32)) hx hb dX5_readHeadLine_27 (by decide) ?_
    refine t_Vi C hO hl.1 hA hH hI.1 (As := [.ref (J (2 * ((87, "wide", 4) : Nat × String × Nat).1)), .int (1 : Int32), .int (5 : Int32)]) (rest := [.ref q_1]) (t_readField_1_5 l E J τ L f8 hI.1 mq tq ((87, "wide", 4) : Nat × String × Nat) hs12 (1 : Int32) rl_1 (5 : Int32) rl_5) my_X5_readField wd373 mq tq td_14 rfl rfl rfl (Nat.le_of_ble_eq_true rfl) ⟨Nat.le_of_ble_eq_true rfl, Nat.le_of_ble_eq_true rfl⟩ ⟨rfl, rfl⟩ dX5_readHeadLine_28 (fun r14 L1 f13 H locs hp hH => ?_)
    obtain ⟨rfl, s15, h16⟩ := hp
    have hI := hI.call s15 (by decide)
    refine t_put C hH hI mq_1 tq_1 (by decide) td_35 iX3 tyX3 tyX3_ok nmX3 rfl 1 (by decide) wd374 rfl rfl (v := .int r14) rfl rfl rfl ⟨_, rfl, (rg_w h16 (by decide))⟩ (fun _ h => nomatch h) dX5_readHeadLine_31 (fun f17 H locs hH hI nf17 of17 bf17 => ?_)
    refine lv_aload_n hx hb dX5_readHeadLine_34 rfl (lv_at hl 0 rfl) ?_
    refine t_getX C hH hI.1 mq tq td_14 iX5 rfl 1 (by decide) wd369 rfl (hI.rf kq_1) dX5_readHeadLine_35 ?_
    refine lv_aload_n hx hb dX5_readHeadLine_38 rfl (lv_at hl 0 rfl) ?_
    have hs18 : ((91, "high", 4) : Nat × String × Nat) ∈ gStr := (List.mem_of_getElem? (i := 6) rfl)
    refine va_ldcS hx hb C.2.2.2.1 (hO.2.2.2 _ hs18).1 dX5_readHeadLine_39 ?_
    refine lv_iconst (v := (1 : Int32)) hx hb dX5_readHeadLine_41 (by decide) ?_
    refine lv_iconst (v := (4 : Int32)) hx hb dX5_readHeadLine_42 (by decide) ?_
    refine t_Vi C hO hl.1 hA hH hI.1 (As := [.ref (J (2 * ((91, "high", 4) : Nat × String × Nat).1)), .int (1 : Int32), .int (4 : Int32)]) (rest := [.ref q_1]) (t_readField_1_4 l E J τ L f17 hI.1 mq tq ((91, "high", 4) : Nat × String × Nat) hs18 (1 : Int32) rl_1 (4 : Int32) rl_4) my_X5_readField wd373 mq tq td_14 rfl rfl rfl (Nat.le_of_ble_eq_true rfl) ⟨Nat.le_of_ble_eq_true rfl, Nat.le_of_ble_eq_true rfl⟩ ⟨rfl, rfl⟩ dX5_readHeadLine_43 (fun r20 L1 f19 H locs hp hH => ?_)
    obtain ⟨rfl, s21, h22⟩ := hp
    have hI := hI.call s21 (by decide)
    refine t_put C hH hI mq_1 tq_1 (by decide) td_35 iX3 tyX3 tyX3_ok nmX3 rfl 2 (by decide) wd375 rfl rfl (v := .int r20) rfl rfl rfl ⟨_, rfl, (rg_w h22 (by decide))⟩ (fun _ h => nomatch h) dX5_readHeadLine_46 (fun f23 H locs hH hI nf23 of23 bf23 => ?_)
    refine lv_aload_n hx hb dX5_readHeadLine_49 rfl (lv_at hl 0 rfl) ?_
    refine t_getX C hH hI.1 mq tq td_14 iX5 rfl 1 (by decide) wd369 rfl (hI.rf kq_1) dX5_readHeadLine_50 ?_
    refine lv_aload_n hx hb dX5_readHeadLine_53 rfl (lv_at hl 0 rfl) ?_
    have hs24 : ((95, "law", 3) : Nat × String × Nat) ∈ gStr := (List.mem_of_getElem? (i := 7) rfl)
    refine va_ldcS hx hb C.2.2.2.1 (hO.2.2.2 _ hs24).1 dX5_readHeadLine_54 ?_
    refine lv_iconst (v := (0 : Int32)) hx hb dX5_readHeadLine_56 (by decide) ?_
    refine lv_iconst (v := (3 : Int32)) hx hb dX5_readHeadLine_57 (by decide) ?_
    refine t_Vi C hO hl.1 hA hH hI.1 (As := [.ref (J (2 * ((95, "law", 3) : Nat × String × Nat).1)), .int (0 : Int32), .int (3 : Int32)]) (rest := [.ref q_1]) (t_readField_0_3 l E J τ L f23 hI.1 mq tq ((95, "law", 3) : Nat × String × Nat) hs24 (0 : Int32) rl_0 (3 : Int32) rl_3) my_X5_readField wd373 mq tq td_14 rfl rfl rfl (Nat.le_of_ble_eq_true rfl) ⟨Nat.le_of_ble_eq_true rfl, Nat.le_of_ble_eq_true rfl⟩ ⟨rfl, rfl⟩ dX5_readHeadLine_58 (fun r26 L1 f25 H locs hp hH => ?_)
    obtain ⟨rfl, s27, h28⟩ := hp
    have hI := hI.call s27 (by decide)
    refine t_put C hH hI mq_1 tq_1 (by decide) td_35 iX3 tyX3 tyX3_ok nmX3 rfl 3 (by decide) wd376 rfl rfl (v := .int r26) rfl rfl rfl ⟨_, rfl, h28⟩ (fun _ h => nomatch h) dX5_readHeadLine_61 (fun f29 H locs hH hI nf29 of29 bf29 => ?_)
    refine lv_aload_n hx hb dX5_readHeadLine_64 rfl (lv_at hl 0 rfl) ?_
    refine t_getX C hH hI.1 mq tq td_14 iX5 rfl 1 (by decide) wd369 rfl (hI.rf kq_1) dX5_readHeadLine_65 ?_
    refine lv_aload_n hx hb dX5_readHeadLine_68 rfl (lv_at hl 0 rfl) ?_
    have hs30 : ((99, "ear", 3) : Nat × String × Nat) ∈ gStr := (List.mem_of_getElem? (i := 8) rfl)
    refine va_ldcS hx hb C.2.2.2.1 (hO.2.2.2 _ hs30).1 dX5_readHeadLine_69 ?_
    refine lv_iconst (v := (0 : Int32)) hx hb dX5_readHeadLine_71 (by decide) ?_
    refine lv_bipush (v := (8 : Int32)) hx hb dX5_readHeadLine_72 (by decide) ?_
    refine t_Vi C hO hl.1 hA hH hI.1 (As := [.ref (J (2 * ((99, "ear", 3) : Nat × String × Nat).1)), .int (0 : Int32), .int (8 : Int32)]) (rest := [.ref q_1]) (t_readField_0_8 l E J τ L f29 hI.1 mq tq ((99, "ear", 3) : Nat × String × Nat) hs30 (0 : Int32) rl_0 (8 : Int32) rl_8) my_X5_readField wd373 mq tq td_14 rfl rfl rfl (Nat.le_of_ble_eq_true rfl) ⟨Nat.le_of_ble_eq_true rfl, Nat.le_of_ble_eq_true rfl⟩ ⟨rfl, rfl⟩ dX5_readHeadLine_74 (fun r32 L1 f31 H locs hp hH => ?_)
    obtain ⟨rfl, s33, h34⟩ := hp
    have hI := hI.call s33 (by decide)
    refine t_put C hH hI mq_1 tq_1 (by decide) td_35 iX3 tyX3 tyX3_ok nmX3 rfl 4 (by decide) wd377 rfl rfl (v := .int r32) rfl rfl rfl ⟨_, rfl, (rg_w h34 (by decide))⟩ (fun _ h => nomatch h) dX5_readHeadLine_77 (fun f35 H locs hH hI nf35 of35 bf35 => ?_)
    refine lv_aload_n hx hb dX5_readHeadLine_80 rfl (lv_at hl 0 rfl) ?_
    refine t_getX C hH hI.1 mq tq td_14 iX5 rfl 1 (by decide) wd369 rfl (hI.rf kq_1) dX5_readHeadLine_81 ?_
    refine lv_aload_n hx hb dX5_readHeadLine_84 rfl (lv_at hl 0 rfl) ?_
    have hs36 : ((103, "odds", 4) : Nat × String × Nat) ∈ gStr := (List.mem_of_getElem? (i := 9) rfl)
    refine va_ldcS hx hb C.2.2.2.1 (hO.2.2.2 _ hs36).1 dX5_readHeadLine_85 ?_
    refine lv_iconst (v := (0 : Int32)) hx hb dX5_readHeadLine_87 (by decide) ?_
    refine lv_bipush (v := (10 : Int32)) hx hb dX5_readHeadLine_88 (by decide) ?_
    refine t_Vi C hO hl.1 hA hH hI.1 (As := [.ref (J (2 * ((103, "odds", 4) : Nat × String × Nat).1)), .int (0 : Int32), .int (10 : Int32)]) (rest := [.ref q_1]) (t_readField_0_10 l E J τ L f35 hI.1 mq tq ((103, "odds", 4) : Nat × String × Nat) hs36 (0 : Int32) rl_0 (10 : Int32) rl_10) my_X5_readField wd373 mq tq td_14 rfl rfl rfl (Nat.le_of_ble_eq_true rfl) ⟨Nat.le_of_ble_eq_true rfl, Nat.le_of_ble_eq_true rfl⟩ ⟨rfl, rfl⟩ dX5_readHeadLine_90 (fun r38 L1 f37 H locs hp hH => ?_)
    obtain ⟨rfl, s39, h40⟩ := hp
    have hI := hI.call s39 (by decide)
    refine t_put C hH hI mq_1 tq_1 (by decide) td_35 iX3 tyX3 tyX3_ok nmX3 rfl 5 (by decide) wd378 rfl rfl (v := .int r38) rfl rfl rfl ⟨_, rfl, (rg_w h40 (by decide))⟩ (fun _ h => nomatch h) dX5_readHeadLine_93 (fun f41 H locs hH hI nf41 of41 bf41 => ?_)
    exact g_vret C hr hH (Nat.zero_le _) (Nat.zero_le _) dX5_readHeadLine_96 ⟨rfl, hI, trivial⟩
  · skip
    have r42 : rg r3 0 0 := rf_eql (c_eq c6) h5 rl_0 (by decide)
    refine lv_aload_n hx hb dX5_readHeadLine_9 rfl (lv_at hl 0 rfl) ?_
    refine lv_iconst (v := (1 : Int32)) hx hb dX5_readHeadLine_10 (by decide) ?_
    refine t_Vv C hO hl.1 hA hH hI.1 (As := [.int (1 : Int32)]) (rest := []) (t_X5_refuse l E J τ L f2 hI.1 mq tq (1 : Int32)) my_X5_refuse wd368 mq tq td_14 rfl rfl rfl (Nat.le_of_ble_eq_true rfl) ⟨Nat.le_of_ble_eq_true rfl, Nat.le_of_ble_eq_true rfl⟩ ⟨rfl, rfl⟩ dX5_readHeadLine_11 (fun L1 f43 H locs hp hH => ?_)
    obtain ⟨rfl, s45, h46⟩ := hp
    have hI := hI.call s45 (by decide)
    exact g_vret C hr hH (Nat.zero_le _) (Nat.zero_le _) dX5_readHeadLine_14 ⟨rfl, hI, trivial⟩
set_option maxHeartbeats 4000000 in
set_option maxRecDepth 100000 in
theorem t_X5_readFlightLine (l : Launch) (E : gE) (J : Nat → Nat) (τ : Nat → Nat) (L : List Nat) (f : gF) (hI : tI E L τ f) {q : Nat} (mq : q ∈ L) (tq : τ q = 14) : tMv l E J yX5_readFlightLine cX5_readFlightLine 1 (gRm (7) 0 0) [.ref q] L f (tPv E L τ [4, 5, 6, 14, 35] f (fun f1 => True)) := by
  refine tMv.intro (by decide) (Nat.le_of_ble_eq_true rfl) ?_
  intro p e s m below meth c A ls C hr hA hO hH hl
  have C : gC E cX5_readFlightLine 1 RX5 p s m _ meth c := C
  have hl : lv_has ls 1 [(0, .ref q)] := hl
  have hx := C.1
  have hb := C.2.1
  have hI := hI.S [4, 5, 6, 14, 35]
  obtain ⟨q_1, mq_1, tq_1, kq_1⟩ := t_fldr hI.1 mq tq td_14 (k := 1) rfl
  obtain ⟨q_1_10, mq_1_10, tq_1_10, kq_1_10⟩ := t_fldr hI.1 mq_1 tq_1 td_35 (k := 10) rfl
  obtain ⟨q_1_11, mq_1_11, tq_1_11, kq_1_11⟩ := t_fldr hI.1 mq_1 tq_1 td_35 (k := 11) rfl
  obtain ⟨q_1_12, mq_1_12, tq_1_12, kq_1_12⟩ := t_fldr hI.1 mq_1 tq_1 td_35 (k := 12) rfl
  refine lv_aload_n hx hb dX5_readFlightLine_0 rfl (lv_at hl 0 rfl) ?_
  refine t_getX C hH hI.1 mq tq td_14 iX5 rfl 1 (by decide) wd369 rfl (hI.rf kq_1) dX5_readFlightLine_1 ?_
  obtain ⟨z1, rz1, kz1⟩ := t_fldi hI.1 mq_1 tq_1 td_35 (k := 6) rfl
  refine t_getX C hH hI.1 mq_1 tq_1 td_35 iX3 rfl 6 (by decide) wd379 rfl kz1 dX5_readFlightLine_4 ?_
  refine lv_iconst (v := (4 : Int32)) hx hb dX5_readFlightLine_7 (by decide) ?_
  refine lv_icmp_lt (tgt := 17) hx hb dX5_readFlightLine_8 (by decide) (fun c2 => ?_) (fun c2 => ?_)
  · skip
    have r3 : rg z1 0 3 := rf_ltl (c_lt c2) rz1 rl_4 (by decide)
    refine lv_aload_n hx hb dX5_readFlightLine_17 rfl (lv_at hl 0 rfl) ?_
    refine t_Vv C hO hl.1 hA hH hI.1 (As := []) (rest := []) (t_X5_advance l E J τ L f hI.1 mq tq) my_X5_advance wd360 mq tq td_14 rfl rfl rfl (Nat.le_of_ble_eq_true rfl) ⟨Nat.le_of_ble_eq_true rfl, Nat.le_of_ble_eq_true rfl⟩ ⟨rfl, rfl⟩ dX5_readFlightLine_18 (fun L1 f4 H locs hp hH => ?_)
    obtain ⟨rfl, s6, h7⟩ := hp
    have hI := hI.call s6 (by decide)
    have k8 : fld f4 q_1 6 (.int z1) := fld.eq kz1 (s6.fr q_1 mq_1 (t_lim tq_1 rfl))
    refine lv_aload_n hx hb dX5_readFlightLine_21 rfl (lv_at hl 0 rfl) ?_
    refine t_getX C hH hI.1 mq tq td_14 iX5 rfl 1 (by decide) wd369 rfl (hI.rf kq_1) dX5_readFlightLine_22 ?_
    refine t_getX C hH hI.1 mq_1 tq_1 td_35 iX3 rfl 10 (by decide) wd380 rfl (hI.rf kq_1_10) dX5_readFlightLine_25 ?_
    refine lv_aload_n hx hb dX5_readFlightLine_28 rfl (lv_at hl 0 rfl) ?_
    refine t_getX C hH hI.1 mq tq td_14 iX5 rfl 1 (by decide) wd369 rfl (hI.rf kq_1) dX5_readFlightLine_29 ?_
    refine t_getX C hH hI.1 mq_1 tq_1 td_35 iX3 rfl 6 (by decide) wd379 rfl k8 dX5_readFlightLine_32 ?_
    refine lv_aload_n hx hb dX5_readFlightLine_35 rfl (lv_at hl 0 rfl) ?_
    have hs9 : ((71, "at", 2) : Nat × String × Nat) ∈ gStr := (List.mem_of_getElem? (i := 3) rfl)
    refine va_ldcS hx hb C.2.2.2.1 (hO.2.2.2 _ hs9).1 dX5_readFlightLine_36 ?_
    refine lv_iconst (v := (0 : Int32)) hx hb dX5_readFlightLine_38 (by decide) ?_
    refine lv_aload_n hx hb dX5_readFlightLine_39 rfl (lv_at hl 0 rfl) ?_
    refine t_getX C hH hI.1 mq tq td_14 iX5 rfl 1 (by decide) wd369 rfl (hI.rf kq_1) dX5_readFlightLine_40 ?_
    refine t_Vi C hO hl.1 hA hH hI.1 (As := []) (rest := [.int (0 : Int32), .ref (J (2 * ((71, "at", 2) : Nat × String × Nat).1)), .ref q, .int z1, .ref q_1_10]) (t_cells_d l E J τ L f4 hI.1 mq_1 tq_1) my_X3_cells wd381 mq_1 tq_1 td_35 rfl rfl rfl (Nat.le_of_ble_eq_true rfl) ⟨Nat.le_of_ble_eq_true rfl, Nat.le_of_ble_eq_true rfl⟩ ⟨rfl, rfl⟩ dX5_readFlightLine_43 (fun r11 L1 f10 H locs hp hH => ?_)
    obtain ⟨rfl, s12, h13⟩ := hp
    have hI := hI.call s12 (by decide)
    have k14 : fld f10 q_1 6 (.int z1) := fld.eq k8 (s12.fr q_1 mq_1 (t_lim tq_1 rfl))
    refine lv_iconst (v := (1 : Int32)) hx hb dX5_readFlightLine_46 (by decide) ?_
    refine lv_isub hx hb dX5_readFlightLine_47 ?_
    refine lv_topi (fun z15 ez15 => ?_)
    have r16 : rg z15 (-1) 19 := rg_sub ez15 h13 rl_1 (by decide)
    refine t_Vi C hO hl.1 hA hH hI.1 (As := [.ref (J (2 * ((71, "at", 2) : Nat × String × Nat).1)), .int (0 : Int32), .int z15]) (rest := [.int z1, .ref q_1_10]) (t_readField_0_19 l E J τ L f10 hI.1 mq tq ((71, "at", 2) : Nat × String × Nat) hs9 (0 : Int32) rl_0 z15 r16) my_X5_readField wd373 mq tq td_14 rfl rfl rfl (Nat.le_of_ble_eq_true rfl) ⟨Nat.le_of_ble_eq_true rfl, Nat.le_of_ble_eq_true rfl⟩ ⟨rfl, rfl⟩ dX5_readFlightLine_48 (fun r18 L1 f17 H locs hp hH => ?_)
    obtain ⟨rfl, s19, h20⟩ := hp
    have hI := hI.call s19 (by decide)
    have k21 : fld f17 q_1 6 (.int z1) := fld.eq k14 (s19.fr q_1 mq_1 (t_lim tq_1 rfl))
    refine t_ast C hH hI mq_1_10 tq_1_10 (by decide) td_4 (rg_in r3 (by decide)) (fun _ _ h => tR_upd h h20) dX5_readFlightLine_51 (fun f22 H locs hH hI bf22 uf22 => ?_)
    have k23 : fld f22 q_1 6 (.int z1) := fld.eq k21 (bf22 q_1 (ty_ne tq_1 tq_1_10 rfl))
    refine lv_aload_n hx hb dX5_readFlightLine_52 rfl (lv_at hl 0 rfl) ?_
    refine t_getX C hH hI.1 mq tq td_14 iX5 rfl 1 (by decide) wd369 rfl (hI.rf kq_1) dX5_readFlightLine_53 ?_
    refine t_getX C hH hI.1 mq_1 tq_1 td_35 iX3 rfl 11 (by decide) wd382 rfl (hI.rf kq_1_11) dX5_readFlightLine_56 ?_
    refine lv_aload_n hx hb dX5_readFlightLine_59 rfl (lv_at hl 0 rfl) ?_
    refine t_getX C hH hI.1 mq tq td_14 iX5 rfl 1 (by decide) wd369 rfl (hI.rf kq_1) dX5_readFlightLine_60 ?_
    refine t_getX C hH hI.1 mq_1 tq_1 td_35 iX3 rfl 6 (by decide) wd379 rfl k23 dX5_readFlightLine_63 ?_
    refine lv_aload_n hx hb dX5_readFlightLine_66 rfl (lv_at hl 0 rfl) ?_
    have hs24 : ((117, "heads", 5) : Nat × String × Nat) ∈ gStr := (List.mem_of_getElem? (i := 10) rfl)
    refine va_ldcS hx hb C.2.2.2.1 (hO.2.2.2 _ hs24).1 dX5_readFlightLine_67 ?_
    refine lv_iconst (v := (0 : Int32)) hx hb dX5_readFlightLine_69 (by decide) ?_
    refine lv_iconst (v := (3 : Int32)) hx hb dX5_readFlightLine_70 (by decide) ?_
    refine t_Vi C hO hl.1 hA hH hI.1 (As := [.ref (J (2 * ((117, "heads", 5) : Nat × String × Nat).1)), .int (0 : Int32), .int (3 : Int32)]) (rest := [.int z1, .ref q_1_11]) (t_readField_0_3 l E J τ L f22 hI.1 mq tq ((117, "heads", 5) : Nat × String × Nat) hs24 (0 : Int32) rl_0 (3 : Int32) rl_3) my_X5_readField wd373 mq tq td_14 rfl rfl rfl (Nat.le_of_ble_eq_true rfl) ⟨Nat.le_of_ble_eq_true rfl, Nat.le_of_ble_eq_true rfl⟩ ⟨rfl, rfl⟩ dX5_readFlightLine_71 (fun r26 L1 f25 H locs hp hH => ?_)
    obtain ⟨rfl, s27, h28⟩ := hp
    have hI := hI.call s27 (by decide)
    have k29 : fld f25 q_1 6 (.int z1) := fld.eq k23 (s27.fr q_1 mq_1 (t_lim tq_1 rfl))
    refine t_ast C hH hI mq_1_11 tq_1_11 (by decide) td_5 (rg_in r3 (by decide)) (fun _ _ h => tR_upd h h28) dX5_readFlightLine_74 (fun f30 H locs hH hI bf30 uf30 => ?_)
    have k31 : fld f30 q_1 6 (.int z1) := fld.eq k29 (bf30 q_1 (ty_ne tq_1 tq_1_11 rfl))
    refine lv_aload_n hx hb dX5_readFlightLine_75 rfl (lv_at hl 0 rfl) ?_
    refine t_getX C hH hI.1 mq tq td_14 iX5 rfl 1 (by decide) wd369 rfl (hI.rf kq_1) dX5_readFlightLine_76 ?_
    refine t_getX C hH hI.1 mq_1 tq_1 td_35 iX3 rfl 12 (by decide) wd383 rfl (hI.rf kq_1_12) dX5_readFlightLine_79 ?_
    refine lv_aload_n hx hb dX5_readFlightLine_82 rfl (lv_at hl 0 rfl) ?_
    refine t_getX C hH hI.1 mq tq td_14 iX5 rfl 1 (by decide) wd369 rfl (hI.rf kq_1) dX5_readFlightLine_83 ?_
    refine t_getX C hH hI.1 mq_1 tq_1 td_35 iX3 rfl 6 (by decide) wd379 rfl k31 dX5_readFlightLine_86 ?_
    refine lv_aload_n hx hb dX5_readFlightLine_89 rfl (lv_at hl 0 rfl) ?_
    have hs32 : ((122, "geese", 5) : Nat × String × Nat) ∈ gStr := (List.mem_of_getElem? (i := 11) rfl)
    refine va_ldcS hx hb C.2.2.2.1 (hO.2.2.2 _ hs32).1 dX5_readFlightLine_90 ?_
    refine lv_iconst (v := (1 : Int32)) hx hb dX5_readFlightLine_92 (by decide) ?_
    refine lv_bipush (v := (20 : Int32)) hx hb dX5_readFlightLine_93 (by decide) ?_
    refine t_Vi C hO hl.1 hA hH hI.1 (As := [.ref (J (2 * ((122, "geese", 5) : Nat × String × Nat).1)), .int (1 : Int32), .int (20 : Int32)]) (rest := [.int z1, .ref q_1_12]) (t_readField_1_20 l E J τ L f30 hI.1 mq tq ((122, "geese", 5) : Nat × String × Nat) hs32 (1 : Int32) rl_1 (20 : Int32) rl_20) my_X5_readField wd373 mq tq td_14 rfl rfl rfl (Nat.le_of_ble_eq_true rfl) ⟨Nat.le_of_ble_eq_true rfl, Nat.le_of_ble_eq_true rfl⟩ ⟨rfl, rfl⟩ dX5_readFlightLine_95 (fun r34 L1 f33 H locs hp hH => ?_)
    obtain ⟨rfl, s35, h36⟩ := hp
    have hI := hI.call s35 (by decide)
    have k37 : fld f33 q_1 6 (.int z1) := fld.eq k31 (s35.fr q_1 mq_1 (t_lim tq_1 rfl))
    refine t_ast C hH hI mq_1_12 tq_1_12 (by decide) td_6 (rg_in r3 (by decide)) (fun _ _ _ => trivial) dX5_readFlightLine_98 (fun f38 H locs hH hI bf38 uf38 => ?_)
    have k39 : fld f38 q_1 6 (.int z1) := fld.eq k37 (bf38 q_1 (ty_ne tq_1 tq_1_12 rfl))
    refine lv_aload_n hx hb dX5_readFlightLine_99 rfl (lv_at hl 0 rfl) ?_
    refine t_getX C hH hI.1 mq tq td_14 iX5 rfl 1 (by decide) wd369 rfl (hI.rf kq_1) dX5_readFlightLine_100 ?_
    refine lv_dup hx hb dX5_readFlightLine_103 rfl ?_
    refine t_getX C hH hI.1 mq_1 tq_1 td_35 iX3 rfl 6 (by decide) wd379 rfl k39 dX5_readFlightLine_104 ?_
    refine lv_iconst (v := (1 : Int32)) hx hb dX5_readFlightLine_107 (by decide) ?_
    refine lv_iadd hx hb dX5_readFlightLine_108 ?_
    refine lv_topi (fun z40 ez40 => ?_)
    have r41 : rg z40 1 4 := rg_add ez40 r3 rl_1 (by decide)
    have a42 : z40.toInt = z1.toInt + 1 := ai_add ez40 r3 tl_1 (by decide)
    refine t_put C hH hI mq_1 tq_1 (by decide) td_35 iX3 tyX3 tyX3_ok nmX3 rfl 6 (by decide) wd379 rfl rfl (v := .int z40) rfl rfl rfl ⟨_, rfl, (rg_w r41 (by decide))⟩ (fun _ h => nomatch h) dX5_readFlightLine_109 (fun f43 H locs hH hI nf43 of43 bf43 => ?_)
    exact g_vret C hr hH (Nat.zero_le _) (Nat.zero_le _) dX5_readFlightLine_112 ⟨rfl, hI, trivial⟩
  · skip
    have r44 : rg z1 4 4 := rf_ler (n_lt c2) rl_4 rz1 (by decide)
    refine lv_aload_n hx hb dX5_readFlightLine_11 rfl (lv_at hl 0 rfl) ?_
    refine lv_iconst (v := (3 : Int32)) hx hb dX5_readFlightLine_12 (by decide) ?_
    refine t_Vv C hO hl.1 hA hH hI.1 (As := [.int (3 : Int32)]) (rest := []) (t_X5_refuse l E J τ L f hI.1 mq tq (3 : Int32)) my_X5_refuse wd368 mq tq td_14 rfl rfl rfl (Nat.le_of_ble_eq_true rfl) ⟨Nat.le_of_ble_eq_true rfl, Nat.le_of_ble_eq_true rfl⟩ ⟨rfl, rfl⟩ dX5_readFlightLine_13 (fun L1 f45 H locs hp hH => ?_)
    obtain ⟨rfl, s47, h48⟩ := hp
    have hI := hI.call s47 (by decide)
    have k49 : fld f45 q_1 6 (.int z1) := fld.eq kz1 (s47.fr q_1 mq_1 (t_lim tq_1 rfl))
    exact g_vret C hr hH (Nat.zero_le _) (Nat.zero_le _) dX5_readFlightLine_16 ⟨rfl, hI, trivial⟩
set_option maxHeartbeats 4000000 in
set_option maxRecDepth 100000 in
theorem t_X5_readMemberLine (l : Launch) (E : gE) (J : Nat → Nat) (τ : Nat → Nat) (L : List Nat) (f : gF) (hI : tI E L τ f) {q : Nat} (mq : q ∈ L) (tq : τ q = 14) : tMv l E J yX5_readMemberLine cX5_readMemberLine 1 (gRm (7) 0 0) [.ref q] L f (tPv E L τ [7, 8, 9, 14, 35] f (fun f1 => True)) := by
  refine tMv.intro (by decide) (Nat.le_of_ble_eq_true rfl) ?_
  intro p e s m below meth c A ls C hr hA hO hH hl
  have C : gC E cX5_readMemberLine 1 RX5 p s m _ meth c := C
  have hl : lv_has ls 1 [(0, .ref q)] := hl
  have hx := C.1
  have hb := C.2.1
  have hI := hI.S [7, 8, 9, 14, 35]
  obtain ⟨q_1, mq_1, tq_1, kq_1⟩ := t_fldr hI.1 mq tq td_14 (k := 1) rfl
  obtain ⟨q_1_13, mq_1_13, tq_1_13, kq_1_13⟩ := t_fldr hI.1 mq_1 tq_1 td_35 (k := 13) rfl
  obtain ⟨q_1_14, mq_1_14, tq_1_14, kq_1_14⟩ := t_fldr hI.1 mq_1 tq_1 td_35 (k := 14) rfl
  obtain ⟨q_1_15, mq_1_15, tq_1_15, kq_1_15⟩ := t_fldr hI.1 mq_1 tq_1 td_35 (k := 15) rfl
  refine lv_aload_n hx hb dX5_readMemberLine_0 rfl (lv_at hl 0 rfl) ?_
  refine t_getX C hH hI.1 mq tq td_14 iX5 rfl 1 (by decide) wd369 rfl (hI.rf kq_1) dX5_readMemberLine_1 ?_
  obtain ⟨z1, rz1, kz1⟩ := t_fldi hI.1 mq_1 tq_1 td_35 (k := 7) rfl
  refine t_getX C hH hI.1 mq_1 tq_1 td_35 iX3 rfl 7 (by decide) wd384 rfl kz1 dX5_readMemberLine_4 ?_
  refine lv_bipush (v := (6 : Int32)) hx hb dX5_readMemberLine_7 (by decide) ?_
  refine lv_icmp_lt (tgt := 18) hx hb dX5_readMemberLine_9 (by decide) (fun c2 => ?_) (fun c2 => ?_)
  · skip
    have r3 : rg z1 0 5 := rf_ltl (c_lt c2) rz1 rl_6 (by decide)
    refine lv_aload_n hx hb dX5_readMemberLine_18 rfl (lv_at hl 0 rfl) ?_
    refine t_Vv C hO hl.1 hA hH hI.1 (As := []) (rest := []) (t_X5_advance l E J τ L f hI.1 mq tq) my_X5_advance wd360 mq tq td_14 rfl rfl rfl (Nat.le_of_ble_eq_true rfl) ⟨Nat.le_of_ble_eq_true rfl, Nat.le_of_ble_eq_true rfl⟩ ⟨rfl, rfl⟩ dX5_readMemberLine_19 (fun L1 f4 H locs hp hH => ?_)
    obtain ⟨rfl, s6, h7⟩ := hp
    have hI := hI.call s6 (by decide)
    have k8 : fld f4 q_1 7 (.int z1) := fld.eq kz1 (s6.fr q_1 mq_1 (t_lim tq_1 rfl))
    refine lv_aload_n hx hb dX5_readMemberLine_22 rfl (lv_at hl 0 rfl) ?_
    refine t_getX C hH hI.1 mq tq td_14 iX5 rfl 1 (by decide) wd369 rfl (hI.rf kq_1) dX5_readMemberLine_23 ?_
    refine t_getX C hH hI.1 mq_1 tq_1 td_35 iX3 rfl 13 (by decide) wd385 rfl (hI.rf kq_1_13) dX5_readMemberLine_26 ?_
    refine lv_aload_n hx hb dX5_readMemberLine_29 rfl (lv_at hl 0 rfl) ?_
    refine t_getX C hH hI.1 mq tq td_14 iX5 rfl 1 (by decide) wd369 rfl (hI.rf kq_1) dX5_readMemberLine_30 ?_
    refine t_getX C hH hI.1 mq_1 tq_1 td_35 iX3 rfl 7 (by decide) wd384 rfl k8 dX5_readMemberLine_33 ?_
    refine lv_aload_n hx hb dX5_readMemberLine_36 rfl (lv_at hl 0 rfl) ?_
    have hs9 : ((71, "at", 2) : Nat × String × Nat) ∈ gStr := (List.mem_of_getElem? (i := 3) rfl)
    refine va_ldcS hx hb C.2.2.2.1 (hO.2.2.2 _ hs9).1 dX5_readMemberLine_37 ?_
    refine lv_iconst (v := (0 : Int32)) hx hb dX5_readMemberLine_39 (by decide) ?_
    refine lv_aload_n hx hb dX5_readMemberLine_40 rfl (lv_at hl 0 rfl) ?_
    refine t_getX C hH hI.1 mq tq td_14 iX5 rfl 1 (by decide) wd369 rfl (hI.rf kq_1) dX5_readMemberLine_41 ?_
    refine t_Vi C hO hl.1 hA hH hI.1 (As := []) (rest := [.int (0 : Int32), .ref (J (2 * ((71, "at", 2) : Nat × String × Nat).1)), .ref q, .int z1, .ref q_1_13]) (t_cells_d l E J τ L f4 hI.1 mq_1 tq_1) my_X3_cells wd381 mq_1 tq_1 td_35 rfl rfl rfl (Nat.le_of_ble_eq_true rfl) ⟨Nat.le_of_ble_eq_true rfl, Nat.le_of_ble_eq_true rfl⟩ ⟨rfl, rfl⟩ dX5_readMemberLine_44 (fun r11 L1 f10 H locs hp hH => ?_)
    obtain ⟨rfl, s12, h13⟩ := hp
    have hI := hI.call s12 (by decide)
    have k14 : fld f10 q_1 7 (.int z1) := fld.eq k8 (s12.fr q_1 mq_1 (t_lim tq_1 rfl))
    refine lv_iconst (v := (1 : Int32)) hx hb dX5_readMemberLine_47 (by decide) ?_
    refine lv_isub hx hb dX5_readMemberLine_48 ?_
    refine lv_topi (fun z15 ez15 => ?_)
    have r16 : rg z15 (-1) 19 := rg_sub ez15 h13 rl_1 (by decide)
    refine t_Vi C hO hl.1 hA hH hI.1 (As := [.ref (J (2 * ((71, "at", 2) : Nat × String × Nat).1)), .int (0 : Int32), .int z15]) (rest := [.int z1, .ref q_1_13]) (t_readField_0_19 l E J τ L f10 hI.1 mq tq ((71, "at", 2) : Nat × String × Nat) hs9 (0 : Int32) rl_0 z15 r16) my_X5_readField wd373 mq tq td_14 rfl rfl rfl (Nat.le_of_ble_eq_true rfl) ⟨Nat.le_of_ble_eq_true rfl, Nat.le_of_ble_eq_true rfl⟩ ⟨rfl, rfl⟩ dX5_readMemberLine_49 (fun r18 L1 f17 H locs hp hH => ?_)
    obtain ⟨rfl, s19, h20⟩ := hp
    have hI := hI.call s19 (by decide)
    have k21 : fld f17 q_1 7 (.int z1) := fld.eq k14 (s19.fr q_1 mq_1 (t_lim tq_1 rfl))
    refine t_ast C hH hI mq_1_13 tq_1_13 (by decide) td_7 (rg_in r3 (by decide)) (fun _ _ h => tR_upd h h20) dX5_readMemberLine_52 (fun f22 H locs hH hI bf22 uf22 => ?_)
    have k23 : fld f22 q_1 7 (.int z1) := fld.eq k21 (bf22 q_1 (ty_ne tq_1 tq_1_13 rfl))
    refine lv_aload_n hx hb dX5_readMemberLine_53 rfl (lv_at hl 0 rfl) ?_
    refine t_getX C hH hI.1 mq tq td_14 iX5 rfl 1 (by decide) wd369 rfl (hI.rf kq_1) dX5_readMemberLine_54 ?_
    refine t_getX C hH hI.1 mq_1 tq_1 td_35 iX3 rfl 14 (by decide) wd386 rfl (hI.rf kq_1_14) dX5_readMemberLine_57 ?_
    refine lv_aload_n hx hb dX5_readMemberLine_60 rfl (lv_at hl 0 rfl) ?_
    refine t_getX C hH hI.1 mq tq td_14 iX5 rfl 1 (by decide) wd369 rfl (hI.rf kq_1) dX5_readMemberLine_61 ?_
    refine t_getX C hH hI.1 mq_1 tq_1 td_35 iX3 rfl 7 (by decide) wd384 rfl k23 dX5_readMemberLine_64 ?_
    refine lv_aload_n hx hb dX5_readMemberLine_67 rfl (lv_at hl 0 rfl) ?_
    have hs24 : ((133, "wants", 5) : Nat × String × Nat) ∈ gStr := (List.mem_of_getElem? (i := 12) rfl)
    refine va_ldcS hx hb C.2.2.2.1 (hO.2.2.2 _ hs24).1 dX5_readMemberLine_68 ?_
    refine lv_iconst (v := (0 : Int32)) hx hb dX5_readMemberLine_70 (by decide) ?_
    refine lv_bipush (v := (99 : Int32)) hx hb dX5_readMemberLine_71 (by decide) ?_
    refine t_Vi C hO hl.1 hA hH hI.1 (As := [.ref (J (2 * ((133, "wants", 5) : Nat × String × Nat).1)), .int (0 : Int32), .int (99 : Int32)]) (rest := [.int z1, .ref q_1_14]) (t_readField_0_99 l E J τ L f22 hI.1 mq tq ((133, "wants", 5) : Nat × String × Nat) hs24 (0 : Int32) rl_0 (99 : Int32) rl_99) my_X5_readField wd373 mq tq td_14 rfl rfl rfl (Nat.le_of_ble_eq_true rfl) ⟨Nat.le_of_ble_eq_true rfl, Nat.le_of_ble_eq_true rfl⟩ ⟨rfl, rfl⟩ dX5_readMemberLine_73 (fun r26 L1 f25 H locs hp hH => ?_)
    obtain ⟨rfl, s27, h28⟩ := hp
    have hI := hI.call s27 (by decide)
    have k29 : fld f25 q_1 7 (.int z1) := fld.eq k23 (s27.fr q_1 mq_1 (t_lim tq_1 rfl))
    refine t_ast C hH hI mq_1_14 tq_1_14 (by decide) td_8 (rg_in r3 (by decide)) (fun _ _ _ => trivial) dX5_readMemberLine_76 (fun f30 H locs hH hI bf30 uf30 => ?_)
    have k31 : fld f30 q_1 7 (.int z1) := fld.eq k29 (bf30 q_1 (ty_ne tq_1 tq_1_14 rfl))
    refine lv_aload_n hx hb dX5_readMemberLine_77 rfl (lv_at hl 0 rfl) ?_
    refine t_getX C hH hI.1 mq tq td_14 iX5 rfl 1 (by decide) wd369 rfl (hI.rf kq_1) dX5_readMemberLine_78 ?_
    refine t_getX C hH hI.1 mq_1 tq_1 td_35 iX3 rfl 15 (by decide) wd387 rfl (hI.rf kq_1_15) dX5_readMemberLine_81 ?_
    refine lv_aload_n hx hb dX5_readMemberLine_84 rfl (lv_at hl 0 rfl) ?_
    refine t_getX C hH hI.1 mq tq td_14 iX5 rfl 1 (by decide) wd369 rfl (hI.rf kq_1) dX5_readMemberLine_85 ?_
    refine t_getX C hH hI.1 mq_1 tq_1 td_35 iX3 rfl 7 (by decide) wd384 rfl k31 dX5_readMemberLine_88 ?_
    refine lv_aload_n hx hb dX5_readMemberLine_91 rfl (lv_at hl 0 rfl) ?_
    have hs32 : ((137, "pays", 4) : Nat × String × Nat) ∈ gStr := (List.mem_of_getElem? (i := 13) rfl)
    refine va_ldcS hx hb C.2.2.2.1 (hO.2.2.2 _ hs32).1 dX5_readMemberLine_92 ?_
    refine lv_iconst (v := (0 : Int32)) hx hb dX5_readMemberLine_94 (by decide) ?_
    refine lv_bipush (v := (99 : Int32)) hx hb dX5_readMemberLine_95 (by decide) ?_
    refine t_Vi C hO hl.1 hA hH hI.1 (As := [.ref (J (2 * ((137, "pays", 4) : Nat × String × Nat).1)), .int (0 : Int32), .int (99 : Int32)]) (rest := [.int z1, .ref q_1_15]) (t_readField_0_99 l E J τ L f30 hI.1 mq tq ((137, "pays", 4) : Nat × String × Nat) hs32 (0 : Int32) rl_0 (99 : Int32) rl_99) my_X5_readField wd373 mq tq td_14 rfl rfl rfl (Nat.le_of_ble_eq_true rfl) ⟨Nat.le_of_ble_eq_true rfl, Nat.le_of_ble_eq_true rfl⟩ ⟨rfl, rfl⟩ dX5_readMemberLine_97 (fun r34 L1 f33 H locs hp hH => ?_)
    obtain ⟨rfl, s35, h36⟩ := hp
    have hI := hI.call s35 (by decide)
    have k37 : fld f33 q_1 7 (.int z1) := fld.eq k31 (s35.fr q_1 mq_1 (t_lim tq_1 rfl))
    refine t_ast C hH hI mq_1_15 tq_1_15 (by decide) td_9 (rg_in r3 (by decide)) (fun _ _ _ => trivial) dX5_readMemberLine_100 (fun f38 H locs hH hI bf38 uf38 => ?_)
    have k39 : fld f38 q_1 7 (.int z1) := fld.eq k37 (bf38 q_1 (ty_ne tq_1 tq_1_15 rfl))
    refine lv_aload_n hx hb dX5_readMemberLine_101 rfl (lv_at hl 0 rfl) ?_
    refine t_getX C hH hI.1 mq tq td_14 iX5 rfl 1 (by decide) wd369 rfl (hI.rf kq_1) dX5_readMemberLine_102 ?_
    refine lv_dup hx hb dX5_readMemberLine_105 rfl ?_
    refine t_getX C hH hI.1 mq_1 tq_1 td_35 iX3 rfl 7 (by decide) wd384 rfl k39 dX5_readMemberLine_106 ?_
    refine lv_iconst (v := (1 : Int32)) hx hb dX5_readMemberLine_109 (by decide) ?_
    refine lv_iadd hx hb dX5_readMemberLine_110 ?_
    refine lv_topi (fun z40 ez40 => ?_)
    have r41 : rg z40 1 6 := rg_add ez40 r3 rl_1 (by decide)
    have a42 : z40.toInt = z1.toInt + 1 := ai_add ez40 r3 tl_1 (by decide)
    refine t_put C hH hI mq_1 tq_1 (by decide) td_35 iX3 tyX3 tyX3_ok nmX3 rfl 7 (by decide) wd384 rfl rfl (v := .int z40) rfl rfl rfl ⟨_, rfl, (rg_w r41 (by decide))⟩ (fun _ h => nomatch h) dX5_readMemberLine_111 (fun f43 H locs hH hI nf43 of43 bf43 => ?_)
    exact g_vret C hr hH (Nat.zero_le _) (Nat.zero_le _) dX5_readMemberLine_114 ⟨rfl, hI, trivial⟩
  · skip
    have r44 : rg z1 6 6 := rf_ler (n_lt c2) rl_6 rz1 (by decide)
    refine lv_aload_n hx hb dX5_readMemberLine_12 rfl (lv_at hl 0 rfl) ?_
    refine lv_iconst (v := (3 : Int32)) hx hb dX5_readMemberLine_13 (by decide) ?_
    refine t_Vv C hO hl.1 hA hH hI.1 (As := [.int (3 : Int32)]) (rest := []) (t_X5_refuse l E J τ L f hI.1 mq tq (3 : Int32)) my_X5_refuse wd368 mq tq td_14 rfl rfl rfl (Nat.le_of_ble_eq_true rfl) ⟨Nat.le_of_ble_eq_true rfl, Nat.le_of_ble_eq_true rfl⟩ ⟨rfl, rfl⟩ dX5_readMemberLine_14 (fun L1 f45 H locs hp hH => ?_)
    obtain ⟨rfl, s47, h48⟩ := hp
    have hI := hI.call s47 (by decide)
    have k49 : fld f45 q_1 7 (.int z1) := fld.eq kz1 (s47.fr q_1 mq_1 (t_lim tq_1 rfl))
    exact g_vret C hr hH (Nat.zero_le _) (Nat.zero_le _) dX5_readMemberLine_17 ⟨rfl, hI, trivial⟩
set_option maxHeartbeats 4000000 in
set_option maxRecDepth 100000 in
theorem t_X5_readLine (l : Launch) (E : gE) (J : Nat → Nat) (τ : Nat → Nat) (L : List Nat) (f : gF) (hI : tI E L τ f) {q : Nat} (mq : q ∈ L) (tq : τ q = 14) : tMv l E J yX5_readLine cX5_readLine 1 (gRm (8) 0 0) [.ref q] L f (tPv E L τ [4, 5, 6, 7, 8, 9, 14, 35] f (fun f1 => True)) := by
  refine tMv.intro (by decide) (Nat.le_of_ble_eq_true rfl) ?_
  intro p e s m below meth c A ls C hr hA hO hH hl
  have C : gC E cX5_readLine 1 RX5 p s m _ meth c := C
  have hl : lv_has ls 1 [(0, .ref q)] := hl
  have hx := C.1
  have hb := C.2.1
  have hI := hI.S [4, 5, 6, 7, 8, 9, 14, 35]
  obtain ⟨q_1, mq_1, tq_1, kq_1⟩ := t_fldr hI.1 mq tq td_14 (k := 1) rfl
  have cut100 : ∀ (fh100 : gF) (H : Heap) (locs : List Loc) (ls : Array Slot) , tS E L τ [4, 5, 6, 7, 8, 9, 14, 35] f fh100 → gH E A L fh100 s.heap H locs → lv_has ls 1 [(0, .ref q)] → W p l e (gRm (8) 0 0) s m [.ref q].toArray below meth c H locs 0 0 (MQ below (gQv E A (tPv E L τ [4, 5, 6, 7, 8, 9, 14, 35] f (fun f1 => True))) [.ref q].toArray s (gRm (8) 0 0).cells (gRm (8) 0 0).slots A) (F0 m 100 ls []) := by
    intro fh100 H locs ls hI hH hl
    have cut113 : ∀ (fh113 : gF) (H : Heap) (locs : List Loc) (ls : Array Slot) , tS E L τ [4, 5, 6, 7, 8, 9, 14, 35] f fh113 → gH E A L fh113 s.heap H locs → lv_has ls 1 [(0, .ref q)] → W p l e (gRm (8) 0 0) s m [.ref q].toArray below meth c H locs 0 0 (MQ below (gQv E A (tPv E L τ [4, 5, 6, 7, 8, 9, 14, 35] f (fun f1 => True))) [.ref q].toArray s (gRm (8) 0 0).cells (gRm (8) 0 0).slots A) (F0 m 113 ls []) := by
      intro fh113 H locs ls hI hH hl
      refine lv_aload_n hx hb dX5_readLine_113 rfl (lv_at hl 0 rfl) ?_
      refine t_geti C hH hI.1 mq tq td_14 iX5 rfl 5 (by decide) wd330 rfl rfl dX5_readLine_114 (fun z1 rz1 => ?_)
      refine lv_if_ne (tgt := 137) hx hb dX5_readLine_117 (by decide) (fun c2 => ?_) (fun c2 => ?_)
      · skip
        exact g_vret C hr hH (Nat.zero_le _) (Nat.zero_le _) dX5_readLine_137 ⟨rfl, hI, trivial⟩
      · skip
        have r3 : rg z1 0 0 := rf_eql (c_eq c2) rz1 rl_0 (by decide)
        refine lv_aload_n hx hb dX5_readLine_120 rfl (lv_at hl 0 rfl) ?_
        refine t_getX C hH hI.1 mq tq td_14 iX5 rfl 1 (by decide) wd369 rfl (hI.rf kq_1) dX5_readLine_121 ?_
        refine lv_dup hx hb dX5_readLine_124 rfl ?_
        refine t_geti C hH hI.1 mq_1 tq_1 td_35 iX3 rfl 0 (by decide) wd388 rfl rfl dX5_readLine_125 (fun z4 rz4 => ?_)
        refine lv_iconst (v := (1 : Int32)) hx hb dX5_readLine_128 (by decide) ?_
        refine lv_iadd hx hb dX5_readLine_129 ?_
        refine lv_topi (fun z5 ez5 => ?_)
        refine t_put C hH hI mq_1 tq_1 (by decide) td_35 iX3 tyX3 tyX3_ok nmX3 rfl 0 (by decide) wd388 rfl rfl (v := .int z5) rfl rfl rfl ⟨_, rfl, (rg_all _)⟩ (fun _ h => nomatch h) dX5_readLine_130 (fun f6 H locs hH hI nf6 of6 bf6 => ?_)
        refine lv_aload_n hx hb dX5_readLine_133 rfl (lv_at hl 0 rfl) ?_
        refine t_Vv C hO hl.1 hA hH hI.1 (As := []) (rest := []) (t_X5_advance l E J τ L f6 hI.1 mq tq) my_X5_advance wd360 mq tq td_14 rfl rfl rfl (Nat.le_of_ble_eq_true rfl) ⟨Nat.le_of_ble_eq_true rfl, Nat.le_of_ble_eq_true rfl⟩ ⟨rfl, rfl⟩ dX5_readLine_134 (fun L1 f7 H locs hp hH => ?_)
        obtain ⟨rfl, s9, h10⟩ := hp
        have hI := hI.call s9 (by decide)
        exact g_vret C hr hH (Nat.zero_le _) (Nat.zero_le _) dX5_readLine_137 ⟨rfl, hI, trivial⟩
    refine lv_aload_n hx hb dX5_readLine_100 rfl (lv_at hl 0 rfl) ?_
    refine t_geti C hH hI.1 mq tq td_14 iX5 rfl 2 (by decide) wd343 rfl rfl dX5_readLine_101 (fun z11 rz11 => ?_)
    refine lv_iconst (v := (3 : Int32)) hx hb dX5_readLine_104 (by decide) ?_
    refine lv_icmp_eq (tgt := 113) hx hb dX5_readLine_105 (by decide) (fun c12 => ?_) (fun c12 => ?_)
    · skip
      have r13 : rg z11 3 3 := rf_eql (c_eq c12) rz11 rl_3 (by decide)
      exact cut113 _ _ _ _ hI hH (lv_sub hl [0] rfl)
    · skip
      refine lv_aload_n hx hb dX5_readLine_108 rfl (lv_at hl 0 rfl) ?_
      refine lv_iconst (v := (1 : Int32)) hx hb dX5_readLine_109 (by decide) ?_
      refine t_Vv C hO hl.1 hA hH hI.1 (As := [.int (1 : Int32)]) (rest := []) (t_X5_refuse l E J τ L fh100 hI.1 mq tq (1 : Int32)) my_X5_refuse wd368 mq tq td_14 rfl rfl rfl (Nat.le_of_ble_eq_true rfl) ⟨Nat.le_of_ble_eq_true rfl, Nat.le_of_ble_eq_true rfl⟩ ⟨rfl, rfl⟩ dX5_readLine_110 (fun L1 f14 H locs hp hH => ?_)
      obtain ⟨rfl, s16, h17⟩ := hp
      have hI := hI.call s16 (by decide)
      exact cut113 _ _ _ _ hI hH (lv_sub hl [0] rfl)
  refine lv_aload_n hx hb dX5_readLine_0 rfl (lv_at hl 0 rfl) ?_
  refine t_getX C hH hI.1 mq tq td_14 iX5 rfl 1 (by decide) wd369 rfl (hI.rf kq_1) dX5_readLine_1 ?_
  refine t_geti C hH hI.1 mq_1 tq_1 td_35 iX3 rfl 0 (by decide) wd388 rfl rfl dX5_readLine_4 (fun z18 rz18 => ?_)
  refine lv_if_ne (tgt := 17) hx hb dX5_readLine_7 (by decide) (fun c19 => ?_) (fun c19 => ?_)
  · skip
    refine lv_aload_n hx hb dX5_readLine_17 rfl (lv_at hl 0 rfl) ?_
    have hs20 : ((52, "flight", 6) : Nat × String × Nat) ∈ gStr := (List.mem_of_getElem? (i := 0) rfl)
    refine va_ldcS hx hb C.2.2.2.1 (hO.2.2.2 _ hs20).1 dX5_readLine_18 ?_
    refine t_Vi C hO hl.1 hA hH hI.1 (As := [.ref (J (2 * ((52, "flight", 6) : Nat × String × Nat).1))]) (rest := []) (t_X5_isWord l E J τ L f hI.1 mq tq ((52, "flight", 6) : Nat × String × Nat) hs20) my_X5_isWord wd356 mq tq td_14 rfl rfl rfl (Nat.le_of_ble_eq_true rfl) ⟨Nat.le_of_ble_eq_true rfl, Nat.le_of_ble_eq_true rfl⟩ ⟨rfl, rfl⟩ dX5_readLine_20 (fun r22 L1 f21 H locs hp hH => ?_)
    obtain ⟨rfl, s23, h24⟩ := hp
    have hI := hI.call s23 (by decide)
    refine lv_if_eq (tgt := 33) hx hb dX5_readLine_23 (by decide) (fun c25 => ?_) (fun c25 => ?_)
    · skip
      have r26 : rg r22 0 0 := rf_eql (c_eq c25) h24 rl_0 (by decide)
      refine lv_aload_n hx hb dX5_readLine_33 rfl (lv_at hl 0 rfl) ?_
      have hs27 : ((61, "member", 6) : Nat × String × Nat) ∈ gStr := (List.mem_of_getElem? (i := 1) rfl)
      refine va_ldcS hx hb C.2.2.2.1 (hO.2.2.2 _ hs27).1 dX5_readLine_34 ?_
      refine t_Vi C hO hl.1 hA hH hI.1 (As := [.ref (J (2 * ((61, "member", 6) : Nat × String × Nat).1))]) (rest := []) (t_X5_isWord l E J τ L f21 hI.1 mq tq ((61, "member", 6) : Nat × String × Nat) hs27) my_X5_isWord wd356 mq tq td_14 rfl rfl rfl (Nat.le_of_ble_eq_true rfl) ⟨Nat.le_of_ble_eq_true rfl, Nat.le_of_ble_eq_true rfl⟩ ⟨rfl, rfl⟩ dX5_readLine_36 (fun r29 L1 f28 H locs hp hH => ?_)
      obtain ⟨rfl, s30, h31⟩ := hp
      have hI := hI.call s30 (by decide)
      refine lv_if_eq (tgt := 49) hx hb dX5_readLine_39 (by decide) (fun c32 => ?_) (fun c32 => ?_)
      · skip
        have r33 : rg r29 0 0 := rf_eql (c_eq c32) h31 rl_0 (by decide)
        refine lv_aload_n hx hb dX5_readLine_49 rfl (lv_at hl 0 rfl) ?_
        have hs34 : ((66, "lamp", 4) : Nat × String × Nat) ∈ gStr := (List.mem_of_getElem? (i := 2) rfl)
        refine va_ldcS hx hb C.2.2.2.1 (hO.2.2.2 _ hs34).1 dX5_readLine_50 ?_
        refine t_Vi C hO hl.1 hA hH hI.1 (As := [.ref (J (2 * ((66, "lamp", 4) : Nat × String × Nat).1))]) (rest := []) (t_X5_isWord l E J τ L f28 hI.1 mq tq ((66, "lamp", 4) : Nat × String × Nat) hs34) my_X5_isWord wd356 mq tq td_14 rfl rfl rfl (Nat.le_of_ble_eq_true rfl) ⟨Nat.le_of_ble_eq_true rfl, Nat.le_of_ble_eq_true rfl⟩ ⟨rfl, rfl⟩ dX5_readLine_52 (fun r36 L1 f35 H locs hp hH => ?_)
        obtain ⟨rfl, s37, h38⟩ := hp
        have hI := hI.call s37 (by decide)
        refine lv_if_eq (tgt := 95) hx hb dX5_readLine_55 (by decide) (fun c39 => ?_) (fun c39 => ?_)
        · skip
          have r40 : rg r36 0 0 := rf_eql (c_eq c39) h38 rl_0 (by decide)
          refine lv_aload_n hx hb dX5_readLine_95 rfl (lv_at hl 0 rfl) ?_
          refine lv_iconst (v := (1 : Int32)) hx hb dX5_readLine_96 (by decide) ?_
          refine t_Vv C hO hl.1 hA hH hI.1 (As := [.int (1 : Int32)]) (rest := []) (t_X5_refuse l E J τ L f35 hI.1 mq tq (1 : Int32)) my_X5_refuse wd368 mq tq td_14 rfl rfl rfl (Nat.le_of_ble_eq_true rfl) ⟨Nat.le_of_ble_eq_true rfl, Nat.le_of_ble_eq_true rfl⟩ ⟨rfl, rfl⟩ dX5_readLine_97 (fun L1 f41 H locs hp hH => ?_)
          obtain ⟨rfl, s43, h44⟩ := hp
          have hI := hI.call s43 (by decide)
          exact cut100 _ _ _ _ hI hH (lv_sub hl [0] rfl)
        · skip
          have r45 : rg r36 1 1 := rf_nel (n_eq c39) h38 rl_0 (by decide)
          refine lv_aload_n hx hb dX5_readLine_58 rfl (lv_at hl 0 rfl) ?_
          refine t_Vv C hO hl.1 hA hH hI.1 (As := []) (rest := []) (t_X5_advance l E J τ L f35 hI.1 mq tq) my_X5_advance wd360 mq tq td_14 rfl rfl rfl (Nat.le_of_ble_eq_true rfl) ⟨Nat.le_of_ble_eq_true rfl, Nat.le_of_ble_eq_true rfl⟩ ⟨rfl, rfl⟩ dX5_readLine_59 (fun L1 f46 H locs hp hH => ?_)
          obtain ⟨rfl, s48, h49⟩ := hp
          have hI := hI.call s48 (by decide)
          refine lv_aload_n hx hb dX5_readLine_62 rfl (lv_at hl 0 rfl) ?_
          refine t_getX C hH hI.1 mq tq td_14 iX5 rfl 1 (by decide) wd369 rfl (hI.rf kq_1) dX5_readLine_63 ?_
          refine lv_dup hx hb dX5_readLine_66 rfl ?_
          refine t_geti C hH hI.1 mq_1 tq_1 td_35 iX3 rfl 8 (by decide) wd389 rfl rfl dX5_readLine_67 (fun z50 rz50 => ?_)
          refine lv_iconst (v := (1 : Int32)) hx hb dX5_readLine_70 (by decide) ?_
          refine lv_aload_n hx hb dX5_readLine_71 rfl (lv_at hl 0 rfl) ?_
          have hs51 : ((71, "at", 2) : Nat × String × Nat) ∈ gStr := (List.mem_of_getElem? (i := 3) rfl)
          refine va_ldcS hx hb C.2.2.2.1 (hO.2.2.2 _ hs51).1 dX5_readLine_72 ?_
          refine lv_iconst (v := (0 : Int32)) hx hb dX5_readLine_74 (by decide) ?_
          refine lv_aload_n hx hb dX5_readLine_75 rfl (lv_at hl 0 rfl) ?_
          refine t_getX C hH hI.1 mq tq td_14 iX5 rfl 1 (by decide) wd369 rfl (hI.rf kq_1) dX5_readLine_76 ?_
          refine t_Vi C hO hl.1 hA hH hI.1 (As := []) (rest := [.int (0 : Int32), .ref (J (2 * ((71, "at", 2) : Nat × String × Nat).1)), .ref q, .int (1 : Int32), .int z50, .ref q_1]) (t_cells_d l E J τ L f46 hI.1 mq_1 tq_1) my_X3_cells wd381 mq_1 tq_1 td_35 rfl rfl rfl (Nat.le_of_ble_eq_true rfl) ⟨Nat.le_of_ble_eq_true rfl, Nat.le_of_ble_eq_true rfl⟩ ⟨rfl, rfl⟩ dX5_readLine_79 (fun r53 L1 f52 H locs hp hH => ?_)
          obtain ⟨rfl, s54, h55⟩ := hp
          have hI := hI.call s54 (by decide)
          refine lv_iconst (v := (1 : Int32)) hx hb dX5_readLine_82 (by decide) ?_
          refine lv_isub hx hb dX5_readLine_83 ?_
          refine lv_topi (fun z56 ez56 => ?_)
          have r57 : rg z56 (-1) 19 := rg_sub ez56 h55 rl_1 (by decide)
          refine t_Vi C hO hl.1 hA hH hI.1 (As := [.ref (J (2 * ((71, "at", 2) : Nat × String × Nat).1)), .int (0 : Int32), .int z56]) (rest := [.int (1 : Int32), .int z50, .ref q_1]) (t_readField_0_19 l E J τ L f52 hI.1 mq tq ((71, "at", 2) : Nat × String × Nat) hs51 (0 : Int32) rl_0 z56 r57) my_X5_readField wd373 mq tq td_14 rfl rfl rfl (Nat.le_of_ble_eq_true rfl) ⟨Nat.le_of_ble_eq_true rfl, Nat.le_of_ble_eq_true rfl⟩ ⟨rfl, rfl⟩ dX5_readLine_84 (fun r59 L1 f58 H locs hp hH => ?_)
          obtain ⟨rfl, s60, h61⟩ := hp
          have hI := hI.call s60 (by decide)
          refine lv_ishl hx hb dX5_readLine_87 ?_
          refine lv_topi (fun z62 ez62 => ?_)
          have r63 : rg z62 1 524288 := rg_shl 0 19 ez62 h61 (by decide)
          refine lv_ior hx hb dX5_readLine_88 ?_
          refine lv_topi (fun z64 ez64 => ?_)
          refine t_put C hH hI mq_1 tq_1 (by decide) td_35 iX3 tyX3 tyX3_ok nmX3 rfl 8 (by decide) wd389 rfl rfl (v := .int z64) rfl rfl rfl ⟨_, rfl, (rg_all _)⟩ (fun _ h => nomatch h) dX5_readLine_89 (fun f65 H locs hH hI nf65 of65 bf65 => ?_)
          refine lv_goto (tgt := 100) hx hb dX5_readLine_92 (by decide) ?_
          exact cut100 _ _ _ _ hI hH (lv_sub hl [0] rfl)
      · skip
        have r66 : rg r29 1 1 := rf_nel (n_eq c32) h31 rl_0 (by decide)
        refine lv_aload_n hx hb dX5_readLine_42 rfl (lv_at hl 0 rfl) ?_
        refine t_Vv C hO hl.1 hA hH hI.1 (As := []) (rest := []) (t_X5_readMemberLine l E J τ L f28 hI.1 mq tq) my_X5_readMemberLine wd393 mq tq td_14 rfl rfl rfl (Nat.le_of_ble_eq_true rfl) ⟨Nat.le_of_ble_eq_true rfl, Nat.le_of_ble_eq_true rfl⟩ ⟨rfl, rfl⟩ dX5_readLine_43 (fun L1 f67 H locs hp hH => ?_)
        obtain ⟨rfl, s69, h70⟩ := hp
        have hI := hI.call s69 (by decide)
        refine lv_goto (tgt := 100) hx hb dX5_readLine_46 (by decide) ?_
        exact cut100 _ _ _ _ hI hH (lv_sub hl [0] rfl)
    · skip
      have r71 : rg r22 1 1 := rf_nel (n_eq c25) h24 rl_0 (by decide)
      refine lv_aload_n hx hb dX5_readLine_26 rfl (lv_at hl 0 rfl) ?_
      refine t_Vv C hO hl.1 hA hH hI.1 (As := []) (rest := []) (t_X5_readFlightLine l E J τ L f21 hI.1 mq tq) my_X5_readFlightLine wd397 mq tq td_14 rfl rfl rfl (Nat.le_of_ble_eq_true rfl) ⟨Nat.le_of_ble_eq_true rfl, Nat.le_of_ble_eq_true rfl⟩ ⟨rfl, rfl⟩ dX5_readLine_27 (fun L1 f72 H locs hp hH => ?_)
      obtain ⟨rfl, s74, h75⟩ := hp
      have hI := hI.call s74 (by decide)
      refine lv_goto (tgt := 100) hx hb dX5_readLine_30 (by decide) ?_
      exact cut100 _ _ _ _ hI hH (lv_sub hl [0] rfl)
  · skip
    have r76 : rg z18 0 0 := rf_eql (c_eq c19) rz18 rl_0 (by decide)
    refine lv_aload_n hx hb dX5_readLine_10 rfl (lv_at hl 0 rfl) ?_
    refine t_Vv C hO hl.1 hA hH hI.1 (As := []) (rest := []) (t_X5_readHeadLine l E J τ L f hI.1 mq tq) my_X5_readHeadLine wd401 mq tq td_14 rfl rfl rfl (Nat.le_of_ble_eq_true rfl) ⟨Nat.le_of_ble_eq_true rfl, Nat.le_of_ble_eq_true rfl⟩ ⟨rfl, rfl⟩ dX5_readLine_11 (fun L1 f77 H locs hp hH => ?_)
    obtain ⟨rfl, s79, h80⟩ := hp
    have hI := hI.call s79 (by decide)
    refine lv_goto (tgt := 100) hx hb dX5_readLine_14 (by decide) ?_
    exact cut100 _ _ _ _ hI hH (lv_sub hl [0] rfl)
set_option maxHeartbeats 4000000 in
set_option maxRecDepth 100000 in
theorem t_X5_readTape (l : Launch) (E : gE) (J : Nat → Nat) (τ : Nat → Nat) (L : List Nat) (f : gF) (hI : tI E L τ f) {q : Nat} (mq : q ∈ L) (tq : τ q = 14) : tMi l E J yX5_readTape cX5_readTape 2 .boolean (gRm (9) 0 0) [.ref q] L f (tPi E L τ [4, 5, 6, 7, 8, 9, 12, 13, 14, 35] f (fun r f1 => rg r 0 1)) := by
  refine tMi.intro (by decide) (Nat.le_of_ble_eq_true rfl) ?_
  intro p e s m below meth c A ls C hr hA hO hH hl
  have C : gC E cX5_readTape 2 RX5 p s m _ meth c := C
  have hl : lv_has ls 2 [(0, .ref q)] := hl
  have hx := C.1
  have hb := C.2.1
  have hI := hI.S [4, 5, 6, 7, 8, 9, 12, 13, 14, 35]
  obtain ⟨q_1, mq_1, tq_1, kq_1⟩ := t_fldr hI.1 mq tq td_14 (k := 1) rfl
  have cut28 : ∀ (n : Nat) (fh28 : gF) (H : Heap) (locs : List Loc) (ls : Array Slot) (v28_1 : Int32), 800 - v28_1.toInt < (n : Int) → tS E L τ [4, 5, 6, 7, 8, 9, 12, 13, 14, 35] f fh28 → gH E A L fh28 s.heap H locs → rg v28_1 0 800 → lv_has ls 2 [(0, .ref q), (1, .int v28_1)] → W p l e (gRm (9) 0 0) s m [.ref q].toArray below meth c H locs 0 0 (MQ below (gQi E A (tPi E L τ [4, 5, 6, 7, 8, 9, 12, 13, 14, 35] f (fun r f1 => rg r 0 1))) [.ref q].toArray s (gRm (9) 0 0).cells (gRm (9) 0 0).slots A) (F0 m 28 ls []) := by
    intro n
    induction n with
    | zero =>
      intro fh28 H locs ls v28_1 hfu28 hI hH r_v28_1 hl
      exact (fu_0 hfu28 r_v28_1).elim
    | succ n ih28 =>
      intro fh28 H locs ls v28_1 hfu28 hI hH r_v28_1 hl
      have cut59 : ∀ (fh59 : gF) (H : Heap) (locs : List Loc) (ls : Array Slot) , tS E L τ [4, 5, 6, 7, 8, 9, 12, 13, 14, 35] f fh59 → gH E A L fh59 s.heap H locs → lv_has ls 2 [(0, .ref q), (1, .int v28_1)] → W p l e (gRm (9) 0 0) s m [.ref q].toArray below meth c H locs 0 0 (MQ below (gQi E A (tPi E L τ [4, 5, 6, 7, 8, 9, 12, 13, 14, 35] f (fun r f1 => rg r 0 1))) [.ref q].toArray s (gRm (9) 0 0).cells (gRm (9) 0 0).slots A) (F0 m 59 ls []) := by
        intro fh59 H locs ls hI hH hl
        refine lv_aload_n hx hb dX5_readTape_59 rfl (lv_at hl 0 rfl) ?_
        refine t_getX C hH hI.1 mq tq td_14 iX5 rfl 1 (by decide) wd369 rfl (hI.rf kq_1) dX5_readTape_60 ?_
        refine t_Vv C hO hl.1 hA hH hI.1 (As := []) (rest := []) (t_X3_survey l E J τ L fh59 hI.1 mq_1 tq_1) my_X3_survey wd405 mq_1 tq_1 td_35 rfl rfl rfl (Nat.le_of_ble_eq_true rfl) ⟨Nat.le_of_ble_eq_true rfl, Nat.le_of_ble_eq_true rfl⟩ ⟨rfl, rfl⟩ dX5_readTape_63 (fun L1 f1 H locs hp hH => ?_)
        obtain ⟨rfl, s3, h4⟩ := hp
        have hI := hI.call s3 (by decide)
        refine lv_aload_n hx hb dX5_readTape_66 rfl (lv_at hl 0 rfl) ?_
        refine t_geti C hH hI.1 mq tq td_14 iX5 rfl 5 (by decide) wd330 rfl rfl dX5_readTape_67 (fun z5 rz5 => ?_)
        refine lv_if_ne (tgt := 77) hx hb dX5_readTape_70 (by decide) (fun c6 => ?_) (fun c6 => ?_)
        · skip
          refine lv_iconst (v := (0 : Int32)) hx hb dX5_readTape_77 (by decide) ?_
          exact g_zret C hr (rg_z (rg_w rl_0 (by decide))) hH (Nat.zero_le _) (Nat.zero_le _) dX5_readTape_78 ⟨rfl, hI, (rg_w rl_0 (by decide))⟩
        · skip
          have r7 : rg z5 0 0 := rf_eql (c_eq c6) rz5 rl_0 (by decide)
          refine lv_iconst (v := (1 : Int32)) hx hb dX5_readTape_73 (by decide) ?_
          refine lv_goto (tgt := 78) hx hb dX5_readTape_74 (by decide) ?_
          exact g_zret C hr (rg_z (rg_w rl_1 (by decide))) hH (Nat.zero_le _) (Nat.zero_le _) dX5_readTape_78 ⟨rfl, hI, (rg_w rl_1 (by decide))⟩
      refine lv_iload_n hx hb dX5_readTape_28 rfl (lv_at hl 1 rfl) ?_
      refine lv_sipush (v := (800 : Int32)) hx hb dX5_readTape_29 (by decide) ?_
      refine lv_icmp_ge (tgt := 59) hx hb dX5_readTape_32 (by decide) (fun c8 => ?_) (fun c8 => ?_)
      · skip
        have r9 : rg v28_1 800 800 := rf_ler (c_le c8) rl_800 r_v28_1 (by decide)
        exact cut59 _ _ _ _ hI hH (lv_sub hl [0, 1] rfl)
      · skip
        have r10 : rg v28_1 0 799 := rf_ltl (n_le c8) r_v28_1 rl_800 (by decide)
        refine lv_aload_n hx hb dX5_readTape_35 rfl (lv_at hl 0 rfl) ?_
        refine t_geti C hH hI.1 mq tq td_14 iX5 rfl 2 (by decide) wd343 rfl rfl dX5_readTape_36 (fun z11 rz11 => ?_)
        refine lv_if_eq (tgt := 59) hx hb dX5_readTape_39 (by decide) (fun c12 => ?_) (fun c12 => ?_)
        · skip
          have r13 : rg z11 0 0 := rf_eql (c_eq c12) rz11 rl_0 (by decide)
          exact cut59 _ _ _ _ hI hH (lv_sub hl [0, 1] rfl)
        · skip
          refine lv_aload_n hx hb dX5_readTape_42 rfl (lv_at hl 0 rfl) ?_
          refine t_geti C hH hI.1 mq tq td_14 iX5 rfl 5 (by decide) wd330 rfl rfl dX5_readTape_43 (fun z14 rz14 => ?_)
          refine lv_if_ne (tgt := 59) hx hb dX5_readTape_46 (by decide) (fun c15 => ?_) (fun c15 => ?_)
          · skip
            exact cut59 _ _ _ _ hI hH (lv_sub hl [0, 1] rfl)
          · skip
            have r16 : rg z14 0 0 := rf_eql (c_eq c15) rz14 rl_0 (by decide)
            refine lv_aload_n hx hb dX5_readTape_49 rfl (lv_at hl 0 rfl) ?_
            refine t_Vv C hO hl.1 hA hH hI.1 (As := []) (rest := []) (t_X5_readLine l E J τ L fh28 hI.1 mq tq) my_X5_readLine wd409 mq tq td_14 rfl rfl rfl (Nat.le_of_ble_eq_true rfl) ⟨Nat.le_of_ble_eq_true rfl, Nat.le_of_ble_eq_true rfl⟩ ⟨rfl, rfl⟩ dX5_readTape_50 (fun L1 f17 H locs hp hH => ?_)
            obtain ⟨rfl, s19, h20⟩ := hp
            have hI := hI.call s19 (by decide)
            obtain ⟨z21, ez21⟩ : ∃ y : Int32, y = v28_1 + (1 : Int32) := ⟨_, rfl⟩
            have r22 : rg z21 1 800 := rg_add ez21 r10 rl_1 (by decide)
            have a23 : z21.toInt = v28_1.toInt + 1 := ai_add ez21 r10 tl_1 (by decide)
            refine lv_iinc (v := z21) (lv' := [(1, .int z21), (0, .ref q)]) hx hb dX5_readTape_53 hl (k := 1) rfl (by rw [ez21]; rfl) (by decide) rfl (fun ls hl => ?_)
            refine lv_goto (tgt := 28) hx hb dX5_readTape_56 (by decide) ?_
            exact ih28 _ _ _ _ z21 (fu_s hfu28 a23 (by decide)) hI hH (rg_w r22 (by decide)) (lv_sub hl [1, 0] rfl)
  refine lv_aload_n hx hb dX5_readTape_0 rfl (lv_at hl 0 rfl) ?_
  refine t_getX C hH hI.1 mq tq td_14 iX5 rfl 1 (by decide) wd369 rfl (hI.rf kq_1) dX5_readTape_1 ?_
  refine t_Vv C hO hl.1 hA hH hI.1 (As := []) (rest := []) (t_X3_clear l E J τ L f hI.1 mq_1 tq_1) my_X3_clear wd413 mq_1 tq_1 td_35 rfl rfl rfl (Nat.le_of_ble_eq_true rfl) ⟨Nat.le_of_ble_eq_true rfl, Nat.le_of_ble_eq_true rfl⟩ ⟨rfl, rfl⟩ dX5_readTape_4 (fun L1 f24 H locs hp hH => ?_)
  obtain ⟨rfl, s26, h27⟩ := hp
  have hI := hI.call s26 (by decide)
  refine lv_aload_n hx hb dX5_readTape_7 rfl (lv_at hl 0 rfl) ?_
  refine lv_iconst (v := (0 : Int32)) hx hb dX5_readTape_8 (by decide) ?_
  refine t_put C hH hI mq tq (by decide) td_14 iX5 tyX5 tyX5_ok nmX5 rfl 5 (by decide) wd330 rfl rfl (v := .int (0 : Int32)) rfl rfl rfl ⟨_, rfl, (rg_w rl_0 (by decide))⟩ (fun _ h => nomatch h) dX5_readTape_9 (fun f28 H locs hH hI nf28 of28 bf28 => ?_)
  refine lv_aload_n hx hb dX5_readTape_12 rfl (lv_at hl 0 rfl) ?_
  refine lv_iconst (v := (-1 : Int32)) hx hb dX5_readTape_13 (by decide) ?_
  refine t_put C hH hI mq tq (by decide) td_14 iX5 tyX5 tyX5_ok nmX5 rfl 6 (by decide) wd332 rfl rfl (v := .int (-1 : Int32)) rfl rfl rfl ⟨_, rfl, (rg_w rl_m1 (by decide))⟩ (fun _ h => nomatch h) dX5_readTape_14 (fun f29 H locs hH hI nf29 of29 bf29 => ?_)
  refine lv_aload_n hx hb dX5_readTape_17 rfl (lv_at hl 0 rfl) ?_
  refine lv_iconst (v := (0 : Int32)) hx hb dX5_readTape_18 (by decide) ?_
  refine t_put C hH hI mq tq (by decide) td_14 iX5 tyX5 tyX5_ok nmX5 rfl 4 (by decide) wd344 rfl rfl (v := .int (0 : Int32)) rfl rfl rfl ⟨_, rfl, (rg_w rl_0 (by decide))⟩ (fun _ h => nomatch h) dX5_readTape_19 (fun f30 H locs hH hI nf30 of30 bf30 => ?_)
  refine lv_aload_n hx hb dX5_readTape_22 rfl (lv_at hl 0 rfl) ?_
  refine t_Vv C hO hl.1 hA hH hI.1 (As := []) (rest := []) (t_X5_advance l E J τ L f30 hI.1 mq tq) my_X5_advance wd360 mq tq td_14 rfl rfl rfl (Nat.le_of_ble_eq_true rfl) ⟨Nat.le_of_ble_eq_true rfl, Nat.le_of_ble_eq_true rfl⟩ ⟨rfl, rfl⟩ dX5_readTape_23 (fun L1 f31 H locs hp hH => ?_)
  obtain ⟨rfl, s33, h34⟩ := hp
  have hI := hI.call s33 (by decide)
  refine lv_iconst (v := (0 : Int32)) hx hb dX5_readTape_26 (by decide) ?_
  refine lv_istore_n (lv' := [(1, .int (0 : Int32)), (0, .ref q)]) hx hb dX5_readTape_27 rfl hl (by decide) rfl (fun ls hl => ?_)
  exact cut28 801 _ _ _ _ (0 : Int32) (fu_i 801 rl_0 (by decide)) hI hH (rg_w rl_0 (by decide)) (lv_sub hl [1, 0] rfl)
