def gImgs (E : gE) (L : List Nat) (f : gF) (iv : Nat → Option Nat) (n : Nat) : Prop := ∀ k, k < 3 → ∃ (q : Nat) (a : Nat → Nat), iv k = some q ∧ q ∈ L ∧ f q = .inr (3, [.int (0 : Int32), .int (0 : Int32), .int (0 : Int32), .int (0 : Int32), .int (0 : Int32), .int (0 : Int32), .int (0 : Int32), .int (0 : Int32), .int (0 : Int32), .int (0 : Int32), .ref (a 0), .ref (a 1), .ref (a 2), .ref (a 3), .ref (a 4), .ref (a 5), .ref (a 6), .ref (a 7), .ref (a 8), .ref (a 9)]) ∧ gArrs E L f a ∧ q ≠ n
theorem gArrs_neO {E : gE} {L : List Nat} {f : gF} {na : Nat → Nat} {b ci : Nat} {x : List Value} (h : gArrs E L f na) (hb : f b = .inr (ci, x)) : ∀ i, i < 10 → b ≠ na i := fun i hi => by
  obtain ⟨-, v, h2⟩ := h i hi
  exact g_neOA hb h2
theorem gArrs_neA {E : gE} {L : List Nat} {f : gF} {na : Nat → Nat} {b n : Nat} {cA : ClassId} {x : (Nat → Int32) ⊕ ((Nat → Int64) ⊕ ((Nat → UInt32) ⊕ ((Nat → UInt64) ⊕ (Nat → Option Nat))))} (h : gArrs E L f na) (hb : f b = .inl (cA, n, x)) (hn : ∀ i, i < 10 → n ≠ gLen i) : ∀ i, i < 10 → b ≠ na i := fun i hi => by
  obtain ⟨-, v, h2⟩ := h i hi
  exact g_neN hb h2 (hn i hi)
theorem gArrs_keep1 {E : gE} {L : List Nat} {f f1 : gF} {na : Nat → Nat} {q ci : Nat} {x : List Value} (hk : ∀ b, b ≠ q → f1 b = f b) (hq : f q = .inr (ci, x)) (h : gArrs E L f na) : gArrs E L f1 na := fun i hi => by
  obtain ⟨h1, v, h2⟩ := h i hi
  exact ⟨h1, v, (hk _ (g_neAO h2 hq)).trans h2⟩
theorem gArrs_keep2 {E : gE} {L : List Nat} {f f1 : gF} {na : Nat → Nat} {q ci q2 cj : Nat} {x y : List Value} (hk : ∀ b, b ≠ q → b ≠ q2 → f1 b = f b) (hq : f q = .inr (ci, x)) (hq2 : f q2 = .inr (cj, y)) (h : gArrs E L f na) : gArrs E L f1 na := fun i hi => by
  obtain ⟨h1, v, h2⟩ := h i hi
  exact ⟨h1, v, (hk _ (g_neAO h2 hq) (g_neAO h2 hq2)).trans h2⟩
set_option maxHeartbeats 4000000 in
set_option maxRecDepth 100000 in
theorem k_fillJ (l : Launch) (E : gE) (L : List Nat) (f : gF) {a n : Nat} {v : Nat → Int64} (ma : a ∈ L) (fa : f a = .inl (E.2.2 2, n, .inr (.inl v))) (hn : n < 2 ^ 31) (z : Int64) : gMv l E yJ7_fill_d0a16 cJ7_fill_d0a16 5 (gRm 1 0 0) [.ref a, .long z] L f (fun L1 f1 => L = L1 ∧ (∃ u, f1 a = .inl (E.2.2 2, n, .inr (.inl u))) ∧ ∀ b, b ≠ a → f1 b = f b) := by
  refine gMv.intro (by decide) (Nat.le_of_ble_eq_true rfl) ?_
  intro p e s m below meth c A ls C hr hnm hA hH hl
  have C : gC E cJ7_fill_d0a16 5 RJ7 p s m _ meth c := C
  have hl : lv_has ls 5 [(0, .ref a), (1, .long z)] := hl
  have hx := C.1
  have hb := C.2.1
  refine lv_iconst (v := (0 : Int32)) hx hb dJ7_fill_d0a16_0 (by decide) ?_
  refine lv_istore_n (lv' := [(3, .int (0 : Int32)), (0, .ref a), (1, .long z)]) hx hb dJ7_fill_d0a16_1 rfl hl (by decide) rfl (fun ls hl => ?_)
  refine lv_aload_n hx hb dJ7_fill_d0a16_2 rfl (lv_at hl 1 rfl) ?_
  refine g_alen C hH ma 2 rfl fa (v := nI n) rfl dJ7_fill_d0a16_3 ?_
  refine lv_istore (lv' := [(4, .int (nI n)), (3, .int (0 : Int32)), (0, .ref a), (1, .long z)]) hx hb dJ7_fill_d0a16_4 hl (by decide) rfl (fun ls hl => ?_)
  have loop : ∀ (k i : Nat) (x : Int32) (f1 : gF) (v1 : Nat → Int64) (H : Heap) (locs : List Loc) (ls : Array Slot), i + k = n → x = nI i → f1 a = .inl (E.2.2 2, n, .inr (.inl v1)) → (∀ b, b ≠ a → f1 b = f b) → gH E A L f1 s.heap H locs → lv_has ls 5 [(4, .int (nI n)), (3, .int x), (0, .ref a), (1, .long z)] → W p l e (gRm 1 0 0) s m [Value.ref a, Value.long z].toArray below meth c H locs 0 0 (MQ below (gQv E A (fun L1 f1 => L = L1 ∧ (∃ u, f1 a = .inl (E.2.2 2, n, .inr (.inl u))) ∧ ∀ b, b ≠ a → f1 b = f b)) [Value.ref a, Value.long z].toArray s (gRm 1 0 0).cells (gRm 1 0 0).slots A) (F0 m 6 ls []) := by
    intro k
    induction k with
    | zero =>
      intro i x f1 v1 H locs ls hik ex h1 h2 hH hl
      obtain rfl : i = n := by omega
      refine lv_iload_n hx hb dJ7_fill_d0a16_6 rfl (lv_at hl 1 rfl) ?_
      refine lv_iload hx hb dJ7_fill_d0a16_7 (lv_at hl 0 rfl) ?_
      refine lv_icmp_ge (tgt := 22) hx hb dJ7_fill_d0a16_9 (by decide) (fun _ => ?_) (fun h => absurd (by rw [ex]; exact Int32.le_refl _) h)
      refine g_vret C hr hH (Nat.le_of_ble_eq_true rfl) (Nat.le_of_ble_eq_true rfl) dJ7_fill_d0a16_22 ?_
      exact ⟨rfl, ⟨_, h1⟩, h2⟩
    | succ k ih =>
      intro i x f1 v1 H locs ls hik ex h1 h2 hH hl
      refine lv_iload_n hx hb dJ7_fill_d0a16_6 rfl (lv_at hl 1 rfl) ?_
      refine lv_iload hx hb dJ7_fill_d0a16_7 (lv_at hl 0 rfl) ?_
      refine lv_icmp_ge (tgt := 22) hx hb dJ7_fill_d0a16_9 (by decide) (fun h => absurd h (by rw [ex]; exact nI_ge (by omega) hn)) (fun _ => ?_)
      refine lv_aload_n hx hb dJ7_fill_d0a16_12 rfl (lv_at hl 2 rfl) ?_
      refine lv_iload_n hx hb dJ7_fill_d0a16_13 rfl (lv_at hl 1 rfl) ?_
      refine lv_lload_n hx hb dJ7_fill_d0a16_14 rfl (lv_at hl 3 rfl) ?_
      refine g_last C hH ma h1 (by rw [ex]; exact vp_in_nI (by omega) hn) dJ7_fill_d0a16_15 (fun H locs hH => ?_)
      obtain ⟨x2, ex2⟩ : ∃ y : Int32, y = x + 1 := ⟨_, rfl⟩
      refine lv_iinc (v := x2) (lv' := [(3, .int x2), (4, .int (nI n)), (0, .ref a), (1, .long z)]) hx hb dJ7_fill_d0a16_16 hl (k := 1) rfl (by rw [ex2]; rfl) (by decide) rfl (fun ls hl => ?_)
      refine lv_goto (tgt := 6) hx hb dJ7_fill_d0a16_19 (by decide) ?_
      exact ih (i + 1) x2 _ _ _ _ ls (by omega) (by rw [ex2, ex]; exact nI_1 i) (va_up_self _ _ _) (fun b hb => (va_up_ne _ _ hb).trans (h2 b hb)) hH (lv_sub hl [1, 0, 2, 3] rfl)
  exact loop n 0 _ _ _ _ _ ls (by omega) nI_0.symm fa (fun _ _ => rfl) hH hl
set_option maxHeartbeats 4000000 in
set_option maxRecDepth 100000 in
theorem k_begin (l : Launch) (E : gE) (L : List Nat) (f : gF) {q nu : Nat} {u : Nat → Int64} (mq : q ∈ L) (fq : f q = .inr (6, [.ref nu, .int (-1 : Int32), .int (0 : Int32)])) (mu : nu ∈ L) (fu : f nu = .inl (E.2.2 2, 60, .inr (.inl u))) (p0 p1 : Int32) : gMv l E yX6_begin cX6_begin 3 (gRm 2 0 0) [.ref q, .int p0, .int p1] L f (fun _ _ => True) := by
  refine gMv.intro (by decide) (Nat.le_of_ble_eq_true rfl) ?_
  intro p e s m below meth c A ls C hr hnm hA hH hl
  have C : gC E cX6_begin 3 RX6 p s m _ meth c := C
  have hl : lv_has ls 3 [(0, .ref q), (1, .int p0), (2, .int p1)] := hl
  have hx := C.1
  have hb := C.2.1
  refine lv_aload_n hx hb dX6_begin_0 rfl (lv_at hl 0 rfl) ?_
  refine lv_iload_n hx hb dX6_begin_1 rfl (lv_at hl 1 rfl) ?_
  refine g_put C hH mq fq iX6 tyX6 tyX6_ok nmX6 rfl 1 (by decide) wd64 rfl rfl rfl rfl (Nat.le_of_ble_eq_true rfl) (fs' := [.ref nu, .int p0, .int (0 : Int32)]) rfl dX6_begin_2 (fun H locs hH => ?_)
  obtain ⟨f1, ef1⟩ : ∃ z : gF, z = va_up f q (.inr (6, [.ref nu, .int p0, .int (0 : Int32)])) := ⟨_, rfl⟩
  have hH : gH E A L f1 s.heap H locs := by rw [ef1]; exact hH
  have h2 : f1 q = .inr (6, [.ref nu, .int p0, .int (0 : Int32)]) := (congrFun ef1 q).trans (va_up_self _ _ _)
  refine lv_aload_n hx hb dX6_begin_5 rfl (lv_at hl 0 rfl) ?_
  refine lv_iload_n hx hb dX6_begin_6 rfl (lv_at hl 2 rfl) ?_
  refine g_put C hH mq h2 iX6 tyX6 tyX6_ok nmX6 rfl 2 (by decide) wd85 rfl rfl rfl rfl (Nat.le_of_ble_eq_true rfl) (fs' := [.ref nu, .int p0, .int p1]) rfl dX6_begin_7 (fun H locs hH => ?_)
  obtain ⟨f3, ef3⟩ : ∃ z : gF, z = va_up f1 q (.inr (6, [.ref nu, .int p0, .int p1])) := ⟨_, rfl⟩
  have hH : gH E A L f3 s.heap H locs := by rw [ef3]; exact hH
  have h4 : f3 q = .inr (6, [.ref nu, .int p0, .int p1]) := (congrFun ef3 q).trans (va_up_self _ _ _)
  refine lv_aload_n hx hb dX6_begin_10 rfl (lv_at hl 0 rfl) ?_
  refine g_get C hH mq h4 iX6 rfl 0 (by decide) wd86 rfl rfl dX6_begin_11 ?_
  refine lv_lconst (v := (0 : Int64)) hx hb dX6_begin_14 (by decide) ?_
  have h5 : f1 nu = .inl (E.2.2 2, 60, .inr (.inl u)) := ((congrFun ef1 nu).trans (va_up_ne _ _ (g_neAO fu fq))).trans fu
  have h6 : f3 nu = .inl (E.2.2 2, 60, .inr (.inl u)) := ((congrFun ef3 nu).trans (va_up_ne _ _ (g_neAO h5 h2))).trans h5
  refine g_Sv C hl.1 hA hH (As := [.ref nu, .long (0 : Int64)]) (rest := []) (k_fillJ l E L f3 mu h6 (Nat.le_of_ble_eq_true rfl) (0 : Int64)) my_J7_fill_d0a16 wd90 rfl rfl (Nat.le_of_ble_eq_true rfl) ⟨Nat.le_of_ble_eq_true rfl, Nat.le_of_ble_eq_true rfl⟩ ⟨Nat.le_of_ble_eq_true rfl, Nat.le_of_ble_eq_true rfl⟩ dX6_begin_15 (fun L8 f7 H locs hp hH => ?_)
  obtain ⟨rfl, ⟨v9, h10⟩, k11⟩ := hp
  refine g_vret C hr hH (Nat.le_of_ble_eq_true rfl) (Nat.le_of_ble_eq_true rfl) dX6_begin_18 ?_
  exact trivial
set_option maxHeartbeats 4000000 in
set_option maxRecDepth 100000 in
theorem k_row (l : Launch) (E : gE) (L : List Nat) (f : gF) {x xt xn xr xi xw xs xl xc xh xf xm : Nat} (mx : x ∈ L) (fx : f x = .inr (9, [.ref xt, .ref xn, .ref xr, .ref xi, .ref xw, .ref xs, .ref xl, .ref xc, .ref xh, .ref xf, .ref xm])) {wv : Nat → Option Nat} (mw : xw ∈ L) (fw : f xw = .inl (E.2.2 5, 4, .inr (.inr (.inr (.inr wv))))) (wr : gRows E L f wv) (p0 p1 p2 : Int32) : gMi l E yX9_row cX9_row 4 .int (gRm 3 0 0) [.ref x, .int p0, .int p1, .int p2] L f (fun r _ _ => r = gRow p0 p1 p2) := by
  refine gMi.intro (by decide) (Nat.le_of_ble_eq_true rfl) ?_
  intro p e s m below meth c A ls C hr hA hH hl
  have C : gC E cX9_row 4 RX9 p s m _ meth c := C
  have hl : lv_has ls 4 [(0, .ref x), (1, .int p0), (2, .int p1), (3, .int p2)] := hl
  have hx := C.1
  have hb := C.2.1
  refine lv_iload_n hx hb dX9_row_0 rfl (lv_at hl 1 rfl) ?_
  refine g_Si C hl.1 hA hH (As := [.int p0]) (rest := []) (k_isSlot l E L f p0) my_X9_isSlot wd17 rfl rfl (Nat.le_of_ble_eq_true rfl) ⟨Nat.le_of_ble_eq_true rfl, Nat.le_of_ble_eq_true rfl⟩ ⟨Nat.le_of_ble_eq_true rfl, Nat.le_of_ble_eq_true rfl⟩ dX9_row_1 (fun r3 L2 f1 H locs hp hH => ?_)
  obtain ⟨er3, rfl, rfl⟩ := hp
  subst er3
  refine lv_if_eq (tgt := 22) hx hb dX9_row_4 (by decide) (fun c4 => ?_) (fun c4 => ?_)
  · skip
    refine lv_bipush (v := (-2 : Int32)) hx hb dX9_row_22 (by decide) ?_
    refine g_iret C hr hH (Nat.le_of_ble_eq_true rfl) (Nat.le_of_ble_eq_true rfl) dX9_row_24 ?_
    exact (by rw [gRow, if_pos c4])
  · skip
    refine lv_iload_n hx hb dX9_row_7 rfl (lv_at hl 2 rfl) ?_
    refine lv_if_lt (tgt := 22) hx hb dX9_row_8 (by decide) (fun c5 => ?_) (fun c5 => ?_)
    · skip
      refine lv_bipush (v := (-2 : Int32)) hx hb dX9_row_22 (by decide) ?_
      refine g_iret C hr hH (Nat.le_of_ble_eq_true rfl) (Nat.le_of_ble_eq_true rfl) dX9_row_24 ?_
      exact (by rw [gRow, if_neg c4, if_pos c5])
    · skip
      refine lv_iload_n hx hb dX9_row_11 rfl (lv_at hl 2 rfl) ?_
      refine lv_iconst (v := (4 : Int32)) hx hb dX9_row_12 (by decide) ?_
      refine lv_icmp_ge (tgt := 22) hx hb dX9_row_13 (by decide) (fun c6 => ?_) (fun c6 => ?_)
      · skip
        refine lv_bipush (v := (-2 : Int32)) hx hb dX9_row_22 (by decide) ?_
        refine g_iret C hr hH (Nat.le_of_ble_eq_true rfl) (Nat.le_of_ble_eq_true rfl) dX9_row_24 ?_
        exact (by rw [gRow, if_neg c4, if_neg c5, if_pos c6])
      · skip
        refine lv_iload_n hx hb dX9_row_16 rfl (lv_at hl 3 rfl) ?_
        refine lv_bipush (v := (60 : Int32)) hx hb dX9_row_17 (by decide) ?_
        refine lv_icmp_le (tgt := 25) hx hb dX9_row_19 (by decide) (fun c7 => ?_) (fun c7 => ?_)
        · skip
          refine lv_iload_n hx hb dX9_row_25 rfl (lv_at hl 3 rfl) ?_
          refine lv_if_ge (tgt := 32) hx hb dX9_row_26 (by decide) (fun c8 => ?_) (fun c8 => ?_)
          · skip
            refine lv_aload_n hx hb dX9_row_32 rfl (lv_at hl 0 rfl) ?_
            refine g_get C hH mx fx iX9 rfl 4 (by decide) wd65 rfl rfl dX9_row_33 ?_
            refine lv_iload_n hx hb dX9_row_36 rfl (lv_at hl 1 rfl) ?_
            obtain ⟨q9, nu10, u11, h12, m13, h14, m15, h16⟩ := wr (p0).toNatClampNeg (vp_lt (gSlot_in c4))
            refine g_aald C hH mw 5 rfl fw (gSlot_in c4) h12 dX9_row_37 ?_
            refine lv_iload_n hx hb dX9_row_38 rfl (lv_at hl 2 rfl) ?_
            refine lv_iload_n hx hb dX9_row_39 rfl (lv_at hl 3 rfl) ?_
            refine g_Vv C hl.1 hA hH (As := [.int p1, .int p2]) (rest := []) (k_begin l E L f m13 h14 m15 h16 p1 p2) my_X6_begin wd94 m13 h14 rfl rfl rfl (Nat.le_of_ble_eq_true rfl) ⟨Nat.le_of_ble_eq_true rfl, Nat.le_of_ble_eq_true rfl⟩ ⟨Nat.le_of_ble_eq_true rfl, Nat.le_of_ble_eq_true rfl⟩ dX9_row_40 (fun L18 f17 H locs hp hH => ?_)
            refine lv_iconst (v := (0 : Int32)) hx hb dX9_row_43 (by decide) ?_
            refine g_iret C hr hH (Nat.le_of_ble_eq_true rfl) (Nat.le_of_ble_eq_true rfl) dX9_row_44 ?_
            exact (by rw [gRow, if_neg c4, if_neg c5, if_neg c6, if_pos c7, if_pos c8])
          · skip
            refine lv_bipush (v := (-3 : Int32)) hx hb dX9_row_29 (by decide) ?_
            refine g_iret C hr hH (Nat.le_of_ble_eq_true rfl) (Nat.le_of_ble_eq_true rfl) dX9_row_31 ?_
            exact (by rw [gRow, if_neg c4, if_neg c5, if_neg c6, if_pos c7, if_neg c8])
        · skip
          refine lv_bipush (v := (-2 : Int32)) hx hb dX9_row_22 (by decide) ?_
          refine g_iret C hr hH (Nat.le_of_ble_eq_true rfl) (Nat.le_of_ble_eq_true rfl) dX9_row_24 ?_
          exact (by rw [gRow, if_neg c4, if_neg c5, if_neg c6, if_neg c7])
set_option maxHeartbeats 4000000 in
set_option maxRecDepth 100000 in
theorem k_become (l : Launch) (E : gE) (L : List Nat) (f : gF) {q o : Nat} {na oa : Nat → Nat} {v0 u0 v1 u1 v2 u2 v3 u3 v4 u4 v5 u5 v6 u6 v7 u7 v8 u8 v9 u9 : Int32} (mq : q ∈ L) (fq : f q = .inr (3, [.int v0, .int v1, .int v2, .int v3, .int v4, .int v5, .int v6, .int v7, .int v8, .int v9, .ref (na 0), .ref (na 1), .ref (na 2), .ref (na 3), .ref (na 4), .ref (na 5), .ref (na 6), .ref (na 7), .ref (na 8), .ref (na 9)])) (mo : o ∈ L) (fo : f o = .inr (3, [.int u0, .int u1, .int u2, .int u3, .int u4, .int u5, .int u6, .int u7, .int u8, .int u9, .ref (oa 0), .ref (oa 1), .ref (oa 2), .ref (oa 3), .ref (oa 4), .ref (oa 5), .ref (oa 6), .ref (oa 7), .ref (oa 8), .ref (oa 9)])) (gq : gArrs E L f na) (go : gArrs E L f oa) (hqo : q ≠ o) : gMv l E yX3_become cX3_become 2 (gRm 1 0 0) [.ref q, .ref o] L f (fun L1 f1 => L = L1 ∧ f1 q = .inr (3, [.int u0, .int u1, .int u2, .int u3, .int u4, .int u5, .int u6, .int u7, .int u8, .int u9, .ref (na 0), .ref (na 1), .ref (na 2), .ref (na 3), .ref (na 4), .ref (na 5), .ref (na 6), .ref (na 7), .ref (na 8), .ref (na 9)]) ∧ gArrs E L f1 na ∧ ∀ b, b ≠ q → (∀ i, i < 10 → b ≠ na i) → f1 b = f b) := by
  refine gMv.intro (by decide) (Nat.le_of_ble_eq_true rfl) ?_
  intro p e s m below meth c A ls C hr hnm hA hH hl
  have C : gC E cX3_become 2 RX3 p s m _ meth c := C
  have hl : lv_has ls 2 [(0, .ref q), (1, .ref o)] := hl
  have hx := C.1
  have hb := C.2.1
  refine lv_aload_n hx hb dX3_become_0 rfl (lv_at hl 0 rfl) ?_
  refine lv_aload_n hx hb dX3_become_1 rfl (lv_at hl 1 rfl) ?_
  refine g_get C hH mo fo iX3 rfl 0 (by decide) wd0 rfl rfl dX3_become_2 ?_
  refine g_put C hH mq fq iX3 tyX3 tyX3_ok nmX3 rfl 0 (by decide) wd0 rfl rfl rfl rfl (Nat.le_of_ble_eq_true rfl) (fs' := [.int u0, .int v1, .int v2, .int v3, .int v4, .int v5, .int v6, .int v7, .int v8, .int v9, .ref (na 0), .ref (na 1), .ref (na 2), .ref (na 3), .ref (na 4), .ref (na 5), .ref (na 6), .ref (na 7), .ref (na 8), .ref (na 9)]) rfl dX3_become_5 (fun H locs hH => ?_)
  obtain ⟨f1, ef1⟩ : ∃ z : gF, z = va_up f q (.inr (3, [.int u0, .int v1, .int v2, .int v3, .int v4, .int v5, .int v6, .int v7, .int v8, .int v9, .ref (na 0), .ref (na 1), .ref (na 2), .ref (na 3), .ref (na 4), .ref (na 5), .ref (na 6), .ref (na 7), .ref (na 8), .ref (na 9)])) := ⟨_, rfl⟩
  have hH : gH E A L f1 s.heap H locs := by rw [ef1]; exact hH
  have h2 : f1 q = .inr (3, [.int u0, .int v1, .int v2, .int v3, .int v4, .int v5, .int v6, .int v7, .int v8, .int v9, .ref (na 0), .ref (na 1), .ref (na 2), .ref (na 3), .ref (na 4), .ref (na 5), .ref (na 6), .ref (na 7), .ref (na 8), .ref (na 9)]) := (congrFun ef1 q).trans (va_up_self _ _ _)
  refine lv_aload_n hx hb dX3_become_8 rfl (lv_at hl 0 rfl) ?_
  refine lv_aload_n hx hb dX3_become_9 rfl (lv_at hl 1 rfl) ?_
  have h3 : f1 o = .inr (3, [.int u0, .int u1, .int u2, .int u3, .int u4, .int u5, .int u6, .int u7, .int u8, .int u9, .ref (oa 0), .ref (oa 1), .ref (oa 2), .ref (oa 3), .ref (oa 4), .ref (oa 5), .ref (oa 6), .ref (oa 7), .ref (oa 8), .ref (oa 9)]) := ((congrFun ef1 o).trans (va_up_ne _ _ (Ne.symm hqo))).trans fo
  refine g_get C hH mo h3 iX3 rfl 1 (by decide) wd1 rfl rfl dX3_become_10 ?_
  refine g_put C hH mq h2 iX3 tyX3 tyX3_ok nmX3 rfl 1 (by decide) wd1 rfl rfl rfl rfl (Nat.le_of_ble_eq_true rfl) (fs' := [.int u0, .int u1, .int v2, .int v3, .int v4, .int v5, .int v6, .int v7, .int v8, .int v9, .ref (na 0), .ref (na 1), .ref (na 2), .ref (na 3), .ref (na 4), .ref (na 5), .ref (na 6), .ref (na 7), .ref (na 8), .ref (na 9)]) rfl dX3_become_13 (fun H locs hH => ?_)
  obtain ⟨f4, ef4⟩ : ∃ z : gF, z = va_up f1 q (.inr (3, [.int u0, .int u1, .int v2, .int v3, .int v4, .int v5, .int v6, .int v7, .int v8, .int v9, .ref (na 0), .ref (na 1), .ref (na 2), .ref (na 3), .ref (na 4), .ref (na 5), .ref (na 6), .ref (na 7), .ref (na 8), .ref (na 9)])) := ⟨_, rfl⟩
  have hH : gH E A L f4 s.heap H locs := by rw [ef4]; exact hH
  have h5 : f4 q = .inr (3, [.int u0, .int u1, .int v2, .int v3, .int v4, .int v5, .int v6, .int v7, .int v8, .int v9, .ref (na 0), .ref (na 1), .ref (na 2), .ref (na 3), .ref (na 4), .ref (na 5), .ref (na 6), .ref (na 7), .ref (na 8), .ref (na 9)]) := (congrFun ef4 q).trans (va_up_self _ _ _)
  refine lv_aload_n hx hb dX3_become_16 rfl (lv_at hl 0 rfl) ?_
  refine lv_aload_n hx hb dX3_become_17 rfl (lv_at hl 1 rfl) ?_
  have h6 : f4 o = .inr (3, [.int u0, .int u1, .int u2, .int u3, .int u4, .int u5, .int u6, .int u7, .int u8, .int u9, .ref (oa 0), .ref (oa 1), .ref (oa 2), .ref (oa 3), .ref (oa 4), .ref (oa 5), .ref (oa 6), .ref (oa 7), .ref (oa 8), .ref (oa 9)]) := ((congrFun ef4 o).trans (va_up_ne _ _ (Ne.symm hqo))).trans h3
  refine g_get C hH mo h6 iX3 rfl 2 (by decide) wd2 rfl rfl dX3_become_18 ?_
  refine g_put C hH mq h5 iX3 tyX3 tyX3_ok nmX3 rfl 2 (by decide) wd2 rfl rfl rfl rfl (Nat.le_of_ble_eq_true rfl) (fs' := [.int u0, .int u1, .int u2, .int v3, .int v4, .int v5, .int v6, .int v7, .int v8, .int v9, .ref (na 0), .ref (na 1), .ref (na 2), .ref (na 3), .ref (na 4), .ref (na 5), .ref (na 6), .ref (na 7), .ref (na 8), .ref (na 9)]) rfl dX3_become_21 (fun H locs hH => ?_)
  obtain ⟨f7, ef7⟩ : ∃ z : gF, z = va_up f4 q (.inr (3, [.int u0, .int u1, .int u2, .int v3, .int v4, .int v5, .int v6, .int v7, .int v8, .int v9, .ref (na 0), .ref (na 1), .ref (na 2), .ref (na 3), .ref (na 4), .ref (na 5), .ref (na 6), .ref (na 7), .ref (na 8), .ref (na 9)])) := ⟨_, rfl⟩
  have hH : gH E A L f7 s.heap H locs := by rw [ef7]; exact hH
  have h8 : f7 q = .inr (3, [.int u0, .int u1, .int u2, .int v3, .int v4, .int v5, .int v6, .int v7, .int v8, .int v9, .ref (na 0), .ref (na 1), .ref (na 2), .ref (na 3), .ref (na 4), .ref (na 5), .ref (na 6), .ref (na 7), .ref (na 8), .ref (na 9)]) := (congrFun ef7 q).trans (va_up_self _ _ _)
  refine lv_aload_n hx hb dX3_become_24 rfl (lv_at hl 0 rfl) ?_
  refine lv_aload_n hx hb dX3_become_25 rfl (lv_at hl 1 rfl) ?_
  have h9 : f7 o = .inr (3, [.int u0, .int u1, .int u2, .int u3, .int u4, .int u5, .int u6, .int u7, .int u8, .int u9, .ref (oa 0), .ref (oa 1), .ref (oa 2), .ref (oa 3), .ref (oa 4), .ref (oa 5), .ref (oa 6), .ref (oa 7), .ref (oa 8), .ref (oa 9)]) := ((congrFun ef7 o).trans (va_up_ne _ _ (Ne.symm hqo))).trans h6
  refine g_get C hH mo h9 iX3 rfl 3 (by decide) wd95 rfl rfl dX3_become_26 ?_
  refine g_put C hH mq h8 iX3 tyX3 tyX3_ok nmX3 rfl 3 (by decide) wd95 rfl rfl rfl rfl (Nat.le_of_ble_eq_true rfl) (fs' := [.int u0, .int u1, .int u2, .int u3, .int v4, .int v5, .int v6, .int v7, .int v8, .int v9, .ref (na 0), .ref (na 1), .ref (na 2), .ref (na 3), .ref (na 4), .ref (na 5), .ref (na 6), .ref (na 7), .ref (na 8), .ref (na 9)]) rfl dX3_become_29 (fun H locs hH => ?_)
  obtain ⟨f10, ef10⟩ : ∃ z : gF, z = va_up f7 q (.inr (3, [.int u0, .int u1, .int u2, .int u3, .int v4, .int v5, .int v6, .int v7, .int v8, .int v9, .ref (na 0), .ref (na 1), .ref (na 2), .ref (na 3), .ref (na 4), .ref (na 5), .ref (na 6), .ref (na 7), .ref (na 8), .ref (na 9)])) := ⟨_, rfl⟩
  have hH : gH E A L f10 s.heap H locs := by rw [ef10]; exact hH
  have h11 : f10 q = .inr (3, [.int u0, .int u1, .int u2, .int u3, .int v4, .int v5, .int v6, .int v7, .int v8, .int v9, .ref (na 0), .ref (na 1), .ref (na 2), .ref (na 3), .ref (na 4), .ref (na 5), .ref (na 6), .ref (na 7), .ref (na 8), .ref (na 9)]) := (congrFun ef10 q).trans (va_up_self _ _ _)
  refine lv_aload_n hx hb dX3_become_32 rfl (lv_at hl 0 rfl) ?_
  refine lv_aload_n hx hb dX3_become_33 rfl (lv_at hl 1 rfl) ?_
  have h12 : f10 o = .inr (3, [.int u0, .int u1, .int u2, .int u3, .int u4, .int u5, .int u6, .int u7, .int u8, .int u9, .ref (oa 0), .ref (oa 1), .ref (oa 2), .ref (oa 3), .ref (oa 4), .ref (oa 5), .ref (oa 6), .ref (oa 7), .ref (oa 8), .ref (oa 9)]) := ((congrFun ef10 o).trans (va_up_ne _ _ (Ne.symm hqo))).trans h9
  refine g_get C hH mo h12 iX3 rfl 4 (by decide) wd96 rfl rfl dX3_become_34 ?_
  refine g_put C hH mq h11 iX3 tyX3 tyX3_ok nmX3 rfl 4 (by decide) wd96 rfl rfl rfl rfl (Nat.le_of_ble_eq_true rfl) (fs' := [.int u0, .int u1, .int u2, .int u3, .int u4, .int v5, .int v6, .int v7, .int v8, .int v9, .ref (na 0), .ref (na 1), .ref (na 2), .ref (na 3), .ref (na 4), .ref (na 5), .ref (na 6), .ref (na 7), .ref (na 8), .ref (na 9)]) rfl dX3_become_37 (fun H locs hH => ?_)
  obtain ⟨f13, ef13⟩ : ∃ z : gF, z = va_up f10 q (.inr (3, [.int u0, .int u1, .int u2, .int u3, .int u4, .int v5, .int v6, .int v7, .int v8, .int v9, .ref (na 0), .ref (na 1), .ref (na 2), .ref (na 3), .ref (na 4), .ref (na 5), .ref (na 6), .ref (na 7), .ref (na 8), .ref (na 9)])) := ⟨_, rfl⟩
  have hH : gH E A L f13 s.heap H locs := by rw [ef13]; exact hH
  have h14 : f13 q = .inr (3, [.int u0, .int u1, .int u2, .int u3, .int u4, .int v5, .int v6, .int v7, .int v8, .int v9, .ref (na 0), .ref (na 1), .ref (na 2), .ref (na 3), .ref (na 4), .ref (na 5), .ref (na 6), .ref (na 7), .ref (na 8), .ref (na 9)]) := (congrFun ef13 q).trans (va_up_self _ _ _)
  refine lv_aload_n hx hb dX3_become_40 rfl (lv_at hl 0 rfl) ?_
  refine lv_aload_n hx hb dX3_become_41 rfl (lv_at hl 1 rfl) ?_
  have h15 : f13 o = .inr (3, [.int u0, .int u1, .int u2, .int u3, .int u4, .int u5, .int u6, .int u7, .int u8, .int u9, .ref (oa 0), .ref (oa 1), .ref (oa 2), .ref (oa 3), .ref (oa 4), .ref (oa 5), .ref (oa 6), .ref (oa 7), .ref (oa 8), .ref (oa 9)]) := ((congrFun ef13 o).trans (va_up_ne _ _ (Ne.symm hqo))).trans h12
  refine g_get C hH mo h15 iX3 rfl 5 (by decide) wd97 rfl rfl dX3_become_42 ?_
  refine g_put C hH mq h14 iX3 tyX3 tyX3_ok nmX3 rfl 5 (by decide) wd97 rfl rfl rfl rfl (Nat.le_of_ble_eq_true rfl) (fs' := [.int u0, .int u1, .int u2, .int u3, .int u4, .int u5, .int v6, .int v7, .int v8, .int v9, .ref (na 0), .ref (na 1), .ref (na 2), .ref (na 3), .ref (na 4), .ref (na 5), .ref (na 6), .ref (na 7), .ref (na 8), .ref (na 9)]) rfl dX3_become_45 (fun H locs hH => ?_)
  obtain ⟨f16, ef16⟩ : ∃ z : gF, z = va_up f13 q (.inr (3, [.int u0, .int u1, .int u2, .int u3, .int u4, .int u5, .int v6, .int v7, .int v8, .int v9, .ref (na 0), .ref (na 1), .ref (na 2), .ref (na 3), .ref (na 4), .ref (na 5), .ref (na 6), .ref (na 7), .ref (na 8), .ref (na 9)])) := ⟨_, rfl⟩
  have hH : gH E A L f16 s.heap H locs := by rw [ef16]; exact hH
  have h17 : f16 q = .inr (3, [.int u0, .int u1, .int u2, .int u3, .int u4, .int u5, .int v6, .int v7, .int v8, .int v9, .ref (na 0), .ref (na 1), .ref (na 2), .ref (na 3), .ref (na 4), .ref (na 5), .ref (na 6), .ref (na 7), .ref (na 8), .ref (na 9)]) := (congrFun ef16 q).trans (va_up_self _ _ _)
  refine lv_aload_n hx hb dX3_become_48 rfl (lv_at hl 0 rfl) ?_
  refine lv_aload_n hx hb dX3_become_49 rfl (lv_at hl 1 rfl) ?_
  have h18 : f16 o = .inr (3, [.int u0, .int u1, .int u2, .int u3, .int u4, .int u5, .int u6, .int u7, .int u8, .int u9, .ref (oa 0), .ref (oa 1), .ref (oa 2), .ref (oa 3), .ref (oa 4), .ref (oa 5), .ref (oa 6), .ref (oa 7), .ref (oa 8), .ref (oa 9)]) := ((congrFun ef16 o).trans (va_up_ne _ _ (Ne.symm hqo))).trans h15
  refine g_get C hH mo h18 iX3 rfl 6 (by decide) wd3 rfl rfl dX3_become_50 ?_
  refine g_put C hH mq h17 iX3 tyX3 tyX3_ok nmX3 rfl 6 (by decide) wd3 rfl rfl rfl rfl (Nat.le_of_ble_eq_true rfl) (fs' := [.int u0, .int u1, .int u2, .int u3, .int u4, .int u5, .int u6, .int v7, .int v8, .int v9, .ref (na 0), .ref (na 1), .ref (na 2), .ref (na 3), .ref (na 4), .ref (na 5), .ref (na 6), .ref (na 7), .ref (na 8), .ref (na 9)]) rfl dX3_become_53 (fun H locs hH => ?_)
  obtain ⟨f19, ef19⟩ : ∃ z : gF, z = va_up f16 q (.inr (3, [.int u0, .int u1, .int u2, .int u3, .int u4, .int u5, .int u6, .int v7, .int v8, .int v9, .ref (na 0), .ref (na 1), .ref (na 2), .ref (na 3), .ref (na 4), .ref (na 5), .ref (na 6), .ref (na 7), .ref (na 8), .ref (na 9)])) := ⟨_, rfl⟩
  have hH : gH E A L f19 s.heap H locs := by rw [ef19]; exact hH
  have h20 : f19 q = .inr (3, [.int u0, .int u1, .int u2, .int u3, .int u4, .int u5, .int u6, .int v7, .int v8, .int v9, .ref (na 0), .ref (na 1), .ref (na 2), .ref (na 3), .ref (na 4), .ref (na 5), .ref (na 6), .ref (na 7), .ref (na 8), .ref (na 9)]) := (congrFun ef19 q).trans (va_up_self _ _ _)
  refine lv_aload_n hx hb dX3_become_56 rfl (lv_at hl 0 rfl) ?_
  refine lv_aload_n hx hb dX3_become_57 rfl (lv_at hl 1 rfl) ?_
  have h21 : f19 o = .inr (3, [.int u0, .int u1, .int u2, .int u3, .int u4, .int u5, .int u6, .int u7, .int u8, .int u9, .ref (oa 0), .ref (oa 1), .ref (oa 2), .ref (oa 3), .ref (oa 4), .ref (oa 5), .ref (oa 6), .ref (oa 7), .ref (oa 8), .ref (oa 9)]) := ((congrFun ef19 o).trans (va_up_ne _ _ (Ne.symm hqo))).trans h18
  refine g_get C hH mo h21 iX3 rfl 7 (by decide) wd4 rfl rfl dX3_become_58 ?_
  refine g_put C hH mq h20 iX3 tyX3 tyX3_ok nmX3 rfl 7 (by decide) wd4 rfl rfl rfl rfl (Nat.le_of_ble_eq_true rfl) (fs' := [.int u0, .int u1, .int u2, .int u3, .int u4, .int u5, .int u6, .int u7, .int v8, .int v9, .ref (na 0), .ref (na 1), .ref (na 2), .ref (na 3), .ref (na 4), .ref (na 5), .ref (na 6), .ref (na 7), .ref (na 8), .ref (na 9)]) rfl dX3_become_61 (fun H locs hH => ?_)
  obtain ⟨f22, ef22⟩ : ∃ z : gF, z = va_up f19 q (.inr (3, [.int u0, .int u1, .int u2, .int u3, .int u4, .int u5, .int u6, .int u7, .int v8, .int v9, .ref (na 0), .ref (na 1), .ref (na 2), .ref (na 3), .ref (na 4), .ref (na 5), .ref (na 6), .ref (na 7), .ref (na 8), .ref (na 9)])) := ⟨_, rfl⟩
  have hH : gH E A L f22 s.heap H locs := by rw [ef22]; exact hH
  have h23 : f22 q = .inr (3, [.int u0, .int u1, .int u2, .int u3, .int u4, .int u5, .int u6, .int u7, .int v8, .int v9, .ref (na 0), .ref (na 1), .ref (na 2), .ref (na 3), .ref (na 4), .ref (na 5), .ref (na 6), .ref (na 7), .ref (na 8), .ref (na 9)]) := (congrFun ef22 q).trans (va_up_self _ _ _)
  refine lv_aload_n hx hb dX3_become_64 rfl (lv_at hl 0 rfl) ?_
  refine lv_aload_n hx hb dX3_become_65 rfl (lv_at hl 1 rfl) ?_
  have h24 : f22 o = .inr (3, [.int u0, .int u1, .int u2, .int u3, .int u4, .int u5, .int u6, .int u7, .int u8, .int u9, .ref (oa 0), .ref (oa 1), .ref (oa 2), .ref (oa 3), .ref (oa 4), .ref (oa 5), .ref (oa 6), .ref (oa 7), .ref (oa 8), .ref (oa 9)]) := ((congrFun ef22 o).trans (va_up_ne _ _ (Ne.symm hqo))).trans h21
  refine g_get C hH mo h24 iX3 rfl 8 (by decide) wd98 rfl rfl dX3_become_66 ?_
  refine g_put C hH mq h23 iX3 tyX3 tyX3_ok nmX3 rfl 8 (by decide) wd98 rfl rfl rfl rfl (Nat.le_of_ble_eq_true rfl) (fs' := [.int u0, .int u1, .int u2, .int u3, .int u4, .int u5, .int u6, .int u7, .int u8, .int v9, .ref (na 0), .ref (na 1), .ref (na 2), .ref (na 3), .ref (na 4), .ref (na 5), .ref (na 6), .ref (na 7), .ref (na 8), .ref (na 9)]) rfl dX3_become_69 (fun H locs hH => ?_)
  obtain ⟨f25, ef25⟩ : ∃ z : gF, z = va_up f22 q (.inr (3, [.int u0, .int u1, .int u2, .int u3, .int u4, .int u5, .int u6, .int u7, .int u8, .int v9, .ref (na 0), .ref (na 1), .ref (na 2), .ref (na 3), .ref (na 4), .ref (na 5), .ref (na 6), .ref (na 7), .ref (na 8), .ref (na 9)])) := ⟨_, rfl⟩
  have hH : gH E A L f25 s.heap H locs := by rw [ef25]; exact hH
  have h26 : f25 q = .inr (3, [.int u0, .int u1, .int u2, .int u3, .int u4, .int u5, .int u6, .int u7, .int u8, .int v9, .ref (na 0), .ref (na 1), .ref (na 2), .ref (na 3), .ref (na 4), .ref (na 5), .ref (na 6), .ref (na 7), .ref (na 8), .ref (na 9)]) := (congrFun ef25 q).trans (va_up_self _ _ _)
  refine lv_aload_n hx hb dX3_become_72 rfl (lv_at hl 0 rfl) ?_
  refine lv_aload_n hx hb dX3_become_73 rfl (lv_at hl 1 rfl) ?_
  have h27 : f25 o = .inr (3, [.int u0, .int u1, .int u2, .int u3, .int u4, .int u5, .int u6, .int u7, .int u8, .int u9, .ref (oa 0), .ref (oa 1), .ref (oa 2), .ref (oa 3), .ref (oa 4), .ref (oa 5), .ref (oa 6), .ref (oa 7), .ref (oa 8), .ref (oa 9)]) := ((congrFun ef25 o).trans (va_up_ne _ _ (Ne.symm hqo))).trans h24
  refine g_get C hH mo h27 iX3 rfl 9 (by decide) wd99 rfl rfl dX3_become_74 ?_
  refine g_put C hH mq h26 iX3 tyX3 tyX3_ok nmX3 rfl 9 (by decide) wd99 rfl rfl rfl rfl (Nat.le_of_ble_eq_true rfl) (fs' := [.int u0, .int u1, .int u2, .int u3, .int u4, .int u5, .int u6, .int u7, .int u8, .int u9, .ref (na 0), .ref (na 1), .ref (na 2), .ref (na 3), .ref (na 4), .ref (na 5), .ref (na 6), .ref (na 7), .ref (na 8), .ref (na 9)]) rfl dX3_become_77 (fun H locs hH => ?_)
  obtain ⟨f28, ef28⟩ : ∃ z : gF, z = va_up f25 q (.inr (3, [.int u0, .int u1, .int u2, .int u3, .int u4, .int u5, .int u6, .int u7, .int u8, .int u9, .ref (na 0), .ref (na 1), .ref (na 2), .ref (na 3), .ref (na 4), .ref (na 5), .ref (na 6), .ref (na 7), .ref (na 8), .ref (na 9)])) := ⟨_, rfl⟩
  have hH : gH E A L f28 s.heap H locs := by rw [ef28]; exact hH
  have h29 : f28 q = .inr (3, [.int u0, .int u1, .int u2, .int u3, .int u4, .int u5, .int u6, .int u7, .int u8, .int u9, .ref (na 0), .ref (na 1), .ref (na 2), .ref (na 3), .ref (na 4), .ref (na 5), .ref (na 6), .ref (na 7), .ref (na 8), .ref (na 9)]) := (congrFun ef28 q).trans (va_up_self _ _ _)
  refine lv_aload_n hx hb dX3_become_80 rfl (lv_at hl 1 rfl) ?_
  have h30 : f28 o = .inr (3, [.int u0, .int u1, .int u2, .int u3, .int u4, .int u5, .int u6, .int u7, .int u8, .int u9, .ref (oa 0), .ref (oa 1), .ref (oa 2), .ref (oa 3), .ref (oa 4), .ref (oa 5), .ref (oa 6), .ref (oa 7), .ref (oa 8), .ref (oa 9)]) := ((congrFun ef28 o).trans (va_up_ne _ _ (Ne.symm hqo))).trans h27
  refine g_get C hH mo h30 iX3 rfl 10 (by decide) wd100 rfl rfl dX3_become_81 ?_
  refine lv_iconst (v := (0 : Int32)) hx hb dX3_become_84 (by decide) ?_
  refine lv_aload_n hx hb dX3_become_85 rfl (lv_at hl 0 rfl) ?_
  refine g_get C hH mq h29 iX3 rfl 10 (by decide) wd100 rfl rfl dX3_become_86 ?_
  refine lv_iconst (v := (0 : Int32)) hx hb dX3_become_89 (by decide) ?_
  refine lv_iconst (v := (4 : Int32)) hx hb dX3_become_90 (by decide) ?_
  have h31 := gArrs_upO ef1 fq go
  have h32 := gArrs_upO ef4 h2 h31
  have h33 := gArrs_upO ef7 h5 h32
  have h34 := gArrs_upO ef10 h8 h33
  have h35 := gArrs_upO ef13 h11 h34
  have h36 := gArrs_upO ef16 h14 h35
  have h37 := gArrs_upO ef19 h17 h36
  have h38 := gArrs_upO ef22 h20 h37
  have h39 := gArrs_upO ef25 h23 h38
  have h40 := gArrs_upO ef28 h26 h39
  obtain ⟨m41, v42, h43⟩ := h40 0 (by decide)
  have h44 := gArrs_upO ef1 fq gq
  have h45 := gArrs_upO ef4 h2 h44
  have h46 := gArrs_upO ef7 h5 h45
  have h47 := gArrs_upO ef10 h8 h46
  have h48 := gArrs_upO ef13 h11 h47
  have h49 := gArrs_upO ef16 h14 h48
  have h50 := gArrs_upO ef19 h17 h49
  have h51 := gArrs_upO ef22 h20 h50
  have h52 := gArrs_upO ef25 h23 h51
  have h53 := gArrs_upO ef28 h26 h52
  obtain ⟨m54, v55, h56⟩ := h53 0 (by decide)
  refine g_copyi C hl.1.symm hH wd102 wd103 wd104 wd101 m41 h43 m54 h56 (by decide) (by decide) (by decide) (by decide) (by decide) (Nat.le_of_ble_eq_true rfl) (Nat.le_of_ble_eq_true rfl) dX3_become_91 (fun H locs hH => ?_)
  obtain ⟨f57, ef57⟩ : ∃ z : gF, z = va_up f28 (na 0) (.inl (E.2.2 1, (gLen 0), .inl (va_cpy v42 v55 ((0 : Int32)).toNatClampNeg ((0 : Int32)).toNatClampNeg ((4 : Int32)).toNatClampNeg))) := ⟨_, rfl⟩
  have hH : gH E A L f57 s.heap H locs := by rw [ef57]; exact hH
  have h58 : f57 (na 0) = .inl (E.2.2 1, (gLen 0), .inl (va_cpy v42 v55 ((0 : Int32)).toNatClampNeg ((0 : Int32)).toNatClampNeg ((4 : Int32)).toNatClampNeg)) := (congrFun ef57 (na 0)).trans (va_up_self _ _ _)
  refine lv_aload_n hx hb dX3_become_94 rfl (lv_at hl 1 rfl) ?_
  have h59 : f57 o = .inr (3, [.int u0, .int u1, .int u2, .int u3, .int u4, .int u5, .int u6, .int u7, .int u8, .int u9, .ref (oa 0), .ref (oa 1), .ref (oa 2), .ref (oa 3), .ref (oa 4), .ref (oa 5), .ref (oa 6), .ref (oa 7), .ref (oa 8), .ref (oa 9)]) := ((congrFun ef57 o).trans (va_up_ne _ _ (g_neOA h30 h56))).trans h30
  refine g_get C hH mo h59 iX3 rfl 11 (by decide) wd105 rfl rfl dX3_become_95 ?_
  refine lv_iconst (v := (0 : Int32)) hx hb dX3_become_98 (by decide) ?_
  refine lv_aload_n hx hb dX3_become_99 rfl (lv_at hl 0 rfl) ?_
  have h60 : f57 q = .inr (3, [.int u0, .int u1, .int u2, .int u3, .int u4, .int u5, .int u6, .int u7, .int u8, .int u9, .ref (na 0), .ref (na 1), .ref (na 2), .ref (na 3), .ref (na 4), .ref (na 5), .ref (na 6), .ref (na 7), .ref (na 8), .ref (na 9)]) := ((congrFun ef57 q).trans (va_up_ne _ _ (g_neOA h29 h56))).trans h29
  refine g_get C hH mq h60 iX3 rfl 11 (by decide) wd105 rfl rfl dX3_become_100 ?_
  refine lv_iconst (v := (0 : Int32)) hx hb dX3_become_103 (by decide) ?_
  refine lv_iconst (v := (4 : Int32)) hx hb dX3_become_104 (by decide) ?_
  have h61 := gArrs_upI ef57 h56 h40
  obtain ⟨m62, v63, h64⟩ := h61 1 (by decide)
  have h65 := gArrs_upI ef57 h56 h53
  obtain ⟨m66, v67, h68⟩ := h65 1 (by decide)
  refine g_copyi C hl.1.symm hH wd102 wd103 wd104 wd101 m62 h64 m66 h68 (by decide) (by decide) (by decide) (by decide) (by decide) (Nat.le_of_ble_eq_true rfl) (Nat.le_of_ble_eq_true rfl) dX3_become_105 (fun H locs hH => ?_)
  obtain ⟨f69, ef69⟩ : ∃ z : gF, z = va_up f57 (na 1) (.inl (E.2.2 1, (gLen 1), .inl (va_cpy v63 v67 ((0 : Int32)).toNatClampNeg ((0 : Int32)).toNatClampNeg ((4 : Int32)).toNatClampNeg))) := ⟨_, rfl⟩
  have hH : gH E A L f69 s.heap H locs := by rw [ef69]; exact hH
  have h70 : f69 (na 1) = .inl (E.2.2 1, (gLen 1), .inl (va_cpy v63 v67 ((0 : Int32)).toNatClampNeg ((0 : Int32)).toNatClampNeg ((4 : Int32)).toNatClampNeg)) := (congrFun ef69 (na 1)).trans (va_up_self _ _ _)
  refine lv_aload_n hx hb dX3_become_108 rfl (lv_at hl 1 rfl) ?_
  have h71 : f69 o = .inr (3, [.int u0, .int u1, .int u2, .int u3, .int u4, .int u5, .int u6, .int u7, .int u8, .int u9, .ref (oa 0), .ref (oa 1), .ref (oa 2), .ref (oa 3), .ref (oa 4), .ref (oa 5), .ref (oa 6), .ref (oa 7), .ref (oa 8), .ref (oa 9)]) := ((congrFun ef69 o).trans (va_up_ne _ _ (g_neOA h59 h68))).trans h59
  refine g_get C hH mo h71 iX3 rfl 12 (by decide) wd106 rfl rfl dX3_become_109 ?_
  refine lv_iconst (v := (0 : Int32)) hx hb dX3_become_112 (by decide) ?_
  refine lv_aload_n hx hb dX3_become_113 rfl (lv_at hl 0 rfl) ?_
  have h72 : f69 q = .inr (3, [.int u0, .int u1, .int u2, .int u3, .int u4, .int u5, .int u6, .int u7, .int u8, .int u9, .ref (na 0), .ref (na 1), .ref (na 2), .ref (na 3), .ref (na 4), .ref (na 5), .ref (na 6), .ref (na 7), .ref (na 8), .ref (na 9)]) := ((congrFun ef69 q).trans (va_up_ne _ _ (g_neOA h60 h68))).trans h60
  refine g_get C hH mq h72 iX3 rfl 12 (by decide) wd106 rfl rfl dX3_become_114 ?_
  refine lv_iconst (v := (0 : Int32)) hx hb dX3_become_117 (by decide) ?_
  refine lv_iconst (v := (4 : Int32)) hx hb dX3_become_118 (by decide) ?_
  have h73 := gArrs_upI ef69 h68 h61
  obtain ⟨m74, v75, h76⟩ := h73 2 (by decide)
  have h77 := gArrs_upI ef69 h68 h65
  obtain ⟨m78, v79, h80⟩ := h77 2 (by decide)
  refine g_copyi C hl.1.symm hH wd102 wd103 wd104 wd101 m74 h76 m78 h80 (by decide) (by decide) (by decide) (by decide) (by decide) (Nat.le_of_ble_eq_true rfl) (Nat.le_of_ble_eq_true rfl) dX3_become_119 (fun H locs hH => ?_)
  obtain ⟨f81, ef81⟩ : ∃ z : gF, z = va_up f69 (na 2) (.inl (E.2.2 1, (gLen 2), .inl (va_cpy v75 v79 ((0 : Int32)).toNatClampNeg ((0 : Int32)).toNatClampNeg ((4 : Int32)).toNatClampNeg))) := ⟨_, rfl⟩
  have hH : gH E A L f81 s.heap H locs := by rw [ef81]; exact hH
  have h82 : f81 (na 2) = .inl (E.2.2 1, (gLen 2), .inl (va_cpy v75 v79 ((0 : Int32)).toNatClampNeg ((0 : Int32)).toNatClampNeg ((4 : Int32)).toNatClampNeg)) := (congrFun ef81 (na 2)).trans (va_up_self _ _ _)
  refine lv_aload_n hx hb dX3_become_122 rfl (lv_at hl 1 rfl) ?_
  have h83 : f81 o = .inr (3, [.int u0, .int u1, .int u2, .int u3, .int u4, .int u5, .int u6, .int u7, .int u8, .int u9, .ref (oa 0), .ref (oa 1), .ref (oa 2), .ref (oa 3), .ref (oa 4), .ref (oa 5), .ref (oa 6), .ref (oa 7), .ref (oa 8), .ref (oa 9)]) := ((congrFun ef81 o).trans (va_up_ne _ _ (g_neOA h71 h80))).trans h71
  refine g_get C hH mo h83 iX3 rfl 13 (by decide) wd107 rfl rfl dX3_become_123 ?_
  refine lv_iconst (v := (0 : Int32)) hx hb dX3_become_126 (by decide) ?_
  refine lv_aload_n hx hb dX3_become_127 rfl (lv_at hl 0 rfl) ?_
  have h84 : f81 q = .inr (3, [.int u0, .int u1, .int u2, .int u3, .int u4, .int u5, .int u6, .int u7, .int u8, .int u9, .ref (na 0), .ref (na 1), .ref (na 2), .ref (na 3), .ref (na 4), .ref (na 5), .ref (na 6), .ref (na 7), .ref (na 8), .ref (na 9)]) := ((congrFun ef81 q).trans (va_up_ne _ _ (g_neOA h72 h80))).trans h72
  refine g_get C hH mq h84 iX3 rfl 13 (by decide) wd107 rfl rfl dX3_become_128 ?_
  refine lv_iconst (v := (0 : Int32)) hx hb dX3_become_131 (by decide) ?_
  refine lv_bipush (v := (6 : Int32)) hx hb dX3_become_132 (by decide) ?_
  have h85 := gArrs_upI ef81 h80 h73
  obtain ⟨m86, v87, h88⟩ := h85 3 (by decide)
  have h89 := gArrs_upI ef81 h80 h77
  obtain ⟨m90, v91, h92⟩ := h89 3 (by decide)
  refine g_copyi C hl.1.symm hH wd102 wd103 wd104 wd101 m86 h88 m90 h92 (by decide) (by decide) (by decide) (by decide) (by decide) (Nat.le_of_ble_eq_true rfl) (Nat.le_of_ble_eq_true rfl) dX3_become_134 (fun H locs hH => ?_)
  obtain ⟨f93, ef93⟩ : ∃ z : gF, z = va_up f81 (na 3) (.inl (E.2.2 1, (gLen 3), .inl (va_cpy v87 v91 ((0 : Int32)).toNatClampNeg ((0 : Int32)).toNatClampNeg ((6 : Int32)).toNatClampNeg))) := ⟨_, rfl⟩
  have hH : gH E A L f93 s.heap H locs := by rw [ef93]; exact hH
  have h94 : f93 (na 3) = .inl (E.2.2 1, (gLen 3), .inl (va_cpy v87 v91 ((0 : Int32)).toNatClampNeg ((0 : Int32)).toNatClampNeg ((6 : Int32)).toNatClampNeg)) := (congrFun ef93 (na 3)).trans (va_up_self _ _ _)
  refine lv_aload_n hx hb dX3_become_137 rfl (lv_at hl 1 rfl) ?_
  have h95 : f93 o = .inr (3, [.int u0, .int u1, .int u2, .int u3, .int u4, .int u5, .int u6, .int u7, .int u8, .int u9, .ref (oa 0), .ref (oa 1), .ref (oa 2), .ref (oa 3), .ref (oa 4), .ref (oa 5), .ref (oa 6), .ref (oa 7), .ref (oa 8), .ref (oa 9)]) := ((congrFun ef93 o).trans (va_up_ne _ _ (g_neOA h83 h92))).trans h83
  refine g_get C hH mo h95 iX3 rfl 14 (by decide) wd108 rfl rfl dX3_become_138 ?_
  refine lv_iconst (v := (0 : Int32)) hx hb dX3_become_141 (by decide) ?_
  refine lv_aload_n hx hb dX3_become_142 rfl (lv_at hl 0 rfl) ?_
  have h96 : f93 q = .inr (3, [.int u0, .int u1, .int u2, .int u3, .int u4, .int u5, .int u6, .int u7, .int u8, .int u9, .ref (na 0), .ref (na 1), .ref (na 2), .ref (na 3), .ref (na 4), .ref (na 5), .ref (na 6), .ref (na 7), .ref (na 8), .ref (na 9)]) := ((congrFun ef93 q).trans (va_up_ne _ _ (g_neOA h84 h92))).trans h84
  refine g_get C hH mq h96 iX3 rfl 14 (by decide) wd108 rfl rfl dX3_become_143 ?_
  refine lv_iconst (v := (0 : Int32)) hx hb dX3_become_146 (by decide) ?_
  refine lv_bipush (v := (6 : Int32)) hx hb dX3_become_147 (by decide) ?_
  have h97 := gArrs_upI ef93 h92 h85
  obtain ⟨m98, v99, h100⟩ := h97 4 (by decide)
  have h101 := gArrs_upI ef93 h92 h89
  obtain ⟨m102, v103, h104⟩ := h101 4 (by decide)
  refine g_copyi C hl.1.symm hH wd102 wd103 wd104 wd101 m98 h100 m102 h104 (by decide) (by decide) (by decide) (by decide) (by decide) (Nat.le_of_ble_eq_true rfl) (Nat.le_of_ble_eq_true rfl) dX3_become_149 (fun H locs hH => ?_)
  obtain ⟨f105, ef105⟩ : ∃ z : gF, z = va_up f93 (na 4) (.inl (E.2.2 1, (gLen 4), .inl (va_cpy v99 v103 ((0 : Int32)).toNatClampNeg ((0 : Int32)).toNatClampNeg ((6 : Int32)).toNatClampNeg))) := ⟨_, rfl⟩
  have hH : gH E A L f105 s.heap H locs := by rw [ef105]; exact hH
  have h106 : f105 (na 4) = .inl (E.2.2 1, (gLen 4), .inl (va_cpy v99 v103 ((0 : Int32)).toNatClampNeg ((0 : Int32)).toNatClampNeg ((6 : Int32)).toNatClampNeg)) := (congrFun ef105 (na 4)).trans (va_up_self _ _ _)
  refine lv_aload_n hx hb dX3_become_152 rfl (lv_at hl 1 rfl) ?_
  have h107 : f105 o = .inr (3, [.int u0, .int u1, .int u2, .int u3, .int u4, .int u5, .int u6, .int u7, .int u8, .int u9, .ref (oa 0), .ref (oa 1), .ref (oa 2), .ref (oa 3), .ref (oa 4), .ref (oa 5), .ref (oa 6), .ref (oa 7), .ref (oa 8), .ref (oa 9)]) := ((congrFun ef105 o).trans (va_up_ne _ _ (g_neOA h95 h104))).trans h95
  refine g_get C hH mo h107 iX3 rfl 15 (by decide) wd109 rfl rfl dX3_become_153 ?_
  refine lv_iconst (v := (0 : Int32)) hx hb dX3_become_156 (by decide) ?_
  refine lv_aload_n hx hb dX3_become_157 rfl (lv_at hl 0 rfl) ?_
  have h108 : f105 q = .inr (3, [.int u0, .int u1, .int u2, .int u3, .int u4, .int u5, .int u6, .int u7, .int u8, .int u9, .ref (na 0), .ref (na 1), .ref (na 2), .ref (na 3), .ref (na 4), .ref (na 5), .ref (na 6), .ref (na 7), .ref (na 8), .ref (na 9)]) := ((congrFun ef105 q).trans (va_up_ne _ _ (g_neOA h96 h104))).trans h96
  refine g_get C hH mq h108 iX3 rfl 15 (by decide) wd109 rfl rfl dX3_become_158 ?_
  refine lv_iconst (v := (0 : Int32)) hx hb dX3_become_161 (by decide) ?_
  refine lv_bipush (v := (6 : Int32)) hx hb dX3_become_162 (by decide) ?_
  have h109 := gArrs_upI ef105 h104 h97
  obtain ⟨m110, v111, h112⟩ := h109 5 (by decide)
  have h113 := gArrs_upI ef105 h104 h101
  obtain ⟨m114, v115, h116⟩ := h113 5 (by decide)
  refine g_copyi C hl.1.symm hH wd102 wd103 wd104 wd101 m110 h112 m114 h116 (by decide) (by decide) (by decide) (by decide) (by decide) (Nat.le_of_ble_eq_true rfl) (Nat.le_of_ble_eq_true rfl) dX3_become_164 (fun H locs hH => ?_)
  obtain ⟨f117, ef117⟩ : ∃ z : gF, z = va_up f105 (na 5) (.inl (E.2.2 1, (gLen 5), .inl (va_cpy v111 v115 ((0 : Int32)).toNatClampNeg ((0 : Int32)).toNatClampNeg ((6 : Int32)).toNatClampNeg))) := ⟨_, rfl⟩
  have hH : gH E A L f117 s.heap H locs := by rw [ef117]; exact hH
  have h118 : f117 (na 5) = .inl (E.2.2 1, (gLen 5), .inl (va_cpy v111 v115 ((0 : Int32)).toNatClampNeg ((0 : Int32)).toNatClampNeg ((6 : Int32)).toNatClampNeg)) := (congrFun ef117 (na 5)).trans (va_up_self _ _ _)
  refine lv_aload_n hx hb dX3_become_167 rfl (lv_at hl 1 rfl) ?_
  have h119 : f117 o = .inr (3, [.int u0, .int u1, .int u2, .int u3, .int u4, .int u5, .int u6, .int u7, .int u8, .int u9, .ref (oa 0), .ref (oa 1), .ref (oa 2), .ref (oa 3), .ref (oa 4), .ref (oa 5), .ref (oa 6), .ref (oa 7), .ref (oa 8), .ref (oa 9)]) := ((congrFun ef117 o).trans (va_up_ne _ _ (g_neOA h107 h116))).trans h107
  refine g_get C hH mo h119 iX3 rfl 16 (by decide) wd110 rfl rfl dX3_become_168 ?_
  refine lv_iconst (v := (0 : Int32)) hx hb dX3_become_171 (by decide) ?_
  refine lv_aload_n hx hb dX3_become_172 rfl (lv_at hl 0 rfl) ?_
  have h120 : f117 q = .inr (3, [.int u0, .int u1, .int u2, .int u3, .int u4, .int u5, .int u6, .int u7, .int u8, .int u9, .ref (na 0), .ref (na 1), .ref (na 2), .ref (na 3), .ref (na 4), .ref (na 5), .ref (na 6), .ref (na 7), .ref (na 8), .ref (na 9)]) := ((congrFun ef117 q).trans (va_up_ne _ _ (g_neOA h108 h116))).trans h108
  refine g_get C hH mq h120 iX3 rfl 16 (by decide) wd110 rfl rfl dX3_become_173 ?_
  refine lv_iconst (v := (0 : Int32)) hx hb dX3_become_176 (by decide) ?_
  refine lv_bipush (v := (40 : Int32)) hx hb dX3_become_177 (by decide) ?_
  have h121 := gArrs_upI ef117 h116 h109
  obtain ⟨m122, v123, h124⟩ := h121 6 (by decide)
  have h125 := gArrs_upI ef117 h116 h113
  obtain ⟨m126, v127, h128⟩ := h125 6 (by decide)
  refine g_copyi C hl.1.symm hH wd102 wd103 wd104 wd101 m122 h124 m126 h128 (by decide) (by decide) (by decide) (by decide) (by decide) (Nat.le_of_ble_eq_true rfl) (Nat.le_of_ble_eq_true rfl) dX3_become_179 (fun H locs hH => ?_)
  obtain ⟨f129, ef129⟩ : ∃ z : gF, z = va_up f117 (na 6) (.inl (E.2.2 1, (gLen 6), .inl (va_cpy v123 v127 ((0 : Int32)).toNatClampNeg ((0 : Int32)).toNatClampNeg ((40 : Int32)).toNatClampNeg))) := ⟨_, rfl⟩
  have hH : gH E A L f129 s.heap H locs := by rw [ef129]; exact hH
  have h130 : f129 (na 6) = .inl (E.2.2 1, (gLen 6), .inl (va_cpy v123 v127 ((0 : Int32)).toNatClampNeg ((0 : Int32)).toNatClampNeg ((40 : Int32)).toNatClampNeg)) := (congrFun ef129 (na 6)).trans (va_up_self _ _ _)
  refine lv_aload_n hx hb dX3_become_182 rfl (lv_at hl 1 rfl) ?_
  have h131 : f129 o = .inr (3, [.int u0, .int u1, .int u2, .int u3, .int u4, .int u5, .int u6, .int u7, .int u8, .int u9, .ref (oa 0), .ref (oa 1), .ref (oa 2), .ref (oa 3), .ref (oa 4), .ref (oa 5), .ref (oa 6), .ref (oa 7), .ref (oa 8), .ref (oa 9)]) := ((congrFun ef129 o).trans (va_up_ne _ _ (g_neOA h119 h128))).trans h119
  refine g_get C hH mo h131 iX3 rfl 17 (by decide) wd111 rfl rfl dX3_become_183 ?_
  refine lv_iconst (v := (0 : Int32)) hx hb dX3_become_186 (by decide) ?_
  refine lv_aload_n hx hb dX3_become_187 rfl (lv_at hl 0 rfl) ?_
  have h132 : f129 q = .inr (3, [.int u0, .int u1, .int u2, .int u3, .int u4, .int u5, .int u6, .int u7, .int u8, .int u9, .ref (na 0), .ref (na 1), .ref (na 2), .ref (na 3), .ref (na 4), .ref (na 5), .ref (na 6), .ref (na 7), .ref (na 8), .ref (na 9)]) := ((congrFun ef129 q).trans (va_up_ne _ _ (g_neOA h120 h128))).trans h120
  refine g_get C hH mq h132 iX3 rfl 17 (by decide) wd111 rfl rfl dX3_become_188 ?_
  refine lv_iconst (v := (0 : Int32)) hx hb dX3_become_191 (by decide) ?_
  refine lv_bipush (v := (40 : Int32)) hx hb dX3_become_192 (by decide) ?_
  have h133 := gArrs_upI ef129 h128 h121
  obtain ⟨m134, v135, h136⟩ := h133 7 (by decide)
  have h137 := gArrs_upI ef129 h128 h125
  obtain ⟨m138, v139, h140⟩ := h137 7 (by decide)
  refine g_copyi C hl.1.symm hH wd102 wd103 wd104 wd101 m134 h136 m138 h140 (by decide) (by decide) (by decide) (by decide) (by decide) (Nat.le_of_ble_eq_true rfl) (Nat.le_of_ble_eq_true rfl) dX3_become_194 (fun H locs hH => ?_)
  obtain ⟨f141, ef141⟩ : ∃ z : gF, z = va_up f129 (na 7) (.inl (E.2.2 1, (gLen 7), .inl (va_cpy v135 v139 ((0 : Int32)).toNatClampNeg ((0 : Int32)).toNatClampNeg ((40 : Int32)).toNatClampNeg))) := ⟨_, rfl⟩
  have hH : gH E A L f141 s.heap H locs := by rw [ef141]; exact hH
  have h142 : f141 (na 7) = .inl (E.2.2 1, (gLen 7), .inl (va_cpy v135 v139 ((0 : Int32)).toNatClampNeg ((0 : Int32)).toNatClampNeg ((40 : Int32)).toNatClampNeg)) := (congrFun ef141 (na 7)).trans (va_up_self _ _ _)
  refine lv_aload_n hx hb dX3_become_197 rfl (lv_at hl 1 rfl) ?_
  have h143 : f141 o = .inr (3, [.int u0, .int u1, .int u2, .int u3, .int u4, .int u5, .int u6, .int u7, .int u8, .int u9, .ref (oa 0), .ref (oa 1), .ref (oa 2), .ref (oa 3), .ref (oa 4), .ref (oa 5), .ref (oa 6), .ref (oa 7), .ref (oa 8), .ref (oa 9)]) := ((congrFun ef141 o).trans (va_up_ne _ _ (g_neOA h131 h140))).trans h131
  refine g_get C hH mo h143 iX3 rfl 18 (by decide) wd112 rfl rfl dX3_become_198 ?_
  refine lv_iconst (v := (0 : Int32)) hx hb dX3_become_201 (by decide) ?_
  refine lv_aload_n hx hb dX3_become_202 rfl (lv_at hl 0 rfl) ?_
  have h144 : f141 q = .inr (3, [.int u0, .int u1, .int u2, .int u3, .int u4, .int u5, .int u6, .int u7, .int u8, .int u9, .ref (na 0), .ref (na 1), .ref (na 2), .ref (na 3), .ref (na 4), .ref (na 5), .ref (na 6), .ref (na 7), .ref (na 8), .ref (na 9)]) := ((congrFun ef141 q).trans (va_up_ne _ _ (g_neOA h132 h140))).trans h132
  refine g_get C hH mq h144 iX3 rfl 18 (by decide) wd112 rfl rfl dX3_become_203 ?_
  refine lv_iconst (v := (0 : Int32)) hx hb dX3_become_206 (by decide) ?_
  refine lv_bipush (v := (20 : Int32)) hx hb dX3_become_207 (by decide) ?_
  have h145 := gArrs_upI ef141 h140 h133
  obtain ⟨m146, v147, h148⟩ := h145 8 (by decide)
  have h149 := gArrs_upI ef141 h140 h137
  obtain ⟨m150, v151, h152⟩ := h149 8 (by decide)
  refine g_copyi C hl.1.symm hH wd102 wd103 wd104 wd101 m146 h148 m150 h152 (by decide) (by decide) (by decide) (by decide) (by decide) (Nat.le_of_ble_eq_true rfl) (Nat.le_of_ble_eq_true rfl) dX3_become_209 (fun H locs hH => ?_)
  obtain ⟨f153, ef153⟩ : ∃ z : gF, z = va_up f141 (na 8) (.inl (E.2.2 1, (gLen 8), .inl (va_cpy v147 v151 ((0 : Int32)).toNatClampNeg ((0 : Int32)).toNatClampNeg ((20 : Int32)).toNatClampNeg))) := ⟨_, rfl⟩
  have hH : gH E A L f153 s.heap H locs := by rw [ef153]; exact hH
  have h154 : f153 (na 8) = .inl (E.2.2 1, (gLen 8), .inl (va_cpy v147 v151 ((0 : Int32)).toNatClampNeg ((0 : Int32)).toNatClampNeg ((20 : Int32)).toNatClampNeg)) := (congrFun ef153 (na 8)).trans (va_up_self _ _ _)
  refine lv_aload_n hx hb dX3_become_212 rfl (lv_at hl 1 rfl) ?_
  have h155 : f153 o = .inr (3, [.int u0, .int u1, .int u2, .int u3, .int u4, .int u5, .int u6, .int u7, .int u8, .int u9, .ref (oa 0), .ref (oa 1), .ref (oa 2), .ref (oa 3), .ref (oa 4), .ref (oa 5), .ref (oa 6), .ref (oa 7), .ref (oa 8), .ref (oa 9)]) := ((congrFun ef153 o).trans (va_up_ne _ _ (g_neOA h143 h152))).trans h143
  refine g_get C hH mo h155 iX3 rfl 19 (by decide) wd113 rfl rfl dX3_become_213 ?_
  refine lv_iconst (v := (0 : Int32)) hx hb dX3_become_216 (by decide) ?_
  refine lv_aload_n hx hb dX3_become_217 rfl (lv_at hl 0 rfl) ?_
  have h156 : f153 q = .inr (3, [.int u0, .int u1, .int u2, .int u3, .int u4, .int u5, .int u6, .int u7, .int u8, .int u9, .ref (na 0), .ref (na 1), .ref (na 2), .ref (na 3), .ref (na 4), .ref (na 5), .ref (na 6), .ref (na 7), .ref (na 8), .ref (na 9)]) := ((congrFun ef153 q).trans (va_up_ne _ _ (g_neOA h144 h152))).trans h144
  refine g_get C hH mq h156 iX3 rfl 19 (by decide) wd113 rfl rfl dX3_become_218 ?_
  refine lv_iconst (v := (0 : Int32)) hx hb dX3_become_221 (by decide) ?_
  refine lv_bipush (v := (80 : Int32)) hx hb dX3_become_222 (by decide) ?_
  have h157 := gArrs_upI ef153 h152 h145
  obtain ⟨m158, v159, h160⟩ := h157 9 (by decide)
  have h161 := gArrs_upI ef153 h152 h149
  obtain ⟨m162, v163, h164⟩ := h161 9 (by decide)
  refine g_copyi C hl.1.symm hH wd102 wd103 wd104 wd101 m158 h160 m162 h164 (by decide) (by decide) (by decide) (by decide) (by decide) (Nat.le_of_ble_eq_true rfl) (Nat.le_of_ble_eq_true rfl) dX3_become_224 (fun H locs hH => ?_)
  obtain ⟨f165, ef165⟩ : ∃ z : gF, z = va_up f153 (na 9) (.inl (E.2.2 1, (gLen 9), .inl (va_cpy v159 v163 ((0 : Int32)).toNatClampNeg ((0 : Int32)).toNatClampNeg ((80 : Int32)).toNatClampNeg))) := ⟨_, rfl⟩
  have hH : gH E A L f165 s.heap H locs := by rw [ef165]; exact hH
  have h166 : f165 (na 9) = .inl (E.2.2 1, (gLen 9), .inl (va_cpy v159 v163 ((0 : Int32)).toNatClampNeg ((0 : Int32)).toNatClampNeg ((80 : Int32)).toNatClampNeg)) := (congrFun ef165 (na 9)).trans (va_up_self _ _ _)
  refine g_vret C hr hH (Nat.le_of_ble_eq_true rfl) (Nat.le_of_ble_eq_true rfl) dX3_become_227 ?_
  have h167 : f165 q = .inr (3, [.int u0, .int u1, .int u2, .int u3, .int u4, .int u5, .int u6, .int u7, .int u8, .int u9, .ref (na 0), .ref (na 1), .ref (na 2), .ref (na 3), .ref (na 4), .ref (na 5), .ref (na 6), .ref (na 7), .ref (na 8), .ref (na 9)]) := ((congrFun ef165 q).trans (va_up_ne _ _ (g_neOA h156 h164))).trans h156
  have h168 := gArrs_upI ef165 h164 h161
  exact ⟨rfl, h167, h168, fun b h1 h2 => by rw [ef165, va_up_ne _ _ (h2 9 (by decide)), ef153, va_up_ne _ _ (h2 8 (by decide)), ef141, va_up_ne _ _ (h2 7 (by decide)), ef129, va_up_ne _ _ (h2 6 (by decide)), ef117, va_up_ne _ _ (h2 5 (by decide)), ef105, va_up_ne _ _ (h2 4 (by decide)), ef93, va_up_ne _ _ (h2 3 (by decide)), ef81, va_up_ne _ _ (h2 2 (by decide)), ef69, va_up_ne _ _ (h2 1 (by decide)), ef57, va_up_ne _ _ (h2 0 (by decide)), ef28, va_up_ne _ _ h1, ef25, va_up_ne _ _ h1, ef22, va_up_ne _ _ h1, ef19, va_up_ne _ _ h1, ef16, va_up_ne _ _ h1, ef13, va_up_ne _ _ h1, ef10, va_up_ne _ _ h1, ef7, va_up_ne _ _ h1, ef4, va_up_ne _ _ h1, ef1, va_up_ne _ _ h1]⟩
set_option maxHeartbeats 4000000 in
set_option maxRecDepth 100000 in
theorem k_image (l : Launch) (E : gE) (L : List Nat) (f : gF) {x xt xn xr xi xw xs xl xc xh xf xm : Nat} (mx : x ∈ L) (fx : f x = .inr (9, [.ref xt, .ref xn, .ref xr, .ref xi, .ref xw, .ref xs, .ref xl, .ref xc, .ref xh, .ref xf, .ref xm])) {na : Nat → Nat} (mn : xn ∈ L) (fn : f xn = .inr (3, [.int (0 : Int32), .int (0 : Int32), .int (0 : Int32), .int (0 : Int32), .int (0 : Int32), .int (0 : Int32), .int (0 : Int32), .int (0 : Int32), .int (0 : Int32), .int (0 : Int32), .ref (na 0), .ref (na 1), .ref (na 2), .ref (na 3), .ref (na 4), .ref (na 5), .ref (na 6), .ref (na 7), .ref (na 8), .ref (na 9)])) {iv : Nat → Option Nat} (mi : xi ∈ L) (fi : f xi = .inl (E.2.2 4, 3, .inr (.inr (.inr (.inr iv))))) (im : gImgs E L f iv xn) (mm : xm ∈ L) (fm : f xm = .inl (E.2.2 3, 3, .inl (fun _ => 0))) (gn : gArrs E L f na) (p0 : Int32) : gMi l E yX9_image cX9_image 2 .int (gRm 2 0 0) [.ref x, .int p0] L f (fun r _ _ => r = gImage p0) := by
  refine gMi.intro (by decide) (Nat.le_of_ble_eq_true rfl) ?_
  intro p e s m below meth c A ls C hr hA hH hl
  have C : gC E cX9_image 2 RX9 p s m _ meth c := C
  have hl : lv_has ls 2 [(0, .ref x), (1, .int p0)] := hl
  have hx := C.1
  have hb := C.2.1
  refine lv_iload_n hx hb dX9_image_0 rfl (lv_at hl 1 rfl) ?_
  refine lv_if_lt (tgt := 9) hx hb dX9_image_1 (by decide) (fun c1 => ?_) (fun c1 => ?_)
  · skip
    refine lv_bipush (v := (-2 : Int32)) hx hb dX9_image_9 (by decide) ?_
    refine g_iret C hr hH (Nat.le_of_ble_eq_true rfl) (Nat.le_of_ble_eq_true rfl) dX9_image_11 ?_
    exact (by rw [gImage, if_pos c1])
  · skip
    refine lv_iload_n hx hb dX9_image_4 rfl (lv_at hl 1 rfl) ?_
    refine lv_iconst (v := (3 : Int32)) hx hb dX9_image_5 (by decide) ?_
    refine lv_icmp_lt (tgt := 12) hx hb dX9_image_6 (by decide) (fun c2 => ?_) (fun c2 => ?_)
    · skip
      refine lv_aload_n hx hb dX9_image_12 rfl (lv_at hl 0 rfl) ?_
      refine g_get C hH mx fx iX9 rfl 3 (by decide) wd114 rfl rfl dX9_image_13 ?_
      refine lv_iload_n hx hb dX9_image_16 rfl (lv_at hl 1 rfl) ?_
      obtain ⟨q3, nu4, h6, m7, h8, m9, h10⟩ := im (p0).toNatClampNeg (vp_lt (vp_inL (by simp only [fa_lt, fa_le, fa_eq, ti_0, ti_3] at c1 c2; omega)))
      refine g_aald C hH mi 4 rfl fi (vp_inL (by simp only [fa_lt, fa_le, fa_eq, ti_0, ti_3] at c1 c2; omega)) h6 dX9_image_17 ?_
      refine lv_aload_n hx hb dX9_image_18 rfl (lv_at hl 0 rfl) ?_
      refine g_get C hH mx fx iX9 rfl 1 (by decide) wd18 rfl rfl dX9_image_19 ?_
      refine g_Vv C hl.1 hA hH (As := [.ref xn]) (rest := []) (k_become l E L f m7 h8 mn fn m9 gn h10) my_X3_become wd118 m7 h8 rfl rfl rfl (Nat.le_of_ble_eq_true rfl) ⟨Nat.le_of_ble_eq_true rfl, Nat.le_of_ble_eq_true rfl⟩ ⟨Nat.le_of_ble_eq_true rfl, Nat.le_of_ble_eq_true rfl⟩ dX9_image_22 (fun L12 f11 H locs hp hH => ?_)
      obtain ⟨rfl, h13, h14, k15⟩ := hp
      refine lv_aload_n hx hb dX9_image_25 rfl (lv_at hl 0 rfl) ?_
      have h16 : f11 x = .inr (9, [.ref xt, .ref xn, .ref xr, .ref xi, .ref xw, .ref xs, .ref xl, .ref xc, .ref xh, .ref xf, .ref xm]) := (k15 x (g_neO fx h8 (by decide)) (gArrs_neO m9 fx)).trans fx
      refine g_get C hH mx h16 iX9 rfl 10 (by decide) wd119 rfl rfl dX9_image_26 ?_
      refine lv_iload_n hx hb dX9_image_29 rfl (lv_at hl 1 rfl) ?_
      refine lv_iconst (v := (1 : Int32)) hx hb dX9_image_30 (by decide) ?_
      have h17 : f11 xm = .inl (E.2.2 3, 3, .inl (fun _ => 0)) := (k15 xm (g_neAO fm h8) (gArrs_neA m9 fm (by decide))).trans fm
      refine g_zast C hH mm h17 (vp_inL (by simp only [fa_lt, fa_le, fa_eq, ti_0, ti_3] at c1 c2; omega)) dX9_image_31 (fun H locs hH => ?_)
      obtain ⟨f18, ef18⟩ : ∃ z : gF, z = va_up f11 xm (.inl (E.2.2 3, 3, .inl (upd (fun _ => 0) (p0).toNatClampNeg (vp_nar .boolean ((1 : Int32)))))) := ⟨_, rfl⟩
      have hH : gH E A L f18 s.heap H locs := by rw [ef18]; exact hH
      have h19 : f18 xm = .inl (E.2.2 3, 3, .inl (upd (fun _ => 0) (p0).toNatClampNeg (vp_nar .boolean ((1 : Int32))))) := (congrFun ef18 xm).trans (va_up_self _ _ _)
      refine lv_iconst (v := (0 : Int32)) hx hb dX9_image_32 (by decide) ?_
      refine g_iret C hr hH (Nat.le_of_ble_eq_true rfl) (Nat.le_of_ble_eq_true rfl) dX9_image_33 ?_
      exact (by rw [gImage, if_neg c1, if_pos c2])
    · skip
      refine lv_bipush (v := (-2 : Int32)) hx hb dX9_image_9 (by decide) ?_
      refine g_iret C hr hH (Nat.le_of_ble_eq_true rfl) (Nat.le_of_ble_eq_true rfl) dX9_image_11 ?_
      exact (by rw [gImage, if_neg c1, if_neg c2])
set_option maxHeartbeats 4000000 in
set_option maxRecDepth 100000 in
theorem k_back (l : Launch) (E : gE) (L : List Nat) (f : gF) {x xt xn xr xi xw xs xl xc xh xf xm : Nat} (mx : x ∈ L) (fx : f x = .inr (9, [.ref xt, .ref xn, .ref xr, .ref xi, .ref xw, .ref xs, .ref xl, .ref xc, .ref xh, .ref xf, .ref xm])) {na : Nat → Nat} (mn : xn ∈ L) (fn : f xn = .inr (3, [.int (0 : Int32), .int (0 : Int32), .int (0 : Int32), .int (0 : Int32), .int (0 : Int32), .int (0 : Int32), .int (0 : Int32), .int (0 : Int32), .int (0 : Int32), .int (0 : Int32), .ref (na 0), .ref (na 1), .ref (na 2), .ref (na 3), .ref (na 4), .ref (na 5), .ref (na 6), .ref (na 7), .ref (na 8), .ref (na 9)])) (mm : xm ∈ L) (fm : f xm = .inl (E.2.2 3, 3, .inl (fun _ => 0))) (p0 : Int32) : gMi l E yX9_back cX9_back 2 .int (gRm 2 0 0) [.ref x, .int p0] L f (fun r _ _ => r = gBack p0) := by
  refine gMi.intro (by decide) (Nat.le_of_ble_eq_true rfl) ?_
  intro p e s m below meth c A ls C hr hA hH hl
  have C : gC E cX9_back 2 RX9 p s m _ meth c := C
  have hl : lv_has ls 2 [(0, .ref x), (1, .int p0)] := hl
  have hx := C.1
  have hb := C.2.1
  refine lv_iload_n hx hb dX9_back_0 rfl (lv_at hl 1 rfl) ?_
  refine lv_if_lt (tgt := 9) hx hb dX9_back_1 (by decide) (fun c1 => ?_) (fun c1 => ?_)
  · skip
    refine lv_bipush (v := (-2 : Int32)) hx hb dX9_back_9 (by decide) ?_
    refine g_iret C hr hH (Nat.le_of_ble_eq_true rfl) (Nat.le_of_ble_eq_true rfl) dX9_back_11 ?_
    exact (by rw [gBack, if_pos c1])
  · skip
    refine lv_iload_n hx hb dX9_back_4 rfl (lv_at hl 1 rfl) ?_
    refine lv_iconst (v := (3 : Int32)) hx hb dX9_back_5 (by decide) ?_
    refine lv_icmp_lt (tgt := 12) hx hb dX9_back_6 (by decide) (fun c2 => ?_) (fun c2 => ?_)
    · skip
      refine lv_aload_n hx hb dX9_back_12 rfl (lv_at hl 0 rfl) ?_
      refine g_get C hH mx fx iX9 rfl 10 (by decide) wd119 rfl rfl dX9_back_13 ?_
      refine lv_iload_n hx hb dX9_back_16 rfl (lv_at hl 1 rfl) ?_
      refine g_zald C hH mm fm (vp_inL (by simp only [fa_lt, fa_le, fa_eq, ti_0, ti_3] at c1 c2; omega)) dX9_back_17 ?_
      refine lv_if_ne (tgt := 24) hx hb dX9_back_18 (by decide) (fun h => absurd (by decide) h) (fun _ => ?_)
      refine lv_bipush (v := (-6 : Int32)) hx hb dX9_back_21 (by decide) ?_
      refine g_iret C hr hH (Nat.le_of_ble_eq_true rfl) (Nat.le_of_ble_eq_true rfl) dX9_back_23 ?_
      exact (by rw [gBack, if_neg c1, if_pos c2])
    · skip
      refine lv_bipush (v := (-2 : Int32)) hx hb dX9_back_9 (by decide) ?_
      refine g_iret C hr hH (Nat.le_of_ble_eq_true rfl) (Nat.le_of_ble_eq_true rfl) dX9_back_11 ?_
      exact (by rw [gBack, if_neg c1, if_neg c2])
set_option maxHeartbeats 4000000 in
set_option maxRecDepth 100000 in
theorem k_clear (l : Launch) (E : gE) (L : List Nat) (f : gF) {q : Nat} {na : Nat → Nat} (mq : q ∈ L) (fq : f q = .inr (3, [.int (0 : Int32), .int (0 : Int32), .int (0 : Int32), .int (0 : Int32), .int (0 : Int32), .int (0 : Int32), .int (0 : Int32), .int (0 : Int32), .int (0 : Int32), .int (0 : Int32), .ref (na 0), .ref (na 1), .ref (na 2), .ref (na 3), .ref (na 4), .ref (na 5), .ref (na 6), .ref (na 7), .ref (na 8), .ref (na 9)])) : gMv l E yX3_clear cX3_clear 1 (gRm 1 0 0) [.ref q] L f (fun L1 f1 => L = L1 ∧ f1 q = .inr (3, [.int (0 : Int32), .int (0 : Int32), .int (0 : Int32), .int (0 : Int32), .int (0 : Int32), .int (0 : Int32), .int (0 : Int32), .int (0 : Int32), .int (0 : Int32), .int (0 : Int32), .ref (na 0), .ref (na 1), .ref (na 2), .ref (na 3), .ref (na 4), .ref (na 5), .ref (na 6), .ref (na 7), .ref (na 8), .ref (na 9)]) ∧ ∀ b, b ≠ q → f1 b = f b) := by
  refine gMv.intro (by decide) (Nat.le_of_ble_eq_true rfl) ?_
  intro p e s m below meth c A ls C hr hnm hA hH hl
  have C : gC E cX3_clear 1 RX3 p s m _ meth c := C
  have hl : lv_has ls 1 [(0, .ref q)] := hl
  have hx := C.1
  have hb := C.2.1
  refine lv_aload_n hx hb dX3_clear_0 rfl (lv_at hl 0 rfl) ?_
  refine lv_iconst (v := (0 : Int32)) hx hb dX3_clear_1 (by decide) ?_
  refine g_put C hH mq fq iX3 tyX3 tyX3_ok nmX3 rfl 0 (by decide) wd0 rfl rfl rfl rfl (Nat.le_of_ble_eq_true rfl) (fs' := [.int (0 : Int32), .int (0 : Int32), .int (0 : Int32), .int (0 : Int32), .int (0 : Int32), .int (0 : Int32), .int (0 : Int32), .int (0 : Int32), .int (0 : Int32), .int (0 : Int32), .ref (na 0), .ref (na 1), .ref (na 2), .ref (na 3), .ref (na 4), .ref (na 5), .ref (na 6), .ref (na 7), .ref (na 8), .ref (na 9)]) rfl dX3_clear_2 (fun H locs hH => ?_)
  obtain ⟨f1, ef1⟩ : ∃ z : gF, z = va_up f q (.inr (3, [.int (0 : Int32), .int (0 : Int32), .int (0 : Int32), .int (0 : Int32), .int (0 : Int32), .int (0 : Int32), .int (0 : Int32), .int (0 : Int32), .int (0 : Int32), .int (0 : Int32), .ref (na 0), .ref (na 1), .ref (na 2), .ref (na 3), .ref (na 4), .ref (na 5), .ref (na 6), .ref (na 7), .ref (na 8), .ref (na 9)])) := ⟨_, rfl⟩
  have hH : gH E A L f1 s.heap H locs := by rw [ef1]; exact hH
  have h2 : f1 q = .inr (3, [.int (0 : Int32), .int (0 : Int32), .int (0 : Int32), .int (0 : Int32), .int (0 : Int32), .int (0 : Int32), .int (0 : Int32), .int (0 : Int32), .int (0 : Int32), .int (0 : Int32), .ref (na 0), .ref (na 1), .ref (na 2), .ref (na 3), .ref (na 4), .ref (na 5), .ref (na 6), .ref (na 7), .ref (na 8), .ref (na 9)]) := (congrFun ef1 q).trans (va_up_self _ _ _)
  refine lv_aload_n hx hb dX3_clear_5 rfl (lv_at hl 0 rfl) ?_
  refine lv_iconst (v := (0 : Int32)) hx hb dX3_clear_6 (by decide) ?_
  refine g_put C hH mq h2 iX3 tyX3 tyX3_ok nmX3 rfl 1 (by decide) wd1 rfl rfl rfl rfl (Nat.le_of_ble_eq_true rfl) (fs' := [.int (0 : Int32), .int (0 : Int32), .int (0 : Int32), .int (0 : Int32), .int (0 : Int32), .int (0 : Int32), .int (0 : Int32), .int (0 : Int32), .int (0 : Int32), .int (0 : Int32), .ref (na 0), .ref (na 1), .ref (na 2), .ref (na 3), .ref (na 4), .ref (na 5), .ref (na 6), .ref (na 7), .ref (na 8), .ref (na 9)]) rfl dX3_clear_7 (fun H locs hH => ?_)
  obtain ⟨f3, ef3⟩ : ∃ z : gF, z = va_up f1 q (.inr (3, [.int (0 : Int32), .int (0 : Int32), .int (0 : Int32), .int (0 : Int32), .int (0 : Int32), .int (0 : Int32), .int (0 : Int32), .int (0 : Int32), .int (0 : Int32), .int (0 : Int32), .ref (na 0), .ref (na 1), .ref (na 2), .ref (na 3), .ref (na 4), .ref (na 5), .ref (na 6), .ref (na 7), .ref (na 8), .ref (na 9)])) := ⟨_, rfl⟩
  have hH : gH E A L f3 s.heap H locs := by rw [ef3]; exact hH
  have h4 : f3 q = .inr (3, [.int (0 : Int32), .int (0 : Int32), .int (0 : Int32), .int (0 : Int32), .int (0 : Int32), .int (0 : Int32), .int (0 : Int32), .int (0 : Int32), .int (0 : Int32), .int (0 : Int32), .ref (na 0), .ref (na 1), .ref (na 2), .ref (na 3), .ref (na 4), .ref (na 5), .ref (na 6), .ref (na 7), .ref (na 8), .ref (na 9)]) := (congrFun ef3 q).trans (va_up_self _ _ _)
  refine lv_aload_n hx hb dX3_clear_10 rfl (lv_at hl 0 rfl) ?_
  refine lv_iconst (v := (0 : Int32)) hx hb dX3_clear_11 (by decide) ?_
  refine g_put C hH mq h4 iX3 tyX3 tyX3_ok nmX3 rfl 2 (by decide) wd2 rfl rfl rfl rfl (Nat.le_of_ble_eq_true rfl) (fs' := [.int (0 : Int32), .int (0 : Int32), .int (0 : Int32), .int (0 : Int32), .int (0 : Int32), .int (0 : Int32), .int (0 : Int32), .int (0 : Int32), .int (0 : Int32), .int (0 : Int32), .ref (na 0), .ref (na 1), .ref (na 2), .ref (na 3), .ref (na 4), .ref (na 5), .ref (na 6), .ref (na 7), .ref (na 8), .ref (na 9)]) rfl dX3_clear_12 (fun H locs hH => ?_)
  obtain ⟨f5, ef5⟩ : ∃ z : gF, z = va_up f3 q (.inr (3, [.int (0 : Int32), .int (0 : Int32), .int (0 : Int32), .int (0 : Int32), .int (0 : Int32), .int (0 : Int32), .int (0 : Int32), .int (0 : Int32), .int (0 : Int32), .int (0 : Int32), .ref (na 0), .ref (na 1), .ref (na 2), .ref (na 3), .ref (na 4), .ref (na 5), .ref (na 6), .ref (na 7), .ref (na 8), .ref (na 9)])) := ⟨_, rfl⟩
  have hH : gH E A L f5 s.heap H locs := by rw [ef5]; exact hH
  have h6 : f5 q = .inr (3, [.int (0 : Int32), .int (0 : Int32), .int (0 : Int32), .int (0 : Int32), .int (0 : Int32), .int (0 : Int32), .int (0 : Int32), .int (0 : Int32), .int (0 : Int32), .int (0 : Int32), .ref (na 0), .ref (na 1), .ref (na 2), .ref (na 3), .ref (na 4), .ref (na 5), .ref (na 6), .ref (na 7), .ref (na 8), .ref (na 9)]) := (congrFun ef5 q).trans (va_up_self _ _ _)
  refine lv_aload_n hx hb dX3_clear_15 rfl (lv_at hl 0 rfl) ?_
  refine lv_iconst (v := (0 : Int32)) hx hb dX3_clear_16 (by decide) ?_
  refine g_put C hH mq h6 iX3 tyX3 tyX3_ok nmX3 rfl 3 (by decide) wd95 rfl rfl rfl rfl (Nat.le_of_ble_eq_true rfl) (fs' := [.int (0 : Int32), .int (0 : Int32), .int (0 : Int32), .int (0 : Int32), .int (0 : Int32), .int (0 : Int32), .int (0 : Int32), .int (0 : Int32), .int (0 : Int32), .int (0 : Int32), .ref (na 0), .ref (na 1), .ref (na 2), .ref (na 3), .ref (na 4), .ref (na 5), .ref (na 6), .ref (na 7), .ref (na 8), .ref (na 9)]) rfl dX3_clear_17 (fun H locs hH => ?_)
  obtain ⟨f7, ef7⟩ : ∃ z : gF, z = va_up f5 q (.inr (3, [.int (0 : Int32), .int (0 : Int32), .int (0 : Int32), .int (0 : Int32), .int (0 : Int32), .int (0 : Int32), .int (0 : Int32), .int (0 : Int32), .int (0 : Int32), .int (0 : Int32), .ref (na 0), .ref (na 1), .ref (na 2), .ref (na 3), .ref (na 4), .ref (na 5), .ref (na 6), .ref (na 7), .ref (na 8), .ref (na 9)])) := ⟨_, rfl⟩
  have hH : gH E A L f7 s.heap H locs := by rw [ef7]; exact hH
  have h8 : f7 q = .inr (3, [.int (0 : Int32), .int (0 : Int32), .int (0 : Int32), .int (0 : Int32), .int (0 : Int32), .int (0 : Int32), .int (0 : Int32), .int (0 : Int32), .int (0 : Int32), .int (0 : Int32), .ref (na 0), .ref (na 1), .ref (na 2), .ref (na 3), .ref (na 4), .ref (na 5), .ref (na 6), .ref (na 7), .ref (na 8), .ref (na 9)]) := (congrFun ef7 q).trans (va_up_self _ _ _)
  refine lv_aload_n hx hb dX3_clear_20 rfl (lv_at hl 0 rfl) ?_
  refine lv_iconst (v := (0 : Int32)) hx hb dX3_clear_21 (by decide) ?_
  refine g_put C hH mq h8 iX3 tyX3 tyX3_ok nmX3 rfl 4 (by decide) wd96 rfl rfl rfl rfl (Nat.le_of_ble_eq_true rfl) (fs' := [.int (0 : Int32), .int (0 : Int32), .int (0 : Int32), .int (0 : Int32), .int (0 : Int32), .int (0 : Int32), .int (0 : Int32), .int (0 : Int32), .int (0 : Int32), .int (0 : Int32), .ref (na 0), .ref (na 1), .ref (na 2), .ref (na 3), .ref (na 4), .ref (na 5), .ref (na 6), .ref (na 7), .ref (na 8), .ref (na 9)]) rfl dX3_clear_22 (fun H locs hH => ?_)
  obtain ⟨f9, ef9⟩ : ∃ z : gF, z = va_up f7 q (.inr (3, [.int (0 : Int32), .int (0 : Int32), .int (0 : Int32), .int (0 : Int32), .int (0 : Int32), .int (0 : Int32), .int (0 : Int32), .int (0 : Int32), .int (0 : Int32), .int (0 : Int32), .ref (na 0), .ref (na 1), .ref (na 2), .ref (na 3), .ref (na 4), .ref (na 5), .ref (na 6), .ref (na 7), .ref (na 8), .ref (na 9)])) := ⟨_, rfl⟩
  have hH : gH E A L f9 s.heap H locs := by rw [ef9]; exact hH
  have h10 : f9 q = .inr (3, [.int (0 : Int32), .int (0 : Int32), .int (0 : Int32), .int (0 : Int32), .int (0 : Int32), .int (0 : Int32), .int (0 : Int32), .int (0 : Int32), .int (0 : Int32), .int (0 : Int32), .ref (na 0), .ref (na 1), .ref (na 2), .ref (na 3), .ref (na 4), .ref (na 5), .ref (na 6), .ref (na 7), .ref (na 8), .ref (na 9)]) := (congrFun ef9 q).trans (va_up_self _ _ _)
  refine lv_aload_n hx hb dX3_clear_25 rfl (lv_at hl 0 rfl) ?_
  refine lv_iconst (v := (0 : Int32)) hx hb dX3_clear_26 (by decide) ?_
  refine g_put C hH mq h10 iX3 tyX3 tyX3_ok nmX3 rfl 5 (by decide) wd97 rfl rfl rfl rfl (Nat.le_of_ble_eq_true rfl) (fs' := [.int (0 : Int32), .int (0 : Int32), .int (0 : Int32), .int (0 : Int32), .int (0 : Int32), .int (0 : Int32), .int (0 : Int32), .int (0 : Int32), .int (0 : Int32), .int (0 : Int32), .ref (na 0), .ref (na 1), .ref (na 2), .ref (na 3), .ref (na 4), .ref (na 5), .ref (na 6), .ref (na 7), .ref (na 8), .ref (na 9)]) rfl dX3_clear_27 (fun H locs hH => ?_)
  obtain ⟨f11, ef11⟩ : ∃ z : gF, z = va_up f9 q (.inr (3, [.int (0 : Int32), .int (0 : Int32), .int (0 : Int32), .int (0 : Int32), .int (0 : Int32), .int (0 : Int32), .int (0 : Int32), .int (0 : Int32), .int (0 : Int32), .int (0 : Int32), .ref (na 0), .ref (na 1), .ref (na 2), .ref (na 3), .ref (na 4), .ref (na 5), .ref (na 6), .ref (na 7), .ref (na 8), .ref (na 9)])) := ⟨_, rfl⟩
  have hH : gH E A L f11 s.heap H locs := by rw [ef11]; exact hH
  have h12 : f11 q = .inr (3, [.int (0 : Int32), .int (0 : Int32), .int (0 : Int32), .int (0 : Int32), .int (0 : Int32), .int (0 : Int32), .int (0 : Int32), .int (0 : Int32), .int (0 : Int32), .int (0 : Int32), .ref (na 0), .ref (na 1), .ref (na 2), .ref (na 3), .ref (na 4), .ref (na 5), .ref (na 6), .ref (na 7), .ref (na 8), .ref (na 9)]) := (congrFun ef11 q).trans (va_up_self _ _ _)
  refine lv_aload_n hx hb dX3_clear_30 rfl (lv_at hl 0 rfl) ?_
  refine lv_iconst (v := (0 : Int32)) hx hb dX3_clear_31 (by decide) ?_
  refine g_put C hH mq h12 iX3 tyX3 tyX3_ok nmX3 rfl 6 (by decide) wd3 rfl rfl rfl rfl (Nat.le_of_ble_eq_true rfl) (fs' := [.int (0 : Int32), .int (0 : Int32), .int (0 : Int32), .int (0 : Int32), .int (0 : Int32), .int (0 : Int32), .int (0 : Int32), .int (0 : Int32), .int (0 : Int32), .int (0 : Int32), .ref (na 0), .ref (na 1), .ref (na 2), .ref (na 3), .ref (na 4), .ref (na 5), .ref (na 6), .ref (na 7), .ref (na 8), .ref (na 9)]) rfl dX3_clear_32 (fun H locs hH => ?_)
  obtain ⟨f13, ef13⟩ : ∃ z : gF, z = va_up f11 q (.inr (3, [.int (0 : Int32), .int (0 : Int32), .int (0 : Int32), .int (0 : Int32), .int (0 : Int32), .int (0 : Int32), .int (0 : Int32), .int (0 : Int32), .int (0 : Int32), .int (0 : Int32), .ref (na 0), .ref (na 1), .ref (na 2), .ref (na 3), .ref (na 4), .ref (na 5), .ref (na 6), .ref (na 7), .ref (na 8), .ref (na 9)])) := ⟨_, rfl⟩
  have hH : gH E A L f13 s.heap H locs := by rw [ef13]; exact hH
  have h14 : f13 q = .inr (3, [.int (0 : Int32), .int (0 : Int32), .int (0 : Int32), .int (0 : Int32), .int (0 : Int32), .int (0 : Int32), .int (0 : Int32), .int (0 : Int32), .int (0 : Int32), .int (0 : Int32), .ref (na 0), .ref (na 1), .ref (na 2), .ref (na 3), .ref (na 4), .ref (na 5), .ref (na 6), .ref (na 7), .ref (na 8), .ref (na 9)]) := (congrFun ef13 q).trans (va_up_self _ _ _)
  refine lv_aload_n hx hb dX3_clear_35 rfl (lv_at hl 0 rfl) ?_
  refine lv_iconst (v := (0 : Int32)) hx hb dX3_clear_36 (by decide) ?_
  refine g_put C hH mq h14 iX3 tyX3 tyX3_ok nmX3 rfl 7 (by decide) wd4 rfl rfl rfl rfl (Nat.le_of_ble_eq_true rfl) (fs' := [.int (0 : Int32), .int (0 : Int32), .int (0 : Int32), .int (0 : Int32), .int (0 : Int32), .int (0 : Int32), .int (0 : Int32), .int (0 : Int32), .int (0 : Int32), .int (0 : Int32), .ref (na 0), .ref (na 1), .ref (na 2), .ref (na 3), .ref (na 4), .ref (na 5), .ref (na 6), .ref (na 7), .ref (na 8), .ref (na 9)]) rfl dX3_clear_37 (fun H locs hH => ?_)
  obtain ⟨f15, ef15⟩ : ∃ z : gF, z = va_up f13 q (.inr (3, [.int (0 : Int32), .int (0 : Int32), .int (0 : Int32), .int (0 : Int32), .int (0 : Int32), .int (0 : Int32), .int (0 : Int32), .int (0 : Int32), .int (0 : Int32), .int (0 : Int32), .ref (na 0), .ref (na 1), .ref (na 2), .ref (na 3), .ref (na 4), .ref (na 5), .ref (na 6), .ref (na 7), .ref (na 8), .ref (na 9)])) := ⟨_, rfl⟩
  have hH : gH E A L f15 s.heap H locs := by rw [ef15]; exact hH
  have h16 : f15 q = .inr (3, [.int (0 : Int32), .int (0 : Int32), .int (0 : Int32), .int (0 : Int32), .int (0 : Int32), .int (0 : Int32), .int (0 : Int32), .int (0 : Int32), .int (0 : Int32), .int (0 : Int32), .ref (na 0), .ref (na 1), .ref (na 2), .ref (na 3), .ref (na 4), .ref (na 5), .ref (na 6), .ref (na 7), .ref (na 8), .ref (na 9)]) := (congrFun ef15 q).trans (va_up_self _ _ _)
  refine lv_aload_n hx hb dX3_clear_40 rfl (lv_at hl 0 rfl) ?_
  refine lv_iconst (v := (0 : Int32)) hx hb dX3_clear_41 (by decide) ?_
  refine g_put C hH mq h16 iX3 tyX3 tyX3_ok nmX3 rfl 8 (by decide) wd98 rfl rfl rfl rfl (Nat.le_of_ble_eq_true rfl) (fs' := [.int (0 : Int32), .int (0 : Int32), .int (0 : Int32), .int (0 : Int32), .int (0 : Int32), .int (0 : Int32), .int (0 : Int32), .int (0 : Int32), .int (0 : Int32), .int (0 : Int32), .ref (na 0), .ref (na 1), .ref (na 2), .ref (na 3), .ref (na 4), .ref (na 5), .ref (na 6), .ref (na 7), .ref (na 8), .ref (na 9)]) rfl dX3_clear_42 (fun H locs hH => ?_)
  obtain ⟨f17, ef17⟩ : ∃ z : gF, z = va_up f15 q (.inr (3, [.int (0 : Int32), .int (0 : Int32), .int (0 : Int32), .int (0 : Int32), .int (0 : Int32), .int (0 : Int32), .int (0 : Int32), .int (0 : Int32), .int (0 : Int32), .int (0 : Int32), .ref (na 0), .ref (na 1), .ref (na 2), .ref (na 3), .ref (na 4), .ref (na 5), .ref (na 6), .ref (na 7), .ref (na 8), .ref (na 9)])) := ⟨_, rfl⟩
  have hH : gH E A L f17 s.heap H locs := by rw [ef17]; exact hH
  have h18 : f17 q = .inr (3, [.int (0 : Int32), .int (0 : Int32), .int (0 : Int32), .int (0 : Int32), .int (0 : Int32), .int (0 : Int32), .int (0 : Int32), .int (0 : Int32), .int (0 : Int32), .int (0 : Int32), .ref (na 0), .ref (na 1), .ref (na 2), .ref (na 3), .ref (na 4), .ref (na 5), .ref (na 6), .ref (na 7), .ref (na 8), .ref (na 9)]) := (congrFun ef17 q).trans (va_up_self _ _ _)
  refine lv_aload_n hx hb dX3_clear_45 rfl (lv_at hl 0 rfl) ?_
  refine lv_iconst (v := (0 : Int32)) hx hb dX3_clear_46 (by decide) ?_
  refine g_put C hH mq h18 iX3 tyX3 tyX3_ok nmX3 rfl 9 (by decide) wd99 rfl rfl rfl rfl (Nat.le_of_ble_eq_true rfl) (fs' := [.int (0 : Int32), .int (0 : Int32), .int (0 : Int32), .int (0 : Int32), .int (0 : Int32), .int (0 : Int32), .int (0 : Int32), .int (0 : Int32), .int (0 : Int32), .int (0 : Int32), .ref (na 0), .ref (na 1), .ref (na 2), .ref (na 3), .ref (na 4), .ref (na 5), .ref (na 6), .ref (na 7), .ref (na 8), .ref (na 9)]) rfl dX3_clear_47 (fun H locs hH => ?_)
  obtain ⟨f19, ef19⟩ : ∃ z : gF, z = va_up f17 q (.inr (3, [.int (0 : Int32), .int (0 : Int32), .int (0 : Int32), .int (0 : Int32), .int (0 : Int32), .int (0 : Int32), .int (0 : Int32), .int (0 : Int32), .int (0 : Int32), .int (0 : Int32), .ref (na 0), .ref (na 1), .ref (na 2), .ref (na 3), .ref (na 4), .ref (na 5), .ref (na 6), .ref (na 7), .ref (na 8), .ref (na 9)])) := ⟨_, rfl⟩
  have hH : gH E A L f19 s.heap H locs := by rw [ef19]; exact hH
  have h20 : f19 q = .inr (3, [.int (0 : Int32), .int (0 : Int32), .int (0 : Int32), .int (0 : Int32), .int (0 : Int32), .int (0 : Int32), .int (0 : Int32), .int (0 : Int32), .int (0 : Int32), .int (0 : Int32), .ref (na 0), .ref (na 1), .ref (na 2), .ref (na 3), .ref (na 4), .ref (na 5), .ref (na 6), .ref (na 7), .ref (na 8), .ref (na 9)]) := (congrFun ef19 q).trans (va_up_self _ _ _)
  refine g_vret C hr hH (Nat.le_of_ble_eq_true rfl) (Nat.le_of_ble_eq_true rfl) dX3_clear_50 ?_
  exact ⟨rfl, h20, fun b h1 => by rw [ef19, va_up_ne _ _ h1, ef17, va_up_ne _ _ h1, ef15, va_up_ne _ _ h1, ef13, va_up_ne _ _ h1, ef11, va_up_ne _ _ h1, ef9, va_up_ne _ _ h1, ef7, va_up_ne _ _ h1, ef5, va_up_ne _ _ h1, ef3, va_up_ne _ _ h1, ef1, va_up_ne _ _ h1]⟩
set_option maxHeartbeats 4000000 in
set_option maxRecDepth 100000 in
theorem k_advance (l : Launch) (E : gE) (L : List Nat) (f : gF) {xr xt xd xb : Nat} (mr : xr ∈ L) (fr : f xr = .inr (5, [.ref xt, .ref xd, .int (0 : Int32), .int (0 : Int32), .int (0 : Int32), .int (0 : Int32), .int (-1 : Int32)])) (mt : xt ∈ L) (ft : f xt = .inr (8, [.ref xb, .int (0 : Int32)])) : gMv l E yX5_advance cX5_advance 1 (gRm 1 0 0) [.ref xr] L f (fun L1 f1 => L = L1 ∧ f1 xr = .inr (5, [.ref xt, .ref xd, .int (0 : Int32), .int (0 : Int32), .int (0 : Int32), .int (0 : Int32), .int (-1 : Int32)]) ∧ ∀ b, b ≠ xr → f1 b = f b) := by
  refine gMv.intro (by decide) (Nat.le_of_ble_eq_true rfl) ?_
  intro p e s m below meth c A ls C hr hnm hA hH hl
  have C : gC E cX5_advance 1 RX5 p s m _ meth c := C
  have hl : lv_has ls 1 [(0, .ref xr)] := hl
  have hx := C.1
  have hb := C.2.1
  refine lv_aload_n hx hb dX5_advance_0 rfl (lv_at hl 0 rfl) ?_
  refine lv_aload_n hx hb dX5_advance_1 rfl (lv_at hl 0 rfl) ?_
  refine g_get C hH mr fr iX5 rfl 4 (by decide) wd120 rfl rfl dX5_advance_2 ?_
  refine g_put C hH mr fr iX5 tyX5 tyX5_ok nmX5 rfl 3 (by decide) wd121 rfl rfl rfl rfl (Nat.le_of_ble_eq_true rfl) (fs' := [.ref xt, .ref xd, .int (0 : Int32), .int (0 : Int32), .int (0 : Int32), .int (0 : Int32), .int (-1 : Int32)]) rfl dX5_advance_5 (fun H locs hH => ?_)
  obtain ⟨f1, ef1⟩ : ∃ z : gF, z = va_up f xr (.inr (5, [.ref xt, .ref xd, .int (0 : Int32), .int (0 : Int32), .int (0 : Int32), .int (0 : Int32), .int (-1 : Int32)])) := ⟨_, rfl⟩
  have hH : gH E A L f1 s.heap H locs := by rw [ef1]; exact hH
  have h2 : f1 xr = .inr (5, [.ref xt, .ref xd, .int (0 : Int32), .int (0 : Int32), .int (0 : Int32), .int (0 : Int32), .int (-1 : Int32)]) := (congrFun ef1 xr).trans (va_up_self _ _ _)
  refine lv_aload_n hx hb dX5_advance_8 rfl (lv_at hl 0 rfl) ?_
  refine g_get C hH mr h2 iX5 rfl 3 (by decide) wd121 rfl rfl dX5_advance_9 ?_
  refine lv_aload_n hx hb dX5_advance_12 rfl (lv_at hl 0 rfl) ?_
  refine g_get C hH mr h2 iX5 rfl 0 (by decide) wd122 rfl rfl dX5_advance_13 ?_
  have h3 : f1 xt = .inr (8, [.ref xb, .int (0 : Int32)]) := ((congrFun ef1 xt).trans (va_up_ne _ _ (g_neO ft fr (by decide)))).trans ft
  refine g_get C hH mt h3 iX8 rfl 1 (by decide) wd123 rfl rfl dX5_advance_16 ?_
  refine lv_icmp_ge (tgt := 54) hx hb dX5_advance_19 (by decide) (fun _ => ?_) (fun h => absurd (by decide) h)
  refine lv_aload_n hx hb dX5_advance_54 rfl (lv_at hl 0 rfl) ?_
  refine lv_aload_n hx hb dX5_advance_55 rfl (lv_at hl 0 rfl) ?_
  refine g_get C hH mr h2 iX5 rfl 3 (by decide) wd121 rfl rfl dX5_advance_56 ?_
  refine g_put C hH mr h2 iX5 tyX5 tyX5_ok nmX5 rfl 4 (by decide) wd120 rfl rfl rfl rfl (Nat.le_of_ble_eq_true rfl) (fs' := [.ref xt, .ref xd, .int (0 : Int32), .int (0 : Int32), .int (0 : Int32), .int (0 : Int32), .int (-1 : Int32)]) rfl dX5_advance_59 (fun H locs hH => ?_)
  obtain ⟨f4, ef4⟩ : ∃ z : gF, z = va_up f1 xr (.inr (5, [.ref xt, .ref xd, .int (0 : Int32), .int (0 : Int32), .int (0 : Int32), .int (0 : Int32), .int (-1 : Int32)])) := ⟨_, rfl⟩
  have hH : gH E A L f4 s.heap H locs := by rw [ef4]; exact hH
  have h5 : f4 xr = .inr (5, [.ref xt, .ref xd, .int (0 : Int32), .int (0 : Int32), .int (0 : Int32), .int (0 : Int32), .int (-1 : Int32)]) := (congrFun ef4 xr).trans (va_up_self _ _ _)
  refine lv_aload_n hx hb dX5_advance_62 rfl (lv_at hl 0 rfl) ?_
  refine g_get C hH mr h5 iX5 rfl 3 (by decide) wd121 rfl rfl dX5_advance_63 ?_
  refine lv_aload_n hx hb dX5_advance_66 rfl (lv_at hl 0 rfl) ?_
  refine g_get C hH mr h5 iX5 rfl 0 (by decide) wd122 rfl rfl dX5_advance_67 ?_
  have h6 : f4 xt = .inr (8, [.ref xb, .int (0 : Int32)]) := ((congrFun ef4 xt).trans (va_up_ne _ _ (g_neO h3 h2 (by decide)))).trans h3
  refine g_get C hH mt h6 iX8 rfl 1 (by decide) wd123 rfl rfl dX5_advance_70 ?_
  refine lv_icmp_lt (tgt := 82) hx hb dX5_advance_73 (by decide) (fun h => absurd h (by decide)) (fun _ => ?_)
  refine lv_aload_n hx hb dX5_advance_76 rfl (lv_at hl 0 rfl) ?_
  refine lv_iconst (v := (0 : Int32)) hx hb dX5_advance_77 (by decide) ?_
  refine g_put C hH mr h5 iX5 tyX5 tyX5_ok nmX5 rfl 2 (by decide) wd124 rfl rfl rfl rfl (Nat.le_of_ble_eq_true rfl) (fs' := [.ref xt, .ref xd, .int (0 : Int32), .int (0 : Int32), .int (0 : Int32), .int (0 : Int32), .int (-1 : Int32)]) rfl dX5_advance_78 (fun H locs hH => ?_)
  obtain ⟨f7, ef7⟩ : ∃ z : gF, z = va_up f4 xr (.inr (5, [.ref xt, .ref xd, .int (0 : Int32), .int (0 : Int32), .int (0 : Int32), .int (0 : Int32), .int (-1 : Int32)])) := ⟨_, rfl⟩
  have hH : gH E A L f7 s.heap H locs := by rw [ef7]; exact hH
  have h8 : f7 xr = .inr (5, [.ref xt, .ref xd, .int (0 : Int32), .int (0 : Int32), .int (0 : Int32), .int (0 : Int32), .int (-1 : Int32)]) := (congrFun ef7 xr).trans (va_up_self _ _ _)
  refine g_vret C hr hH (Nat.le_of_ble_eq_true rfl) (Nat.le_of_ble_eq_true rfl) dX5_advance_81 ?_
  exact ⟨rfl, h8, fun b h1 => by rw [ef7, va_up_ne _ _ h1, ef4, va_up_ne _ _ h1, ef1, va_up_ne _ _ h1]⟩
set_option maxHeartbeats 4000000 in
set_option maxRecDepth 100000 in
theorem k_survey (l : Launch) (E : gE) (L : List Nat) (f : gF) {xn : Nat} {na : Nat → Nat} (mn : xn ∈ L) (fn : f xn = .inr (3, [.int (0 : Int32), .int (0 : Int32), .int (0 : Int32), .int (0 : Int32), .int (0 : Int32), .int (0 : Int32), .int (0 : Int32), .int (0 : Int32), .int (0 : Int32), .int (0 : Int32), .ref (na 0), .ref (na 1), .ref (na 2), .ref (na 3), .ref (na 4), .ref (na 5), .ref (na 6), .ref (na 7), .ref (na 8), .ref (na 9)])) : gMv l E yX3_survey cX3_survey 3 (gRm 2 0 0) [.ref xn] L f (fun L1 f1 => L = L1 ∧ f = f1) := by
  refine gMv.intro (by decide) (Nat.le_of_ble_eq_true rfl) ?_
  intro p e s m below meth c A ls C hr hnm hA hH hl
  have C : gC E cX3_survey 3 RX3 p s m _ meth c := C
  have hl : lv_has ls 3 [(0, .ref xn)] := hl
  have hx := C.1
  have hb := C.2.1
  refine lv_iconst (v := (0 : Int32)) hx hb dX3_survey_0 (by decide) ?_
  refine lv_istore_n (lv' := [(1, .int (0 : Int32)), (0, .ref xn)]) hx hb dX3_survey_1 rfl hl (by decide) rfl (fun ls hl => ?_)
  refine lv_iload_n hx hb dX3_survey_2 rfl (lv_at hl 0 rfl) ?_
  refine lv_aload_n hx hb dX3_survey_3 rfl (lv_at hl 1 rfl) ?_
  refine g_Vi C hl.1 hA hH (As := []) (rest := [.int (0 : Int32)]) (k_cells l E L f mn fn) my_X3_cells wd9 mn fn rfl rfl rfl (Nat.le_of_ble_eq_true rfl) ⟨Nat.le_of_ble_eq_true rfl, Nat.le_of_ble_eq_true rfl⟩ ⟨Nat.le_of_ble_eq_true rfl, Nat.le_of_ble_eq_true rfl⟩ dX3_survey_4 (fun r3 L2 f1 H locs hp hH => ?_)
  obtain ⟨er3, rfl, rfl⟩ := hp
  subst er3
  refine lv_icmp_ge (tgt := 93) hx hb dX3_survey_7 (by decide) (fun _ => ?_) (fun h => absurd (by decide) h)
  refine g_vret C hr hH (Nat.le_of_ble_eq_true rfl) (Nat.le_of_ble_eq_true rfl) dX3_survey_93 ?_
  exact ⟨rfl, rfl⟩
set_option maxHeartbeats 4000000 in
set_option maxRecDepth 100000 in
theorem k_readTape (l : Launch) (E : gE) (L : List Nat) (f : gF) {xr xt xd xb : Nat} (mr : xr ∈ L) (fr : f xr = .inr (5, [.ref xt, .ref xd, .int (0 : Int32), .int (0 : Int32), .int (0 : Int32), .int (0 : Int32), .int (-1 : Int32)])) (mt : xt ∈ L) (ft : f xt = .inr (8, [.ref xb, .int (0 : Int32)])) {da : Nat → Nat} (md : xd ∈ L) (fd : f xd = .inr (3, [.int (0 : Int32), .int (0 : Int32), .int (0 : Int32), .int (0 : Int32), .int (0 : Int32), .int (0 : Int32), .int (0 : Int32), .int (0 : Int32), .int (0 : Int32), .int (0 : Int32), .ref (da 0), .ref (da 1), .ref (da 2), .ref (da 3), .ref (da 4), .ref (da 5), .ref (da 6), .ref (da 7), .ref (da 8), .ref (da 9)])) : gMi l E yX5_readTape cX5_readTape 2 .boolean (gRm 4 0 0) [.ref xr] L f (fun r L1 f1 => r = 1 ∧ L = L1 ∧ f1 xd = .inr (3, [.int (0 : Int32), .int (0 : Int32), .int (0 : Int32), .int (0 : Int32), .int (0 : Int32), .int (0 : Int32), .int (0 : Int32), .int (0 : Int32), .int (0 : Int32), .int (0 : Int32), .ref (da 0), .ref (da 1), .ref (da 2), .ref (da 3), .ref (da 4), .ref (da 5), .ref (da 6), .ref (da 7), .ref (da 8), .ref (da 9)]) ∧ f1 xr = .inr (5, [.ref xt, .ref xd, .int (0 : Int32), .int (0 : Int32), .int (0 : Int32), .int (0 : Int32), .int (-1 : Int32)]) ∧ ∀ b, b ≠ xd → b ≠ xr → f1 b = f b) := by
  refine gMi.intro (by decide) (Nat.le_of_ble_eq_true rfl) ?_
  intro p e s m below meth c A ls C hr hA hH hl
  have C : gC E cX5_readTape 2 RX5 p s m _ meth c := C
  have hl : lv_has ls 2 [(0, .ref xr)] := hl
  have hx := C.1
  have hb := C.2.1
  refine lv_aload_n hx hb dX5_readTape_0 rfl (lv_at hl 0 rfl) ?_
  refine g_get C hH mr fr iX5 rfl 1 (by decide) wd125 rfl rfl dX5_readTape_1 ?_
  refine g_Vv C hl.1 hA hH (As := []) (rest := []) (k_clear l E L f md fd) my_X3_clear wd129 md fd rfl rfl rfl (Nat.le_of_ble_eq_true rfl) ⟨Nat.le_of_ble_eq_true rfl, Nat.le_of_ble_eq_true rfl⟩ ⟨Nat.le_of_ble_eq_true rfl, Nat.le_of_ble_eq_true rfl⟩ dX5_readTape_4 (fun L2 f1 H locs hp hH => ?_)
  obtain ⟨rfl, h3, k4⟩ := hp
  refine lv_aload_n hx hb dX5_readTape_7 rfl (lv_at hl 0 rfl) ?_
  refine lv_iconst (v := (0 : Int32)) hx hb dX5_readTape_8 (by decide) ?_
  have h5 : f1 xr = .inr (5, [.ref xt, .ref xd, .int (0 : Int32), .int (0 : Int32), .int (0 : Int32), .int (0 : Int32), .int (-1 : Int32)]) := (k4 xr (g_neO fr fd (by decide))).trans fr
  refine g_put C hH mr h5 iX5 tyX5 tyX5_ok nmX5 rfl 5 (by decide) wd130 rfl rfl rfl rfl (Nat.le_of_ble_eq_true rfl) (fs' := [.ref xt, .ref xd, .int (0 : Int32), .int (0 : Int32), .int (0 : Int32), .int (0 : Int32), .int (-1 : Int32)]) rfl dX5_readTape_9 (fun H locs hH => ?_)
  obtain ⟨f6, ef6⟩ : ∃ z : gF, z = va_up f1 xr (.inr (5, [.ref xt, .ref xd, .int (0 : Int32), .int (0 : Int32), .int (0 : Int32), .int (0 : Int32), .int (-1 : Int32)])) := ⟨_, rfl⟩
  have hH : gH E A L f6 s.heap H locs := by rw [ef6]; exact hH
  have h7 : f6 xr = .inr (5, [.ref xt, .ref xd, .int (0 : Int32), .int (0 : Int32), .int (0 : Int32), .int (0 : Int32), .int (-1 : Int32)]) := (congrFun ef6 xr).trans (va_up_self _ _ _)
  refine lv_aload_n hx hb dX5_readTape_12 rfl (lv_at hl 0 rfl) ?_
  refine lv_iconst (v := (-1 : Int32)) hx hb dX5_readTape_13 (by decide) ?_
  refine g_put C hH mr h7 iX5 tyX5 tyX5_ok nmX5 rfl 6 (by decide) wd131 rfl rfl rfl rfl (Nat.le_of_ble_eq_true rfl) (fs' := [.ref xt, .ref xd, .int (0 : Int32), .int (0 : Int32), .int (0 : Int32), .int (0 : Int32), .int (-1 : Int32)]) rfl dX5_readTape_14 (fun H locs hH => ?_)
  obtain ⟨f8, ef8⟩ : ∃ z : gF, z = va_up f6 xr (.inr (5, [.ref xt, .ref xd, .int (0 : Int32), .int (0 : Int32), .int (0 : Int32), .int (0 : Int32), .int (-1 : Int32)])) := ⟨_, rfl⟩
  have hH : gH E A L f8 s.heap H locs := by rw [ef8]; exact hH
  have h9 : f8 xr = .inr (5, [.ref xt, .ref xd, .int (0 : Int32), .int (0 : Int32), .int (0 : Int32), .int (0 : Int32), .int (-1 : Int32)]) := (congrFun ef8 xr).trans (va_up_self _ _ _)
  refine lv_aload_n hx hb dX5_readTape_17 rfl (lv_at hl 0 rfl) ?_
  refine lv_iconst (v := (0 : Int32)) hx hb dX5_readTape_18 (by decide) ?_
  refine g_put C hH mr h9 iX5 tyX5 tyX5_ok nmX5 rfl 4 (by decide) wd120 rfl rfl rfl rfl (Nat.le_of_ble_eq_true rfl) (fs' := [.ref xt, .ref xd, .int (0 : Int32), .int (0 : Int32), .int (0 : Int32), .int (0 : Int32), .int (-1 : Int32)]) rfl dX5_readTape_19 (fun H locs hH => ?_)
  obtain ⟨f10, ef10⟩ : ∃ z : gF, z = va_up f8 xr (.inr (5, [.ref xt, .ref xd, .int (0 : Int32), .int (0 : Int32), .int (0 : Int32), .int (0 : Int32), .int (-1 : Int32)])) := ⟨_, rfl⟩
  have hH : gH E A L f10 s.heap H locs := by rw [ef10]; exact hH
  have h11 : f10 xr = .inr (5, [.ref xt, .ref xd, .int (0 : Int32), .int (0 : Int32), .int (0 : Int32), .int (0 : Int32), .int (-1 : Int32)]) := (congrFun ef10 xr).trans (va_up_self _ _ _)
  refine lv_aload_n hx hb dX5_readTape_22 rfl (lv_at hl 0 rfl) ?_
  have h12 : f1 xt = .inr (8, [.ref xb, .int (0 : Int32)]) := (k4 xt (g_neO ft fd (by decide))).trans ft
  have h13 : f6 xt = .inr (8, [.ref xb, .int (0 : Int32)]) := ((congrFun ef6 xt).trans (va_up_ne _ _ (g_neO h12 h5 (by decide)))).trans h12
  have h14 : f8 xt = .inr (8, [.ref xb, .int (0 : Int32)]) := ((congrFun ef8 xt).trans (va_up_ne _ _ (g_neO h13 h7 (by decide)))).trans h13
  have h15 : f10 xt = .inr (8, [.ref xb, .int (0 : Int32)]) := ((congrFun ef10 xt).trans (va_up_ne _ _ (g_neO h14 h9 (by decide)))).trans h14
  refine g_Vv C hl.1 hA hH (As := []) (rest := []) (k_advance l E L f10 mr h11 mt h15) my_X5_advance wd136 mr h11 rfl rfl rfl (Nat.le_of_ble_eq_true rfl) ⟨Nat.le_of_ble_eq_true rfl, Nat.le_of_ble_eq_true rfl⟩ ⟨Nat.le_of_ble_eq_true rfl, Nat.le_of_ble_eq_true rfl⟩ dX5_readTape_23 (fun L17 f16 H locs hp hH => ?_)
  obtain ⟨rfl, h18, k19⟩ := hp
  refine lv_iconst (v := (0 : Int32)) hx hb dX5_readTape_26 (by decide) ?_
  refine lv_istore_n (lv' := [(1, .int (0 : Int32)), (0, .ref xr)]) hx hb dX5_readTape_27 rfl hl (by decide) rfl (fun ls hl => ?_)
  refine lv_iload_n hx hb dX5_readTape_28 rfl (lv_at hl 0 rfl) ?_
  refine lv_sipush (v := (800 : Int32)) hx hb dX5_readTape_29 (by decide) ?_
  refine lv_icmp_ge (tgt := 59) hx hb dX5_readTape_32 (by decide) (fun h => absurd h (by decide)) (fun _ => ?_)
  refine lv_aload_n hx hb dX5_readTape_35 rfl (lv_at hl 1 rfl) ?_
  refine g_get C hH mr h18 iX5 rfl 2 (by decide) wd124 rfl rfl dX5_readTape_36 ?_
  refine lv_if_eq (tgt := 59) hx hb dX5_readTape_39 (by decide) (fun _ => ?_) (fun h => absurd (by decide) h)
  refine lv_aload_n hx hb dX5_readTape_59 rfl (lv_at hl 1 rfl) ?_
  refine g_get C hH mr h18 iX5 rfl 1 (by decide) wd125 rfl rfl dX5_readTape_60 ?_
  have h20 : f6 xd = .inr (3, [.int (0 : Int32), .int (0 : Int32), .int (0 : Int32), .int (0 : Int32), .int (0 : Int32), .int (0 : Int32), .int (0 : Int32), .int (0 : Int32), .int (0 : Int32), .int (0 : Int32), .ref (da 0), .ref (da 1), .ref (da 2), .ref (da 3), .ref (da 4), .ref (da 5), .ref (da 6), .ref (da 7), .ref (da 8), .ref (da 9)]) := ((congrFun ef6 xd).trans (va_up_ne _ _ (g_neO h3 h5 (by decide)))).trans h3
  have h21 : f8 xd = .inr (3, [.int (0 : Int32), .int (0 : Int32), .int (0 : Int32), .int (0 : Int32), .int (0 : Int32), .int (0 : Int32), .int (0 : Int32), .int (0 : Int32), .int (0 : Int32), .int (0 : Int32), .ref (da 0), .ref (da 1), .ref (da 2), .ref (da 3), .ref (da 4), .ref (da 5), .ref (da 6), .ref (da 7), .ref (da 8), .ref (da 9)]) := ((congrFun ef8 xd).trans (va_up_ne _ _ (g_neO h20 h7 (by decide)))).trans h20
  have h22 : f10 xd = .inr (3, [.int (0 : Int32), .int (0 : Int32), .int (0 : Int32), .int (0 : Int32), .int (0 : Int32), .int (0 : Int32), .int (0 : Int32), .int (0 : Int32), .int (0 : Int32), .int (0 : Int32), .ref (da 0), .ref (da 1), .ref (da 2), .ref (da 3), .ref (da 4), .ref (da 5), .ref (da 6), .ref (da 7), .ref (da 8), .ref (da 9)]) := ((congrFun ef10 xd).trans (va_up_ne _ _ (g_neO h21 h9 (by decide)))).trans h21
  have h23 : f16 xd = .inr (3, [.int (0 : Int32), .int (0 : Int32), .int (0 : Int32), .int (0 : Int32), .int (0 : Int32), .int (0 : Int32), .int (0 : Int32), .int (0 : Int32), .int (0 : Int32), .int (0 : Int32), .ref (da 0), .ref (da 1), .ref (da 2), .ref (da 3), .ref (da 4), .ref (da 5), .ref (da 6), .ref (da 7), .ref (da 8), .ref (da 9)]) := (k19 xd (g_neO h22 h11 (by decide))).trans h22
  refine g_Vv C hl.1 hA hH (As := []) (rest := []) (k_survey l E L f16 md h23) my_X3_survey wd140 md h23 rfl rfl rfl (Nat.le_of_ble_eq_true rfl) ⟨Nat.le_of_ble_eq_true rfl, Nat.le_of_ble_eq_true rfl⟩ ⟨Nat.le_of_ble_eq_true rfl, Nat.le_of_ble_eq_true rfl⟩ dX5_readTape_63 (fun L25 f24 H locs hp hH => ?_)
  obtain ⟨rfl, rfl⟩ := hp
  refine lv_aload_n hx hb dX5_readTape_66 rfl (lv_at hl 1 rfl) ?_
  refine g_get C hH mr h18 iX5 rfl 5 (by decide) wd130 rfl rfl dX5_readTape_67 ?_
  refine lv_if_ne (tgt := 77) hx hb dX5_readTape_70 (by decide) (fun h => absurd (by decide) h) (fun _ => ?_)
  refine lv_iconst (v := (1 : Int32)) hx hb dX5_readTape_73 (by decide) ?_
  refine lv_goto (tgt := 78) hx hb dX5_readTape_74 (by decide) ?_
  refine g_zret C hr (by first | rfl | decide | (exact rfl)) hH (Nat.le_of_ble_eq_true rfl) (Nat.le_of_ble_eq_true rfl) dX5_readTape_78 ?_
  exact ⟨rfl, rfl, h23, h18, fun b h1 h2 => by rw [k19 b h2, ef10, va_up_ne _ _ h2, ef8, va_up_ne _ _ h2, ef6, va_up_ne _ _ h2, k4 b h1]⟩
set_option maxHeartbeats 4000000 in
set_option maxRecDepth 100000 in
theorem k_forget (l : Launch) (E : gE) (L : List Nat) (f : gF) {xn xs xl : Nat} {lf ll : Nat} (ml : xl ∈ L) (fl : f xl = .inr (4, [.ref xn, .ref xs, .ref lf, .ref ll, .int (0 : Int32)])) : gMv l E yX4_forget cX4_forget 1 (gRm 1 0 0) [.ref xl] L f (fun L1 f1 => L = L1 ∧ f1 xl = .inr (4, [.ref xn, .ref xs, .ref lf, .ref ll, .int (0 : Int32)]) ∧ ∀ b, b ≠ xl → f1 b = f b) := by
  refine gMv.intro (by decide) (Nat.le_of_ble_eq_true rfl) ?_
  intro p e s m below meth c A ls C hr hnm hA hH hl
  have C : gC E cX4_forget 1 RX4 p s m _ meth c := C
  have hl : lv_has ls 1 [(0, .ref xl)] := hl
  have hx := C.1
  have hb := C.2.1
  refine lv_aload_n hx hb dX4_forget_0 rfl (lv_at hl 0 rfl) ?_
  refine lv_iconst (v := (0 : Int32)) hx hb dX4_forget_1 (by decide) ?_
  refine g_put C hH ml fl iX4 tyX4 tyX4_ok nmX4 rfl 4 (by decide) wd141 rfl rfl rfl rfl (Nat.le_of_ble_eq_true rfl) (fs' := [.ref xn, .ref xs, .ref lf, .ref ll, .int (0 : Int32)]) rfl dX4_forget_2 (fun H locs hH => ?_)
  obtain ⟨f1, ef1⟩ : ∃ z : gF, z = va_up f xl (.inr (4, [.ref xn, .ref xs, .ref lf, .ref ll, .int (0 : Int32)])) := ⟨_, rfl⟩
  have hH : gH E A L f1 s.heap H locs := by rw [ef1]; exact hH
  have h2 : f1 xl = .inr (4, [.ref xn, .ref xs, .ref lf, .ref ll, .int (0 : Int32)]) := (congrFun ef1 xl).trans (va_up_self _ _ _)
  refine g_vret C hr hH (Nat.le_of_ble_eq_true rfl) (Nat.le_of_ble_eq_true rfl) dX4_forget_5 ?_
  exact ⟨rfl, h2, fun b h1 => by rw [ef1, va_up_ne _ _ h1]⟩
set_option maxHeartbeats 4000000 in
set_option maxRecDepth 100000 in
theorem k_land (l : Launch) (E : gE) (L : List Nat) (f : gF) {x xt xn xr xi xw xs xl xc xh xf xm : Nat} (mx : x ∈ L) (fx : f x = .inr (9, [.ref xt, .ref xn, .ref xr, .ref xi, .ref xw, .ref xs, .ref xl, .ref xc, .ref xh, .ref xf, .ref xm])) {xb : Nat} (mt : xt ∈ L) (ft : f xt = .inr (8, [.ref xb, .int (0 : Int32)])) {xd : Nat} (mr : xr ∈ L) (fr : f xr = .inr (5, [.ref xt, .ref xd, .int (0 : Int32), .int (0 : Int32), .int (0 : Int32), .int (0 : Int32), .int (-1 : Int32)])) {da : Nat → Nat} (md : xd ∈ L) (fd : f xd = .inr (3, [.int (0 : Int32), .int (0 : Int32), .int (0 : Int32), .int (0 : Int32), .int (0 : Int32), .int (0 : Int32), .int (0 : Int32), .int (0 : Int32), .int (0 : Int32), .int (0 : Int32), .ref (da 0), .ref (da 1), .ref (da 2), .ref (da 3), .ref (da 4), .ref (da 5), .ref (da 6), .ref (da 7), .ref (da 8), .ref (da 9)])) {na : Nat → Nat} (mn : xn ∈ L) (fn : f xn = .inr (3, [.int (0 : Int32), .int (0 : Int32), .int (0 : Int32), .int (0 : Int32), .int (0 : Int32), .int (0 : Int32), .int (0 : Int32), .int (0 : Int32), .int (0 : Int32), .int (0 : Int32), .ref (na 0), .ref (na 1), .ref (na 2), .ref (na 3), .ref (na 4), .ref (na 5), .ref (na 6), .ref (na 7), .ref (na 8), .ref (na 9)])) {lf ll : Nat} (ml : xl ∈ L) (fl : f xl = .inr (4, [.ref xn, .ref xs, .ref lf, .ref ll, .int (0 : Int32)])) (gn : gArrs E L f na) (gd : gArrs E L f da) (hnd : xn ≠ xd) : gMi l E yX9_land cX9_land 1 .int (gRm 5 0 0) [.ref x] L f (fun r _ _ => r = 0) := by
  refine gMi.intro (by decide) (Nat.le_of_ble_eq_true rfl) ?_
  intro p e s m below meth c A ls C hr hA hH hl
  have C : gC E cX9_land 1 RX9 p s m _ meth c := C
  have hl : lv_has ls 1 [(0, .ref x)] := hl
  have hx := C.1
  have hb := C.2.1
  refine lv_aload_n hx hb dX9_land_0 rfl (lv_at hl 0 rfl) ?_
  refine g_get C hH mx fx iX9 rfl 2 (by decide) wd61 rfl rfl dX9_land_1 ?_
  refine g_Vi C hl.1 hA hH (As := []) (rest := []) (k_readTape l E L f mr fr mt ft md fd) my_X5_readTape wd145 mr fr rfl rfl rfl (Nat.le_of_ble_eq_true rfl) ⟨Nat.le_of_ble_eq_true rfl, Nat.le_of_ble_eq_true rfl⟩ ⟨Nat.le_of_ble_eq_true rfl, Nat.le_of_ble_eq_true rfl⟩ dX9_land_4 (fun r3 L2 f1 H locs hp hH => ?_)
  obtain ⟨rfl, rfl, h4, h5, k6⟩ := hp
  refine lv_if_ne (tgt := 13) hx hb dX9_land_7 (by decide) (fun _ => ?_) (fun h => absurd h (by decide))
  refine lv_aload_n hx hb dX9_land_13 rfl (lv_at hl 0 rfl) ?_
  have h7 : f1 x = .inr (9, [.ref xt, .ref xn, .ref xr, .ref xi, .ref xw, .ref xs, .ref xl, .ref xc, .ref xh, .ref xf, .ref xm]) := (k6 x (g_neO fx fd (by decide)) (g_neO fx fr (by decide))).trans fx
  refine g_get C hH mx h7 iX9 rfl 0 (by decide) wd54 rfl rfl dX9_land_14 ?_
  refine lv_iconst (v := (0 : Int32)) hx hb dX9_land_17 (by decide) ?_
  have h8 : f1 xt = .inr (8, [.ref xb, .int (0 : Int32)]) := (k6 xt (g_neO ft fd (by decide)) (g_neO ft fr (by decide))).trans ft
  refine g_put C hH mt h8 iX8 tyX8 tyX8_ok nmX8 rfl 1 (by decide) wd55 rfl rfl rfl rfl (Nat.le_of_ble_eq_true rfl) (fs' := [.ref xb, .int (0 : Int32)]) rfl dX9_land_18 (fun H locs hH => ?_)
  obtain ⟨f9, ef9⟩ : ∃ z : gF, z = va_up f1 xt (.inr (8, [.ref xb, .int (0 : Int32)])) := ⟨_, rfl⟩
  have hH : gH E A L f9 s.heap H locs := by rw [ef9]; exact hH
  have h10 : f9 xt = .inr (8, [.ref xb, .int (0 : Int32)]) := (congrFun ef9 xt).trans (va_up_self _ _ _)
  refine lv_aload_n hx hb dX9_land_21 rfl (lv_at hl 0 rfl) ?_
  have h11 : f9 x = .inr (9, [.ref xt, .ref xn, .ref xr, .ref xi, .ref xw, .ref xs, .ref xl, .ref xc, .ref xh, .ref xf, .ref xm]) := ((congrFun ef9 x).trans (va_up_ne _ _ (g_neO h7 h8 (by decide)))).trans h7
  refine g_get C hH mx h11 iX9 rfl 1 (by decide) wd18 rfl rfl dX9_land_22 ?_
  refine lv_aload_n hx hb dX9_land_25 rfl (lv_at hl 0 rfl) ?_
  refine g_get C hH mx h11 iX9 rfl 2 (by decide) wd61 rfl rfl dX9_land_26 ?_
  have h12 : f9 xr = .inr (5, [.ref xt, .ref xd, .int (0 : Int32), .int (0 : Int32), .int (0 : Int32), .int (0 : Int32), .int (-1 : Int32)]) := ((congrFun ef9 xr).trans (va_up_ne _ _ (g_neO h5 h8 (by decide)))).trans h5
  refine g_get C hH mr h12 iX5 rfl 1 (by decide) wd146 rfl rfl dX9_land_29 ?_
  have h13 : f1 xn = .inr (3, [.int (0 : Int32), .int (0 : Int32), .int (0 : Int32), .int (0 : Int32), .int (0 : Int32), .int (0 : Int32), .int (0 : Int32), .int (0 : Int32), .int (0 : Int32), .int (0 : Int32), .ref (na 0), .ref (na 1), .ref (na 2), .ref (na 3), .ref (na 4), .ref (na 5), .ref (na 6), .ref (na 7), .ref (na 8), .ref (na 9)]) := (k6 xn hnd (g_neO fn fr (by decide))).trans fn
  have h14 : f9 xn = .inr (3, [.int (0 : Int32), .int (0 : Int32), .int (0 : Int32), .int (0 : Int32), .int (0 : Int32), .int (0 : Int32), .int (0 : Int32), .int (0 : Int32), .int (0 : Int32), .int (0 : Int32), .ref (na 0), .ref (na 1), .ref (na 2), .ref (na 3), .ref (na 4), .ref (na 5), .ref (na 6), .ref (na 7), .ref (na 8), .ref (na 9)]) := ((congrFun ef9 xn).trans (va_up_ne _ _ (g_neO h13 h8 (by decide)))).trans h13
  have h15 : f9 xd = .inr (3, [.int (0 : Int32), .int (0 : Int32), .int (0 : Int32), .int (0 : Int32), .int (0 : Int32), .int (0 : Int32), .int (0 : Int32), .int (0 : Int32), .int (0 : Int32), .int (0 : Int32), .ref (da 0), .ref (da 1), .ref (da 2), .ref (da 3), .ref (da 4), .ref (da 5), .ref (da 6), .ref (da 7), .ref (da 8), .ref (da 9)]) := ((congrFun ef9 xd).trans (va_up_ne _ _ (g_neO h4 h8 (by decide)))).trans h4
  have h16 := gArrs_keep2 k6 fd fr gn
  have h17 := gArrs_upO ef9 h8 h16
  have h18 := gArrs_keep2 k6 fd fr gd
  have h19 := gArrs_upO ef9 h8 h18
  refine g_Vv C hl.1 hA hH (As := [.ref xd]) (rest := []) (k_become l E L f9 mn h14 md h15 h17 h19 hnd) my_X3_become wd118 mn h14 rfl rfl rfl (Nat.le_of_ble_eq_true rfl) ⟨Nat.le_of_ble_eq_true rfl, Nat.le_of_ble_eq_true rfl⟩ ⟨Nat.le_of_ble_eq_true rfl, Nat.le_of_ble_eq_true rfl⟩ dX9_land_32 (fun L21 f20 H locs hp hH => ?_)
  obtain ⟨rfl, h22, h23, k24⟩ := hp
  refine lv_aload_n hx hb dX9_land_35 rfl (lv_at hl 0 rfl) ?_
  have h25 : f20 x = .inr (9, [.ref xt, .ref xn, .ref xr, .ref xi, .ref xw, .ref xs, .ref xl, .ref xc, .ref xh, .ref xf, .ref xm]) := (k24 x (g_neO h11 h14 (by decide)) (gArrs_neO h17 h11)).trans h11
  refine g_get C hH mx h25 iX9 rfl 6 (by decide) wd147 rfl rfl dX9_land_36 ?_
  have h26 : f1 xl = .inr (4, [.ref xn, .ref xs, .ref lf, .ref ll, .int (0 : Int32)]) := (k6 xl (g_neO fl fd (by decide)) (g_neO fl fr (by decide))).trans fl
  have h27 : f9 xl = .inr (4, [.ref xn, .ref xs, .ref lf, .ref ll, .int (0 : Int32)]) := ((congrFun ef9 xl).trans (va_up_ne _ _ (g_neO h26 h8 (by decide)))).trans h26
  have h28 : f20 xl = .inr (4, [.ref xn, .ref xs, .ref lf, .ref ll, .int (0 : Int32)]) := (k24 xl (g_neO h27 h14 (by decide)) (gArrs_neO h17 h27)).trans h27
  refine g_Vv C hl.1 hA hH (As := []) (rest := []) (k_forget l E L f20 ml h28) my_X4_forget wd152 ml h28 rfl rfl rfl (Nat.le_of_ble_eq_true rfl) ⟨Nat.le_of_ble_eq_true rfl, Nat.le_of_ble_eq_true rfl⟩ ⟨Nat.le_of_ble_eq_true rfl, Nat.le_of_ble_eq_true rfl⟩ dX9_land_39 (fun L30 f29 H locs hp hH => ?_)
  obtain ⟨rfl, h31, k32⟩ := hp
  refine lv_aload_n hx hb dX9_land_42 rfl (lv_at hl 0 rfl) ?_
  have h33 : f29 x = .inr (9, [.ref xt, .ref xn, .ref xr, .ref xi, .ref xw, .ref xs, .ref xl, .ref xc, .ref xh, .ref xf, .ref xm]) := (k32 x (g_neO h25 h28 (by decide))).trans h25
  refine g_get C hH mx h33 iX9 rfl 1 (by decide) wd18 rfl rfl dX9_land_43 ?_
  have h34 : f29 xn = .inr (3, [.int (0 : Int32), .int (0 : Int32), .int (0 : Int32), .int (0 : Int32), .int (0 : Int32), .int (0 : Int32), .int (0 : Int32), .int (0 : Int32), .int (0 : Int32), .int (0 : Int32), .ref (na 0), .ref (na 1), .ref (na 2), .ref (na 3), .ref (na 4), .ref (na 5), .ref (na 6), .ref (na 7), .ref (na 8), .ref (na 9)]) := (k32 xn (g_neO h22 h28 (by decide))).trans h22
  refine g_get C hH mn h34 iX3 rfl 0 (by decide) wd80 rfl rfl dX9_land_46 ?_
  refine g_iret C hr hH (Nat.le_of_ble_eq_true rfl) (Nat.le_of_ble_eq_true rfl) dX9_land_49 ?_
  exact rfl
