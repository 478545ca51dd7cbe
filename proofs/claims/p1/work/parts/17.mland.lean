theorem g_updz {v : Nat → Int32} (h : ∀ i, v i = 0) (k : Nat) : ∀ i, upd v k 0 i = 0 := fun i => by
  by_cases e : i = k
  · rw [e, pk_us]
  · rw [pk_un e, h]
set_option maxHeartbeats 4000000 in
set_option maxRecDepth 100000 in
theorem m_copyRow (l : Launch) (E : gE) (L : List Nat) (f : gF) {a n : Nat} {v : Nat → Int32} (ma : a ∈ L) (fa : f a = .inl (E.2.2 1, n, .inl v)) (hz : ∀ i, v i = 0) (M sp d : Nat) (hs : M * sp + M ≤ n) (hd : M * d + M ≤ n) (hn : n < 2 ^ 31) : gMv l E yX10_copyRow cX10_copyRow 5 (gRm 1 0 0) [.ref a, .int (nI M), .int (nI sp), .int (nI d)] L f (fun L1 f1 => L = L1 ∧ (∃ z, f1 a = .inl (E.2.2 1, n, .inl z) ∧ ∀ i, z i = 0) ∧ ∀ b, b ≠ a → f1 b = f b) := by
  refine gMv.intro (by decide) (Nat.le_of_ble_eq_true rfl) ?_
  intro p e s m below meth c A ls C hr hnm hA hH hl
  have C : gC E cX10_copyRow 5 RX10 p s m _ meth c := C
  have hl : lv_has ls 5 [(0, .ref a), (1, .int (nI M)), (2, .int (nI sp)), (3, .int (nI d))] := hl
  have hx := C.1
  have hb := C.2.1
  refine lv_iconst (v := (0 : Int32)) hx hb dX10_copyRow_0 (by decide) ?_
  refine lv_istore (lv' := [(4, .int (0 : Int32)), (0, .ref a), (1, .int (nI M)), (2, .int (nI sp)), (3, .int (nI d))]) hx hb dX10_copyRow_1 hl (by decide) rfl (fun ls hl => ?_)
  have loop : ∀ (k i : Nat) (x : Int32) (f1 : gF) (v1 : Nat → Int32) (H : Heap) (locs : List Loc) (ls : Array Slot), i + k = M → x = nI i → f1 a = .inl (E.2.2 1, n, .inl v1) → (∀ i, v1 i = 0) → (∀ b, b ≠ a → f1 b = f b) → gH E A L f1 s.heap H locs → lv_has ls 5 [(4, .int x), (0, .ref a), (1, .int (nI M)), (2, .int (nI sp)), (3, .int (nI d))] → W p l e (gRm 1 0 0) s m [Value.ref a, Value.int (nI M), Value.int (nI sp), Value.int (nI d)].toArray below meth c H locs 0 0 (MQ below (gQv E A (fun L1 f1 => L = L1 ∧ (∃ z, f1 a = .inl (E.2.2 1, n, .inl z) ∧ ∀ i, z i = 0) ∧ ∀ b, b ≠ a → f1 b = f b)) [Value.ref a, Value.int (nI M), Value.int (nI sp), Value.int (nI d)].toArray s (gRm 1 0 0).cells (gRm 1 0 0).slots A) (F0 m 3 ls []) := by
    intro k
    induction k with
    | zero =>
      intro i x f1 v1 H locs ls hik ex h1 hz1 h2 hH hl
      have hiM : i = M := by omega
      refine lv_iload hx hb dX10_copyRow_3 (lv_at hl 0 rfl) ?_
      refine lv_iload_n hx hb dX10_copyRow_5 rfl (lv_at hl 2 rfl) ?_
      refine lv_icmp_ge (tgt := 31) hx hb dX10_copyRow_6 (by decide) (fun _ => ?_) (fun h => absurd (by rw [ex, hiM]; exact Int32.le_refl _) h)
      refine g_vret C hr hH (Nat.le_of_ble_eq_true rfl) (Nat.le_of_ble_eq_true rfl) dX10_copyRow_31 ?_
      exact ⟨rfl, ⟨_, h1, hz1⟩, h2⟩
    | succ k ih =>
      intro i x f1 v1 H locs ls hik ex h1 hz1 h2 hH hl
      refine lv_iload hx hb dX10_copyRow_3 (lv_at hl 0 rfl) ?_
      refine lv_iload_n hx hb dX10_copyRow_5 rfl (lv_at hl 2 rfl) ?_
      refine lv_icmp_ge (tgt := 31) hx hb dX10_copyRow_6 (by decide) (fun h => absurd h (by rw [ex]; exact nI_ge (by omega) (by omega))) (fun _ => ?_)
      refine lv_aload_n hx hb dX10_copyRow_9 rfl (lv_at hl 1 rfl) ?_
      refine lv_iload_n hx hb dX10_copyRow_10 rfl (lv_at hl 2 rfl) ?_
      refine lv_iload_n hx hb dX10_copyRow_11 rfl (lv_at hl 4 rfl) ?_
      refine lv_imul hx hb dX10_copyRow_12 ?_
      refine lv_iload hx hb dX10_copyRow_13 (lv_at hl 0 rfl) ?_
      refine lv_iadd hx hb dX10_copyRow_15 ?_
      refine lv_topi (fun z1 ez1 => ?_)
      have ez1 : z1 = nI (M * d + i) := by rw [ez1, ex, pk_mul, nI_add]
      refine lv_aload_n hx hb dX10_copyRow_16 rfl (lv_at hl 1 rfl) ?_
      refine lv_iload_n hx hb dX10_copyRow_17 rfl (lv_at hl 2 rfl) ?_
      refine lv_iload_n hx hb dX10_copyRow_18 rfl (lv_at hl 3 rfl) ?_
      refine lv_imul hx hb dX10_copyRow_19 ?_
      refine lv_iload hx hb dX10_copyRow_20 (lv_at hl 0 rfl) ?_
      refine lv_iadd hx hb dX10_copyRow_22 ?_
      refine lv_topi (fun z2 ez2 => ?_)
      have ez2 : z2 = nI (M * sp + i) := by rw [ez2, ex, pk_mul, nI_add]
      refine g_iald C hH ma h1 (by rw [ez2]; exact vp_in_nI (by omega) hn) dX10_copyRow_23 ?_
      refine lv_topi (fun z3 ez3 => ?_)
      obtain rfl : z3 = (0 : Int32) := ez3.trans (hz1 _)
      refine g_iast C hH ma h1 (by rw [ez1]; exact vp_in_nI (by omega) hn) dX10_copyRow_24 (fun H locs hH => ?_)
      obtain ⟨x2, ex2⟩ : ∃ q : Int32, q = x + 1 := ⟨_, rfl⟩
      refine lv_iinc (v := x2) (lv' := [(4, .int x2), (0, .ref a), (1, .int (nI M)), (2, .int (nI sp)), (3, .int (nI d))]) hx hb dX10_copyRow_25 hl (k := 0) rfl (by rw [ex2]; rfl) (by decide) rfl (fun ls hl => ?_)
      refine lv_goto (tgt := 3) hx hb dX10_copyRow_28 (by decide) ?_
      exact ih (i + 1) x2 _ _ _ _ ls (by omega) (by rw [ex2, ex]; exact nI_1 i) (va_up_self _ _ _) (g_updz hz1 _) (fun b hb => (va_up_ne _ _ hb).trans (h2 b hb)) hH hl
  exact loop M 0 _ _ _ _ _ ls (by omega) nI_0.symm fa hz (fun _ _ => rfl) hH hl
set_option maxHeartbeats 4000000 in
set_option maxRecDepth 100000 in
theorem m_copyLand (l : Launch) (E : gE) (L : List Nat) (f : gF) {bp : Int32} {y : Nat} {ya : Nat → Nat} (my : y ∈ L) (fy : f y = .inr (10, [.int (0 : Int32), .ref (ya 1), .ref (ya 2), .ref (ya 3), .ref (ya 4), .ref (ya 5), .int (0 : Int32), .int (0 : Int32), .int (0 : Int32), .int (0 : Int32), .int (0 : Int32), .long (0 : Int64), .int (0 : Int32), .int bp, .int (0 : Int32), .int (-1 : Int32), .ref (ya 16), .ref (ya 17), .ref (ya 18), .ref (ya 19), .ref (ya 20), .ref (ya 21), .int (0 : Int32), .int (0 : Int32), .int (0 : Int32), .ref (ya 25), .ref (ya 26), .ref (ya 27), .ref (ya 28), .ref (ya 29), .ref (ya 30), .ref (ya 31), .ref (ya 32), .ref (ya 33), .ref (ya 34), .ref (ya 35), .int (0 : Int32), .int (0 : Int32), .ref (ya 38), .int (0 : Int32), .int (0 : Int32), .ref (ya 41), .ref (ya 42), .int (0 : Int32), .int (0 : Int32), .int (0 : Int32), .int (0 : Int32), .int (0 : Int32)])) {v_lines v_has v_flight v_member v_act : Nat → Int32} (m_lines : (ya 16) ∈ L) (f_lines : f (ya 16) = .inl (E.2.2 1, 5, .inl v_lines)) (m_has : (ya 17) ∈ L) (f_has : f (ya 17) = .inl (E.2.2 1, 45, .inl v_has)) (m_flight : (ya 18) ∈ L) (f_flight : f (ya 18) = .inl (E.2.2 1, 60, .inl v_flight)) (m_member : (ya 19) ∈ L) (f_member : f (ya 19) = .inl (E.2.2 1, 90, .inl v_member)) (m_act : (ya 20) ∈ L) (f_act : f (ya 20) = .inl (E.2.2 1, 600, .inl v_act)) (z_lines : ∀ i, v_lines i = 0) (z_has : ∀ i, v_has i = 0) (z_flight : ∀ i, v_flight i = 0) (z_member : ∀ i, v_member i = 0) (z_act : ∀ i, v_act i = 0) (sp d : Nat) (hsp : sp ≤ 4) (hd : d ≤ 4) : gMv l E yX10_copyLand cX10_copyLand 3 (gRm 2 0 0) [.ref y, .int (nI sp), .int (nI d)] L f (fun L1 f1 => L = L1 ∧ (∃ z, f1 (ya 16) = .inl (E.2.2 1, 5, .inl z) ∧ ∀ i, z i = 0) ∧ ∀ b, b ≠ (ya 16) → b ≠ (ya 17) → b ≠ (ya 18) → b ≠ (ya 19) → b ≠ (ya 20) → f1 b = f b) := by
  refine gMv.intro (by decide) (Nat.le_of_ble_eq_true rfl) ?_
  intro p e s m below meth c A ls C hr hnm hA hH hl
  have C : gC E cX10_copyLand 3 RX10 p s m _ meth c := C
  have hl : lv_has ls 3 [(0, .ref y), (1, .int (nI sp)), (2, .int (nI d))] := hl
  have hx := C.1
  have hb := C.2.1
  refine lv_aload_n hx hb dX10_copyLand_0 rfl (lv_at hl 0 rfl) ?_
  refine g_get C hH my fy iX10 rfl 16 (by decide) wd245 rfl rfl dX10_copyLand_1 ?_
  refine lv_iconst (v := (1 : Int32)) hx hb dX10_copyLand_4 (by decide) ?_
  refine lv_iload_n hx hb dX10_copyLand_5 rfl (lv_at hl 1 rfl) ?_
  refine lv_iload_n hx hb dX10_copyLand_6 rfl (lv_at hl 2 rfl) ?_
  refine g_Sv C hl.1 hA hH (As := [.ref (ya 16), .int (1 : Int32), .int (nI sp), .int (nI d)]) (rest := []) (m_copyRow l E L f m_lines f_lines z_lines 1 sp d (by omega) (by omega) (by decide)) my_X10_copyRow wd322 rfl rfl (Nat.le_of_ble_eq_true rfl) ⟨Nat.le_of_ble_eq_true rfl, Nat.le_of_ble_eq_true rfl⟩ ⟨Nat.le_of_ble_eq_true rfl, Nat.le_of_ble_eq_true rfl⟩ dX10_copyLand_7 (fun L2 f1 H locs hp hH => ?_)
  obtain ⟨rfl, ⟨v3, h4, h5⟩, k6⟩ := hp
  refine lv_aload_n hx hb dX10_copyLand_10 rfl (lv_at hl 0 rfl) ?_
  have h7 : f1 y = .inr (10, [.int (0 : Int32), .ref (ya 1), .ref (ya 2), .ref (ya 3), .ref (ya 4), .ref (ya 5), .int (0 : Int32), .int (0 : Int32), .int (0 : Int32), .int (0 : Int32), .int (0 : Int32), .long (0 : Int64), .int (0 : Int32), .int bp, .int (0 : Int32), .int (-1 : Int32), .ref (ya 16), .ref (ya 17), .ref (ya 18), .ref (ya 19), .ref (ya 20), .ref (ya 21), .int (0 : Int32), .int (0 : Int32), .int (0 : Int32), .ref (ya 25), .ref (ya 26), .ref (ya 27), .ref (ya 28), .ref (ya 29), .ref (ya 30), .ref (ya 31), .ref (ya 32), .ref (ya 33), .ref (ya 34), .ref (ya 35), .int (0 : Int32), .int (0 : Int32), .ref (ya 38), .int (0 : Int32), .int (0 : Int32), .ref (ya 41), .ref (ya 42), .int (0 : Int32), .int (0 : Int32), .int (0 : Int32), .int (0 : Int32), .int (0 : Int32)]) := (k6 y (g_neOA fy f_lines)).trans fy
  refine g_get C hH my h7 iX10 rfl 17 (by decide) wd246 rfl rfl dX10_copyLand_11 ?_
  refine lv_bipush (v := (9 : Int32)) hx hb dX10_copyLand_14 (by decide) ?_
  refine lv_iload_n hx hb dX10_copyLand_16 rfl (lv_at hl 1 rfl) ?_
  refine lv_iload_n hx hb dX10_copyLand_17 rfl (lv_at hl 2 rfl) ?_
  have h8 : f1 (ya 17) = .inl (E.2.2 1, 45, .inl v_has) := (k6 (ya 17) (g_neN f_has f_lines (by decide))).trans f_has
  refine g_Sv C hl.1 hA hH (As := [.ref (ya 17), .int (9 : Int32), .int (nI sp), .int (nI d)]) (rest := []) (m_copyRow l E L f1 m_has h8 z_has 9 sp d (by omega) (by omega) (by decide)) my_X10_copyRow wd322 rfl rfl (Nat.le_of_ble_eq_true rfl) ⟨Nat.le_of_ble_eq_true rfl, Nat.le_of_ble_eq_true rfl⟩ ⟨Nat.le_of_ble_eq_true rfl, Nat.le_of_ble_eq_true rfl⟩ dX10_copyLand_18 (fun L10 f9 H locs hp hH => ?_)
  obtain ⟨rfl, ⟨v11, h12, h13⟩, k14⟩ := hp
  refine lv_aload_n hx hb dX10_copyLand_21 rfl (lv_at hl 0 rfl) ?_
  have h15 : f9 y = .inr (10, [.int (0 : Int32), .ref (ya 1), .ref (ya 2), .ref (ya 3), .ref (ya 4), .ref (ya 5), .int (0 : Int32), .int (0 : Int32), .int (0 : Int32), .int (0 : Int32), .int (0 : Int32), .long (0 : Int64), .int (0 : Int32), .int bp, .int (0 : Int32), .int (-1 : Int32), .ref (ya 16), .ref (ya 17), .ref (ya 18), .ref (ya 19), .ref (ya 20), .ref (ya 21), .int (0 : Int32), .int (0 : Int32), .int (0 : Int32), .ref (ya 25), .ref (ya 26), .ref (ya 27), .ref (ya 28), .ref (ya 29), .ref (ya 30), .ref (ya 31), .ref (ya 32), .ref (ya 33), .ref (ya 34), .ref (ya 35), .int (0 : Int32), .int (0 : Int32), .ref (ya 38), .int (0 : Int32), .int (0 : Int32), .ref (ya 41), .ref (ya 42), .int (0 : Int32), .int (0 : Int32), .int (0 : Int32), .int (0 : Int32), .int (0 : Int32)]) := (k14 y (g_neOA h7 h8)).trans h7
  refine g_get C hH my h15 iX10 rfl 18 (by decide) wd323 rfl rfl dX10_copyLand_22 ?_
  refine lv_bipush (v := (12 : Int32)) hx hb dX10_copyLand_25 (by decide) ?_
  refine lv_iload_n hx hb dX10_copyLand_27 rfl (lv_at hl 1 rfl) ?_
  refine lv_iload_n hx hb dX10_copyLand_28 rfl (lv_at hl 2 rfl) ?_
  have h16 : f1 (ya 18) = .inl (E.2.2 1, 60, .inl v_flight) := (k6 (ya 18) (g_neN f_flight f_lines (by decide))).trans f_flight
  have h17 : f9 (ya 18) = .inl (E.2.2 1, 60, .inl v_flight) := (k14 (ya 18) (g_neN h16 h8 (by decide))).trans h16
  refine g_Sv C hl.1 hA hH (As := [.ref (ya 18), .int (12 : Int32), .int (nI sp), .int (nI d)]) (rest := []) (m_copyRow l E L f9 m_flight h17 z_flight 12 sp d (by omega) (by omega) (by decide)) my_X10_copyRow wd322 rfl rfl (Nat.le_of_ble_eq_true rfl) ⟨Nat.le_of_ble_eq_true rfl, Nat.le_of_ble_eq_true rfl⟩ ⟨Nat.le_of_ble_eq_true rfl, Nat.le_of_ble_eq_true rfl⟩ dX10_copyLand_29 (fun L19 f18 H locs hp hH => ?_)
  obtain ⟨rfl, ⟨v20, h21, h22⟩, k23⟩ := hp
  refine lv_aload_n hx hb dX10_copyLand_32 rfl (lv_at hl 0 rfl) ?_
  have h24 : f18 y = .inr (10, [.int (0 : Int32), .ref (ya 1), .ref (ya 2), .ref (ya 3), .ref (ya 4), .ref (ya 5), .int (0 : Int32), .int (0 : Int32), .int (0 : Int32), .int (0 : Int32), .int (0 : Int32), .long (0 : Int64), .int (0 : Int32), .int bp, .int (0 : Int32), .int (-1 : Int32), .ref (ya 16), .ref (ya 17), .ref (ya 18), .ref (ya 19), .ref (ya 20), .ref (ya 21), .int (0 : Int32), .int (0 : Int32), .int (0 : Int32), .ref (ya 25), .ref (ya 26), .ref (ya 27), .ref (ya 28), .ref (ya 29), .ref (ya 30), .ref (ya 31), .ref (ya 32), .ref (ya 33), .ref (ya 34), .ref (ya 35), .int (0 : Int32), .int (0 : Int32), .ref (ya 38), .int (0 : Int32), .int (0 : Int32), .ref (ya 41), .ref (ya 42), .int (0 : Int32), .int (0 : Int32), .int (0 : Int32), .int (0 : Int32), .int (0 : Int32)]) := (k23 y (g_neOA h15 h17)).trans h15
  refine g_get C hH my h24 iX10 rfl 19 (by decide) wd324 rfl rfl dX10_copyLand_33 ?_
  refine lv_bipush (v := (18 : Int32)) hx hb dX10_copyLand_36 (by decide) ?_
  refine lv_iload_n hx hb dX10_copyLand_38 rfl (lv_at hl 1 rfl) ?_
  refine lv_iload_n hx hb dX10_copyLand_39 rfl (lv_at hl 2 rfl) ?_
  have h25 : f1 (ya 19) = .inl (E.2.2 1, 90, .inl v_member) := (k6 (ya 19) (g_neN f_member f_lines (by decide))).trans f_member
  have h26 : f9 (ya 19) = .inl (E.2.2 1, 90, .inl v_member) := (k14 (ya 19) (g_neN h25 h8 (by decide))).trans h25
  have h27 : f18 (ya 19) = .inl (E.2.2 1, 90, .inl v_member) := (k23 (ya 19) (g_neN h26 h17 (by decide))).trans h26
  refine g_Sv C hl.1 hA hH (As := [.ref (ya 19), .int (18 : Int32), .int (nI sp), .int (nI d)]) (rest := []) (m_copyRow l E L f18 m_member h27 z_member 18 sp d (by omega) (by omega) (by decide)) my_X10_copyRow wd322 rfl rfl (Nat.le_of_ble_eq_true rfl) ⟨Nat.le_of_ble_eq_true rfl, Nat.le_of_ble_eq_true rfl⟩ ⟨Nat.le_of_ble_eq_true rfl, Nat.le_of_ble_eq_true rfl⟩ dX10_copyLand_40 (fun L29 f28 H locs hp hH => ?_)
  obtain ⟨rfl, ⟨v30, h31, h32⟩, k33⟩ := hp
  refine lv_aload_n hx hb dX10_copyLand_43 rfl (lv_at hl 0 rfl) ?_
  have h34 : f28 y = .inr (10, [.int (0 : Int32), .ref (ya 1), .ref (ya 2), .ref (ya 3), .ref (ya 4), .ref (ya 5), .int (0 : Int32), .int (0 : Int32), .int (0 : Int32), .int (0 : Int32), .int (0 : Int32), .long (0 : Int64), .int (0 : Int32), .int bp, .int (0 : Int32), .int (-1 : Int32), .ref (ya 16), .ref (ya 17), .ref (ya 18), .ref (ya 19), .ref (ya 20), .ref (ya 21), .int (0 : Int32), .int (0 : Int32), .int (0 : Int32), .ref (ya 25), .ref (ya 26), .ref (ya 27), .ref (ya 28), .ref (ya 29), .ref (ya 30), .ref (ya 31), .ref (ya 32), .ref (ya 33), .ref (ya 34), .ref (ya 35), .int (0 : Int32), .int (0 : Int32), .ref (ya 38), .int (0 : Int32), .int (0 : Int32), .ref (ya 41), .ref (ya 42), .int (0 : Int32), .int (0 : Int32), .int (0 : Int32), .int (0 : Int32), .int (0 : Int32)]) := (k33 y (g_neOA h24 h27)).trans h24
  refine g_get C hH my h34 iX10 rfl 20 (by decide) wd325 rfl rfl dX10_copyLand_44 ?_
  refine lv_bipush (v := (120 : Int32)) hx hb dX10_copyLand_47 (by decide) ?_
  refine lv_iload_n hx hb dX10_copyLand_49 rfl (lv_at hl 1 rfl) ?_
  refine lv_iload_n hx hb dX10_copyLand_50 rfl (lv_at hl 2 rfl) ?_
  have h35 : f1 (ya 20) = .inl (E.2.2 1, 600, .inl v_act) := (k6 (ya 20) (g_neN f_act f_lines (by decide))).trans f_act
  have h36 : f9 (ya 20) = .inl (E.2.2 1, 600, .inl v_act) := (k14 (ya 20) (g_neN h35 h8 (by decide))).trans h35
  have h37 : f18 (ya 20) = .inl (E.2.2 1, 600, .inl v_act) := (k23 (ya 20) (g_neN h36 h17 (by decide))).trans h36
  have h38 : f28 (ya 20) = .inl (E.2.2 1, 600, .inl v_act) := (k33 (ya 20) (g_neN h37 h27 (by decide))).trans h37
  refine g_Sv C hl.1 hA hH (As := [.ref (ya 20), .int (120 : Int32), .int (nI sp), .int (nI d)]) (rest := []) (m_copyRow l E L f28 m_act h38 z_act 120 sp d (by omega) (by omega) (by decide)) my_X10_copyRow wd322 rfl rfl (Nat.le_of_ble_eq_true rfl) ⟨Nat.le_of_ble_eq_true rfl, Nat.le_of_ble_eq_true rfl⟩ ⟨Nat.le_of_ble_eq_true rfl, Nat.le_of_ble_eq_true rfl⟩ dX10_copyLand_51 (fun L40 f39 H locs hp hH => ?_)
  obtain ⟨rfl, ⟨v41, h42, h43⟩, k44⟩ := hp
  refine g_vret C hr hH (Nat.le_of_ble_eq_true rfl) (Nat.le_of_ble_eq_true rfl) dX10_copyLand_54 ?_
  have h45 : f9 (ya 16) = .inl (E.2.2 1, 5, .inl v3) := (k14 (ya 16) (g_neN h4 h8 (by decide))).trans h4
  have h46 : f18 (ya 16) = .inl (E.2.2 1, 5, .inl v3) := (k23 (ya 16) (g_neN h45 h17 (by decide))).trans h45
  have h47 : f28 (ya 16) = .inl (E.2.2 1, 5, .inl v3) := (k33 (ya 16) (g_neN h46 h27 (by decide))).trans h46
  have h48 : f39 (ya 16) = .inl (E.2.2 1, 5, .inl v3) := (k44 (ya 16) (g_neN h47 h38 (by decide))).trans h47
  exact ⟨rfl, ⟨_, h48, h5⟩, fun b h1 h2 h3 h4 h5 => by rw [k44 b h5, k33 b h4, k23 b h3, k14 b h2, k6 b h1]⟩
set_option maxHeartbeats 4000000 in
set_option maxRecDepth 100000 in
theorem m_image (l : Launch) (E : gE) (L : List Nat) (f : gF) {y : Nat} {ya : Nat → Nat} (my : y ∈ L) (fy : f y = .inr (10, [.int (0 : Int32), .ref (ya 1), .ref (ya 2), .ref (ya 3), .ref (ya 4), .ref (ya 5), .int (0 : Int32), .int (0 : Int32), .int (0 : Int32), .int (0 : Int32), .int (0 : Int32), .long (0 : Int64), .int (0 : Int32), .int (0 : Int32), .int (0 : Int32), .int (-1 : Int32), .ref (ya 16), .ref (ya 17), .ref (ya 18), .ref (ya 19), .ref (ya 20), .ref (ya 21), .int (0 : Int32), .int (0 : Int32), .int (0 : Int32), .ref (ya 25), .ref (ya 26), .ref (ya 27), .ref (ya 28), .ref (ya 29), .ref (ya 30), .ref (ya 31), .ref (ya 32), .ref (ya 33), .ref (ya 34), .ref (ya 35), .int (0 : Int32), .int (0 : Int32), .ref (ya 38), .int (0 : Int32), .int (0 : Int32), .ref (ya 41), .ref (ya 42), .int (0 : Int32), .int (0 : Int32), .int (0 : Int32), .int (0 : Int32), .int (0 : Int32)])) {v_lines v_has v_flight v_member v_act : Nat → Int32} (m_lines : (ya 16) ∈ L) (f_lines : f (ya 16) = .inl (E.2.2 1, 5, .inl v_lines)) (m_has : (ya 17) ∈ L) (f_has : f (ya 17) = .inl (E.2.2 1, 45, .inl v_has)) (m_flight : (ya 18) ∈ L) (f_flight : f (ya 18) = .inl (E.2.2 1, 60, .inl v_flight)) (m_member : (ya 19) ∈ L) (f_member : f (ya 19) = .inl (E.2.2 1, 90, .inl v_member)) (m_act : (ya 20) ∈ L) (f_act : f (ya 20) = .inl (E.2.2 1, 600, .inl v_act)) (z_lines : ∀ i, v_lines i = 0) (z_has : ∀ i, v_has i = 0) (z_flight : ∀ i, v_flight i = 0) (z_member : ∀ i, v_member i = 0) (z_act : ∀ i, v_act i = 0) (m_z : (ya 21) ∈ L) (f_z : f (ya 21) = .inl (E.2.2 3, 3, .inl (fun _ => 0))) (p0 : Int32) : gMi l E yX10_image cX10_image 2 .int (gRm 4 0 0) [.ref y, .int p0] L f (fun r _ _ => r = gImage p0) := by
  refine gMi.intro (by decide) (Nat.le_of_ble_eq_true rfl) ?_
  intro p e s m below meth c A ls C hr hA hH hl
  have C : gC E cX10_image 2 RX10 p s m _ meth c := C
  have hl : lv_has ls 2 [(0, .ref y), (1, .int p0)] := hl
  have hx := C.1
  have hb := C.2.1
  refine lv_aload_n hx hb dX10_image_0 rfl (lv_at hl 0 rfl) ?_
  refine lv_iconst (v := (0 : Int32)) hx hb dX10_image_1 (by decide) ?_
  refine g_put C hH my fy iX10 tyX10 tyX10_ok nmX10 rfl 0 (by decide) wd270 rfl rfl rfl rfl (Nat.le_of_ble_eq_true rfl) (fs' := [.int (0 : Int32), .ref (ya 1), .ref (ya 2), .ref (ya 3), .ref (ya 4), .ref (ya 5), .int (0 : Int32), .int (0 : Int32), .int (0 : Int32), .int (0 : Int32), .int (0 : Int32), .long (0 : Int64), .int (0 : Int32), .int (0 : Int32), .int (0 : Int32), .int (-1 : Int32), .ref (ya 16), .ref (ya 17), .ref (ya 18), .ref (ya 19), .ref (ya 20), .ref (ya 21), .int (0 : Int32), .int (0 : Int32), .int (0 : Int32), .ref (ya 25), .ref (ya 26), .ref (ya 27), .ref (ya 28), .ref (ya 29), .ref (ya 30), .ref (ya 31), .ref (ya 32), .ref (ya 33), .ref (ya 34), .ref (ya 35), .int (0 : Int32), .int (0 : Int32), .ref (ya 38), .int (0 : Int32), .int (0 : Int32), .ref (ya 41), .ref (ya 42), .int (0 : Int32), .int (0 : Int32), .int (0 : Int32), .int (0 : Int32), .int (0 : Int32)]) rfl dX10_image_2 (fun H locs hH => ?_)
  obtain ⟨f1, ef1⟩ : ∃ z : gF, z = va_up f y (.inr (10, [.int (0 : Int32), .ref (ya 1), .ref (ya 2), .ref (ya 3), .ref (ya 4), .ref (ya 5), .int (0 : Int32), .int (0 : Int32), .int (0 : Int32), .int (0 : Int32), .int (0 : Int32), .long (0 : Int64), .int (0 : Int32), .int (0 : Int32), .int (0 : Int32), .int (-1 : Int32), .ref (ya 16), .ref (ya 17), .ref (ya 18), .ref (ya 19), .ref (ya 20), .ref (ya 21), .int (0 : Int32), .int (0 : Int32), .int (0 : Int32), .ref (ya 25), .ref (ya 26), .ref (ya 27), .ref (ya 28), .ref (ya 29), .ref (ya 30), .ref (ya 31), .ref (ya 32), .ref (ya 33), .ref (ya 34), .ref (ya 35), .int (0 : Int32), .int (0 : Int32), .ref (ya 38), .int (0 : Int32), .int (0 : Int32), .ref (ya 41), .ref (ya 42), .int (0 : Int32), .int (0 : Int32), .int (0 : Int32), .int (0 : Int32), .int (0 : Int32)])) := ⟨_, rfl⟩
  have hH : gH E A L f1 s.heap H locs := by rw [ef1]; exact hH
  have h2 : f1 y = .inr (10, [.int (0 : Int32), .ref (ya 1), .ref (ya 2), .ref (ya 3), .ref (ya 4), .ref (ya 5), .int (0 : Int32), .int (0 : Int32), .int (0 : Int32), .int (0 : Int32), .int (0 : Int32), .long (0 : Int64), .int (0 : Int32), .int (0 : Int32), .int (0 : Int32), .int (-1 : Int32), .ref (ya 16), .ref (ya 17), .ref (ya 18), .ref (ya 19), .ref (ya 20), .ref (ya 21), .int (0 : Int32), .int (0 : Int32), .int (0 : Int32), .ref (ya 25), .ref (ya 26), .ref (ya 27), .ref (ya 28), .ref (ya 29), .ref (ya 30), .ref (ya 31), .ref (ya 32), .ref (ya 33), .ref (ya 34), .ref (ya 35), .int (0 : Int32), .int (0 : Int32), .ref (ya 38), .int (0 : Int32), .int (0 : Int32), .ref (ya 41), .ref (ya 42), .int (0 : Int32), .int (0 : Int32), .int (0 : Int32), .int (0 : Int32), .int (0 : Int32)]) := (congrFun ef1 y).trans (va_up_self _ _ _)
  refine lv_iload_n hx hb dX10_image_5 rfl (lv_at hl 1 rfl) ?_
  refine lv_i2l (v := (p0).toInt64) hx hb dX10_image_6 rfl ?_
  refine lv_lconst (v := (0 : Int64)) hx hb dX10_image_7 (by decide) ?_
  refine lv_ldc2 hx hb C.2.2.2.1 (C.2.2.2.2.1 _ wd316) dX10_image_8 ?_
  refine g_Si C hl.1 hA hH (As := [.long (p0).toInt64, .long (0 : Int64), .long (2 : Int64)]) (rest := []) (m_in l E L f1 (p0).toInt64 (0 : Int64) (2 : Int64)) my_X10_in wd242 rfl rfl (Nat.le_of_ble_eq_true rfl) ⟨Nat.le_of_ble_eq_true rfl, Nat.le_of_ble_eq_true rfl⟩ ⟨Nat.le_of_ble_eq_true rfl, Nat.le_of_ble_eq_true rfl⟩ dX10_image_11 (fun r5 L4 f3 H locs hp hH => ?_)
  obtain ⟨er5, rfl, rfl⟩ := hp
  subst er5
  refine lv_if_ne (tgt := 20) hx hb dX10_image_14 (by decide) (fun c6 => ?_) (fun c6 => ?_)
  · skip
    refine lv_aload_n hx hb dX10_image_20 rfl (lv_at hl 0 rfl) ?_
    refine lv_iconst (v := (0 : Int32)) hx hb dX10_image_21 (by decide) ?_
    refine lv_iconst (v := (1 : Int32)) hx hb dX10_image_22 (by decide) ?_
    refine lv_iload_n hx hb dX10_image_23 rfl (lv_at hl 1 rfl) ?_
    refine lv_iadd hx hb dX10_image_24 ?_
    refine lv_topi (fun z7 ez7 => ?_)
    obtain ⟨j, hj, ej⟩ := vp_in_of (gIn_in2 c6) (by decide)
    have hz9 : z7 = nI (1 + j) := by rw [ez7, ej, show (1 : Int32) = nI 1 from rfl, nI_add]
    subst hz9
    have h8 : f1 (ya 16) = .inl (E.2.2 1, 5, .inl v_lines) := ((congrFun ef1 (ya 16)).trans (va_up_ne _ _ (g_neAO f_lines fy))).trans f_lines
    have h9 : f1 (ya 17) = .inl (E.2.2 1, 45, .inl v_has) := ((congrFun ef1 (ya 17)).trans (va_up_ne _ _ (g_neAO f_has fy))).trans f_has
    have h10 : f1 (ya 18) = .inl (E.2.2 1, 60, .inl v_flight) := ((congrFun ef1 (ya 18)).trans (va_up_ne _ _ (g_neAO f_flight fy))).trans f_flight
    have h11 : f1 (ya 19) = .inl (E.2.2 1, 90, .inl v_member) := ((congrFun ef1 (ya 19)).trans (va_up_ne _ _ (g_neAO f_member fy))).trans f_member
    have h12 : f1 (ya 20) = .inl (E.2.2 1, 600, .inl v_act) := ((congrFun ef1 (ya 20)).trans (va_up_ne _ _ (g_neAO f_act fy))).trans f_act
    refine g_Vv C hl.1 hA hH (As := [.int (0 : Int32), .int (nI (1 + j))]) (rest := []) (m_copyLand l E L f1 my h2 m_lines h8 m_has h9 m_flight h10 m_member h11 m_act h12 z_lines z_has z_flight z_member z_act 0 (1 + j) (by omega) (by omega)) my_X10_copyLand wd329 my h2 rfl rfl rfl (Nat.le_of_ble_eq_true rfl) ⟨Nat.le_of_ble_eq_true rfl, Nat.le_of_ble_eq_true rfl⟩ ⟨Nat.le_of_ble_eq_true rfl, Nat.le_of_ble_eq_true rfl⟩ dX10_image_25 (fun L14 f13 H locs hp hH => ?_)
    obtain ⟨rfl, ⟨v15, h16, h17⟩, k18⟩ := hp
    refine lv_aload_n hx hb dX10_image_28 rfl (lv_at hl 0 rfl) ?_
    have h19 : f13 y = .inr (10, [.int (0 : Int32), .ref (ya 1), .ref (ya 2), .ref (ya 3), .ref (ya 4), .ref (ya 5), .int (0 : Int32), .int (0 : Int32), .int (0 : Int32), .int (0 : Int32), .int (0 : Int32), .long (0 : Int64), .int (0 : Int32), .int (0 : Int32), .int (0 : Int32), .int (-1 : Int32), .ref (ya 16), .ref (ya 17), .ref (ya 18), .ref (ya 19), .ref (ya 20), .ref (ya 21), .int (0 : Int32), .int (0 : Int32), .int (0 : Int32), .ref (ya 25), .ref (ya 26), .ref (ya 27), .ref (ya 28), .ref (ya 29), .ref (ya 30), .ref (ya 31), .ref (ya 32), .ref (ya 33), .ref (ya 34), .ref (ya 35), .int (0 : Int32), .int (0 : Int32), .ref (ya 38), .int (0 : Int32), .int (0 : Int32), .ref (ya 41), .ref (ya 42), .int (0 : Int32), .int (0 : Int32), .int (0 : Int32), .int (0 : Int32), .int (0 : Int32)]) := (k18 y (g_neOA h2 h8) (g_neOA h2 h9) (g_neOA h2 h10) (g_neOA h2 h11) (g_neOA h2 h12)).trans h2
    refine g_get C hH my h19 iX10 rfl 21 (by decide) wd317 rfl rfl dX10_image_29 ?_
    refine lv_iload_n hx hb dX10_image_32 rfl (lv_at hl 1 rfl) ?_
    refine lv_iconst (v := (1 : Int32)) hx hb dX10_image_33 (by decide) ?_
    have h20 : f1 (ya 21) = .inl (E.2.2 3, 3, .inl (fun _ => 0)) := ((congrFun ef1 (ya 21)).trans (va_up_ne _ _ (g_neAO f_z fy))).trans f_z
    have h21 : f13 (ya 21) = .inl (E.2.2 3, 3, .inl (fun _ => 0)) := (k18 (ya 21) (g_neN h20 h8 (by decide)) (g_neN h20 h9 (by decide)) (g_neN h20 h10 (by decide)) (g_neN h20 h11 (by decide)) (g_neN h20 h12 (by decide))).trans h20
    refine g_zast C hH m_z h21 (gIn_in2 c6) dX10_image_34 (fun H locs hH => ?_)
    obtain ⟨f22, ef22⟩ : ∃ z : gF, z = va_up f13 (ya 21) (.inl (E.2.2 3, 3, .inl (upd (fun _ => 0) (p0).toNatClampNeg (vp_nar .boolean ((1 : Int32)))))) := ⟨_, rfl⟩
    have hH : gH E A L f22 s.heap H locs := by rw [ef22]; exact hH
    have h23 : f22 (ya 21) = .inl (E.2.2 3, 3, .inl (upd (fun _ => 0) (p0).toNatClampNeg (vp_nar .boolean ((1 : Int32))))) := (congrFun ef22 (ya 21)).trans (va_up_self _ _ _)
    refine lv_iconst (v := (0 : Int32)) hx hb dX10_image_35 (by decide) ?_
    refine g_iret C hr hH (Nat.le_of_ble_eq_true rfl) (Nat.le_of_ble_eq_true rfl) dX10_image_36 ?_
    exact gIn_image1 c6
  · skip
    refine lv_bipush (v := (-2 : Int32)) hx hb dX10_image_17 (by decide) ?_
    refine g_iret C hr hH (Nat.le_of_ble_eq_true rfl) (Nat.le_of_ble_eq_true rfl) dX10_image_19 ?_
    exact gIn_image0 c6
set_option maxHeartbeats 4000000 in
set_option maxRecDepth 100000 in
theorem m_tells (l : Launch) (E : gE) (L : List Nat) (f : gF) {bp : Int32} {y : Nat} {ya : Nat → Nat} (my : y ∈ L) (fy : f y = .inr (10, [.int (0 : Int32), .ref (ya 1), .ref (ya 2), .ref (ya 3), .ref (ya 4), .ref (ya 5), .int (0 : Int32), .int (0 : Int32), .int (0 : Int32), .int (0 : Int32), .int (0 : Int32), .long (0 : Int64), .int (0 : Int32), .int bp, .int (0 : Int32), .int (-1 : Int32), .ref (ya 16), .ref (ya 17), .ref (ya 18), .ref (ya 19), .ref (ya 20), .ref (ya 21), .int (0 : Int32), .int (0 : Int32), .int (0 : Int32), .ref (ya 25), .ref (ya 26), .ref (ya 27), .ref (ya 28), .ref (ya 29), .ref (ya 30), .ref (ya 31), .ref (ya 32), .ref (ya 33), .ref (ya 34), .ref (ya 35), .int (0 : Int32), .int (0 : Int32), .ref (ya 38), .int (0 : Int32), .int (0 : Int32), .ref (ya 41), .ref (ya 42), .int (0 : Int32), .int (0 : Int32), .int (0 : Int32), .int (0 : Int32), .int (0 : Int32)])) {v_has : Nat → Int32} (m_has : (ya 17) ∈ L) (f_has : f (ya 17) = .inl (E.2.2 1, 45, .inl v_has)) (z_has : ∀ i, v_has i = 0) (p0 : Int32) (h0 : vp_in ((36 : Int32) + p0) 45) : gMv l E yX10_tells cX10_tells 3 (gRm 1 0 0) [.ref y, .int p0, .int (0 : Int32)] L f (fun L1 f1 => L = L1 ∧ (∃ z, f1 (ya 17) = .inl (E.2.2 1, 45, .inl z) ∧ ∀ i, z i = 0) ∧ ∀ b, b ≠ (ya 17) → f1 b = f b) := by
  refine gMv.intro (by decide) (Nat.le_of_ble_eq_true rfl) ?_
  intro p e s m below meth c A ls C hr hnm hA hH hl
  have C : gC E cX10_tells 3 RX10 p s m _ meth c := C
  have hl : lv_has ls 3 [(0, .ref y), (1, .int p0), (2, .int (0 : Int32))] := hl
  have hx := C.1
  have hb := C.2.1
  refine lv_aload_n hx hb dX10_tells_0 rfl (lv_at hl 0 rfl) ?_
  refine g_get C hH my fy iX10 rfl 17 (by decide) wd246 rfl rfl dX10_tells_1 ?_
  refine lv_bipush (v := (36 : Int32)) hx hb dX10_tells_4 (by decide) ?_
  refine lv_iload_n hx hb dX10_tells_6 rfl (lv_at hl 1 rfl) ?_
  refine lv_iadd hx hb dX10_tells_7 ?_
  refine lv_topi (fun z1 ez1 => ?_)
  refine lv_iload_n hx hb dX10_tells_8 rfl (lv_at hl 2 rfl) ?_
  refine g_iast C hH m_has f_has (by rw [ez1]; exact h0) dX10_tells_9 (fun H locs hH => ?_)
  obtain ⟨f2, ef2⟩ : ∃ z : gF, z = va_up f (ya 17) (.inl (E.2.2 1, 45, .inl (upd v_has (z1).toNatClampNeg ((0 : Int32))))) := ⟨_, rfl⟩
  have hH : gH E A L f2 s.heap H locs := by rw [ef2]; exact hH
  have h3 : f2 (ya 17) = .inl (E.2.2 1, 45, .inl (upd v_has (z1).toNatClampNeg ((0 : Int32)))) := (congrFun ef2 (ya 17)).trans (va_up_self _ _ _)
  refine g_vret C hr hH (Nat.le_of_ble_eq_true rfl) (Nat.le_of_ble_eq_true rfl) dX10_tells_10 ?_
  exact ⟨rfl, ⟨_, h3, (g_updz z_has _)⟩, fun b h1 => by rw [ef2, va_up_ne _ _ h1]⟩
set_option maxHeartbeats 4000000 in
set_option maxRecDepth 100000 in
theorem m_clears (l : Launch) (E : gE) (L : List Nat) (f : gF) {bp : Int32} {y : Nat} {ya : Nat → Nat} (my : y ∈ L) (fy : f y = .inr (10, [.int (0 : Int32), .ref (ya 1), .ref (ya 2), .ref (ya 3), .ref (ya 4), .ref (ya 5), .int (0 : Int32), .int (0 : Int32), .int (0 : Int32), .int (0 : Int32), .int (0 : Int32), .long (0 : Int64), .int (0 : Int32), .int bp, .int (0 : Int32), .int (-1 : Int32), .ref (ya 16), .ref (ya 17), .ref (ya 18), .ref (ya 19), .ref (ya 20), .ref (ya 21), .int (0 : Int32), .int (0 : Int32), .int (0 : Int32), .ref (ya 25), .ref (ya 26), .ref (ya 27), .ref (ya 28), .ref (ya 29), .ref (ya 30), .ref (ya 31), .ref (ya 32), .ref (ya 33), .ref (ya 34), .ref (ya 35), .int (0 : Int32), .int (0 : Int32), .ref (ya 38), .int (0 : Int32), .int (0 : Int32), .ref (ya 41), .ref (ya 42), .int (0 : Int32), .int (0 : Int32), .int (0 : Int32), .int (0 : Int32), .int (0 : Int32)])) {v_lines v_has : Nat → Int32} (m_lines : (ya 16) ∈ L) (f_lines : f (ya 16) = .inl (E.2.2 1, 5, .inl v_lines)) (m_has : (ya 17) ∈ L) (f_has : f (ya 17) = .inl (E.2.2 1, 45, .inl v_has)) (z_lines : ∀ i, v_lines i = 0) (z_has : ∀ i, v_has i = 0) : gMv l E yX10_clears cX10_clears 2 (gRm 2 0 0) [.ref y] L f (fun L1 f1 => L = L1 ∧ (∃ z, f1 (ya 16) = .inl (E.2.2 1, 5, .inl z) ∧ ∀ i, z i = 0) ∧ (∃ z, f1 (ya 17) = .inl (E.2.2 1, 45, .inl z) ∧ ∀ i, z i = 0) ∧ ∀ b, b ≠ (ya 16) → b ≠ (ya 17) → f1 b = f b) := by
  refine gMv.intro (by decide) (Nat.le_of_ble_eq_true rfl) ?_
  intro p e s m below meth c A ls C hr hnm hA hH hl
  have C : gC E cX10_clears 2 RX10 p s m _ meth c := C
  have hl : lv_has ls 2 [(0, .ref y)] := hl
  have hx := C.1
  have hb := C.2.1
  refine lv_aload_n hx hb dX10_clears_0 rfl (lv_at hl 0 rfl) ?_
  refine g_get C hH my fy iX10 rfl 16 (by decide) wd245 rfl rfl dX10_clears_1 ?_
  refine lv_iconst (v := (4 : Int32)) hx hb dX10_clears_4 (by decide) ?_
  refine lv_iconst (v := (0 : Int32)) hx hb dX10_clears_5 (by decide) ?_
  refine g_iast C hH m_lines f_lines (vp_inL (by decide)) dX10_clears_6 (fun H locs hH => ?_)
  obtain ⟨f1, ef1⟩ : ∃ z : gF, z = va_up f (ya 16) (.inl (E.2.2 1, 5, .inl (upd v_lines ((4 : Int32)).toNatClampNeg ((0 : Int32))))) := ⟨_, rfl⟩
  have hH : gH E A L f1 s.heap H locs := by rw [ef1]; exact hH
  have h2 : f1 (ya 16) = .inl (E.2.2 1, 5, .inl (upd v_lines ((4 : Int32)).toNatClampNeg ((0 : Int32)))) := (congrFun ef1 (ya 16)).trans (va_up_self _ _ _)
  refine lv_iconst (v := (0 : Int32)) hx hb dX10_clears_7 (by decide) ?_
  refine lv_istore_n (lv' := [(1, .int (0 : Int32)), (0, .ref y)]) hx hb dX10_clears_8 rfl hl (by decide) rfl (fun ls hl => ?_)
  refine lv_iload_n hx hb dX10_clears_9 rfl (lv_at hl 0 rfl) ?_
  refine lv_bipush (v := (9 : Int32)) hx hb dX10_clears_10 (by decide) ?_
  refine lv_icmp_ge (tgt := 27) hx hb dX10_clears_12 (by decide) (fun h => absurd h (by decide)) (fun _ => ?_)
  refine lv_aload_n hx hb dX10_clears_15 rfl (lv_at hl 1 rfl) ?_
  refine lv_iload_n hx hb dX10_clears_16 rfl (lv_at hl 0 rfl) ?_
  refine lv_iconst (v := (0 : Int32)) hx hb dX10_clears_17 (by decide) ?_
  have h3 : f1 y = .inr (10, [.int (0 : Int32), .ref (ya 1), .ref (ya 2), .ref (ya 3), .ref (ya 4), .ref (ya 5), .int (0 : Int32), .int (0 : Int32), .int (0 : Int32), .int (0 : Int32), .int (0 : Int32), .long (0 : Int64), .int (0 : Int32), .int bp, .int (0 : Int32), .int (-1 : Int32), .ref (ya 16), .ref (ya 17), .ref (ya 18), .ref (ya 19), .ref (ya 20), .ref (ya 21), .int (0 : Int32), .int (0 : Int32), .int (0 : Int32), .ref (ya 25), .ref (ya 26), .ref (ya 27), .ref (ya 28), .ref (ya 29), .ref (ya 30), .ref (ya 31), .ref (ya 32), .ref (ya 33), .ref (ya 34), .ref (ya 35), .int (0 : Int32), .int (0 : Int32), .ref (ya 38), .int (0 : Int32), .int (0 : Int32), .ref (ya 41), .ref (ya 42), .int (0 : Int32), .int (0 : Int32), .int (0 : Int32), .int (0 : Int32), .int (0 : Int32)]) := ((congrFun ef1 y).trans (va_up_ne _ _ (g_neOA fy f_lines))).trans fy
  have h4 : f1 (ya 17) = .inl (E.2.2 1, 45, .inl v_has) := ((congrFun ef1 (ya 17)).trans (va_up_ne _ _ (g_neN f_has f_lines (by decide)))).trans f_has
  refine g_Vv C hl.1 hA hH (As := [.int (0 : Int32), .int (0 : Int32)]) (rest := []) (m_tells l E L f1 my h3 m_has h4 z_has (0 : Int32) (vp_inL (by decide))) my_X10_tells wd333 my h3 rfl rfl rfl (Nat.le_of_ble_eq_true rfl) ⟨Nat.le_of_ble_eq_true rfl, Nat.le_of_ble_eq_true rfl⟩ ⟨Nat.le_of_ble_eq_true rfl, Nat.le_of_ble_eq_true rfl⟩ dX10_clears_18 (fun L6 f5 H locs hp hH => ?_)
  obtain ⟨rfl, ⟨v7, h8, h9⟩, k10⟩ := hp
  refine lv_iinc (v := (1 : Int32)) (lv' := [(1, .int (1 : Int32)), (0, .ref y)]) hx hb dX10_clears_21 hl (k := 0) rfl (by decide) (by decide) rfl (fun ls hl => ?_)
  refine lv_goto (tgt := 9) hx hb dX10_clears_24 (by decide) ?_
  refine lv_iload_n hx hb dX10_clears_9 rfl (lv_at hl 0 rfl) ?_
  refine lv_bipush (v := (9 : Int32)) hx hb dX10_clears_10 (by decide) ?_
  refine lv_icmp_ge (tgt := 27) hx hb dX10_clears_12 (by decide) (fun h => absurd h (by decide)) (fun _ => ?_)
  refine lv_aload_n hx hb dX10_clears_15 rfl (lv_at hl 1 rfl) ?_
  refine lv_iload_n hx hb dX10_clears_16 rfl (lv_at hl 0 rfl) ?_
  refine lv_iconst (v := (0 : Int32)) hx hb dX10_clears_17 (by decide) ?_
  have h11 : f5 y = .inr (10, [.int (0 : Int32), .ref (ya 1), .ref (ya 2), .ref (ya 3), .ref (ya 4), .ref (ya 5), .int (0 : Int32), .int (0 : Int32), .int (0 : Int32), .int (0 : Int32), .int (0 : Int32), .long (0 : Int64), .int (0 : Int32), .int bp, .int (0 : Int32), .int (-1 : Int32), .ref (ya 16), .ref (ya 17), .ref (ya 18), .ref (ya 19), .ref (ya 20), .ref (ya 21), .int (0 : Int32), .int (0 : Int32), .int (0 : Int32), .ref (ya 25), .ref (ya 26), .ref (ya 27), .ref (ya 28), .ref (ya 29), .ref (ya 30), .ref (ya 31), .ref (ya 32), .ref (ya 33), .ref (ya 34), .ref (ya 35), .int (0 : Int32), .int (0 : Int32), .ref (ya 38), .int (0 : Int32), .int (0 : Int32), .ref (ya 41), .ref (ya 42), .int (0 : Int32), .int (0 : Int32), .int (0 : Int32), .int (0 : Int32), .int (0 : Int32)]) := (k10 y (g_neOA h3 h4)).trans h3
  refine g_Vv C hl.1 hA hH (As := [.int (1 : Int32), .int (0 : Int32)]) (rest := []) (m_tells l E L f5 my h11 m_has h8 h9 (1 : Int32) (vp_inL (by decide))) my_X10_tells wd333 my h11 rfl rfl rfl (Nat.le_of_ble_eq_true rfl) ⟨Nat.le_of_ble_eq_true rfl, Nat.le_of_ble_eq_true rfl⟩ ⟨Nat.le_of_ble_eq_true rfl, Nat.le_of_ble_eq_true rfl⟩ dX10_clears_18 (fun L13 f12 H locs hp hH => ?_)
  obtain ⟨rfl, ⟨v14, h15, h16⟩, k17⟩ := hp
  refine lv_iinc (v := (2 : Int32)) (lv' := [(1, .int (2 : Int32)), (0, .ref y)]) hx hb dX10_clears_21 hl (k := 0) rfl (by decide) (by decide) rfl (fun ls hl => ?_)
  refine lv_goto (tgt := 9) hx hb dX10_clears_24 (by decide) ?_
  refine lv_iload_n hx hb dX10_clears_9 rfl (lv_at hl 0 rfl) ?_
  refine lv_bipush (v := (9 : Int32)) hx hb dX10_clears_10 (by decide) ?_
  refine lv_icmp_ge (tgt := 27) hx hb dX10_clears_12 (by decide) (fun h => absurd h (by decide)) (fun _ => ?_)
  refine lv_aload_n hx hb dX10_clears_15 rfl (lv_at hl 1 rfl) ?_
  refine lv_iload_n hx hb dX10_clears_16 rfl (lv_at hl 0 rfl) ?_
  refine lv_iconst (v := (0 : Int32)) hx hb dX10_clears_17 (by decide) ?_
  have h18 : f12 y = .inr (10, [.int (0 : Int32), .ref (ya 1), .ref (ya 2), .ref (ya 3), .ref (ya 4), .ref (ya 5), .int (0 : Int32), .int (0 : Int32), .int (0 : Int32), .int (0 : Int32), .int (0 : Int32), .long (0 : Int64), .int (0 : Int32), .int bp, .int (0 : Int32), .int (-1 : Int32), .ref (ya 16), .ref (ya 17), .ref (ya 18), .ref (ya 19), .ref (ya 20), .ref (ya 21), .int (0 : Int32), .int (0 : Int32), .int (0 : Int32), .ref (ya 25), .ref (ya 26), .ref (ya 27), .ref (ya 28), .ref (ya 29), .ref (ya 30), .ref (ya 31), .ref (ya 32), .ref (ya 33), .ref (ya 34), .ref (ya 35), .int (0 : Int32), .int (0 : Int32), .ref (ya 38), .int (0 : Int32), .int (0 : Int32), .ref (ya 41), .ref (ya 42), .int (0 : Int32), .int (0 : Int32), .int (0 : Int32), .int (0 : Int32), .int (0 : Int32)]) := (k17 y (g_neOA h11 h8)).trans h11
  refine g_Vv C hl.1 hA hH (As := [.int (2 : Int32), .int (0 : Int32)]) (rest := []) (m_tells l E L f12 my h18 m_has h15 h16 (2 : Int32) (vp_inL (by decide))) my_X10_tells wd333 my h18 rfl rfl rfl (Nat.le_of_ble_eq_true rfl) ⟨Nat.le_of_ble_eq_true rfl, Nat.le_of_ble_eq_true rfl⟩ ⟨Nat.le_of_ble_eq_true rfl, Nat.le_of_ble_eq_true rfl⟩ dX10_clears_18 (fun L20 f19 H locs hp hH => ?_)
  obtain ⟨rfl, ⟨v21, h22, h23⟩, k24⟩ := hp
  refine lv_iinc (v := (3 : Int32)) (lv' := [(1, .int (3 : Int32)), (0, .ref y)]) hx hb dX10_clears_21 hl (k := 0) rfl (by decide) (by decide) rfl (fun ls hl => ?_)
  refine lv_goto (tgt := 9) hx hb dX10_clears_24 (by decide) ?_
  refine lv_iload_n hx hb dX10_clears_9 rfl (lv_at hl 0 rfl) ?_
  refine lv_bipush (v := (9 : Int32)) hx hb dX10_clears_10 (by decide) ?_
  refine lv_icmp_ge (tgt := 27) hx hb dX10_clears_12 (by decide) (fun h => absurd h (by decide)) (fun _ => ?_)
  refine lv_aload_n hx hb dX10_clears_15 rfl (lv_at hl 1 rfl) ?_
  refine lv_iload_n hx hb dX10_clears_16 rfl (lv_at hl 0 rfl) ?_
  refine lv_iconst (v := (0 : Int32)) hx hb dX10_clears_17 (by decide) ?_
  have h25 : f19 y = .inr (10, [.int (0 : Int32), .ref (ya 1), .ref (ya 2), .ref (ya 3), .ref (ya 4), .ref (ya 5), .int (0 : Int32), .int (0 : Int32), .int (0 : Int32), .int (0 : Int32), .int (0 : Int32), .long (0 : Int64), .int (0 : Int32), .int bp, .int (0 : Int32), .int (-1 : Int32), .ref (ya 16), .ref (ya 17), .ref (ya 18), .ref (ya 19), .ref (ya 20), .ref (ya 21), .int (0 : Int32), .int (0 : Int32), .int (0 : Int32), .ref (ya 25), .ref (ya 26), .ref (ya 27), .ref (ya 28), .ref (ya 29), .ref (ya 30), .ref (ya 31), .ref (ya 32), .ref (ya 33), .ref (ya 34), .ref (ya 35), .int (0 : Int32), .int (0 : Int32), .ref (ya 38), .int (0 : Int32), .int (0 : Int32), .ref (ya 41), .ref (ya 42), .int (0 : Int32), .int (0 : Int32), .int (0 : Int32), .int (0 : Int32), .int (0 : Int32)]) := (k24 y (g_neOA h18 h15)).trans h18
  refine g_Vv C hl.1 hA hH (As := [.int (3 : Int32), .int (0 : Int32)]) (rest := []) (m_tells l E L f19 my h25 m_has h22 h23 (3 : Int32) (vp_inL (by decide))) my_X10_tells wd333 my h25 rfl rfl rfl (Nat.le_of_ble_eq_true rfl) ⟨Nat.le_of_ble_eq_true rfl, Nat.le_of_ble_eq_true rfl⟩ ⟨Nat.le_of_ble_eq_true rfl, Nat.le_of_ble_eq_true rfl⟩ dX10_clears_18 (fun L27 f26 H locs hp hH => ?_)
  obtain ⟨rfl, ⟨v28, h29, h30⟩, k31⟩ := hp
  refine lv_iinc (v := (4 : Int32)) (lv' := [(1, .int (4 : Int32)), (0, .ref y)]) hx hb dX10_clears_21 hl (k := 0) rfl (by decide) (by decide) rfl (fun ls hl => ?_)
  refine lv_goto (tgt := 9) hx hb dX10_clears_24 (by decide) ?_
  refine lv_iload_n hx hb dX10_clears_9 rfl (lv_at hl 0 rfl) ?_
  refine lv_bipush (v := (9 : Int32)) hx hb dX10_clears_10 (by decide) ?_
  refine lv_icmp_ge (tgt := 27) hx hb dX10_clears_12 (by decide) (fun h => absurd h (by decide)) (fun _ => ?_)
  refine lv_aload_n hx hb dX10_clears_15 rfl (lv_at hl 1 rfl) ?_
  refine lv_iload_n hx hb dX10_clears_16 rfl (lv_at hl 0 rfl) ?_
  refine lv_iconst (v := (0 : Int32)) hx hb dX10_clears_17 (by decide) ?_
  have h32 : f26 y = .inr (10, [.int (0 : Int32), .ref (ya 1), .ref (ya 2), .ref (ya 3), .ref (ya 4), .ref (ya 5), .int (0 : Int32), .int (0 : Int32), .int (0 : Int32), .int (0 : Int32), .int (0 : Int32), .long (0 : Int64), .int (0 : Int32), .int bp, .int (0 : Int32), .int (-1 : Int32), .ref (ya 16), .ref (ya 17), .ref (ya 18), .ref (ya 19), .ref (ya 20), .ref (ya 21), .int (0 : Int32), .int (0 : Int32), .int (0 : Int32), .ref (ya 25), .ref (ya 26), .ref (ya 27), .ref (ya 28), .ref (ya 29), .ref (ya 30), .ref (ya 31), .ref (ya 32), .ref (ya 33), .ref (ya 34), .ref (ya 35), .int (0 : Int32), .int (0 : Int32), .ref (ya 38), .int (0 : Int32), .int (0 : Int32), .ref (ya 41), .ref (ya 42), .int (0 : Int32), .int (0 : Int32), .int (0 : Int32), .int (0 : Int32), .int (0 : Int32)]) := (k31 y (g_neOA h25 h22)).trans h25
  refine g_Vv C hl.1 hA hH (As := [.int (4 : Int32), .int (0 : Int32)]) (rest := []) (m_tells l E L f26 my h32 m_has h29 h30 (4 : Int32) (vp_inL (by decide))) my_X10_tells wd333 my h32 rfl rfl rfl (Nat.le_of_ble_eq_true rfl) ⟨Nat.le_of_ble_eq_true rfl, Nat.le_of_ble_eq_true rfl⟩ ⟨Nat.le_of_ble_eq_true rfl, Nat.le_of_ble_eq_true rfl⟩ dX10_clears_18 (fun L34 f33 H locs hp hH => ?_)
  obtain ⟨rfl, ⟨v35, h36, h37⟩, k38⟩ := hp
  refine lv_iinc (v := (5 : Int32)) (lv' := [(1, .int (5 : Int32)), (0, .ref y)]) hx hb dX10_clears_21 hl (k := 0) rfl (by decide) (by decide) rfl (fun ls hl => ?_)
  refine lv_goto (tgt := 9) hx hb dX10_clears_24 (by decide) ?_
  refine lv_iload_n hx hb dX10_clears_9 rfl (lv_at hl 0 rfl) ?_
  refine lv_bipush (v := (9 : Int32)) hx hb dX10_clears_10 (by decide) ?_
  refine lv_icmp_ge (tgt := 27) hx hb dX10_clears_12 (by decide) (fun h => absurd h (by decide)) (fun _ => ?_)
  refine lv_aload_n hx hb dX10_clears_15 rfl (lv_at hl 1 rfl) ?_
  refine lv_iload_n hx hb dX10_clears_16 rfl (lv_at hl 0 rfl) ?_
  refine lv_iconst (v := (0 : Int32)) hx hb dX10_clears_17 (by decide) ?_
  have h39 : f33 y = .inr (10, [.int (0 : Int32), .ref (ya 1), .ref (ya 2), .ref (ya 3), .ref (ya 4), .ref (ya 5), .int (0 : Int32), .int (0 : Int32), .int (0 : Int32), .int (0 : Int32), .int (0 : Int32), .long (0 : Int64), .int (0 : Int32), .int bp, .int (0 : Int32), .int (-1 : Int32), .ref (ya 16), .ref (ya 17), .ref (ya 18), .ref (ya 19), .ref (ya 20), .ref (ya 21), .int (0 : Int32), .int (0 : Int32), .int (0 : Int32), .ref (ya 25), .ref (ya 26), .ref (ya 27), .ref (ya 28), .ref (ya 29), .ref (ya 30), .ref (ya 31), .ref (ya 32), .ref (ya 33), .ref (ya 34), .ref (ya 35), .int (0 : Int32), .int (0 : Int32), .ref (ya 38), .int (0 : Int32), .int (0 : Int32), .ref (ya 41), .ref (ya 42), .int (0 : Int32), .int (0 : Int32), .int (0 : Int32), .int (0 : Int32), .int (0 : Int32)]) := (k38 y (g_neOA h32 h29)).trans h32
  refine g_Vv C hl.1 hA hH (As := [.int (5 : Int32), .int (0 : Int32)]) (rest := []) (m_tells l E L f33 my h39 m_has h36 h37 (5 : Int32) (vp_inL (by decide))) my_X10_tells wd333 my h39 rfl rfl rfl (Nat.le_of_ble_eq_true rfl) ⟨Nat.le_of_ble_eq_true rfl, Nat.le_of_ble_eq_true rfl⟩ ⟨Nat.le_of_ble_eq_true rfl, Nat.le_of_ble_eq_true rfl⟩ dX10_clears_18 (fun L41 f40 H locs hp hH => ?_)
  obtain ⟨rfl, ⟨v42, h43, h44⟩, k45⟩ := hp
  refine lv_iinc (v := (6 : Int32)) (lv' := [(1, .int (6 : Int32)), (0, .ref y)]) hx hb dX10_clears_21 hl (k := 0) rfl (by decide) (by decide) rfl (fun ls hl => ?_)
  refine lv_goto (tgt := 9) hx hb dX10_clears_24 (by decide) ?_
  refine lv_iload_n hx hb dX10_clears_9 rfl (lv_at hl 0 rfl) ?_
  refine lv_bipush (v := (9 : Int32)) hx hb dX10_clears_10 (by decide) ?_
  refine lv_icmp_ge (tgt := 27) hx hb dX10_clears_12 (by decide) (fun h => absurd h (by decide)) (fun _ => ?_)
  refine lv_aload_n hx hb dX10_clears_15 rfl (lv_at hl 1 rfl) ?_
  refine lv_iload_n hx hb dX10_clears_16 rfl (lv_at hl 0 rfl) ?_
  refine lv_iconst (v := (0 : Int32)) hx hb dX10_clears_17 (by decide) ?_
  have h46 : f40 y = .inr (10, [.int (0 : Int32), .ref (ya 1), .ref (ya 2), .ref (ya 3), .ref (ya 4), .ref (ya 5), .int (0 : Int32), .int (0 : Int32), .int (0 : Int32), .int (0 : Int32), .int (0 : Int32), .long (0 : Int64), .int (0 : Int32), .int bp, .int (0 : Int32), .int (-1 : Int32), .ref (ya 16), .ref (ya 17), .ref (ya 18), .ref (ya 19), .ref (ya 20), .ref (ya 21), .int (0 : Int32), .int (0 : Int32), .int (0 : Int32), .ref (ya 25), .ref (ya 26), .ref (ya 27), .ref (ya 28), .ref (ya 29), .ref (ya 30), .ref (ya 31), .ref (ya 32), .ref (ya 33), .ref (ya 34), .ref (ya 35), .int (0 : Int32), .int (0 : Int32), .ref (ya 38), .int (0 : Int32), .int (0 : Int32), .ref (ya 41), .ref (ya 42), .int (0 : Int32), .int (0 : Int32), .int (0 : Int32), .int (0 : Int32), .int (0 : Int32)]) := (k45 y (g_neOA h39 h36)).trans h39
  refine g_Vv C hl.1 hA hH (As := [.int (6 : Int32), .int (0 : Int32)]) (rest := []) (m_tells l E L f40 my h46 m_has h43 h44 (6 : Int32) (vp_inL (by decide))) my_X10_tells wd333 my h46 rfl rfl rfl (Nat.le_of_ble_eq_true rfl) ⟨Nat.le_of_ble_eq_true rfl, Nat.le_of_ble_eq_true rfl⟩ ⟨Nat.le_of_ble_eq_true rfl, Nat.le_of_ble_eq_true rfl⟩ dX10_clears_18 (fun L48 f47 H locs hp hH => ?_)
  obtain ⟨rfl, ⟨v49, h50, h51⟩, k52⟩ := hp
  refine lv_iinc (v := (7 : Int32)) (lv' := [(1, .int (7 : Int32)), (0, .ref y)]) hx hb dX10_clears_21 hl (k := 0) rfl (by decide) (by decide) rfl (fun ls hl => ?_)
  refine lv_goto (tgt := 9) hx hb dX10_clears_24 (by decide) ?_
  refine lv_iload_n hx hb dX10_clears_9 rfl (lv_at hl 0 rfl) ?_
  refine lv_bipush (v := (9 : Int32)) hx hb dX10_clears_10 (by decide) ?_
  refine lv_icmp_ge (tgt := 27) hx hb dX10_clears_12 (by decide) (fun h => absurd h (by decide)) (fun _ => ?_)
  refine lv_aload_n hx hb dX10_clears_15 rfl (lv_at hl 1 rfl) ?_
  refine lv_iload_n hx hb dX10_clears_16 rfl (lv_at hl 0 rfl) ?_
  refine lv_iconst (v := (0 : Int32)) hx hb dX10_clears_17 (by decide) ?_
  have h53 : f47 y = .inr (10, [.int (0 : Int32), .ref (ya 1), .ref (ya 2), .ref (ya 3), .ref (ya 4), .ref (ya 5), .int (0 : Int32), .int (0 : Int32), .int (0 : Int32), .int (0 : Int32), .int (0 : Int32), .long (0 : Int64), .int (0 : Int32), .int bp, .int (0 : Int32), .int (-1 : Int32), .ref (ya 16), .ref (ya 17), .ref (ya 18), .ref (ya 19), .ref (ya 20), .ref (ya 21), .int (0 : Int32), .int (0 : Int32), .int (0 : Int32), .ref (ya 25), .ref (ya 26), .ref (ya 27), .ref (ya 28), .ref (ya 29), .ref (ya 30), .ref (ya 31), .ref (ya 32), .ref (ya 33), .ref (ya 34), .ref (ya 35), .int (0 : Int32), .int (0 : Int32), .ref (ya 38), .int (0 : Int32), .int (0 : Int32), .ref (ya 41), .ref (ya 42), .int (0 : Int32), .int (0 : Int32), .int (0 : Int32), .int (0 : Int32), .int (0 : Int32)]) := (k52 y (g_neOA h46 h43)).trans h46
  refine g_Vv C hl.1 hA hH (As := [.int (7 : Int32), .int (0 : Int32)]) (rest := []) (m_tells l E L f47 my h53 m_has h50 h51 (7 : Int32) (vp_inL (by decide))) my_X10_tells wd333 my h53 rfl rfl rfl (Nat.le_of_ble_eq_true rfl) ⟨Nat.le_of_ble_eq_true rfl, Nat.le_of_ble_eq_true rfl⟩ ⟨Nat.le_of_ble_eq_true rfl, Nat.le_of_ble_eq_true rfl⟩ dX10_clears_18 (fun L55 f54 H locs hp hH => ?_)
  obtain ⟨rfl, ⟨v56, h57, h58⟩, k59⟩ := hp
  refine lv_iinc (v := (8 : Int32)) (lv' := [(1, .int (8 : Int32)), (0, .ref y)]) hx hb dX10_clears_21 hl (k := 0) rfl (by decide) (by decide) rfl (fun ls hl => ?_)
  refine lv_goto (tgt := 9) hx hb dX10_clears_24 (by decide) ?_
  refine lv_iload_n hx hb dX10_clears_9 rfl (lv_at hl 0 rfl) ?_
  refine lv_bipush (v := (9 : Int32)) hx hb dX10_clears_10 (by decide) ?_
  refine lv_icmp_ge (tgt := 27) hx hb dX10_clears_12 (by decide) (fun h => absurd h (by decide)) (fun _ => ?_)
  refine lv_aload_n hx hb dX10_clears_15 rfl (lv_at hl 1 rfl) ?_
  refine lv_iload_n hx hb dX10_clears_16 rfl (lv_at hl 0 rfl) ?_
  refine lv_iconst (v := (0 : Int32)) hx hb dX10_clears_17 (by decide) ?_
  have h60 : f54 y = .inr (10, [.int (0 : Int32), .ref (ya 1), .ref (ya 2), .ref (ya 3), .ref (ya 4), .ref (ya 5), .int (0 : Int32), .int (0 : Int32), .int (0 : Int32), .int (0 : Int32), .int (0 : Int32), .long (0 : Int64), .int (0 : Int32), .int bp, .int (0 : Int32), .int (-1 : Int32), .ref (ya 16), .ref (ya 17), .ref (ya 18), .ref (ya 19), .ref (ya 20), .ref (ya 21), .int (0 : Int32), .int (0 : Int32), .int (0 : Int32), .ref (ya 25), .ref (ya 26), .ref (ya 27), .ref (ya 28), .ref (ya 29), .ref (ya 30), .ref (ya 31), .ref (ya 32), .ref (ya 33), .ref (ya 34), .ref (ya 35), .int (0 : Int32), .int (0 : Int32), .ref (ya 38), .int (0 : Int32), .int (0 : Int32), .ref (ya 41), .ref (ya 42), .int (0 : Int32), .int (0 : Int32), .int (0 : Int32), .int (0 : Int32), .int (0 : Int32)]) := (k59 y (g_neOA h53 h50)).trans h53
  refine g_Vv C hl.1 hA hH (As := [.int (8 : Int32), .int (0 : Int32)]) (rest := []) (m_tells l E L f54 my h60 m_has h57 h58 (8 : Int32) (vp_inL (by decide))) my_X10_tells wd333 my h60 rfl rfl rfl (Nat.le_of_ble_eq_true rfl) ⟨Nat.le_of_ble_eq_true rfl, Nat.le_of_ble_eq_true rfl⟩ ⟨Nat.le_of_ble_eq_true rfl, Nat.le_of_ble_eq_true rfl⟩ dX10_clears_18 (fun L62 f61 H locs hp hH => ?_)
  obtain ⟨rfl, ⟨v63, h64, h65⟩, k66⟩ := hp
  refine lv_iinc (v := (9 : Int32)) (lv' := [(1, .int (9 : Int32)), (0, .ref y)]) hx hb dX10_clears_21 hl (k := 0) rfl (by decide) (by decide) rfl (fun ls hl => ?_)
  refine lv_goto (tgt := 9) hx hb dX10_clears_24 (by decide) ?_
  refine lv_iload_n hx hb dX10_clears_9 rfl (lv_at hl 0 rfl) ?_
  refine lv_bipush (v := (9 : Int32)) hx hb dX10_clears_10 (by decide) ?_
  refine lv_icmp_ge (tgt := 27) hx hb dX10_clears_12 (by decide) (fun _ => ?_) (fun h => absurd (by decide) h)
  refine g_vret C hr hH (Nat.le_of_ble_eq_true rfl) (Nat.le_of_ble_eq_true rfl) dX10_clears_27 ?_
  have h67 : f5 (ya 16) = .inl (E.2.2 1, 5, .inl (upd v_lines ((4 : Int32)).toNatClampNeg ((0 : Int32)))) := (k10 (ya 16) (g_neN h2 h4 (by decide))).trans h2
  have h68 : f12 (ya 16) = .inl (E.2.2 1, 5, .inl (upd v_lines ((4 : Int32)).toNatClampNeg ((0 : Int32)))) := (k17 (ya 16) (g_neN h67 h8 (by decide))).trans h67
  have h69 : f19 (ya 16) = .inl (E.2.2 1, 5, .inl (upd v_lines ((4 : Int32)).toNatClampNeg ((0 : Int32)))) := (k24 (ya 16) (g_neN h68 h15 (by decide))).trans h68
  have h70 : f26 (ya 16) = .inl (E.2.2 1, 5, .inl (upd v_lines ((4 : Int32)).toNatClampNeg ((0 : Int32)))) := (k31 (ya 16) (g_neN h69 h22 (by decide))).trans h69
  have h71 : f33 (ya 16) = .inl (E.2.2 1, 5, .inl (upd v_lines ((4 : Int32)).toNatClampNeg ((0 : Int32)))) := (k38 (ya 16) (g_neN h70 h29 (by decide))).trans h70
  have h72 : f40 (ya 16) = .inl (E.2.2 1, 5, .inl (upd v_lines ((4 : Int32)).toNatClampNeg ((0 : Int32)))) := (k45 (ya 16) (g_neN h71 h36 (by decide))).trans h71
  have h73 : f47 (ya 16) = .inl (E.2.2 1, 5, .inl (upd v_lines ((4 : Int32)).toNatClampNeg ((0 : Int32)))) := (k52 (ya 16) (g_neN h72 h43 (by decide))).trans h72
  have h74 : f54 (ya 16) = .inl (E.2.2 1, 5, .inl (upd v_lines ((4 : Int32)).toNatClampNeg ((0 : Int32)))) := (k59 (ya 16) (g_neN h73 h50 (by decide))).trans h73
  have h75 : f61 (ya 16) = .inl (E.2.2 1, 5, .inl (upd v_lines ((4 : Int32)).toNatClampNeg ((0 : Int32)))) := (k66 (ya 16) (g_neN h74 h57 (by decide))).trans h74
  exact ⟨rfl, ⟨_, h75, (g_updz z_lines _)⟩, ⟨_, h64, h65⟩, fun b h1 h2 => by rw [k66 b h2, k59 b h2, k52 b h2, k45 b h2, k38 b h2, k31 b h2, k24 b h2, k17 b h2, k10 b h2, ef1, va_up_ne _ _ h1]⟩
set_option maxHeartbeats 4000000 in
set_option maxRecDepth 100000 in
theorem m_isByte (l : Launch) (E : gE) (L : List Nat) (f : gF) {bp : Int32} {y : Nat} {ya : Nat → Nat} (my : y ∈ L) (fy : f y = .inr (10, [.int (0 : Int32), .ref (ya 1), .ref (ya 2), .ref (ya 3), .ref (ya 4), .ref (ya 5), .int (0 : Int32), .int (0 : Int32), .int (0 : Int32), .int (0 : Int32), .int (0 : Int32), .long (0 : Int64), .int (0 : Int32), .int bp, .int (0 : Int32), .int (-1 : Int32), .ref (ya 16), .ref (ya 17), .ref (ya 18), .ref (ya 19), .ref (ya 20), .ref (ya 21), .int (0 : Int32), .int (0 : Int32), .int (0 : Int32), .ref (ya 25), .ref (ya 26), .ref (ya 27), .ref (ya 28), .ref (ya 29), .ref (ya 30), .ref (ya 31), .ref (ya 32), .ref (ya 33), .ref (ya 34), .ref (ya 35), .int (0 : Int32), .int (0 : Int32), .ref (ya 38), .int (0 : Int32), .int (0 : Int32), .ref (ya 41), .ref (ya 42), .int (0 : Int32), .int (0 : Int32), .int (0 : Int32), .int (0 : Int32), .int (0 : Int32)])) (p1 p2 : Int32) : gMi l E yX10_isByte cX10_isByte 4 .boolean (gRm 1 0 0) [.ref y, .int (0 : Int32), .int p1, .int p2] L f (gRO (0 : Int32) L f) := by
  refine gMi.intro (by decide) (Nat.le_of_ble_eq_true rfl) ?_
  intro p e s m below meth c A ls C hr hA hH hl
  have C : gC E cX10_isByte 4 RX10 p s m _ meth c := C
  have hl : lv_has ls 4 [(0, .ref y), (1, .int (0 : Int32)), (2, .int p1), (3, .int p2)] := hl
  have hx := C.1
  have hb := C.2.1
  refine lv_iload_n hx hb dX10_isByte_0 rfl (lv_at hl 1 rfl) ?_
  refine lv_aload_n hx hb dX10_isByte_1 rfl (lv_at hl 0 rfl) ?_
  refine g_get C hH my fy iX10 rfl 6 (by decide) wd308 rfl rfl dX10_isByte_2 ?_
  refine lv_icmp_ge (tgt := 32) hx hb dX10_isByte_5 (by decide) (fun _ => ?_) (fun h => absurd (by decide) h)
  refine lv_iconst (v := (0 : Int32)) hx hb dX10_isByte_32 (by decide) ?_
  refine g_zret C hr (by first | rfl | decide | (exact rfl)) hH (Nat.le_of_ble_eq_true rfl) (Nat.le_of_ble_eq_true rfl) dX10_isByte_33 ?_
  exact ⟨rfl, rfl, rfl⟩
set_option maxHeartbeats 4000000 in
set_option maxRecDepth 100000 in
theorem m_next (l : Launch) (E : gE) (L : List Nat) (f : gF) {bp : Int32} {y : Nat} {ya : Nat → Nat} (my : y ∈ L) (fy : f y = .inr (10, [.int (0 : Int32), .ref (ya 1), .ref (ya 2), .ref (ya 3), .ref (ya 4), .ref (ya 5), .int (0 : Int32), .int (0 : Int32), .int (0 : Int32), .int (0 : Int32), .int (0 : Int32), .long (0 : Int64), .int (0 : Int32), .int bp, .int (0 : Int32), .int (-1 : Int32), .ref (ya 16), .ref (ya 17), .ref (ya 18), .ref (ya 19), .ref (ya 20), .ref (ya 21), .int (0 : Int32), .int (0 : Int32), .int (0 : Int32), .ref (ya 25), .ref (ya 26), .ref (ya 27), .ref (ya 28), .ref (ya 29), .ref (ya 30), .ref (ya 31), .ref (ya 32), .ref (ya 33), .ref (ya 34), .ref (ya 35), .int (0 : Int32), .int (0 : Int32), .ref (ya 38), .int (0 : Int32), .int (0 : Int32), .ref (ya 41), .ref (ya 42), .int (0 : Int32), .int (0 : Int32), .int (0 : Int32), .int (0 : Int32), .int (0 : Int32)])) : gMv l E yX10_next cX10_next 2 (gRm 2 0 0) [.ref y] L f (fun L1 f1 => L = L1 ∧ f1 y = .inr (10, [.int (0 : Int32), .ref (ya 1), .ref (ya 2), .ref (ya 3), .ref (ya 4), .ref (ya 5), .int (0 : Int32), .int (0 : Int32), .int (0 : Int32), .int (0 : Int32), .int (0 : Int32), .long (0 : Int64), .int (0 : Int32), .int bp, .int (0 : Int32), .int (-1 : Int32), .ref (ya 16), .ref (ya 17), .ref (ya 18), .ref (ya 19), .ref (ya 20), .ref (ya 21), .int (0 : Int32), .int (0 : Int32), .int (0 : Int32), .ref (ya 25), .ref (ya 26), .ref (ya 27), .ref (ya 28), .ref (ya 29), .ref (ya 30), .ref (ya 31), .ref (ya 32), .ref (ya 33), .ref (ya 34), .ref (ya 35), .int (0 : Int32), .int (0 : Int32), .ref (ya 38), .int (0 : Int32), .int (0 : Int32), .ref (ya 41), .ref (ya 42), .int (0 : Int32), .int (0 : Int32), .int (0 : Int32), .int (0 : Int32), .int (0 : Int32)]) ∧ ∀ b, b ≠ y → f1 b = f b) := by
  refine gMv.intro (by decide) (Nat.le_of_ble_eq_true rfl) ?_
  intro p e s m below meth c A ls C hr hnm hA hH hl
  have C : gC E cX10_next 2 RX10 p s m _ meth c := C
  have hl : lv_has ls 2 [(0, .ref y)] := hl
  have hx := C.1
  have hb := C.2.1
  refine lv_aload_n hx hb dX10_next_0 rfl (lv_at hl 0 rfl) ?_
  refine lv_aload_n hx hb dX10_next_1 rfl (lv_at hl 0 rfl) ?_
  refine g_get C hH my fy iX10 rfl 7 (by decide) wd334 rfl rfl dX10_next_2 ?_
  refine lv_bipush (v := (32 : Int32)) hx hb dX10_next_5 (by decide) ?_
  refine lv_bipush (v := (32 : Int32)) hx hb dX10_next_7 (by decide) ?_
  refine g_Vi C hl.1 hA hH (As := [.int (0 : Int32), .int (32 : Int32), .int (32 : Int32)]) (rest := []) (m_isByte l E L f my fy (32 : Int32) (32 : Int32)) my_X10_isByte wd338 my fy rfl rfl rfl (Nat.le_of_ble_eq_true rfl) ⟨Nat.le_of_ble_eq_true rfl, Nat.le_of_ble_eq_true rfl⟩ ⟨Nat.le_of_ble_eq_true rfl, Nat.le_of_ble_eq_true rfl⟩ dX10_next_9 (fun r3 L2 f1 H locs hp hH => ?_)
  obtain ⟨er3, rfl, rfl⟩ := hp
  subst er3
  refine lv_if_ne (tgt := 30) hx hb dX10_next_12 (by decide) (fun h => absurd (by decide) h) (fun _ => ?_)
  refine lv_aload_n hx hb dX10_next_15 rfl (lv_at hl 0 rfl) ?_
  refine lv_aload_n hx hb dX10_next_16 rfl (lv_at hl 0 rfl) ?_
  refine g_get C hH my fy iX10 rfl 7 (by decide) wd334 rfl rfl dX10_next_17 ?_
  refine lv_bipush (v := (10 : Int32)) hx hb dX10_next_20 (by decide) ?_
  refine lv_bipush (v := (10 : Int32)) hx hb dX10_next_22 (by decide) ?_
  refine g_Vi C hl.1 hA hH (As := [.int (0 : Int32), .int (10 : Int32), .int (10 : Int32)]) (rest := []) (m_isByte l E L f my fy (10 : Int32) (10 : Int32)) my_X10_isByte wd338 my fy rfl rfl rfl (Nat.le_of_ble_eq_true rfl) ⟨Nat.le_of_ble_eq_true rfl, Nat.le_of_ble_eq_true rfl⟩ ⟨Nat.le_of_ble_eq_true rfl, Nat.le_of_ble_eq_true rfl⟩ dX10_next_24 (fun r6 L5 f4 H locs hp hH => ?_)
  obtain ⟨er6, rfl, rfl⟩ := hp
  subst er6
  refine lv_if_eq (tgt := 43) hx hb dX10_next_27 (by decide) (fun _ => ?_) (fun h => absurd (by decide) h)
  refine lv_aload_n hx hb dX10_next_43 rfl (lv_at hl 0 rfl) ?_
  refine lv_aload_n hx hb dX10_next_44 rfl (lv_at hl 0 rfl) ?_
  refine g_get C hH my fy iX10 rfl 7 (by decide) wd334 rfl rfl dX10_next_45 ?_
  refine g_put C hH my fy iX10 tyX10 tyX10_ok nmX10 rfl 9 (by decide) wd339 rfl rfl rfl rfl (Nat.le_of_ble_eq_true rfl) (fs' := [.int (0 : Int32), .ref (ya 1), .ref (ya 2), .ref (ya 3), .ref (ya 4), .ref (ya 5), .int (0 : Int32), .int (0 : Int32), .int (0 : Int32), .int (0 : Int32), .int (0 : Int32), .long (0 : Int64), .int (0 : Int32), .int bp, .int (0 : Int32), .int (-1 : Int32), .ref (ya 16), .ref (ya 17), .ref (ya 18), .ref (ya 19), .ref (ya 20), .ref (ya 21), .int (0 : Int32), .int (0 : Int32), .int (0 : Int32), .ref (ya 25), .ref (ya 26), .ref (ya 27), .ref (ya 28), .ref (ya 29), .ref (ya 30), .ref (ya 31), .ref (ya 32), .ref (ya 33), .ref (ya 34), .ref (ya 35), .int (0 : Int32), .int (0 : Int32), .ref (ya 38), .int (0 : Int32), .int (0 : Int32), .ref (ya 41), .ref (ya 42), .int (0 : Int32), .int (0 : Int32), .int (0 : Int32), .int (0 : Int32), .int (0 : Int32)]) rfl dX10_next_48 (fun H locs hH => ?_)
  obtain ⟨f7, ef7⟩ : ∃ z : gF, z = va_up f y (.inr (10, [.int (0 : Int32), .ref (ya 1), .ref (ya 2), .ref (ya 3), .ref (ya 4), .ref (ya 5), .int (0 : Int32), .int (0 : Int32), .int (0 : Int32), .int (0 : Int32), .int (0 : Int32), .long (0 : Int64), .int (0 : Int32), .int bp, .int (0 : Int32), .int (-1 : Int32), .ref (ya 16), .ref (ya 17), .ref (ya 18), .ref (ya 19), .ref (ya 20), .ref (ya 21), .int (0 : Int32), .int (0 : Int32), .int (0 : Int32), .ref (ya 25), .ref (ya 26), .ref (ya 27), .ref (ya 28), .ref (ya 29), .ref (ya 30), .ref (ya 31), .ref (ya 32), .ref (ya 33), .ref (ya 34), .ref (ya 35), .int (0 : Int32), .int (0 : Int32), .ref (ya 38), .int (0 : Int32), .int (0 : Int32), .ref (ya 41), .ref (ya 42), .int (0 : Int32), .int (0 : Int32), .int (0 : Int32), .int (0 : Int32), .int (0 : Int32)])) := ⟨_, rfl⟩
  have hH : gH E A L f7 s.heap H locs := by rw [ef7]; exact hH
  have h8 : f7 y = .inr (10, [.int (0 : Int32), .ref (ya 1), .ref (ya 2), .ref (ya 3), .ref (ya 4), .ref (ya 5), .int (0 : Int32), .int (0 : Int32), .int (0 : Int32), .int (0 : Int32), .int (0 : Int32), .long (0 : Int64), .int (0 : Int32), .int bp, .int (0 : Int32), .int (-1 : Int32), .ref (ya 16), .ref (ya 17), .ref (ya 18), .ref (ya 19), .ref (ya 20), .ref (ya 21), .int (0 : Int32), .int (0 : Int32), .int (0 : Int32), .ref (ya 25), .ref (ya 26), .ref (ya 27), .ref (ya 28), .ref (ya 29), .ref (ya 30), .ref (ya 31), .ref (ya 32), .ref (ya 33), .ref (ya 34), .ref (ya 35), .int (0 : Int32), .int (0 : Int32), .ref (ya 38), .int (0 : Int32), .int (0 : Int32), .ref (ya 41), .ref (ya 42), .int (0 : Int32), .int (0 : Int32), .int (0 : Int32), .int (0 : Int32), .int (0 : Int32)]) := (congrFun ef7 y).trans (va_up_self _ _ _)
  refine lv_aload_n hx hb dX10_next_51 rfl (lv_at hl 0 rfl) ?_
  refine lv_iconst (v := (0 : Int32)) hx hb dX10_next_52 (by decide) ?_
  refine g_put C hH my h8 iX10 tyX10 tyX10_ok nmX10 rfl 10 (by decide) wd340 rfl rfl rfl rfl (Nat.le_of_ble_eq_true rfl) (fs' := [.int (0 : Int32), .ref (ya 1), .ref (ya 2), .ref (ya 3), .ref (ya 4), .ref (ya 5), .int (0 : Int32), .int (0 : Int32), .int (0 : Int32), .int (0 : Int32), .int (0 : Int32), .long (0 : Int64), .int (0 : Int32), .int bp, .int (0 : Int32), .int (-1 : Int32), .ref (ya 16), .ref (ya 17), .ref (ya 18), .ref (ya 19), .ref (ya 20), .ref (ya 21), .int (0 : Int32), .int (0 : Int32), .int (0 : Int32), .ref (ya 25), .ref (ya 26), .ref (ya 27), .ref (ya 28), .ref (ya 29), .ref (ya 30), .ref (ya 31), .ref (ya 32), .ref (ya 33), .ref (ya 34), .ref (ya 35), .int (0 : Int32), .int (0 : Int32), .ref (ya 38), .int (0 : Int32), .int (0 : Int32), .ref (ya 41), .ref (ya 42), .int (0 : Int32), .int (0 : Int32), .int (0 : Int32), .int (0 : Int32), .int (0 : Int32)]) rfl dX10_next_53 (fun H locs hH => ?_)
  obtain ⟨f9, ef9⟩ : ∃ z : gF, z = va_up f7 y (.inr (10, [.int (0 : Int32), .ref (ya 1), .ref (ya 2), .ref (ya 3), .ref (ya 4), .ref (ya 5), .int (0 : Int32), .int (0 : Int32), .int (0 : Int32), .int (0 : Int32), .int (0 : Int32), .long (0 : Int64), .int (0 : Int32), .int bp, .int (0 : Int32), .int (-1 : Int32), .ref (ya 16), .ref (ya 17), .ref (ya 18), .ref (ya 19), .ref (ya 20), .ref (ya 21), .int (0 : Int32), .int (0 : Int32), .int (0 : Int32), .ref (ya 25), .ref (ya 26), .ref (ya 27), .ref (ya 28), .ref (ya 29), .ref (ya 30), .ref (ya 31), .ref (ya 32), .ref (ya 33), .ref (ya 34), .ref (ya 35), .int (0 : Int32), .int (0 : Int32), .ref (ya 38), .int (0 : Int32), .int (0 : Int32), .ref (ya 41), .ref (ya 42), .int (0 : Int32), .int (0 : Int32), .int (0 : Int32), .int (0 : Int32), .int (0 : Int32)])) := ⟨_, rfl⟩
  have hH : gH E A L f9 s.heap H locs := by rw [ef9]; exact hH
  have h10 : f9 y = .inr (10, [.int (0 : Int32), .ref (ya 1), .ref (ya 2), .ref (ya 3), .ref (ya 4), .ref (ya 5), .int (0 : Int32), .int (0 : Int32), .int (0 : Int32), .int (0 : Int32), .int (0 : Int32), .long (0 : Int64), .int (0 : Int32), .int bp, .int (0 : Int32), .int (-1 : Int32), .ref (ya 16), .ref (ya 17), .ref (ya 18), .ref (ya 19), .ref (ya 20), .ref (ya 21), .int (0 : Int32), .int (0 : Int32), .int (0 : Int32), .ref (ya 25), .ref (ya 26), .ref (ya 27), .ref (ya 28), .ref (ya 29), .ref (ya 30), .ref (ya 31), .ref (ya 32), .ref (ya 33), .ref (ya 34), .ref (ya 35), .int (0 : Int32), .int (0 : Int32), .ref (ya 38), .int (0 : Int32), .int (0 : Int32), .ref (ya 41), .ref (ya 42), .int (0 : Int32), .int (0 : Int32), .int (0 : Int32), .int (0 : Int32), .int (0 : Int32)]) := (congrFun ef9 y).trans (va_up_self _ _ _)
  refine lv_aload_n hx hb dX10_next_56 rfl (lv_at hl 0 rfl) ?_
  refine lv_lconst (v := (0 : Int64)) hx hb dX10_next_57 (by decide) ?_
  refine g_put C hH my h10 iX10 tyX10 tyX10_ok nmX10 rfl 11 (by decide) wd341 rfl rfl rfl rfl (Nat.le_of_ble_eq_true rfl) (fs' := [.int (0 : Int32), .ref (ya 1), .ref (ya 2), .ref (ya 3), .ref (ya 4), .ref (ya 5), .int (0 : Int32), .int (0 : Int32), .int (0 : Int32), .int (0 : Int32), .int (0 : Int32), .long (0 : Int64), .int (0 : Int32), .int bp, .int (0 : Int32), .int (-1 : Int32), .ref (ya 16), .ref (ya 17), .ref (ya 18), .ref (ya 19), .ref (ya 20), .ref (ya 21), .int (0 : Int32), .int (0 : Int32), .int (0 : Int32), .ref (ya 25), .ref (ya 26), .ref (ya 27), .ref (ya 28), .ref (ya 29), .ref (ya 30), .ref (ya 31), .ref (ya 32), .ref (ya 33), .ref (ya 34), .ref (ya 35), .int (0 : Int32), .int (0 : Int32), .ref (ya 38), .int (0 : Int32), .int (0 : Int32), .ref (ya 41), .ref (ya 42), .int (0 : Int32), .int (0 : Int32), .int (0 : Int32), .int (0 : Int32), .int (0 : Int32)]) rfl dX10_next_58 (fun H locs hH => ?_)
  obtain ⟨f11, ef11⟩ : ∃ z : gF, z = va_up f9 y (.inr (10, [.int (0 : Int32), .ref (ya 1), .ref (ya 2), .ref (ya 3), .ref (ya 4), .ref (ya 5), .int (0 : Int32), .int (0 : Int32), .int (0 : Int32), .int (0 : Int32), .int (0 : Int32), .long (0 : Int64), .int (0 : Int32), .int bp, .int (0 : Int32), .int (-1 : Int32), .ref (ya 16), .ref (ya 17), .ref (ya 18), .ref (ya 19), .ref (ya 20), .ref (ya 21), .int (0 : Int32), .int (0 : Int32), .int (0 : Int32), .ref (ya 25), .ref (ya 26), .ref (ya 27), .ref (ya 28), .ref (ya 29), .ref (ya 30), .ref (ya 31), .ref (ya 32), .ref (ya 33), .ref (ya 34), .ref (ya 35), .int (0 : Int32), .int (0 : Int32), .ref (ya 38), .int (0 : Int32), .int (0 : Int32), .ref (ya 41), .ref (ya 42), .int (0 : Int32), .int (0 : Int32), .int (0 : Int32), .int (0 : Int32), .int (0 : Int32)])) := ⟨_, rfl⟩
  have hH : gH E A L f11 s.heap H locs := by rw [ef11]; exact hH
  have h12 : f11 y = .inr (10, [.int (0 : Int32), .ref (ya 1), .ref (ya 2), .ref (ya 3), .ref (ya 4), .ref (ya 5), .int (0 : Int32), .int (0 : Int32), .int (0 : Int32), .int (0 : Int32), .int (0 : Int32), .long (0 : Int64), .int (0 : Int32), .int bp, .int (0 : Int32), .int (-1 : Int32), .ref (ya 16), .ref (ya 17), .ref (ya 18), .ref (ya 19), .ref (ya 20), .ref (ya 21), .int (0 : Int32), .int (0 : Int32), .int (0 : Int32), .ref (ya 25), .ref (ya 26), .ref (ya 27), .ref (ya 28), .ref (ya 29), .ref (ya 30), .ref (ya 31), .ref (ya 32), .ref (ya 33), .ref (ya 34), .ref (ya 35), .int (0 : Int32), .int (0 : Int32), .ref (ya 38), .int (0 : Int32), .int (0 : Int32), .ref (ya 41), .ref (ya 42), .int (0 : Int32), .int (0 : Int32), .int (0 : Int32), .int (0 : Int32), .int (0 : Int32)]) := (congrFun ef11 y).trans (va_up_self _ _ _)
  refine lv_aload_n hx hb dX10_next_61 rfl (lv_at hl 0 rfl) ?_
  refine g_get C hH my h12 iX10 rfl 7 (by decide) wd334 rfl rfl dX10_next_62 ?_
  refine lv_aload_n hx hb dX10_next_65 rfl (lv_at hl 0 rfl) ?_
  refine g_get C hH my h12 iX10 rfl 6 (by decide) wd308 rfl rfl dX10_next_66 ?_
  refine lv_icmp_ne (tgt := 80) hx hb dX10_next_69 (by decide) (fun h => absurd (by decide) h) (fun _ => ?_)
  refine lv_aload_n hx hb dX10_next_72 rfl (lv_at hl 0 rfl) ?_
  refine lv_iconst (v := (0 : Int32)) hx hb dX10_next_73 (by decide) ?_
  refine g_put C hH my h12 iX10 tyX10 tyX10_ok nmX10 rfl 8 (by decide) wd342 rfl rfl rfl rfl (Nat.le_of_ble_eq_true rfl) (fs' := [.int (0 : Int32), .ref (ya 1), .ref (ya 2), .ref (ya 3), .ref (ya 4), .ref (ya 5), .int (0 : Int32), .int (0 : Int32), .int (0 : Int32), .int (0 : Int32), .int (0 : Int32), .long (0 : Int64), .int (0 : Int32), .int bp, .int (0 : Int32), .int (-1 : Int32), .ref (ya 16), .ref (ya 17), .ref (ya 18), .ref (ya 19), .ref (ya 20), .ref (ya 21), .int (0 : Int32), .int (0 : Int32), .int (0 : Int32), .ref (ya 25), .ref (ya 26), .ref (ya 27), .ref (ya 28), .ref (ya 29), .ref (ya 30), .ref (ya 31), .ref (ya 32), .ref (ya 33), .ref (ya 34), .ref (ya 35), .int (0 : Int32), .int (0 : Int32), .ref (ya 38), .int (0 : Int32), .int (0 : Int32), .ref (ya 41), .ref (ya 42), .int (0 : Int32), .int (0 : Int32), .int (0 : Int32), .int (0 : Int32), .int (0 : Int32)]) rfl dX10_next_74 (fun H locs hH => ?_)
  obtain ⟨f13, ef13⟩ : ∃ z : gF, z = va_up f11 y (.inr (10, [.int (0 : Int32), .ref (ya 1), .ref (ya 2), .ref (ya 3), .ref (ya 4), .ref (ya 5), .int (0 : Int32), .int (0 : Int32), .int (0 : Int32), .int (0 : Int32), .int (0 : Int32), .long (0 : Int64), .int (0 : Int32), .int bp, .int (0 : Int32), .int (-1 : Int32), .ref (ya 16), .ref (ya 17), .ref (ya 18), .ref (ya 19), .ref (ya 20), .ref (ya 21), .int (0 : Int32), .int (0 : Int32), .int (0 : Int32), .ref (ya 25), .ref (ya 26), .ref (ya 27), .ref (ya 28), .ref (ya 29), .ref (ya 30), .ref (ya 31), .ref (ya 32), .ref (ya 33), .ref (ya 34), .ref (ya 35), .int (0 : Int32), .int (0 : Int32), .ref (ya 38), .int (0 : Int32), .int (0 : Int32), .ref (ya 41), .ref (ya 42), .int (0 : Int32), .int (0 : Int32), .int (0 : Int32), .int (0 : Int32), .int (0 : Int32)])) := ⟨_, rfl⟩
  have hH : gH E A L f13 s.heap H locs := by rw [ef13]; exact hH
  have h14 : f13 y = .inr (10, [.int (0 : Int32), .ref (ya 1), .ref (ya 2), .ref (ya 3), .ref (ya 4), .ref (ya 5), .int (0 : Int32), .int (0 : Int32), .int (0 : Int32), .int (0 : Int32), .int (0 : Int32), .long (0 : Int64), .int (0 : Int32), .int bp, .int (0 : Int32), .int (-1 : Int32), .ref (ya 16), .ref (ya 17), .ref (ya 18), .ref (ya 19), .ref (ya 20), .ref (ya 21), .int (0 : Int32), .int (0 : Int32), .int (0 : Int32), .ref (ya 25), .ref (ya 26), .ref (ya 27), .ref (ya 28), .ref (ya 29), .ref (ya 30), .ref (ya 31), .ref (ya 32), .ref (ya 33), .ref (ya 34), .ref (ya 35), .int (0 : Int32), .int (0 : Int32), .ref (ya 38), .int (0 : Int32), .int (0 : Int32), .ref (ya 41), .ref (ya 42), .int (0 : Int32), .int (0 : Int32), .int (0 : Int32), .int (0 : Int32), .int (0 : Int32)]) := (congrFun ef13 y).trans (va_up_self _ _ _)
  refine lv_goto (tgt := 307) hx hb dX10_next_77 (by decide) ?_
  refine g_vret C hr hH (Nat.le_of_ble_eq_true rfl) (Nat.le_of_ble_eq_true rfl) dX10_next_307 ?_
  exact ⟨rfl, h14, fun b h1 => by rw [ef13, va_up_ne _ _ h1, ef11, va_up_ne _ _ h1, ef9, va_up_ne _ _ h1, ef7, va_up_ne _ _ h1]⟩
set_option maxHeartbeats 4000000 in
set_option maxRecDepth 100000 in
theorem m_begins (l : Launch) (E : gE) (L : List Nat) (f : gF) {bp : Int32} {y : Nat} {ya : Nat → Nat} (my : y ∈ L) (fy : f y = .inr (10, [.int (0 : Int32), .ref (ya 1), .ref (ya 2), .ref (ya 3), .ref (ya 4), .ref (ya 5), .int (0 : Int32), .int (0 : Int32), .int (0 : Int32), .int (0 : Int32), .int (0 : Int32), .long (0 : Int64), .int (0 : Int32), .int bp, .int (0 : Int32), .int (-1 : Int32), .ref (ya 16), .ref (ya 17), .ref (ya 18), .ref (ya 19), .ref (ya 20), .ref (ya 21), .int (0 : Int32), .int (0 : Int32), .int (0 : Int32), .ref (ya 25), .ref (ya 26), .ref (ya 27), .ref (ya 28), .ref (ya 29), .ref (ya 30), .ref (ya 31), .ref (ya 32), .ref (ya 33), .ref (ya 34), .ref (ya 35), .int (0 : Int32), .int (0 : Int32), .ref (ya 38), .int (0 : Int32), .int (0 : Int32), .ref (ya 41), .ref (ya 42), .int (0 : Int32), .int (0 : Int32), .int (0 : Int32), .int (0 : Int32), .int (0 : Int32)])) : gMv l E yX10_begins cX10_begins 1 (gRm 3 0 0) [.ref y] L f (fun L1 f1 => L = L1 ∧ f1 y = .inr (10, [.int (0 : Int32), .ref (ya 1), .ref (ya 2), .ref (ya 3), .ref (ya 4), .ref (ya 5), .int (0 : Int32), .int (0 : Int32), .int (0 : Int32), .int (0 : Int32), .int (0 : Int32), .long (0 : Int64), .int (0 : Int32), .int (-1 : Int32), .int (0 : Int32), .int (-1 : Int32), .ref (ya 16), .ref (ya 17), .ref (ya 18), .ref (ya 19), .ref (ya 20), .ref (ya 21), .int (0 : Int32), .int (0 : Int32), .int (0 : Int32), .ref (ya 25), .ref (ya 26), .ref (ya 27), .ref (ya 28), .ref (ya 29), .ref (ya 30), .ref (ya 31), .ref (ya 32), .ref (ya 33), .ref (ya 34), .ref (ya 35), .int (0 : Int32), .int (0 : Int32), .ref (ya 38), .int (0 : Int32), .int (0 : Int32), .ref (ya 41), .ref (ya 42), .int (0 : Int32), .int (0 : Int32), .int (0 : Int32), .int (0 : Int32), .int (0 : Int32)]) ∧ ∀ b, b ≠ y → f1 b = f b) := by
  refine gMv.intro (by decide) (Nat.le_of_ble_eq_true rfl) ?_
  intro p e s m below meth c A ls C hr hnm hA hH hl
  have C : gC E cX10_begins 1 RX10 p s m _ meth c := C
  have hl : lv_has ls 1 [(0, .ref y)] := hl
  have hx := C.1
  have hb := C.2.1
  refine lv_aload_n hx hb dX10_begins_0 rfl (lv_at hl 0 rfl) ?_
  refine lv_iconst (v := (0 : Int32)) hx hb dX10_begins_1 (by decide) ?_
  refine g_put C hH my fy iX10 tyX10 tyX10_ok nmX10 rfl 12 (by decide) wd343 rfl rfl rfl rfl (Nat.le_of_ble_eq_true rfl) (fs' := [.int (0 : Int32), .ref (ya 1), .ref (ya 2), .ref (ya 3), .ref (ya 4), .ref (ya 5), .int (0 : Int32), .int (0 : Int32), .int (0 : Int32), .int (0 : Int32), .int (0 : Int32), .long (0 : Int64), .int (0 : Int32), .int bp, .int (0 : Int32), .int (-1 : Int32), .ref (ya 16), .ref (ya 17), .ref (ya 18), .ref (ya 19), .ref (ya 20), .ref (ya 21), .int (0 : Int32), .int (0 : Int32), .int (0 : Int32), .ref (ya 25), .ref (ya 26), .ref (ya 27), .ref (ya 28), .ref (ya 29), .ref (ya 30), .ref (ya 31), .ref (ya 32), .ref (ya 33), .ref (ya 34), .ref (ya 35), .int (0 : Int32), .int (0 : Int32), .ref (ya 38), .int (0 : Int32), .int (0 : Int32), .ref (ya 41), .ref (ya 42), .int (0 : Int32), .int (0 : Int32), .int (0 : Int32), .int (0 : Int32), .int (0 : Int32)]) rfl dX10_begins_2 (fun H locs hH => ?_)
  obtain ⟨f1, ef1⟩ : ∃ z : gF, z = va_up f y (.inr (10, [.int (0 : Int32), .ref (ya 1), .ref (ya 2), .ref (ya 3), .ref (ya 4), .ref (ya 5), .int (0 : Int32), .int (0 : Int32), .int (0 : Int32), .int (0 : Int32), .int (0 : Int32), .long (0 : Int64), .int (0 : Int32), .int bp, .int (0 : Int32), .int (-1 : Int32), .ref (ya 16), .ref (ya 17), .ref (ya 18), .ref (ya 19), .ref (ya 20), .ref (ya 21), .int (0 : Int32), .int (0 : Int32), .int (0 : Int32), .ref (ya 25), .ref (ya 26), .ref (ya 27), .ref (ya 28), .ref (ya 29), .ref (ya 30), .ref (ya 31), .ref (ya 32), .ref (ya 33), .ref (ya 34), .ref (ya 35), .int (0 : Int32), .int (0 : Int32), .ref (ya 38), .int (0 : Int32), .int (0 : Int32), .ref (ya 41), .ref (ya 42), .int (0 : Int32), .int (0 : Int32), .int (0 : Int32), .int (0 : Int32), .int (0 : Int32)])) := ⟨_, rfl⟩
  have hH : gH E A L f1 s.heap H locs := by rw [ef1]; exact hH
  have h2 : f1 y = .inr (10, [.int (0 : Int32), .ref (ya 1), .ref (ya 2), .ref (ya 3), .ref (ya 4), .ref (ya 5), .int (0 : Int32), .int (0 : Int32), .int (0 : Int32), .int (0 : Int32), .int (0 : Int32), .long (0 : Int64), .int (0 : Int32), .int bp, .int (0 : Int32), .int (-1 : Int32), .ref (ya 16), .ref (ya 17), .ref (ya 18), .ref (ya 19), .ref (ya 20), .ref (ya 21), .int (0 : Int32), .int (0 : Int32), .int (0 : Int32), .ref (ya 25), .ref (ya 26), .ref (ya 27), .ref (ya 28), .ref (ya 29), .ref (ya 30), .ref (ya 31), .ref (ya 32), .ref (ya 33), .ref (ya 34), .ref (ya 35), .int (0 : Int32), .int (0 : Int32), .ref (ya 38), .int (0 : Int32), .int (0 : Int32), .ref (ya 41), .ref (ya 42), .int (0 : Int32), .int (0 : Int32), .int (0 : Int32), .int (0 : Int32), .int (0 : Int32)]) := (congrFun ef1 y).trans (va_up_self _ _ _)
  refine lv_aload_n hx hb dX10_begins_5 rfl (lv_at hl 0 rfl) ?_
  refine lv_iconst (v := (-1 : Int32)) hx hb dX10_begins_6 (by decide) ?_
  refine g_put C hH my h2 iX10 tyX10 tyX10_ok nmX10 rfl 13 (by decide) wd344 rfl rfl rfl rfl (Nat.le_of_ble_eq_true rfl) (fs' := [.int (0 : Int32), .ref (ya 1), .ref (ya 2), .ref (ya 3), .ref (ya 4), .ref (ya 5), .int (0 : Int32), .int (0 : Int32), .int (0 : Int32), .int (0 : Int32), .int (0 : Int32), .long (0 : Int64), .int (0 : Int32), .int (-1 : Int32), .int (0 : Int32), .int (-1 : Int32), .ref (ya 16), .ref (ya 17), .ref (ya 18), .ref (ya 19), .ref (ya 20), .ref (ya 21), .int (0 : Int32), .int (0 : Int32), .int (0 : Int32), .ref (ya 25), .ref (ya 26), .ref (ya 27), .ref (ya 28), .ref (ya 29), .ref (ya 30), .ref (ya 31), .ref (ya 32), .ref (ya 33), .ref (ya 34), .ref (ya 35), .int (0 : Int32), .int (0 : Int32), .ref (ya 38), .int (0 : Int32), .int (0 : Int32), .ref (ya 41), .ref (ya 42), .int (0 : Int32), .int (0 : Int32), .int (0 : Int32), .int (0 : Int32), .int (0 : Int32)]) rfl dX10_begins_7 (fun H locs hH => ?_)
  obtain ⟨f3, ef3⟩ : ∃ z : gF, z = va_up f1 y (.inr (10, [.int (0 : Int32), .ref (ya 1), .ref (ya 2), .ref (ya 3), .ref (ya 4), .ref (ya 5), .int (0 : Int32), .int (0 : Int32), .int (0 : Int32), .int (0 : Int32), .int (0 : Int32), .long (0 : Int64), .int (0 : Int32), .int (-1 : Int32), .int (0 : Int32), .int (-1 : Int32), .ref (ya 16), .ref (ya 17), .ref (ya 18), .ref (ya 19), .ref (ya 20), .ref (ya 21), .int (0 : Int32), .int (0 : Int32), .int (0 : Int32), .ref (ya 25), .ref (ya 26), .ref (ya 27), .ref (ya 28), .ref (ya 29), .ref (ya 30), .ref (ya 31), .ref (ya 32), .ref (ya 33), .ref (ya 34), .ref (ya 35), .int (0 : Int32), .int (0 : Int32), .ref (ya 38), .int (0 : Int32), .int (0 : Int32), .ref (ya 41), .ref (ya 42), .int (0 : Int32), .int (0 : Int32), .int (0 : Int32), .int (0 : Int32), .int (0 : Int32)])) := ⟨_, rfl⟩
  have hH : gH E A L f3 s.heap H locs := by rw [ef3]; exact hH
  have h4 : f3 y = .inr (10, [.int (0 : Int32), .ref (ya 1), .ref (ya 2), .ref (ya 3), .ref (ya 4), .ref (ya 5), .int (0 : Int32), .int (0 : Int32), .int (0 : Int32), .int (0 : Int32), .int (0 : Int32), .long (0 : Int64), .int (0 : Int32), .int (-1 : Int32), .int (0 : Int32), .int (-1 : Int32), .ref (ya 16), .ref (ya 17), .ref (ya 18), .ref (ya 19), .ref (ya 20), .ref (ya 21), .int (0 : Int32), .int (0 : Int32), .int (0 : Int32), .ref (ya 25), .ref (ya 26), .ref (ya 27), .ref (ya 28), .ref (ya 29), .ref (ya 30), .ref (ya 31), .ref (ya 32), .ref (ya 33), .ref (ya 34), .ref (ya 35), .int (0 : Int32), .int (0 : Int32), .ref (ya 38), .int (0 : Int32), .int (0 : Int32), .ref (ya 41), .ref (ya 42), .int (0 : Int32), .int (0 : Int32), .int (0 : Int32), .int (0 : Int32), .int (0 : Int32)]) := (congrFun ef3 y).trans (va_up_self _ _ _)
  refine lv_aload_n hx hb dX10_begins_10 rfl (lv_at hl 0 rfl) ?_
  refine lv_iconst (v := (0 : Int32)) hx hb dX10_begins_11 (by decide) ?_
  refine g_put C hH my h4 iX10 tyX10 tyX10_ok nmX10 rfl 7 (by decide) wd334 rfl rfl rfl rfl (Nat.le_of_ble_eq_true rfl) (fs' := [.int (0 : Int32), .ref (ya 1), .ref (ya 2), .ref (ya 3), .ref (ya 4), .ref (ya 5), .int (0 : Int32), .int (0 : Int32), .int (0 : Int32), .int (0 : Int32), .int (0 : Int32), .long (0 : Int64), .int (0 : Int32), .int (-1 : Int32), .int (0 : Int32), .int (-1 : Int32), .ref (ya 16), .ref (ya 17), .ref (ya 18), .ref (ya 19), .ref (ya 20), .ref (ya 21), .int (0 : Int32), .int (0 : Int32), .int (0 : Int32), .ref (ya 25), .ref (ya 26), .ref (ya 27), .ref (ya 28), .ref (ya 29), .ref (ya 30), .ref (ya 31), .ref (ya 32), .ref (ya 33), .ref (ya 34), .ref (ya 35), .int (0 : Int32), .int (0 : Int32), .ref (ya 38), .int (0 : Int32), .int (0 : Int32), .ref (ya 41), .ref (ya 42), .int (0 : Int32), .int (0 : Int32), .int (0 : Int32), .int (0 : Int32), .int (0 : Int32)]) rfl dX10_begins_12 (fun H locs hH => ?_)
  obtain ⟨f5, ef5⟩ : ∃ z : gF, z = va_up f3 y (.inr (10, [.int (0 : Int32), .ref (ya 1), .ref (ya 2), .ref (ya 3), .ref (ya 4), .ref (ya 5), .int (0 : Int32), .int (0 : Int32), .int (0 : Int32), .int (0 : Int32), .int (0 : Int32), .long (0 : Int64), .int (0 : Int32), .int (-1 : Int32), .int (0 : Int32), .int (-1 : Int32), .ref (ya 16), .ref (ya 17), .ref (ya 18), .ref (ya 19), .ref (ya 20), .ref (ya 21), .int (0 : Int32), .int (0 : Int32), .int (0 : Int32), .ref (ya 25), .ref (ya 26), .ref (ya 27), .ref (ya 28), .ref (ya 29), .ref (ya 30), .ref (ya 31), .ref (ya 32), .ref (ya 33), .ref (ya 34), .ref (ya 35), .int (0 : Int32), .int (0 : Int32), .ref (ya 38), .int (0 : Int32), .int (0 : Int32), .ref (ya 41), .ref (ya 42), .int (0 : Int32), .int (0 : Int32), .int (0 : Int32), .int (0 : Int32), .int (0 : Int32)])) := ⟨_, rfl⟩
  have hH : gH E A L f5 s.heap H locs := by rw [ef5]; exact hH
  have h6 : f5 y = .inr (10, [.int (0 : Int32), .ref (ya 1), .ref (ya 2), .ref (ya 3), .ref (ya 4), .ref (ya 5), .int (0 : Int32), .int (0 : Int32), .int (0 : Int32), .int (0 : Int32), .int (0 : Int32), .long (0 : Int64), .int (0 : Int32), .int (-1 : Int32), .int (0 : Int32), .int (-1 : Int32), .ref (ya 16), .ref (ya 17), .ref (ya 18), .ref (ya 19), .ref (ya 20), .ref (ya 21), .int (0 : Int32), .int (0 : Int32), .int (0 : Int32), .ref (ya 25), .ref (ya 26), .ref (ya 27), .ref (ya 28), .ref (ya 29), .ref (ya 30), .ref (ya 31), .ref (ya 32), .ref (ya 33), .ref (ya 34), .ref (ya 35), .int (0 : Int32), .int (0 : Int32), .ref (ya 38), .int (0 : Int32), .int (0 : Int32), .ref (ya 41), .ref (ya 42), .int (0 : Int32), .int (0 : Int32), .int (0 : Int32), .int (0 : Int32), .int (0 : Int32)]) := (congrFun ef5 y).trans (va_up_self _ _ _)
  refine lv_aload_n hx hb dX10_begins_15 rfl (lv_at hl 0 rfl) ?_
  refine g_Vv C hl.1 hA hH (As := []) (rest := []) (m_next l E L f5 my h6) my_X10_next wd348 my h6 rfl rfl rfl (Nat.le_of_ble_eq_true rfl) ⟨Nat.le_of_ble_eq_true rfl, Nat.le_of_ble_eq_true rfl⟩ ⟨Nat.le_of_ble_eq_true rfl, Nat.le_of_ble_eq_true rfl⟩ dX10_begins_16 (fun L8 f7 H locs hp hH => ?_)
  obtain ⟨rfl, h9, k10⟩ := hp
  refine g_vret C hr hH (Nat.le_of_ble_eq_true rfl) (Nat.le_of_ble_eq_true rfl) dX10_begins_19 ?_
  exact ⟨rfl, h9, fun b h1 => by rw [k10 b h1, ef5, va_up_ne _ _ h1, ef3, va_up_ne _ _ h1, ef1, va_up_ne _ _ h1]⟩
set_option maxHeartbeats 4000000 in
set_option maxRecDepth 100000 in
theorem m_isGood (l : Launch) (E : gE) (L : List Nat) (f : gF) {bp : Int32} {y : Nat} {ya : Nat → Nat} (my : y ∈ L) (fy : f y = .inr (10, [.int (0 : Int32), .ref (ya 1), .ref (ya 2), .ref (ya 3), .ref (ya 4), .ref (ya 5), .int (0 : Int32), .int (0 : Int32), .int (0 : Int32), .int (0 : Int32), .int (0 : Int32), .long (0 : Int64), .int (0 : Int32), .int bp, .int (0 : Int32), .int (-1 : Int32), .ref (ya 16), .ref (ya 17), .ref (ya 18), .ref (ya 19), .ref (ya 20), .ref (ya 21), .int (0 : Int32), .int (0 : Int32), .int (0 : Int32), .ref (ya 25), .ref (ya 26), .ref (ya 27), .ref (ya 28), .ref (ya 29), .ref (ya 30), .ref (ya 31), .ref (ya 32), .ref (ya 33), .ref (ya 34), .ref (ya 35), .int (0 : Int32), .int (0 : Int32), .ref (ya 38), .int (0 : Int32), .int (0 : Int32), .ref (ya 41), .ref (ya 42), .int (0 : Int32), .int (0 : Int32), .int (0 : Int32), .int (0 : Int32), .int (0 : Int32)])) : gMi l E yX10_isGood cX10_isGood 1 .boolean (gRm 1 0 0) [.ref y] L f (gRO (1 : Int32) L f) := by
  refine gMi.intro (by decide) (Nat.le_of_ble_eq_true rfl) ?_
  intro p e s m below meth c A ls C hr hA hH hl
  have C : gC E cX10_isGood 1 RX10 p s m _ meth c := C
  have hl : lv_has ls 1 [(0, .ref y)] := hl
  have hx := C.1
  have hb := C.2.1
  refine lv_aload_n hx hb dX10_isGood_0 rfl (lv_at hl 0 rfl) ?_
  refine g_get C hH my fy iX10 rfl 12 (by decide) wd343 rfl rfl dX10_isGood_1 ?_
  refine lv_if_ne (tgt := 11) hx hb dX10_isGood_4 (by decide) (fun h => absurd (by decide) h) (fun _ => ?_)
  refine lv_iconst (v := (1 : Int32)) hx hb dX10_isGood_7 (by decide) ?_
  refine lv_goto (tgt := 12) hx hb dX10_isGood_8 (by decide) ?_
  refine g_zret C hr (by first | rfl | decide | (exact rfl)) hH (Nat.le_of_ble_eq_true rfl) (Nat.le_of_ble_eq_true rfl) dX10_isGood_12 ?_
  exact ⟨rfl, rfl, rfl⟩
set_option maxHeartbeats 4000000 in
set_option maxRecDepth 100000 in
theorem m_isOver (l : Launch) (E : gE) (L : List Nat) (f : gF) {bp : Int32} {y : Nat} {ya : Nat → Nat} (my : y ∈ L) (fy : f y = .inr (10, [.int (0 : Int32), .ref (ya 1), .ref (ya 2), .ref (ya 3), .ref (ya 4), .ref (ya 5), .int (0 : Int32), .int (0 : Int32), .int (0 : Int32), .int (0 : Int32), .int (0 : Int32), .long (0 : Int64), .int (0 : Int32), .int bp, .int (0 : Int32), .int (-1 : Int32), .ref (ya 16), .ref (ya 17), .ref (ya 18), .ref (ya 19), .ref (ya 20), .ref (ya 21), .int (0 : Int32), .int (0 : Int32), .int (0 : Int32), .ref (ya 25), .ref (ya 26), .ref (ya 27), .ref (ya 28), .ref (ya 29), .ref (ya 30), .ref (ya 31), .ref (ya 32), .ref (ya 33), .ref (ya 34), .ref (ya 35), .int (0 : Int32), .int (0 : Int32), .ref (ya 38), .int (0 : Int32), .int (0 : Int32), .ref (ya 41), .ref (ya 42), .int (0 : Int32), .int (0 : Int32), .int (0 : Int32), .int (0 : Int32), .int (0 : Int32)])) : gMv l E yX10_isOver cX10_isOver 1 (gRm 1 0 0) [.ref y] L f (fun L1 f1 => L = L1 ∧ f1 y = .inr (10, [.int (0 : Int32), .ref (ya 1), .ref (ya 2), .ref (ya 3), .ref (ya 4), .ref (ya 5), .int (0 : Int32), .int (0 : Int32), .int (0 : Int32), .int (0 : Int32), .int (0 : Int32), .long (0 : Int64), .int (0 : Int32), .int bp, .int (0 : Int32), .int (-1 : Int32), .ref (ya 16), .ref (ya 17), .ref (ya 18), .ref (ya 19), .ref (ya 20), .ref (ya 21), .int (0 : Int32), .int (0 : Int32), .int (0 : Int32), .ref (ya 25), .ref (ya 26), .ref (ya 27), .ref (ya 28), .ref (ya 29), .ref (ya 30), .ref (ya 31), .ref (ya 32), .ref (ya 33), .ref (ya 34), .ref (ya 35), .int (0 : Int32), .int (0 : Int32), .ref (ya 38), .int (0 : Int32), .int (0 : Int32), .ref (ya 41), .ref (ya 42), .int (0 : Int32), .int (0 : Int32), .int (0 : Int32), .int (0 : Int32), .int (0 : Int32)]) ∧ ∀ b, b ≠ y → f1 b = f b) := by
  refine gMv.intro (by decide) (Nat.le_of_ble_eq_true rfl) ?_
  intro p e s m below meth c A ls C hr hnm hA hH hl
  have C : gC E cX10_isOver 1 RX10 p s m _ meth c := C
  have hl : lv_has ls 1 [(0, .ref y)] := hl
  have hx := C.1
  have hb := C.2.1
  refine lv_aload_n hx hb dX10_isOver_0 rfl (lv_at hl 0 rfl) ?_
  refine lv_iconst (v := (0 : Int32)) hx hb dX10_isOver_1 (by decide) ?_
  refine g_put C hH my fy iX10 tyX10 tyX10_ok nmX10 rfl 6 (by decide) wd308 rfl rfl rfl rfl (Nat.le_of_ble_eq_true rfl) (fs' := [.int (0 : Int32), .ref (ya 1), .ref (ya 2), .ref (ya 3), .ref (ya 4), .ref (ya 5), .int (0 : Int32), .int (0 : Int32), .int (0 : Int32), .int (0 : Int32), .int (0 : Int32), .long (0 : Int64), .int (0 : Int32), .int bp, .int (0 : Int32), .int (-1 : Int32), .ref (ya 16), .ref (ya 17), .ref (ya 18), .ref (ya 19), .ref (ya 20), .ref (ya 21), .int (0 : Int32), .int (0 : Int32), .int (0 : Int32), .ref (ya 25), .ref (ya 26), .ref (ya 27), .ref (ya 28), .ref (ya 29), .ref (ya 30), .ref (ya 31), .ref (ya 32), .ref (ya 33), .ref (ya 34), .ref (ya 35), .int (0 : Int32), .int (0 : Int32), .ref (ya 38), .int (0 : Int32), .int (0 : Int32), .ref (ya 41), .ref (ya 42), .int (0 : Int32), .int (0 : Int32), .int (0 : Int32), .int (0 : Int32), .int (0 : Int32)]) rfl dX10_isOver_2 (fun H locs hH => ?_)
  obtain ⟨f1, ef1⟩ : ∃ z : gF, z = va_up f y (.inr (10, [.int (0 : Int32), .ref (ya 1), .ref (ya 2), .ref (ya 3), .ref (ya 4), .ref (ya 5), .int (0 : Int32), .int (0 : Int32), .int (0 : Int32), .int (0 : Int32), .int (0 : Int32), .long (0 : Int64), .int (0 : Int32), .int bp, .int (0 : Int32), .int (-1 : Int32), .ref (ya 16), .ref (ya 17), .ref (ya 18), .ref (ya 19), .ref (ya 20), .ref (ya 21), .int (0 : Int32), .int (0 : Int32), .int (0 : Int32), .ref (ya 25), .ref (ya 26), .ref (ya 27), .ref (ya 28), .ref (ya 29), .ref (ya 30), .ref (ya 31), .ref (ya 32), .ref (ya 33), .ref (ya 34), .ref (ya 35), .int (0 : Int32), .int (0 : Int32), .ref (ya 38), .int (0 : Int32), .int (0 : Int32), .ref (ya 41), .ref (ya 42), .int (0 : Int32), .int (0 : Int32), .int (0 : Int32), .int (0 : Int32), .int (0 : Int32)])) := ⟨_, rfl⟩
  have hH : gH E A L f1 s.heap H locs := by rw [ef1]; exact hH
  have h2 : f1 y = .inr (10, [.int (0 : Int32), .ref (ya 1), .ref (ya 2), .ref (ya 3), .ref (ya 4), .ref (ya 5), .int (0 : Int32), .int (0 : Int32), .int (0 : Int32), .int (0 : Int32), .int (0 : Int32), .long (0 : Int64), .int (0 : Int32), .int bp, .int (0 : Int32), .int (-1 : Int32), .ref (ya 16), .ref (ya 17), .ref (ya 18), .ref (ya 19), .ref (ya 20), .ref (ya 21), .int (0 : Int32), .int (0 : Int32), .int (0 : Int32), .ref (ya 25), .ref (ya 26), .ref (ya 27), .ref (ya 28), .ref (ya 29), .ref (ya 30), .ref (ya 31), .ref (ya 32), .ref (ya 33), .ref (ya 34), .ref (ya 35), .int (0 : Int32), .int (0 : Int32), .ref (ya 38), .int (0 : Int32), .int (0 : Int32), .ref (ya 41), .ref (ya 42), .int (0 : Int32), .int (0 : Int32), .int (0 : Int32), .int (0 : Int32), .int (0 : Int32)]) := (congrFun ef1 y).trans (va_up_self _ _ _)
  refine lv_aload_n hx hb dX10_isOver_5 rfl (lv_at hl 0 rfl) ?_
  refine lv_aload_n hx hb dX10_isOver_6 rfl (lv_at hl 0 rfl) ?_
  refine g_get C hH my h2 iX10 rfl 12 (by decide) wd343 rfl rfl dX10_isOver_7 ?_
  refine g_put C hH my h2 iX10 tyX10 tyX10_ok nmX10 rfl 14 (by decide) wd314 rfl rfl rfl rfl (Nat.le_of_ble_eq_true rfl) (fs' := [.int (0 : Int32), .ref (ya 1), .ref (ya 2), .ref (ya 3), .ref (ya 4), .ref (ya 5), .int (0 : Int32), .int (0 : Int32), .int (0 : Int32), .int (0 : Int32), .int (0 : Int32), .long (0 : Int64), .int (0 : Int32), .int bp, .int (0 : Int32), .int (-1 : Int32), .ref (ya 16), .ref (ya 17), .ref (ya 18), .ref (ya 19), .ref (ya 20), .ref (ya 21), .int (0 : Int32), .int (0 : Int32), .int (0 : Int32), .ref (ya 25), .ref (ya 26), .ref (ya 27), .ref (ya 28), .ref (ya 29), .ref (ya 30), .ref (ya 31), .ref (ya 32), .ref (ya 33), .ref (ya 34), .ref (ya 35), .int (0 : Int32), .int (0 : Int32), .ref (ya 38), .int (0 : Int32), .int (0 : Int32), .ref (ya 41), .ref (ya 42), .int (0 : Int32), .int (0 : Int32), .int (0 : Int32), .int (0 : Int32), .int (0 : Int32)]) rfl dX10_isOver_10 (fun H locs hH => ?_)
  obtain ⟨f3, ef3⟩ : ∃ z : gF, z = va_up f1 y (.inr (10, [.int (0 : Int32), .ref (ya 1), .ref (ya 2), .ref (ya 3), .ref (ya 4), .ref (ya 5), .int (0 : Int32), .int (0 : Int32), .int (0 : Int32), .int (0 : Int32), .int (0 : Int32), .long (0 : Int64), .int (0 : Int32), .int bp, .int (0 : Int32), .int (-1 : Int32), .ref (ya 16), .ref (ya 17), .ref (ya 18), .ref (ya 19), .ref (ya 20), .ref (ya 21), .int (0 : Int32), .int (0 : Int32), .int (0 : Int32), .ref (ya 25), .ref (ya 26), .ref (ya 27), .ref (ya 28), .ref (ya 29), .ref (ya 30), .ref (ya 31), .ref (ya 32), .ref (ya 33), .ref (ya 34), .ref (ya 35), .int (0 : Int32), .int (0 : Int32), .ref (ya 38), .int (0 : Int32), .int (0 : Int32), .ref (ya 41), .ref (ya 42), .int (0 : Int32), .int (0 : Int32), .int (0 : Int32), .int (0 : Int32), .int (0 : Int32)])) := ⟨_, rfl⟩
  have hH : gH E A L f3 s.heap H locs := by rw [ef3]; exact hH
  have h4 : f3 y = .inr (10, [.int (0 : Int32), .ref (ya 1), .ref (ya 2), .ref (ya 3), .ref (ya 4), .ref (ya 5), .int (0 : Int32), .int (0 : Int32), .int (0 : Int32), .int (0 : Int32), .int (0 : Int32), .long (0 : Int64), .int (0 : Int32), .int bp, .int (0 : Int32), .int (-1 : Int32), .ref (ya 16), .ref (ya 17), .ref (ya 18), .ref (ya 19), .ref (ya 20), .ref (ya 21), .int (0 : Int32), .int (0 : Int32), .int (0 : Int32), .ref (ya 25), .ref (ya 26), .ref (ya 27), .ref (ya 28), .ref (ya 29), .ref (ya 30), .ref (ya 31), .ref (ya 32), .ref (ya 33), .ref (ya 34), .ref (ya 35), .int (0 : Int32), .int (0 : Int32), .ref (ya 38), .int (0 : Int32), .int (0 : Int32), .ref (ya 41), .ref (ya 42), .int (0 : Int32), .int (0 : Int32), .int (0 : Int32), .int (0 : Int32), .int (0 : Int32)]) := (congrFun ef3 y).trans (va_up_self _ _ _)
  refine lv_aload_n hx hb dX10_isOver_13 rfl (lv_at hl 0 rfl) ?_
  refine lv_aload_n hx hb dX10_isOver_14 rfl (lv_at hl 0 rfl) ?_
  refine g_get C hH my h4 iX10 rfl 12 (by decide) wd343 rfl rfl dX10_isOver_15 ?_
  refine lv_if_ne (tgt := 25) hx hb dX10_isOver_18 (by decide) (fun h => absurd (by decide) h) (fun _ => ?_)
  refine lv_iconst (v := (-1 : Int32)) hx hb dX10_isOver_21 (by decide) ?_
  refine lv_goto (tgt := 29) hx hb dX10_isOver_22 (by decide) ?_
  refine g_put C hH my h4 iX10 tyX10 tyX10_ok nmX10 rfl 15 (by decide) wd313 rfl rfl rfl rfl (Nat.le_of_ble_eq_true rfl) (fs' := [.int (0 : Int32), .ref (ya 1), .ref (ya 2), .ref (ya 3), .ref (ya 4), .ref (ya 5), .int (0 : Int32), .int (0 : Int32), .int (0 : Int32), .int (0 : Int32), .int (0 : Int32), .long (0 : Int64), .int (0 : Int32), .int bp, .int (0 : Int32), .int (-1 : Int32), .ref (ya 16), .ref (ya 17), .ref (ya 18), .ref (ya 19), .ref (ya 20), .ref (ya 21), .int (0 : Int32), .int (0 : Int32), .int (0 : Int32), .ref (ya 25), .ref (ya 26), .ref (ya 27), .ref (ya 28), .ref (ya 29), .ref (ya 30), .ref (ya 31), .ref (ya 32), .ref (ya 33), .ref (ya 34), .ref (ya 35), .int (0 : Int32), .int (0 : Int32), .ref (ya 38), .int (0 : Int32), .int (0 : Int32), .ref (ya 41), .ref (ya 42), .int (0 : Int32), .int (0 : Int32), .int (0 : Int32), .int (0 : Int32), .int (0 : Int32)]) rfl dX10_isOver_29 (fun H locs hH => ?_)
  obtain ⟨f5, ef5⟩ : ∃ z : gF, z = va_up f3 y (.inr (10, [.int (0 : Int32), .ref (ya 1), .ref (ya 2), .ref (ya 3), .ref (ya 4), .ref (ya 5), .int (0 : Int32), .int (0 : Int32), .int (0 : Int32), .int (0 : Int32), .int (0 : Int32), .long (0 : Int64), .int (0 : Int32), .int bp, .int (0 : Int32), .int (-1 : Int32), .ref (ya 16), .ref (ya 17), .ref (ya 18), .ref (ya 19), .ref (ya 20), .ref (ya 21), .int (0 : Int32), .int (0 : Int32), .int (0 : Int32), .ref (ya 25), .ref (ya 26), .ref (ya 27), .ref (ya 28), .ref (ya 29), .ref (ya 30), .ref (ya 31), .ref (ya 32), .ref (ya 33), .ref (ya 34), .ref (ya 35), .int (0 : Int32), .int (0 : Int32), .ref (ya 38), .int (0 : Int32), .int (0 : Int32), .ref (ya 41), .ref (ya 42), .int (0 : Int32), .int (0 : Int32), .int (0 : Int32), .int (0 : Int32), .int (0 : Int32)])) := ⟨_, rfl⟩
  have hH : gH E A L f5 s.heap H locs := by rw [ef5]; exact hH
  have h6 : f5 y = .inr (10, [.int (0 : Int32), .ref (ya 1), .ref (ya 2), .ref (ya 3), .ref (ya 4), .ref (ya 5), .int (0 : Int32), .int (0 : Int32), .int (0 : Int32), .int (0 : Int32), .int (0 : Int32), .long (0 : Int64), .int (0 : Int32), .int bp, .int (0 : Int32), .int (-1 : Int32), .ref (ya 16), .ref (ya 17), .ref (ya 18), .ref (ya 19), .ref (ya 20), .ref (ya 21), .int (0 : Int32), .int (0 : Int32), .int (0 : Int32), .ref (ya 25), .ref (ya 26), .ref (ya 27), .ref (ya 28), .ref (ya 29), .ref (ya 30), .ref (ya 31), .ref (ya 32), .ref (ya 33), .ref (ya 34), .ref (ya 35), .int (0 : Int32), .int (0 : Int32), .ref (ya 38), .int (0 : Int32), .int (0 : Int32), .ref (ya 41), .ref (ya 42), .int (0 : Int32), .int (0 : Int32), .int (0 : Int32), .int (0 : Int32), .int (0 : Int32)]) := (congrFun ef5 y).trans (va_up_self _ _ _)
  refine g_vret C hr hH (Nat.le_of_ble_eq_true rfl) (Nat.le_of_ble_eq_true rfl) dX10_isOver_32 ?_
  exact ⟨rfl, h6, fun b h1 => by rw [ef5, va_up_ne _ _ h1, ef3, va_up_ne _ _ h1, ef1, va_up_ne _ _ h1]⟩
set_option maxHeartbeats 4000000 in
set_option maxRecDepth 100000 in
theorem m_land (l : Launch) (E : gE) (L : List Nat) (f : gF) {y : Nat} {ya : Nat → Nat} (my : y ∈ L) (fy : f y = .inr (10, [.int (0 : Int32), .ref (ya 1), .ref (ya 2), .ref (ya 3), .ref (ya 4), .ref (ya 5), .int (0 : Int32), .int (0 : Int32), .int (0 : Int32), .int (0 : Int32), .int (0 : Int32), .long (0 : Int64), .int (0 : Int32), .int (0 : Int32), .int (0 : Int32), .int (-1 : Int32), .ref (ya 16), .ref (ya 17), .ref (ya 18), .ref (ya 19), .ref (ya 20), .ref (ya 21), .int (0 : Int32), .int (0 : Int32), .int (0 : Int32), .ref (ya 25), .ref (ya 26), .ref (ya 27), .ref (ya 28), .ref (ya 29), .ref (ya 30), .ref (ya 31), .ref (ya 32), .ref (ya 33), .ref (ya 34), .ref (ya 35), .int (0 : Int32), .int (0 : Int32), .ref (ya 38), .int (0 : Int32), .int (0 : Int32), .ref (ya 41), .ref (ya 42), .int (0 : Int32), .int (0 : Int32), .int (0 : Int32), .int (0 : Int32), .int (0 : Int32)])) {v_lines v_has v_flight v_member v_act : Nat → Int32} (m_lines : (ya 16) ∈ L) (f_lines : f (ya 16) = .inl (E.2.2 1, 5, .inl v_lines)) (m_has : (ya 17) ∈ L) (f_has : f (ya 17) = .inl (E.2.2 1, 45, .inl v_has)) (m_flight : (ya 18) ∈ L) (f_flight : f (ya 18) = .inl (E.2.2 1, 60, .inl v_flight)) (m_member : (ya 19) ∈ L) (f_member : f (ya 19) = .inl (E.2.2 1, 90, .inl v_member)) (m_act : (ya 20) ∈ L) (f_act : f (ya 20) = .inl (E.2.2 1, 600, .inl v_act)) (z_lines : ∀ i, v_lines i = 0) (z_has : ∀ i, v_has i = 0) (z_flight : ∀ i, v_flight i = 0) (z_member : ∀ i, v_member i = 0) (z_act : ∀ i, v_act i = 0) : gMi l E yX10_land cX10_land 1 .int (gRm 5 0 0) [.ref y] L f (fun r _ _ => r = 0) := by
  refine gMi.intro (by decide) (Nat.le_of_ble_eq_true rfl) ?_
  intro p e s m below meth c A ls C hr hA hH hl
  have C : gC E cX10_land 1 RX10 p s m _ meth c := C
  have hl : lv_has ls 1 [(0, .ref y)] := hl
  have hx := C.1
  have hb := C.2.1
  refine lv_aload_n hx hb dX10_land_0 rfl (lv_at hl 0 rfl) ?_
  refine lv_iconst (v := (0 : Int32)) hx hb dX10_land_1 (by decide) ?_
  refine g_put C hH my fy iX10 tyX10 tyX10_ok nmX10 rfl 0 (by decide) wd270 rfl rfl rfl rfl (Nat.le_of_ble_eq_true rfl) (fs' := [.int (0 : Int32), .ref (ya 1), .ref (ya 2), .ref (ya 3), .ref (ya 4), .ref (ya 5), .int (0 : Int32), .int (0 : Int32), .int (0 : Int32), .int (0 : Int32), .int (0 : Int32), .long (0 : Int64), .int (0 : Int32), .int (0 : Int32), .int (0 : Int32), .int (-1 : Int32), .ref (ya 16), .ref (ya 17), .ref (ya 18), .ref (ya 19), .ref (ya 20), .ref (ya 21), .int (0 : Int32), .int (0 : Int32), .int (0 : Int32), .ref (ya 25), .ref (ya 26), .ref (ya 27), .ref (ya 28), .ref (ya 29), .ref (ya 30), .ref (ya 31), .ref (ya 32), .ref (ya 33), .ref (ya 34), .ref (ya 35), .int (0 : Int32), .int (0 : Int32), .ref (ya 38), .int (0 : Int32), .int (0 : Int32), .ref (ya 41), .ref (ya 42), .int (0 : Int32), .int (0 : Int32), .int (0 : Int32), .int (0 : Int32), .int (0 : Int32)]) rfl dX10_land_2 (fun H locs hH => ?_)
  obtain ⟨f1, ef1⟩ : ∃ z : gF, z = va_up f y (.inr (10, [.int (0 : Int32), .ref (ya 1), .ref (ya 2), .ref (ya 3), .ref (ya 4), .ref (ya 5), .int (0 : Int32), .int (0 : Int32), .int (0 : Int32), .int (0 : Int32), .int (0 : Int32), .long (0 : Int64), .int (0 : Int32), .int (0 : Int32), .int (0 : Int32), .int (-1 : Int32), .ref (ya 16), .ref (ya 17), .ref (ya 18), .ref (ya 19), .ref (ya 20), .ref (ya 21), .int (0 : Int32), .int (0 : Int32), .int (0 : Int32), .ref (ya 25), .ref (ya 26), .ref (ya 27), .ref (ya 28), .ref (ya 29), .ref (ya 30), .ref (ya 31), .ref (ya 32), .ref (ya 33), .ref (ya 34), .ref (ya 35), .int (0 : Int32), .int (0 : Int32), .ref (ya 38), .int (0 : Int32), .int (0 : Int32), .ref (ya 41), .ref (ya 42), .int (0 : Int32), .int (0 : Int32), .int (0 : Int32), .int (0 : Int32), .int (0 : Int32)])) := ⟨_, rfl⟩
  have hH : gH E A L f1 s.heap H locs := by rw [ef1]; exact hH
  have h2 : f1 y = .inr (10, [.int (0 : Int32), .ref (ya 1), .ref (ya 2), .ref (ya 3), .ref (ya 4), .ref (ya 5), .int (0 : Int32), .int (0 : Int32), .int (0 : Int32), .int (0 : Int32), .int (0 : Int32), .long (0 : Int64), .int (0 : Int32), .int (0 : Int32), .int (0 : Int32), .int (-1 : Int32), .ref (ya 16), .ref (ya 17), .ref (ya 18), .ref (ya 19), .ref (ya 20), .ref (ya 21), .int (0 : Int32), .int (0 : Int32), .int (0 : Int32), .ref (ya 25), .ref (ya 26), .ref (ya 27), .ref (ya 28), .ref (ya 29), .ref (ya 30), .ref (ya 31), .ref (ya 32), .ref (ya 33), .ref (ya 34), .ref (ya 35), .int (0 : Int32), .int (0 : Int32), .ref (ya 38), .int (0 : Int32), .int (0 : Int32), .ref (ya 41), .ref (ya 42), .int (0 : Int32), .int (0 : Int32), .int (0 : Int32), .int (0 : Int32), .int (0 : Int32)]) := (congrFun ef1 y).trans (va_up_self _ _ _)
  refine lv_aload_n hx hb dX10_land_5 rfl (lv_at hl 0 rfl) ?_
  have h3 : f1 (ya 16) = .inl (E.2.2 1, 5, .inl v_lines) := ((congrFun ef1 (ya 16)).trans (va_up_ne _ _ (g_neAO f_lines fy))).trans f_lines
  have h4 : f1 (ya 17) = .inl (E.2.2 1, 45, .inl v_has) := ((congrFun ef1 (ya 17)).trans (va_up_ne _ _ (g_neAO f_has fy))).trans f_has
  refine g_Vv C hl.1 hA hH (As := []) (rest := []) (m_clears l E L f1 my h2 m_lines h3 m_has h4 z_lines z_has) my_X10_clears wd352 my h2 rfl rfl rfl (Nat.le_of_ble_eq_true rfl) ⟨Nat.le_of_ble_eq_true rfl, Nat.le_of_ble_eq_true rfl⟩ ⟨Nat.le_of_ble_eq_true rfl, Nat.le_of_ble_eq_true rfl⟩ dX10_land_6 (fun L6 f5 H locs hp hH => ?_)
  obtain ⟨rfl, ⟨v7, h8, h9⟩, ⟨v10, h11, h12⟩, k13⟩ := hp
  refine lv_aload_n hx hb dX10_land_9 rfl (lv_at hl 0 rfl) ?_
  have h14 : f5 y = .inr (10, [.int (0 : Int32), .ref (ya 1), .ref (ya 2), .ref (ya 3), .ref (ya 4), .ref (ya 5), .int (0 : Int32), .int (0 : Int32), .int (0 : Int32), .int (0 : Int32), .int (0 : Int32), .long (0 : Int64), .int (0 : Int32), .int (0 : Int32), .int (0 : Int32), .int (-1 : Int32), .ref (ya 16), .ref (ya 17), .ref (ya 18), .ref (ya 19), .ref (ya 20), .ref (ya 21), .int (0 : Int32), .int (0 : Int32), .int (0 : Int32), .ref (ya 25), .ref (ya 26), .ref (ya 27), .ref (ya 28), .ref (ya 29), .ref (ya 30), .ref (ya 31), .ref (ya 32), .ref (ya 33), .ref (ya 34), .ref (ya 35), .int (0 : Int32), .int (0 : Int32), .ref (ya 38), .int (0 : Int32), .int (0 : Int32), .ref (ya 41), .ref (ya 42), .int (0 : Int32), .int (0 : Int32), .int (0 : Int32), .int (0 : Int32), .int (0 : Int32)]) := (k13 y (g_neOA h2 h3) (g_neOA h2 h4)).trans h2
  refine g_Vv C hl.1 hA hH (As := []) (rest := []) (m_begins l E L f5 my h14) my_X10_begins wd356 my h14 rfl rfl rfl (Nat.le_of_ble_eq_true rfl) ⟨Nat.le_of_ble_eq_true rfl, Nat.le_of_ble_eq_true rfl⟩ ⟨Nat.le_of_ble_eq_true rfl, Nat.le_of_ble_eq_true rfl⟩ dX10_land_10 (fun L16 f15 H locs hp hH => ?_)
  obtain ⟨rfl, h17, k18⟩ := hp
  refine lv_aload_n hx hb dX10_land_13 rfl (lv_at hl 0 rfl) ?_
  refine g_Vi C hl.1 hA hH (As := []) (rest := []) (m_isGood l E L f15 my h17) my_X10_isGood wd360 my h17 rfl rfl rfl (Nat.le_of_ble_eq_true rfl) ⟨Nat.le_of_ble_eq_true rfl, Nat.le_of_ble_eq_true rfl⟩ ⟨Nat.le_of_ble_eq_true rfl, Nat.le_of_ble_eq_true rfl⟩ dX10_land_14 (fun r21 L20 f19 H locs hp hH => ?_)
  obtain ⟨er21, rfl, rfl⟩ := hp
  subst er21
  refine lv_if_eq (tgt := 71) hx hb dX10_land_17 (by decide) (fun h => absurd h (by decide)) (fun _ => ?_)
  refine lv_aload_n hx hb dX10_land_20 rfl (lv_at hl 0 rfl) ?_
  refine g_get C hH my h17 iX10 rfl 8 (by decide) wd342 rfl rfl dX10_land_21 ?_
  refine lv_if_eq (tgt := 71) hx hb dX10_land_24 (by decide) (fun _ => ?_) (fun h => absurd (by decide) h)
  refine lv_aload_n hx hb dX10_land_71 rfl (lv_at hl 0 rfl) ?_
  refine g_Vv C hl.1 hA hH (As := []) (rest := []) (m_isOver l E L f15 my h17) my_X10_isOver wd364 my h17 rfl rfl rfl (Nat.le_of_ble_eq_true rfl) ⟨Nat.le_of_ble_eq_true rfl, Nat.le_of_ble_eq_true rfl⟩ ⟨Nat.le_of_ble_eq_true rfl, Nat.le_of_ble_eq_true rfl⟩ dX10_land_72 (fun L23 f22 H locs hp hH => ?_)
  obtain ⟨rfl, h24, k25⟩ := hp
  refine lv_aload_n hx hb dX10_land_75 rfl (lv_at hl 0 rfl) ?_
  refine g_get C hH my h24 iX10 rfl 12 (by decide) wd343 rfl rfl dX10_land_76 ?_
  refine lv_if_eq (tgt := 85) hx hb dX10_land_79 (by decide) (fun _ => ?_) (fun h => absurd (by decide) h)
  refine lv_aload_n hx hb dX10_land_85 rfl (lv_at hl 0 rfl) ?_
  refine lv_iconst (v := (4 : Int32)) hx hb dX10_land_86 (by decide) ?_
  refine lv_iconst (v := (0 : Int32)) hx hb dX10_land_87 (by decide) ?_
  have h26 : f15 (ya 16) = .inl (E.2.2 1, 5, .inl v7) := (k18 (ya 16) (g_neAO h8 h14)).trans h8
  have h27 : f22 (ya 16) = .inl (E.2.2 1, 5, .inl v7) := (k25 (ya 16) (g_neAO h26 h17)).trans h26
  have h28 : f15 (ya 17) = .inl (E.2.2 1, 45, .inl v10) := (k18 (ya 17) (g_neAO h11 h14)).trans h11
  have h29 : f22 (ya 17) = .inl (E.2.2 1, 45, .inl v10) := (k25 (ya 17) (g_neAO h28 h17)).trans h28
  have h30 : f1 (ya 18) = .inl (E.2.2 1, 60, .inl v_flight) := ((congrFun ef1 (ya 18)).trans (va_up_ne _ _ (g_neAO f_flight fy))).trans f_flight
  have h31 : f5 (ya 18) = .inl (E.2.2 1, 60, .inl v_flight) := (k13 (ya 18) (g_neN h30 h3 (by decide)) (g_neN h30 h4 (by decide))).trans h30
  have h32 : f15 (ya 18) = .inl (E.2.2 1, 60, .inl v_flight) := (k18 (ya 18) (g_neAO h31 h14)).trans h31
  have h33 : f22 (ya 18) = .inl (E.2.2 1, 60, .inl v_flight) := (k25 (ya 18) (g_neAO h32 h17)).trans h32
  have h34 : f1 (ya 19) = .inl (E.2.2 1, 90, .inl v_member) := ((congrFun ef1 (ya 19)).trans (va_up_ne _ _ (g_neAO f_member fy))).trans f_member
  have h35 : f5 (ya 19) = .inl (E.2.2 1, 90, .inl v_member) := (k13 (ya 19) (g_neN h34 h3 (by decide)) (g_neN h34 h4 (by decide))).trans h34
  have h36 : f15 (ya 19) = .inl (E.2.2 1, 90, .inl v_member) := (k18 (ya 19) (g_neAO h35 h14)).trans h35
  have h37 : f22 (ya 19) = .inl (E.2.2 1, 90, .inl v_member) := (k25 (ya 19) (g_neAO h36 h17)).trans h36
  have h38 : f1 (ya 20) = .inl (E.2.2 1, 600, .inl v_act) := ((congrFun ef1 (ya 20)).trans (va_up_ne _ _ (g_neAO f_act fy))).trans f_act
  have h39 : f5 (ya 20) = .inl (E.2.2 1, 600, .inl v_act) := (k13 (ya 20) (g_neN h38 h3 (by decide)) (g_neN h38 h4 (by decide))).trans h38
  have h40 : f15 (ya 20) = .inl (E.2.2 1, 600, .inl v_act) := (k18 (ya 20) (g_neAO h39 h14)).trans h39
  have h41 : f22 (ya 20) = .inl (E.2.2 1, 600, .inl v_act) := (k25 (ya 20) (g_neAO h40 h17)).trans h40
  refine g_Vv C hl.1 hA hH (As := [.int (4 : Int32), .int (0 : Int32)]) (rest := []) (m_copyLand l E L f22 my h24 m_lines h27 m_has h29 m_flight h33 m_member h37 m_act h41 h9 h12 z_flight z_member z_act 4 0 (by omega) (by omega)) my_X10_copyLand wd329 my h24 rfl rfl rfl (Nat.le_of_ble_eq_true rfl) ⟨Nat.le_of_ble_eq_true rfl, Nat.le_of_ble_eq_true rfl⟩ ⟨Nat.le_of_ble_eq_true rfl, Nat.le_of_ble_eq_true rfl⟩ dX10_land_88 (fun L43 f42 H locs hp hH => ?_)
  obtain ⟨rfl, ⟨v44, h45, h46⟩, k47⟩ := hp
  refine lv_aload_n hx hb dX10_land_91 rfl (lv_at hl 0 rfl) ?_
  have h48 : f42 y = .inr (10, [.int (0 : Int32), .ref (ya 1), .ref (ya 2), .ref (ya 3), .ref (ya 4), .ref (ya 5), .int (0 : Int32), .int (0 : Int32), .int (0 : Int32), .int (0 : Int32), .int (0 : Int32), .long (0 : Int64), .int (0 : Int32), .int (-1 : Int32), .int (0 : Int32), .int (-1 : Int32), .ref (ya 16), .ref (ya 17), .ref (ya 18), .ref (ya 19), .ref (ya 20), .ref (ya 21), .int (0 : Int32), .int (0 : Int32), .int (0 : Int32), .ref (ya 25), .ref (ya 26), .ref (ya 27), .ref (ya 28), .ref (ya 29), .ref (ya 30), .ref (ya 31), .ref (ya 32), .ref (ya 33), .ref (ya 34), .ref (ya 35), .int (0 : Int32), .int (0 : Int32), .ref (ya 38), .int (0 : Int32), .int (0 : Int32), .ref (ya 41), .ref (ya 42), .int (0 : Int32), .int (0 : Int32), .int (0 : Int32), .int (0 : Int32), .int (0 : Int32)]) := (k47 y (g_neOA h24 h27) (g_neOA h24 h29) (g_neOA h24 h33) (g_neOA h24 h37) (g_neOA h24 h41)).trans h24
  refine g_get C hH my h48 iX10 rfl 16 (by decide) wd245 rfl rfl dX10_land_92 ?_
  refine lv_iconst (v := (0 : Int32)) hx hb dX10_land_95 (by decide) ?_
  refine g_iald C hH m_lines h45 (vp_inL (by decide)) dX10_land_96 ?_
  refine lv_topi (fun z49 ez49 => ?_)
  obtain rfl : z49 = (0 : Int32) := ez49.trans (h46 _)
  refine g_iret C hr hH (Nat.le_of_ble_eq_true rfl) (Nat.le_of_ble_eq_true rfl) dX10_land_97 ?_
  exact rfl
