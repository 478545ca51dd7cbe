def gFreshM (E : gE) (L : List Nat) (f : gF) (y : Nat) : Prop := ∃ (ya : Nat → Nat) (wc : Nat → Int32), y ∈ L ∧ f y = .inr (10, [.int (0 : Int32), .ref (ya 1), .ref (ya 2), .ref (ya 3), .ref (ya 4), .ref (ya 5), .int (0 : Int32), .int (0 : Int32), .int (0 : Int32), .int (0 : Int32), .int (0 : Int32), .long (0 : Int64), .int (0 : Int32), .int (0 : Int32), .int (0 : Int32), .int (-1 : Int32), .ref (ya 16), .ref (ya 17), .ref (ya 18), .ref (ya 19), .ref (ya 20), .ref (ya 21), .int (0 : Int32), .int (0 : Int32), .int (0 : Int32), .ref (ya 25), .ref (ya 26), .ref (ya 27), .ref (ya 28), .ref (ya 29), .ref (ya 30), .ref (ya 31), .ref (ya 32), .ref (ya 33), .ref (ya 34), .ref (ya 35), .int (0 : Int32), .int (0 : Int32), .ref (ya 38), .int (0 : Int32), .int (0 : Int32), .ref (ya 41), .ref (ya 42), .int (0 : Int32), .int (0 : Int32), .int (0 : Int32), .int (0 : Int32), .int (0 : Int32)]) ∧ ya 1 ∈ L ∧ f (ya 1) = .inl (E.2.2 1, 4, .inl wc) ∧ ya 2 ∈ L ∧ f (ya 2) = .inl (E.2.2 1, 4, .inl (fun _ => 0)) ∧ ya 3 ∈ L ∧ f (ya 3) = .inl (E.2.2 2, 240, .inr (.inl (fun _ => 0))) ∧ ya 5 ∈ L ∧ f (ya 5) = .inl (E.2.2 0, 800, .inl (fun _ => 0)) ∧ ya 16 ∈ L ∧ f (ya 16) = .inl (E.2.2 1, 5, .inl (fun _ => 0)) ∧ ya 17 ∈ L ∧ f (ya 17) = .inl (E.2.2 1, 45, .inl (fun _ => 0)) ∧ ya 18 ∈ L ∧ f (ya 18) = .inl (E.2.2 1, 60, .inl (fun _ => 0)) ∧ ya 19 ∈ L ∧ f (ya 19) = .inl (E.2.2 1, 90, .inl (fun _ => 0)) ∧ ya 20 ∈ L ∧ f (ya 20) = .inl (E.2.2 1, 600, .inl (fun _ => 0)) ∧ ya 21 ∈ L ∧ f (ya 21) = .inl (E.2.2 3, 3, .inl (fun _ => 0)) ∧ ∀ k, k < 4 → wc k = -1
set_option maxHeartbeats 4000000 in
set_option maxRecDepth 100000 in
theorem m_Model (l : Launch) (E : gE) (L : List Nat) (f : gF) {q : Nat} (mq : q ∈ L) (fq : f q = .inr (10, [.int (0 : Int32), .null, .null, .null, .null, .null, .int (0 : Int32), .int (0 : Int32), .int (0 : Int32), .int (0 : Int32), .int (0 : Int32), .long (0 : Int64), .int (0 : Int32), .int (0 : Int32), .int (0 : Int32), .int (0 : Int32), .null, .null, .null, .null, .null, .null, .int (0 : Int32), .int (0 : Int32), .int (0 : Int32), .null, .null, .null, .null, .null, .null, .null, .null, .null, .null, .null, .int (0 : Int32), .int (0 : Int32), .null, .int (0 : Int32), .int (0 : Int32), .null, .null, .int (0 : Int32), .int (0 : Int32), .int (0 : Int32), .int (0 : Int32), .int (0 : Int32)])) : gMv l E yX10_init cX10_init 2 (gRm 1 25 2551) [.ref q] L f (fun L1 f1 => gFreshM E L1 f1 q ∧ (∀ b ∈ L, b ∈ L1) ∧ (∀ b ∈ L, b ≠ q → f1 b = f b)) := by
  refine gMv.intro (by decide) (Nat.le_of_ble_eq_true rfl) ?_
  intro p e s m below meth c A ls C hr hnm hA hH hl
  have C : gC E cX10_init 2 RX10 p s m _ meth c := C
  have hl : lv_has ls 2 [(0, .ref q)] := hl
  have hx := C.1
  have hb := C.2.1
  refine lv_aload_n hx hb dX10_init_0 rfl (lv_at hl 0 rfl) ?_
  refine g_obj C hl.1 wd365 wd154 wd155 dX10_init_1 (Nat.le_of_ble_eq_true rfl) (Nat.le_of_ble_eq_true rfl) ?_
  refine lv_aload_n hx hb dX10_init_4 rfl (lv_at hl 0 rfl) ?_
  refine lv_iconst (v := (4 : Int32)) hx hb dX10_init_5 (by decide) ?_
  refine g_newa C hH hA 1 rfl (fun _ _ h => h) wd156 rfl (N' := 4) (a0 := (4, (.inl (fun _ => 0)))) (avI 4) (by decide) (by decide) (Nat.le_of_ble_eq_true rfl) (Nat.le_of_ble_eq_true rfl) (Nat.le_of_ble_eq_true rfl) dX10_init_6 (fun q1 H n2 hH => ?_)
  obtain ⟨f3, ef3⟩ : ∃ z : gF, z = va_up f q1 (.inl (E.2.2 1, 4, .inl (fun _ => 0))) := ⟨_, rfl⟩
  obtain ⟨L4, eL4⟩ : ∃ z : List Nat, z = L ++ [q1] := ⟨_, rfl⟩
  have hH := g_re ef3 eL4 hH
  have sb5 : ∀ b ∈ L, b ∈ L4 := fun b h => by rw [eL4]; exact List.mem_append_left _ h
  have h6 : q1 ∈ L4 := by rw [eL4]; exact List.mem_append_right _ List.mem_cons_self
  have h7 : f3 q1 = .inl (E.2.2 1, 4, .inl (fun _ => 0)) := (congrFun ef3 q1).trans (va_up_self _ _ _)
  have h8 : f3 q = .inr (10, [.int (0 : Int32), .null, .null, .null, .null, .null, .int (0 : Int32), .int (0 : Int32), .int (0 : Int32), .int (0 : Int32), .int (0 : Int32), .long (0 : Int64), .int (0 : Int32), .int (0 : Int32), .int (0 : Int32), .int (0 : Int32), .null, .null, .null, .null, .null, .null, .int (0 : Int32), .int (0 : Int32), .int (0 : Int32), .null, .null, .null, .null, .null, .null, .null, .null, .null, .null, .null, .int (0 : Int32), .int (0 : Int32), .null, .int (0 : Int32), .int (0 : Int32), .null, .null, .int (0 : Int32), .int (0 : Int32), .int (0 : Int32), .int (0 : Int32), .int (0 : Int32)]) := ((congrFun ef3 q).trans (va_up_ne _ _ (g_neL mq n2))).trans fq
  have h9 : q ∈ L4 := sb5 _ mq
  refine g_putF C hH h9 h8 iX10 tyX10 tyX10_ok nmX10 rfl 1 (by decide) wd315 rfl rfl hnm rfl rfl rfl (Nat.le_of_ble_eq_true rfl) (fs' := [.int (0 : Int32), .ref q1, .null, .null, .null, .null, .int (0 : Int32), .int (0 : Int32), .int (0 : Int32), .int (0 : Int32), .int (0 : Int32), .long (0 : Int64), .int (0 : Int32), .int (0 : Int32), .int (0 : Int32), .int (0 : Int32), .null, .null, .null, .null, .null, .null, .int (0 : Int32), .int (0 : Int32), .int (0 : Int32), .null, .null, .null, .null, .null, .null, .null, .null, .null, .null, .null, .int (0 : Int32), .int (0 : Int32), .null, .int (0 : Int32), .int (0 : Int32), .null, .null, .int (0 : Int32), .int (0 : Int32), .int (0 : Int32), .int (0 : Int32), .int (0 : Int32)]) rfl dX10_init_8 (fun H locs hH => ?_)
  obtain ⟨f10, ef10⟩ : ∃ z : gF, z = va_up f3 q (.inr (10, [.int (0 : Int32), .ref q1, .null, .null, .null, .null, .int (0 : Int32), .int (0 : Int32), .int (0 : Int32), .int (0 : Int32), .int (0 : Int32), .long (0 : Int64), .int (0 : Int32), .int (0 : Int32), .int (0 : Int32), .int (0 : Int32), .null, .null, .null, .null, .null, .null, .int (0 : Int32), .int (0 : Int32), .int (0 : Int32), .null, .null, .null, .null, .null, .null, .null, .null, .null, .null, .null, .int (0 : Int32), .int (0 : Int32), .null, .int (0 : Int32), .int (0 : Int32), .null, .null, .int (0 : Int32), .int (0 : Int32), .int (0 : Int32), .int (0 : Int32), .int (0 : Int32)])) := ⟨_, rfl⟩
  have hH : gH E A L4 f10 s.heap H locs := by rw [ef10]; exact hH
  have h11 : f10 q = .inr (10, [.int (0 : Int32), .ref q1, .null, .null, .null, .null, .int (0 : Int32), .int (0 : Int32), .int (0 : Int32), .int (0 : Int32), .int (0 : Int32), .long (0 : Int64), .int (0 : Int32), .int (0 : Int32), .int (0 : Int32), .int (0 : Int32), .null, .null, .null, .null, .null, .null, .int (0 : Int32), .int (0 : Int32), .int (0 : Int32), .null, .null, .null, .null, .null, .null, .null, .null, .null, .null, .null, .int (0 : Int32), .int (0 : Int32), .null, .int (0 : Int32), .int (0 : Int32), .null, .null, .int (0 : Int32), .int (0 : Int32), .int (0 : Int32), .int (0 : Int32), .int (0 : Int32)]) := (congrFun ef10 q).trans (va_up_self _ _ _)
  refine lv_aload_n hx hb dX10_init_11 rfl (lv_at hl 0 rfl) ?_
  refine lv_iconst (v := (4 : Int32)) hx hb dX10_init_12 (by decide) ?_
  refine g_newa C hH hA 1 rfl (fun _ _ h => h) wd156 rfl (N' := 4) (a0 := (4, (.inl (fun _ => 0)))) (avI 4) (by decide) (by decide) (Nat.le_of_ble_eq_true rfl) (Nat.le_of_ble_eq_true rfl) (Nat.le_of_ble_eq_true rfl) dX10_init_13 (fun q12 H n13 hH => ?_)
  obtain ⟨f14, ef14⟩ : ∃ z : gF, z = va_up f10 q12 (.inl (E.2.2 1, 4, .inl (fun _ => 0))) := ⟨_, rfl⟩
  obtain ⟨L15, eL15⟩ : ∃ z : List Nat, z = L4 ++ [q12] := ⟨_, rfl⟩
  have hH := g_re ef14 eL15 hH
  have sb16 : ∀ b ∈ L4, b ∈ L15 := fun b h => by rw [eL15]; exact List.mem_append_left _ h
  have h17 : f10 q1 = .inl (E.2.2 1, 4, .inl (fun _ => 0)) := ((congrFun ef10 q1).trans (va_up_ne _ _ (g_neAO h7 h8))).trans h7
  have h18 : q1 ≠ q12 := g_neL h6 n13
  have h19 : q12 ∈ L15 := by rw [eL15]; exact List.mem_append_right _ List.mem_cons_self
  have h20 : f14 q12 = .inl (E.2.2 1, 4, .inl (fun _ => 0)) := (congrFun ef14 q12).trans (va_up_self _ _ _)
  have h21 : f14 q = .inr (10, [.int (0 : Int32), .ref q1, .null, .null, .null, .null, .int (0 : Int32), .int (0 : Int32), .int (0 : Int32), .int (0 : Int32), .int (0 : Int32), .long (0 : Int64), .int (0 : Int32), .int (0 : Int32), .int (0 : Int32), .int (0 : Int32), .null, .null, .null, .null, .null, .null, .int (0 : Int32), .int (0 : Int32), .int (0 : Int32), .null, .null, .null, .null, .null, .null, .null, .null, .null, .null, .null, .int (0 : Int32), .int (0 : Int32), .null, .int (0 : Int32), .int (0 : Int32), .null, .null, .int (0 : Int32), .int (0 : Int32), .int (0 : Int32), .int (0 : Int32), .int (0 : Int32)]) := ((congrFun ef14 q).trans (va_up_ne _ _ (g_neL h9 n13))).trans h11
  have h22 : q ∈ L15 := sb16 _ h9
  refine g_putF C hH h22 h21 iX10 tyX10 tyX10_ok nmX10 rfl 2 (by decide) wd319 rfl rfl hnm rfl rfl rfl (Nat.le_of_ble_eq_true rfl) (fs' := [.int (0 : Int32), .ref q1, .ref q12, .null, .null, .null, .int (0 : Int32), .int (0 : Int32), .int (0 : Int32), .int (0 : Int32), .int (0 : Int32), .long (0 : Int64), .int (0 : Int32), .int (0 : Int32), .int (0 : Int32), .int (0 : Int32), .null, .null, .null, .null, .null, .null, .int (0 : Int32), .int (0 : Int32), .int (0 : Int32), .null, .null, .null, .null, .null, .null, .null, .null, .null, .null, .null, .int (0 : Int32), .int (0 : Int32), .null, .int (0 : Int32), .int (0 : Int32), .null, .null, .int (0 : Int32), .int (0 : Int32), .int (0 : Int32), .int (0 : Int32), .int (0 : Int32)]) rfl dX10_init_15 (fun H locs hH => ?_)
  obtain ⟨f23, ef23⟩ : ∃ z : gF, z = va_up f14 q (.inr (10, [.int (0 : Int32), .ref q1, .ref q12, .null, .null, .null, .int (0 : Int32), .int (0 : Int32), .int (0 : Int32), .int (0 : Int32), .int (0 : Int32), .long (0 : Int64), .int (0 : Int32), .int (0 : Int32), .int (0 : Int32), .int (0 : Int32), .null, .null, .null, .null, .null, .null, .int (0 : Int32), .int (0 : Int32), .int (0 : Int32), .null, .null, .null, .null, .null, .null, .null, .null, .null, .null, .null, .int (0 : Int32), .int (0 : Int32), .null, .int (0 : Int32), .int (0 : Int32), .null, .null, .int (0 : Int32), .int (0 : Int32), .int (0 : Int32), .int (0 : Int32), .int (0 : Int32)])) := ⟨_, rfl⟩
  have hH : gH E A L15 f23 s.heap H locs := by rw [ef23]; exact hH
  have h24 : f23 q = .inr (10, [.int (0 : Int32), .ref q1, .ref q12, .null, .null, .null, .int (0 : Int32), .int (0 : Int32), .int (0 : Int32), .int (0 : Int32), .int (0 : Int32), .long (0 : Int64), .int (0 : Int32), .int (0 : Int32), .int (0 : Int32), .int (0 : Int32), .null, .null, .null, .null, .null, .null, .int (0 : Int32), .int (0 : Int32), .int (0 : Int32), .null, .null, .null, .null, .null, .null, .null, .null, .null, .null, .null, .int (0 : Int32), .int (0 : Int32), .null, .int (0 : Int32), .int (0 : Int32), .null, .null, .int (0 : Int32), .int (0 : Int32), .int (0 : Int32), .int (0 : Int32), .int (0 : Int32)]) := (congrFun ef23 q).trans (va_up_self _ _ _)
  refine lv_aload_n hx hb dX10_init_18 rfl (lv_at hl 0 rfl) ?_
  refine lv_sipush (v := (240 : Int32)) hx hb dX10_init_19 (by decide) ?_
  refine g_newa C hH hA 2 rfl (fun _ _ h => h) wd160 rfl (N' := 240) (a0 := (240, (.inr (.inl (fun _ => 0))))) (avJ 240) (by decide) (by decide) (Nat.le_of_ble_eq_true rfl) (Nat.le_of_ble_eq_true rfl) (Nat.le_of_ble_eq_true rfl) dX10_init_22 (fun q25 H n26 hH => ?_)
  obtain ⟨f27, ef27⟩ : ∃ z : gF, z = va_up f23 q25 (.inl (E.2.2 2, 240, .inr (.inl (fun _ => 0)))) := ⟨_, rfl⟩
  obtain ⟨L28, eL28⟩ : ∃ z : List Nat, z = L15 ++ [q25] := ⟨_, rfl⟩
  have hH := g_re ef27 eL28 hH
  have sb29 : ∀ b ∈ L15, b ∈ L28 := fun b h => by rw [eL28]; exact List.mem_append_left _ h
  have h30 : q25 ∈ L28 := by rw [eL28]; exact List.mem_append_right _ List.mem_cons_self
  have h31 : f27 q25 = .inl (E.2.2 2, 240, .inr (.inl (fun _ => 0))) := (congrFun ef27 q25).trans (va_up_self _ _ _)
  have h32 : f27 q = .inr (10, [.int (0 : Int32), .ref q1, .ref q12, .null, .null, .null, .int (0 : Int32), .int (0 : Int32), .int (0 : Int32), .int (0 : Int32), .int (0 : Int32), .long (0 : Int64), .int (0 : Int32), .int (0 : Int32), .int (0 : Int32), .int (0 : Int32), .null, .null, .null, .null, .null, .null, .int (0 : Int32), .int (0 : Int32), .int (0 : Int32), .null, .null, .null, .null, .null, .null, .null, .null, .null, .null, .null, .int (0 : Int32), .int (0 : Int32), .null, .int (0 : Int32), .int (0 : Int32), .null, .null, .int (0 : Int32), .int (0 : Int32), .int (0 : Int32), .int (0 : Int32), .int (0 : Int32)]) := ((congrFun ef27 q).trans (va_up_ne _ _ (g_neL h22 n26))).trans h24
  have h33 : q ∈ L28 := sb29 _ h22
  refine g_putF C hH h33 h32 iX10 tyX10 tyX10_ok nmX10 rfl 3 (by decide) wd318 rfl rfl hnm rfl rfl rfl (Nat.le_of_ble_eq_true rfl) (fs' := [.int (0 : Int32), .ref q1, .ref q12, .ref q25, .null, .null, .int (0 : Int32), .int (0 : Int32), .int (0 : Int32), .int (0 : Int32), .int (0 : Int32), .long (0 : Int64), .int (0 : Int32), .int (0 : Int32), .int (0 : Int32), .int (0 : Int32), .null, .null, .null, .null, .null, .null, .int (0 : Int32), .int (0 : Int32), .int (0 : Int32), .null, .null, .null, .null, .null, .null, .null, .null, .null, .null, .null, .int (0 : Int32), .int (0 : Int32), .null, .int (0 : Int32), .int (0 : Int32), .null, .null, .int (0 : Int32), .int (0 : Int32), .int (0 : Int32), .int (0 : Int32), .int (0 : Int32)]) rfl dX10_init_24 (fun H locs hH => ?_)
  obtain ⟨f34, ef34⟩ : ∃ z : gF, z = va_up f27 q (.inr (10, [.int (0 : Int32), .ref q1, .ref q12, .ref q25, .null, .null, .int (0 : Int32), .int (0 : Int32), .int (0 : Int32), .int (0 : Int32), .int (0 : Int32), .long (0 : Int64), .int (0 : Int32), .int (0 : Int32), .int (0 : Int32), .int (0 : Int32), .null, .null, .null, .null, .null, .null, .int (0 : Int32), .int (0 : Int32), .int (0 : Int32), .null, .null, .null, .null, .null, .null, .null, .null, .null, .null, .null, .int (0 : Int32), .int (0 : Int32), .null, .int (0 : Int32), .int (0 : Int32), .null, .null, .int (0 : Int32), .int (0 : Int32), .int (0 : Int32), .int (0 : Int32), .int (0 : Int32)])) := ⟨_, rfl⟩
  have hH : gH E A L28 f34 s.heap H locs := by rw [ef34]; exact hH
  have h35 : f34 q = .inr (10, [.int (0 : Int32), .ref q1, .ref q12, .ref q25, .null, .null, .int (0 : Int32), .int (0 : Int32), .int (0 : Int32), .int (0 : Int32), .int (0 : Int32), .long (0 : Int64), .int (0 : Int32), .int (0 : Int32), .int (0 : Int32), .int (0 : Int32), .null, .null, .null, .null, .null, .null, .int (0 : Int32), .int (0 : Int32), .int (0 : Int32), .null, .null, .null, .null, .null, .null, .null, .null, .null, .null, .null, .int (0 : Int32), .int (0 : Int32), .null, .int (0 : Int32), .int (0 : Int32), .null, .null, .int (0 : Int32), .int (0 : Int32), .int (0 : Int32), .int (0 : Int32), .int (0 : Int32)]) := (congrFun ef34 q).trans (va_up_self _ _ _)
  refine lv_aload_n hx hb dX10_init_27 rfl (lv_at hl 0 rfl) ?_
  refine lv_bipush (v := (60 : Int32)) hx hb dX10_init_28 (by decide) ?_
  refine g_newa C hH hA 2 rfl (fun _ _ h => h) wd160 rfl (N' := 60) (a0 := (60, (.inr (.inl (fun _ => 0))))) (avJ 60) (by decide) (by decide) (Nat.le_of_ble_eq_true rfl) (Nat.le_of_ble_eq_true rfl) (Nat.le_of_ble_eq_true rfl) dX10_init_30 (fun q36 H n37 hH => ?_)
  obtain ⟨f38, ef38⟩ : ∃ z : gF, z = va_up f34 q36 (.inl (E.2.2 2, 60, .inr (.inl (fun _ => 0)))) := ⟨_, rfl⟩
  obtain ⟨L39, eL39⟩ : ∃ z : List Nat, z = L28 ++ [q36] := ⟨_, rfl⟩
  have hH := g_re ef38 eL39 hH
  have sb40 : ∀ b ∈ L28, b ∈ L39 := fun b h => by rw [eL39]; exact List.mem_append_left _ h
  have h41 : q36 ∈ L39 := by rw [eL39]; exact List.mem_append_right _ List.mem_cons_self
  have h42 : f38 q36 = .inl (E.2.2 2, 60, .inr (.inl (fun _ => 0))) := (congrFun ef38 q36).trans (va_up_self _ _ _)
  have h43 : f38 q = .inr (10, [.int (0 : Int32), .ref q1, .ref q12, .ref q25, .null, .null, .int (0 : Int32), .int (0 : Int32), .int (0 : Int32), .int (0 : Int32), .int (0 : Int32), .long (0 : Int64), .int (0 : Int32), .int (0 : Int32), .int (0 : Int32), .int (0 : Int32), .null, .null, .null, .null, .null, .null, .int (0 : Int32), .int (0 : Int32), .int (0 : Int32), .null, .null, .null, .null, .null, .null, .null, .null, .null, .null, .null, .int (0 : Int32), .int (0 : Int32), .null, .int (0 : Int32), .int (0 : Int32), .null, .null, .int (0 : Int32), .int (0 : Int32), .int (0 : Int32), .int (0 : Int32), .int (0 : Int32)]) := ((congrFun ef38 q).trans (va_up_ne _ _ (g_neL h33 n37))).trans h35
  have h44 : q ∈ L39 := sb40 _ h33
  refine g_putF C hH h44 h43 iX10 tyX10 tyX10_ok nmX10 rfl 4 (by decide) wd366 rfl rfl hnm rfl rfl rfl (Nat.le_of_ble_eq_true rfl) (fs' := [.int (0 : Int32), .ref q1, .ref q12, .ref q25, .ref q36, .null, .int (0 : Int32), .int (0 : Int32), .int (0 : Int32), .int (0 : Int32), .int (0 : Int32), .long (0 : Int64), .int (0 : Int32), .int (0 : Int32), .int (0 : Int32), .int (0 : Int32), .null, .null, .null, .null, .null, .null, .int (0 : Int32), .int (0 : Int32), .int (0 : Int32), .null, .null, .null, .null, .null, .null, .null, .null, .null, .null, .null, .int (0 : Int32), .int (0 : Int32), .null, .int (0 : Int32), .int (0 : Int32), .null, .null, .int (0 : Int32), .int (0 : Int32), .int (0 : Int32), .int (0 : Int32), .int (0 : Int32)]) rfl dX10_init_32 (fun H locs hH => ?_)
  obtain ⟨f45, ef45⟩ : ∃ z : gF, z = va_up f38 q (.inr (10, [.int (0 : Int32), .ref q1, .ref q12, .ref q25, .ref q36, .null, .int (0 : Int32), .int (0 : Int32), .int (0 : Int32), .int (0 : Int32), .int (0 : Int32), .long (0 : Int64), .int (0 : Int32), .int (0 : Int32), .int (0 : Int32), .int (0 : Int32), .null, .null, .null, .null, .null, .null, .int (0 : Int32), .int (0 : Int32), .int (0 : Int32), .null, .null, .null, .null, .null, .null, .null, .null, .null, .null, .null, .int (0 : Int32), .int (0 : Int32), .null, .int (0 : Int32), .int (0 : Int32), .null, .null, .int (0 : Int32), .int (0 : Int32), .int (0 : Int32), .int (0 : Int32), .int (0 : Int32)])) := ⟨_, rfl⟩
  have hH : gH E A L39 f45 s.heap H locs := by rw [ef45]; exact hH
  have h46 : f45 q = .inr (10, [.int (0 : Int32), .ref q1, .ref q12, .ref q25, .ref q36, .null, .int (0 : Int32), .int (0 : Int32), .int (0 : Int32), .int (0 : Int32), .int (0 : Int32), .long (0 : Int64), .int (0 : Int32), .int (0 : Int32), .int (0 : Int32), .int (0 : Int32), .null, .null, .null, .null, .null, .null, .int (0 : Int32), .int (0 : Int32), .int (0 : Int32), .null, .null, .null, .null, .null, .null, .null, .null, .null, .null, .null, .int (0 : Int32), .int (0 : Int32), .null, .int (0 : Int32), .int (0 : Int32), .null, .null, .int (0 : Int32), .int (0 : Int32), .int (0 : Int32), .int (0 : Int32), .int (0 : Int32)]) := (congrFun ef45 q).trans (va_up_self _ _ _)
  refine lv_aload_n hx hb dX10_init_35 rfl (lv_at hl 0 rfl) ?_
  refine lv_sipush (v := (800 : Int32)) hx hb dX10_init_36 (by decide) ?_
  refine g_newa C hH hA 0 rfl (fun _ _ h => h) wd158 rfl (N' := 800) (a0 := (800, (.inl (fun _ => 0)))) (avB 800) (by decide) (by decide) (Nat.le_of_ble_eq_true rfl) (Nat.le_of_ble_eq_true rfl) (Nat.le_of_ble_eq_true rfl) dX10_init_39 (fun q47 H n48 hH => ?_)
  obtain ⟨f49, ef49⟩ : ∃ z : gF, z = va_up f45 q47 (.inl (E.2.2 0, 800, .inl (fun _ => 0))) := ⟨_, rfl⟩
  obtain ⟨L50, eL50⟩ : ∃ z : List Nat, z = L39 ++ [q47] := ⟨_, rfl⟩
  have hH := g_re ef49 eL50 hH
  have sb51 : ∀ b ∈ L39, b ∈ L50 := fun b h => by rw [eL50]; exact List.mem_append_left _ h
  have h52 : q47 ∈ L50 := by rw [eL50]; exact List.mem_append_right _ List.mem_cons_self
  have h53 : f49 q47 = .inl (E.2.2 0, 800, .inl (fun _ => 0)) := (congrFun ef49 q47).trans (va_up_self _ _ _)
  have h54 : f49 q = .inr (10, [.int (0 : Int32), .ref q1, .ref q12, .ref q25, .ref q36, .null, .int (0 : Int32), .int (0 : Int32), .int (0 : Int32), .int (0 : Int32), .int (0 : Int32), .long (0 : Int64), .int (0 : Int32), .int (0 : Int32), .int (0 : Int32), .int (0 : Int32), .null, .null, .null, .null, .null, .null, .int (0 : Int32), .int (0 : Int32), .int (0 : Int32), .null, .null, .null, .null, .null, .null, .null, .null, .null, .null, .null, .int (0 : Int32), .int (0 : Int32), .null, .int (0 : Int32), .int (0 : Int32), .null, .null, .int (0 : Int32), .int (0 : Int32), .int (0 : Int32), .int (0 : Int32), .int (0 : Int32)]) := ((congrFun ef49 q).trans (va_up_ne _ _ (g_neL h44 n48))).trans h46
  have h55 : q ∈ L50 := sb51 _ h44
  refine g_putF C hH h55 h54 iX10 tyX10 tyX10_ok nmX10 rfl 5 (by decide) wd307 rfl rfl hnm rfl rfl rfl (Nat.le_of_ble_eq_true rfl) (fs' := [.int (0 : Int32), .ref q1, .ref q12, .ref q25, .ref q36, .ref q47, .int (0 : Int32), .int (0 : Int32), .int (0 : Int32), .int (0 : Int32), .int (0 : Int32), .long (0 : Int64), .int (0 : Int32), .int (0 : Int32), .int (0 : Int32), .int (0 : Int32), .null, .null, .null, .null, .null, .null, .int (0 : Int32), .int (0 : Int32), .int (0 : Int32), .null, .null, .null, .null, .null, .null, .null, .null, .null, .null, .null, .int (0 : Int32), .int (0 : Int32), .null, .int (0 : Int32), .int (0 : Int32), .null, .null, .int (0 : Int32), .int (0 : Int32), .int (0 : Int32), .int (0 : Int32), .int (0 : Int32)]) rfl dX10_init_41 (fun H locs hH => ?_)
  obtain ⟨f56, ef56⟩ : ∃ z : gF, z = va_up f49 q (.inr (10, [.int (0 : Int32), .ref q1, .ref q12, .ref q25, .ref q36, .ref q47, .int (0 : Int32), .int (0 : Int32), .int (0 : Int32), .int (0 : Int32), .int (0 : Int32), .long (0 : Int64), .int (0 : Int32), .int (0 : Int32), .int (0 : Int32), .int (0 : Int32), .null, .null, .null, .null, .null, .null, .int (0 : Int32), .int (0 : Int32), .int (0 : Int32), .null, .null, .null, .null, .null, .null, .null, .null, .null, .null, .null, .int (0 : Int32), .int (0 : Int32), .null, .int (0 : Int32), .int (0 : Int32), .null, .null, .int (0 : Int32), .int (0 : Int32), .int (0 : Int32), .int (0 : Int32), .int (0 : Int32)])) := ⟨_, rfl⟩
  have hH : gH E A L50 f56 s.heap H locs := by rw [ef56]; exact hH
  have h57 : f56 q = .inr (10, [.int (0 : Int32), .ref q1, .ref q12, .ref q25, .ref q36, .ref q47, .int (0 : Int32), .int (0 : Int32), .int (0 : Int32), .int (0 : Int32), .int (0 : Int32), .long (0 : Int64), .int (0 : Int32), .int (0 : Int32), .int (0 : Int32), .int (0 : Int32), .null, .null, .null, .null, .null, .null, .int (0 : Int32), .int (0 : Int32), .int (0 : Int32), .null, .null, .null, .null, .null, .null, .null, .null, .null, .null, .null, .int (0 : Int32), .int (0 : Int32), .null, .int (0 : Int32), .int (0 : Int32), .null, .null, .int (0 : Int32), .int (0 : Int32), .int (0 : Int32), .int (0 : Int32), .int (0 : Int32)]) := (congrFun ef56 q).trans (va_up_self _ _ _)
  refine lv_aload_n hx hb dX10_init_44 rfl (lv_at hl 0 rfl) ?_
  refine lv_iconst (v := (-1 : Int32)) hx hb dX10_init_45 (by decide) ?_
  refine g_put C hH h55 h57 iX10 tyX10 tyX10_ok nmX10 rfl 15 (by decide) wd313 rfl rfl rfl rfl (Nat.le_of_ble_eq_true rfl) (fs' := [.int (0 : Int32), .ref q1, .ref q12, .ref q25, .ref q36, .ref q47, .int (0 : Int32), .int (0 : Int32), .int (0 : Int32), .int (0 : Int32), .int (0 : Int32), .long (0 : Int64), .int (0 : Int32), .int (0 : Int32), .int (0 : Int32), .int (-1 : Int32), .null, .null, .null, .null, .null, .null, .int (0 : Int32), .int (0 : Int32), .int (0 : Int32), .null, .null, .null, .null, .null, .null, .null, .null, .null, .null, .null, .int (0 : Int32), .int (0 : Int32), .null, .int (0 : Int32), .int (0 : Int32), .null, .null, .int (0 : Int32), .int (0 : Int32), .int (0 : Int32), .int (0 : Int32), .int (0 : Int32)]) rfl dX10_init_46 (fun H locs hH => ?_)
  obtain ⟨f58, ef58⟩ : ∃ z : gF, z = va_up f56 q (.inr (10, [.int (0 : Int32), .ref q1, .ref q12, .ref q25, .ref q36, .ref q47, .int (0 : Int32), .int (0 : Int32), .int (0 : Int32), .int (0 : Int32), .int (0 : Int32), .long (0 : Int64), .int (0 : Int32), .int (0 : Int32), .int (0 : Int32), .int (-1 : Int32), .null, .null, .null, .null, .null, .null, .int (0 : Int32), .int (0 : Int32), .int (0 : Int32), .null, .null, .null, .null, .null, .null, .null, .null, .null, .null, .null, .int (0 : Int32), .int (0 : Int32), .null, .int (0 : Int32), .int (0 : Int32), .null, .null, .int (0 : Int32), .int (0 : Int32), .int (0 : Int32), .int (0 : Int32), .int (0 : Int32)])) := ⟨_, rfl⟩
  have hH : gH E A L50 f58 s.heap H locs := by rw [ef58]; exact hH
  have h59 : f58 q = .inr (10, [.int (0 : Int32), .ref q1, .ref q12, .ref q25, .ref q36, .ref q47, .int (0 : Int32), .int (0 : Int32), .int (0 : Int32), .int (0 : Int32), .int (0 : Int32), .long (0 : Int64), .int (0 : Int32), .int (0 : Int32), .int (0 : Int32), .int (-1 : Int32), .null, .null, .null, .null, .null, .null, .int (0 : Int32), .int (0 : Int32), .int (0 : Int32), .null, .null, .null, .null, .null, .null, .null, .null, .null, .null, .null, .int (0 : Int32), .int (0 : Int32), .null, .int (0 : Int32), .int (0 : Int32), .null, .null, .int (0 : Int32), .int (0 : Int32), .int (0 : Int32), .int (0 : Int32), .int (0 : Int32)]) := (congrFun ef58 q).trans (va_up_self _ _ _)
  refine lv_aload_n hx hb dX10_init_49 rfl (lv_at hl 0 rfl) ?_
  refine lv_iconst (v := (5 : Int32)) hx hb dX10_init_50 (by decide) ?_
  refine g_newa C hH hA 1 rfl (fun _ _ h => h) wd156 rfl (N' := 5) (a0 := (5, (.inl (fun _ => 0)))) (avI 5) (by decide) (by decide) (Nat.le_of_ble_eq_true rfl) (Nat.le_of_ble_eq_true rfl) (Nat.le_of_ble_eq_true rfl) dX10_init_51 (fun q60 H n61 hH => ?_)
  obtain ⟨f62, ef62⟩ : ∃ z : gF, z = va_up f58 q60 (.inl (E.2.2 1, 5, .inl (fun _ => 0))) := ⟨_, rfl⟩
  obtain ⟨L63, eL63⟩ : ∃ z : List Nat, z = L50 ++ [q60] := ⟨_, rfl⟩
  have hH := g_re ef62 eL63 hH
  have sb64 : ∀ b ∈ L50, b ∈ L63 := fun b h => by rw [eL63]; exact List.mem_append_left _ h
  have h65 : q60 ∈ L63 := by rw [eL63]; exact List.mem_append_right _ List.mem_cons_self
  have h66 : f62 q60 = .inl (E.2.2 1, 5, .inl (fun _ => 0)) := (congrFun ef62 q60).trans (va_up_self _ _ _)
  have h67 : f62 q = .inr (10, [.int (0 : Int32), .ref q1, .ref q12, .ref q25, .ref q36, .ref q47, .int (0 : Int32), .int (0 : Int32), .int (0 : Int32), .int (0 : Int32), .int (0 : Int32), .long (0 : Int64), .int (0 : Int32), .int (0 : Int32), .int (0 : Int32), .int (-1 : Int32), .null, .null, .null, .null, .null, .null, .int (0 : Int32), .int (0 : Int32), .int (0 : Int32), .null, .null, .null, .null, .null, .null, .null, .null, .null, .null, .null, .int (0 : Int32), .int (0 : Int32), .null, .int (0 : Int32), .int (0 : Int32), .null, .null, .int (0 : Int32), .int (0 : Int32), .int (0 : Int32), .int (0 : Int32), .int (0 : Int32)]) := ((congrFun ef62 q).trans (va_up_ne _ _ (g_neL h55 n61))).trans h59
  have h68 : q ∈ L63 := sb64 _ h55
  refine g_putF C hH h68 h67 iX10 tyX10 tyX10_ok nmX10 rfl 16 (by decide) wd245 rfl rfl hnm rfl rfl rfl (Nat.le_of_ble_eq_true rfl) (fs' := [.int (0 : Int32), .ref q1, .ref q12, .ref q25, .ref q36, .ref q47, .int (0 : Int32), .int (0 : Int32), .int (0 : Int32), .int (0 : Int32), .int (0 : Int32), .long (0 : Int64), .int (0 : Int32), .int (0 : Int32), .int (0 : Int32), .int (-1 : Int32), .ref q60, .null, .null, .null, .null, .null, .int (0 : Int32), .int (0 : Int32), .int (0 : Int32), .null, .null, .null, .null, .null, .null, .null, .null, .null, .null, .null, .int (0 : Int32), .int (0 : Int32), .null, .int (0 : Int32), .int (0 : Int32), .null, .null, .int (0 : Int32), .int (0 : Int32), .int (0 : Int32), .int (0 : Int32), .int (0 : Int32)]) rfl dX10_init_53 (fun H locs hH => ?_)
  obtain ⟨f69, ef69⟩ : ∃ z : gF, z = va_up f62 q (.inr (10, [.int (0 : Int32), .ref q1, .ref q12, .ref q25, .ref q36, .ref q47, .int (0 : Int32), .int (0 : Int32), .int (0 : Int32), .int (0 : Int32), .int (0 : Int32), .long (0 : Int64), .int (0 : Int32), .int (0 : Int32), .int (0 : Int32), .int (-1 : Int32), .ref q60, .null, .null, .null, .null, .null, .int (0 : Int32), .int (0 : Int32), .int (0 : Int32), .null, .null, .null, .null, .null, .null, .null, .null, .null, .null, .null, .int (0 : Int32), .int (0 : Int32), .null, .int (0 : Int32), .int (0 : Int32), .null, .null, .int (0 : Int32), .int (0 : Int32), .int (0 : Int32), .int (0 : Int32), .int (0 : Int32)])) := ⟨_, rfl⟩
  have hH : gH E A L63 f69 s.heap H locs := by rw [ef69]; exact hH
  have h70 : f69 q = .inr (10, [.int (0 : Int32), .ref q1, .ref q12, .ref q25, .ref q36, .ref q47, .int (0 : Int32), .int (0 : Int32), .int (0 : Int32), .int (0 : Int32), .int (0 : Int32), .long (0 : Int64), .int (0 : Int32), .int (0 : Int32), .int (0 : Int32), .int (-1 : Int32), .ref q60, .null, .null, .null, .null, .null, .int (0 : Int32), .int (0 : Int32), .int (0 : Int32), .null, .null, .null, .null, .null, .null, .null, .null, .null, .null, .null, .int (0 : Int32), .int (0 : Int32), .null, .int (0 : Int32), .int (0 : Int32), .null, .null, .int (0 : Int32), .int (0 : Int32), .int (0 : Int32), .int (0 : Int32), .int (0 : Int32)]) := (congrFun ef69 q).trans (va_up_self _ _ _)
  refine lv_aload_n hx hb dX10_init_56 rfl (lv_at hl 0 rfl) ?_
  refine lv_bipush (v := (45 : Int32)) hx hb dX10_init_57 (by decide) ?_
  refine g_newa C hH hA 1 rfl (fun _ _ h => h) wd156 rfl (N' := 45) (a0 := (45, (.inl (fun _ => 0)))) (avI 45) (by decide) (by decide) (Nat.le_of_ble_eq_true rfl) (Nat.le_of_ble_eq_true rfl) (Nat.le_of_ble_eq_true rfl) dX10_init_59 (fun q71 H n72 hH => ?_)
  obtain ⟨f73, ef73⟩ : ∃ z : gF, z = va_up f69 q71 (.inl (E.2.2 1, 45, .inl (fun _ => 0))) := ⟨_, rfl⟩
  obtain ⟨L74, eL74⟩ : ∃ z : List Nat, z = L63 ++ [q71] := ⟨_, rfl⟩
  have hH := g_re ef73 eL74 hH
  have sb75 : ∀ b ∈ L63, b ∈ L74 := fun b h => by rw [eL74]; exact List.mem_append_left _ h
  have h76 : q71 ∈ L74 := by rw [eL74]; exact List.mem_append_right _ List.mem_cons_self
  have h77 : f73 q71 = .inl (E.2.2 1, 45, .inl (fun _ => 0)) := (congrFun ef73 q71).trans (va_up_self _ _ _)
  have h78 : f73 q = .inr (10, [.int (0 : Int32), .ref q1, .ref q12, .ref q25, .ref q36, .ref q47, .int (0 : Int32), .int (0 : Int32), .int (0 : Int32), .int (0 : Int32), .int (0 : Int32), .long (0 : Int64), .int (0 : Int32), .int (0 : Int32), .int (0 : Int32), .int (-1 : Int32), .ref q60, .null, .null, .null, .null, .null, .int (0 : Int32), .int (0 : Int32), .int (0 : Int32), .null, .null, .null, .null, .null, .null, .null, .null, .null, .null, .null, .int (0 : Int32), .int (0 : Int32), .null, .int (0 : Int32), .int (0 : Int32), .null, .null, .int (0 : Int32), .int (0 : Int32), .int (0 : Int32), .int (0 : Int32), .int (0 : Int32)]) := ((congrFun ef73 q).trans (va_up_ne _ _ (g_neL h68 n72))).trans h70
  have h79 : q ∈ L74 := sb75 _ h68
  refine g_putF C hH h79 h78 iX10 tyX10 tyX10_ok nmX10 rfl 17 (by decide) wd246 rfl rfl hnm rfl rfl rfl (Nat.le_of_ble_eq_true rfl) (fs' := [.int (0 : Int32), .ref q1, .ref q12, .ref q25, .ref q36, .ref q47, .int (0 : Int32), .int (0 : Int32), .int (0 : Int32), .int (0 : Int32), .int (0 : Int32), .long (0 : Int64), .int (0 : Int32), .int (0 : Int32), .int (0 : Int32), .int (-1 : Int32), .ref q60, .ref q71, .null, .null, .null, .null, .int (0 : Int32), .int (0 : Int32), .int (0 : Int32), .null, .null, .null, .null, .null, .null, .null, .null, .null, .null, .null, .int (0 : Int32), .int (0 : Int32), .null, .int (0 : Int32), .int (0 : Int32), .null, .null, .int (0 : Int32), .int (0 : Int32), .int (0 : Int32), .int (0 : Int32), .int (0 : Int32)]) rfl dX10_init_61 (fun H locs hH => ?_)
  obtain ⟨f80, ef80⟩ : ∃ z : gF, z = va_up f73 q (.inr (10, [.int (0 : Int32), .ref q1, .ref q12, .ref q25, .ref q36, .ref q47, .int (0 : Int32), .int (0 : Int32), .int (0 : Int32), .int (0 : Int32), .int (0 : Int32), .long (0 : Int64), .int (0 : Int32), .int (0 : Int32), .int (0 : Int32), .int (-1 : Int32), .ref q60, .ref q71, .null, .null, .null, .null, .int (0 : Int32), .int (0 : Int32), .int (0 : Int32), .null, .null, .null, .null, .null, .null, .null, .null, .null, .null, .null, .int (0 : Int32), .int (0 : Int32), .null, .int (0 : Int32), .int (0 : Int32), .null, .null, .int (0 : Int32), .int (0 : Int32), .int (0 : Int32), .int (0 : Int32), .int (0 : Int32)])) := ⟨_, rfl⟩
  have hH : gH E A L74 f80 s.heap H locs := by rw [ef80]; exact hH
  have h81 : f80 q = .inr (10, [.int (0 : Int32), .ref q1, .ref q12, .ref q25, .ref q36, .ref q47, .int (0 : Int32), .int (0 : Int32), .int (0 : Int32), .int (0 : Int32), .int (0 : Int32), .long (0 : Int64), .int (0 : Int32), .int (0 : Int32), .int (0 : Int32), .int (-1 : Int32), .ref q60, .ref q71, .null, .null, .null, .null, .int (0 : Int32), .int (0 : Int32), .int (0 : Int32), .null, .null, .null, .null, .null, .null, .null, .null, .null, .null, .null, .int (0 : Int32), .int (0 : Int32), .null, .int (0 : Int32), .int (0 : Int32), .null, .null, .int (0 : Int32), .int (0 : Int32), .int (0 : Int32), .int (0 : Int32), .int (0 : Int32)]) := (congrFun ef80 q).trans (va_up_self _ _ _)
  refine lv_aload_n hx hb dX10_init_64 rfl (lv_at hl 0 rfl) ?_
  refine lv_bipush (v := (60 : Int32)) hx hb dX10_init_65 (by decide) ?_
  refine g_newa C hH hA 1 rfl (fun _ _ h => h) wd156 rfl (N' := 60) (a0 := (60, (.inl (fun _ => 0)))) (avI 60) (by decide) (by decide) (Nat.le_of_ble_eq_true rfl) (Nat.le_of_ble_eq_true rfl) (Nat.le_of_ble_eq_true rfl) dX10_init_67 (fun q82 H n83 hH => ?_)
  obtain ⟨f84, ef84⟩ : ∃ z : gF, z = va_up f80 q82 (.inl (E.2.2 1, 60, .inl (fun _ => 0))) := ⟨_, rfl⟩
  obtain ⟨L85, eL85⟩ : ∃ z : List Nat, z = L74 ++ [q82] := ⟨_, rfl⟩
  have hH := g_re ef84 eL85 hH
  have sb86 : ∀ b ∈ L74, b ∈ L85 := fun b h => by rw [eL85]; exact List.mem_append_left _ h
  have h87 : q82 ∈ L85 := by rw [eL85]; exact List.mem_append_right _ List.mem_cons_self
  have h88 : f84 q82 = .inl (E.2.2 1, 60, .inl (fun _ => 0)) := (congrFun ef84 q82).trans (va_up_self _ _ _)
  have h89 : f84 q = .inr (10, [.int (0 : Int32), .ref q1, .ref q12, .ref q25, .ref q36, .ref q47, .int (0 : Int32), .int (0 : Int32), .int (0 : Int32), .int (0 : Int32), .int (0 : Int32), .long (0 : Int64), .int (0 : Int32), .int (0 : Int32), .int (0 : Int32), .int (-1 : Int32), .ref q60, .ref q71, .null, .null, .null, .null, .int (0 : Int32), .int (0 : Int32), .int (0 : Int32), .null, .null, .null, .null, .null, .null, .null, .null, .null, .null, .null, .int (0 : Int32), .int (0 : Int32), .null, .int (0 : Int32), .int (0 : Int32), .null, .null, .int (0 : Int32), .int (0 : Int32), .int (0 : Int32), .int (0 : Int32), .int (0 : Int32)]) := ((congrFun ef84 q).trans (va_up_ne _ _ (g_neL h79 n83))).trans h81
  have h90 : q ∈ L85 := sb86 _ h79
  refine g_putF C hH h90 h89 iX10 tyX10 tyX10_ok nmX10 rfl 18 (by decide) wd323 rfl rfl hnm rfl rfl rfl (Nat.le_of_ble_eq_true rfl) (fs' := [.int (0 : Int32), .ref q1, .ref q12, .ref q25, .ref q36, .ref q47, .int (0 : Int32), .int (0 : Int32), .int (0 : Int32), .int (0 : Int32), .int (0 : Int32), .long (0 : Int64), .int (0 : Int32), .int (0 : Int32), .int (0 : Int32), .int (-1 : Int32), .ref q60, .ref q71, .ref q82, .null, .null, .null, .int (0 : Int32), .int (0 : Int32), .int (0 : Int32), .null, .null, .null, .null, .null, .null, .null, .null, .null, .null, .null, .int (0 : Int32), .int (0 : Int32), .null, .int (0 : Int32), .int (0 : Int32), .null, .null, .int (0 : Int32), .int (0 : Int32), .int (0 : Int32), .int (0 : Int32), .int (0 : Int32)]) rfl dX10_init_69 (fun H locs hH => ?_)
  obtain ⟨f91, ef91⟩ : ∃ z : gF, z = va_up f84 q (.inr (10, [.int (0 : Int32), .ref q1, .ref q12, .ref q25, .ref q36, .ref q47, .int (0 : Int32), .int (0 : Int32), .int (0 : Int32), .int (0 : Int32), .int (0 : Int32), .long (0 : Int64), .int (0 : Int32), .int (0 : Int32), .int (0 : Int32), .int (-1 : Int32), .ref q60, .ref q71, .ref q82, .null, .null, .null, .int (0 : Int32), .int (0 : Int32), .int (0 : Int32), .null, .null, .null, .null, .null, .null, .null, .null, .null, .null, .null, .int (0 : Int32), .int (0 : Int32), .null, .int (0 : Int32), .int (0 : Int32), .null, .null, .int (0 : Int32), .int (0 : Int32), .int (0 : Int32), .int (0 : Int32), .int (0 : Int32)])) := ⟨_, rfl⟩
  have hH : gH E A L85 f91 s.heap H locs := by rw [ef91]; exact hH
  have h92 : f91 q = .inr (10, [.int (0 : Int32), .ref q1, .ref q12, .ref q25, .ref q36, .ref q47, .int (0 : Int32), .int (0 : Int32), .int (0 : Int32), .int (0 : Int32), .int (0 : Int32), .long (0 : Int64), .int (0 : Int32), .int (0 : Int32), .int (0 : Int32), .int (-1 : Int32), .ref q60, .ref q71, .ref q82, .null, .null, .null, .int (0 : Int32), .int (0 : Int32), .int (0 : Int32), .null, .null, .null, .null, .null, .null, .null, .null, .null, .null, .null, .int (0 : Int32), .int (0 : Int32), .null, .int (0 : Int32), .int (0 : Int32), .null, .null, .int (0 : Int32), .int (0 : Int32), .int (0 : Int32), .int (0 : Int32), .int (0 : Int32)]) := (congrFun ef91 q).trans (va_up_self _ _ _)
  refine lv_aload_n hx hb dX10_init_72 rfl (lv_at hl 0 rfl) ?_
  refine lv_bipush (v := (90 : Int32)) hx hb dX10_init_73 (by decide) ?_
  refine g_newa C hH hA 1 rfl (fun _ _ h => h) wd156 rfl (N' := 90) (a0 := (90, (.inl (fun _ => 0)))) (avI 90) (by decide) (by decide) (Nat.le_of_ble_eq_true rfl) (Nat.le_of_ble_eq_true rfl) (Nat.le_of_ble_eq_true rfl) dX10_init_75 (fun q93 H n94 hH => ?_)
  obtain ⟨f95, ef95⟩ : ∃ z : gF, z = va_up f91 q93 (.inl (E.2.2 1, 90, .inl (fun _ => 0))) := ⟨_, rfl⟩
  obtain ⟨L96, eL96⟩ : ∃ z : List Nat, z = L85 ++ [q93] := ⟨_, rfl⟩
  have hH := g_re ef95 eL96 hH
  have sb97 : ∀ b ∈ L85, b ∈ L96 := fun b h => by rw [eL96]; exact List.mem_append_left _ h
  have h98 : q93 ∈ L96 := by rw [eL96]; exact List.mem_append_right _ List.mem_cons_self
  have h99 : f95 q93 = .inl (E.2.2 1, 90, .inl (fun _ => 0)) := (congrFun ef95 q93).trans (va_up_self _ _ _)
  have h100 : f95 q = .inr (10, [.int (0 : Int32), .ref q1, .ref q12, .ref q25, .ref q36, .ref q47, .int (0 : Int32), .int (0 : Int32), .int (0 : Int32), .int (0 : Int32), .int (0 : Int32), .long (0 : Int64), .int (0 : Int32), .int (0 : Int32), .int (0 : Int32), .int (-1 : Int32), .ref q60, .ref q71, .ref q82, .null, .null, .null, .int (0 : Int32), .int (0 : Int32), .int (0 : Int32), .null, .null, .null, .null, .null, .null, .null, .null, .null, .null, .null, .int (0 : Int32), .int (0 : Int32), .null, .int (0 : Int32), .int (0 : Int32), .null, .null, .int (0 : Int32), .int (0 : Int32), .int (0 : Int32), .int (0 : Int32), .int (0 : Int32)]) := ((congrFun ef95 q).trans (va_up_ne _ _ (g_neL h90 n94))).trans h92
  have h101 : q ∈ L96 := sb97 _ h90
  refine g_putF C hH h101 h100 iX10 tyX10 tyX10_ok nmX10 rfl 19 (by decide) wd324 rfl rfl hnm rfl rfl rfl (Nat.le_of_ble_eq_true rfl) (fs' := [.int (0 : Int32), .ref q1, .ref q12, .ref q25, .ref q36, .ref q47, .int (0 : Int32), .int (0 : Int32), .int (0 : Int32), .int (0 : Int32), .int (0 : Int32), .long (0 : Int64), .int (0 : Int32), .int (0 : Int32), .int (0 : Int32), .int (-1 : Int32), .ref q60, .ref q71, .ref q82, .ref q93, .null, .null, .int (0 : Int32), .int (0 : Int32), .int (0 : Int32), .null, .null, .null, .null, .null, .null, .null, .null, .null, .null, .null, .int (0 : Int32), .int (0 : Int32), .null, .int (0 : Int32), .int (0 : Int32), .null, .null, .int (0 : Int32), .int (0 : Int32), .int (0 : Int32), .int (0 : Int32), .int (0 : Int32)]) rfl dX10_init_77 (fun H locs hH => ?_)
  obtain ⟨f102, ef102⟩ : ∃ z : gF, z = va_up f95 q (.inr (10, [.int (0 : Int32), .ref q1, .ref q12, .ref q25, .ref q36, .ref q47, .int (0 : Int32), .int (0 : Int32), .int (0 : Int32), .int (0 : Int32), .int (0 : Int32), .long (0 : Int64), .int (0 : Int32), .int (0 : Int32), .int (0 : Int32), .int (-1 : Int32), .ref q60, .ref q71, .ref q82, .ref q93, .null, .null, .int (0 : Int32), .int (0 : Int32), .int (0 : Int32), .null, .null, .null, .null, .null, .null, .null, .null, .null, .null, .null, .int (0 : Int32), .int (0 : Int32), .null, .int (0 : Int32), .int (0 : Int32), .null, .null, .int (0 : Int32), .int (0 : Int32), .int (0 : Int32), .int (0 : Int32), .int (0 : Int32)])) := ⟨_, rfl⟩
  have hH : gH E A L96 f102 s.heap H locs := by rw [ef102]; exact hH
  have h103 : f102 q = .inr (10, [.int (0 : Int32), .ref q1, .ref q12, .ref q25, .ref q36, .ref q47, .int (0 : Int32), .int (0 : Int32), .int (0 : Int32), .int (0 : Int32), .int (0 : Int32), .long (0 : Int64), .int (0 : Int32), .int (0 : Int32), .int (0 : Int32), .int (-1 : Int32), .ref q60, .ref q71, .ref q82, .ref q93, .null, .null, .int (0 : Int32), .int (0 : Int32), .int (0 : Int32), .null, .null, .null, .null, .null, .null, .null, .null, .null, .null, .null, .int (0 : Int32), .int (0 : Int32), .null, .int (0 : Int32), .int (0 : Int32), .null, .null, .int (0 : Int32), .int (0 : Int32), .int (0 : Int32), .int (0 : Int32), .int (0 : Int32)]) := (congrFun ef102 q).trans (va_up_self _ _ _)
  refine lv_aload_n hx hb dX10_init_80 rfl (lv_at hl 0 rfl) ?_
  refine lv_sipush (v := (600 : Int32)) hx hb dX10_init_81 (by decide) ?_
  refine g_newa C hH hA 1 rfl (fun _ _ h => h) wd156 rfl (N' := 600) (a0 := (600, (.inl (fun _ => 0)))) (avI 600) (by decide) (by decide) (Nat.le_of_ble_eq_true rfl) (Nat.le_of_ble_eq_true rfl) (Nat.le_of_ble_eq_true rfl) dX10_init_84 (fun q104 H n105 hH => ?_)
  obtain ⟨f106, ef106⟩ : ∃ z : gF, z = va_up f102 q104 (.inl (E.2.2 1, 600, .inl (fun _ => 0))) := ⟨_, rfl⟩
  obtain ⟨L107, eL107⟩ : ∃ z : List Nat, z = L96 ++ [q104] := ⟨_, rfl⟩
  have hH := g_re ef106 eL107 hH
  have sb108 : ∀ b ∈ L96, b ∈ L107 := fun b h => by rw [eL107]; exact List.mem_append_left _ h
  have h109 : q104 ∈ L107 := by rw [eL107]; exact List.mem_append_right _ List.mem_cons_self
  have h110 : f106 q104 = .inl (E.2.2 1, 600, .inl (fun _ => 0)) := (congrFun ef106 q104).trans (va_up_self _ _ _)
  have h111 : f106 q = .inr (10, [.int (0 : Int32), .ref q1, .ref q12, .ref q25, .ref q36, .ref q47, .int (0 : Int32), .int (0 : Int32), .int (0 : Int32), .int (0 : Int32), .int (0 : Int32), .long (0 : Int64), .int (0 : Int32), .int (0 : Int32), .int (0 : Int32), .int (-1 : Int32), .ref q60, .ref q71, .ref q82, .ref q93, .null, .null, .int (0 : Int32), .int (0 : Int32), .int (0 : Int32), .null, .null, .null, .null, .null, .null, .null, .null, .null, .null, .null, .int (0 : Int32), .int (0 : Int32), .null, .int (0 : Int32), .int (0 : Int32), .null, .null, .int (0 : Int32), .int (0 : Int32), .int (0 : Int32), .int (0 : Int32), .int (0 : Int32)]) := ((congrFun ef106 q).trans (va_up_ne _ _ (g_neL h101 n105))).trans h103
  have h112 : q ∈ L107 := sb108 _ h101
  refine g_putF C hH h112 h111 iX10 tyX10 tyX10_ok nmX10 rfl 20 (by decide) wd325 rfl rfl hnm rfl rfl rfl (Nat.le_of_ble_eq_true rfl) (fs' := [.int (0 : Int32), .ref q1, .ref q12, .ref q25, .ref q36, .ref q47, .int (0 : Int32), .int (0 : Int32), .int (0 : Int32), .int (0 : Int32), .int (0 : Int32), .long (0 : Int64), .int (0 : Int32), .int (0 : Int32), .int (0 : Int32), .int (-1 : Int32), .ref q60, .ref q71, .ref q82, .ref q93, .ref q104, .null, .int (0 : Int32), .int (0 : Int32), .int (0 : Int32), .null, .null, .null, .null, .null, .null, .null, .null, .null, .null, .null, .int (0 : Int32), .int (0 : Int32), .null, .int (0 : Int32), .int (0 : Int32), .null, .null, .int (0 : Int32), .int (0 : Int32), .int (0 : Int32), .int (0 : Int32), .int (0 : Int32)]) rfl dX10_init_86 (fun H locs hH => ?_)
  obtain ⟨f113, ef113⟩ : ∃ z : gF, z = va_up f106 q (.inr (10, [.int (0 : Int32), .ref q1, .ref q12, .ref q25, .ref q36, .ref q47, .int (0 : Int32), .int (0 : Int32), .int (0 : Int32), .int (0 : Int32), .int (0 : Int32), .long (0 : Int64), .int (0 : Int32), .int (0 : Int32), .int (0 : Int32), .int (-1 : Int32), .ref q60, .ref q71, .ref q82, .ref q93, .ref q104, .null, .int (0 : Int32), .int (0 : Int32), .int (0 : Int32), .null, .null, .null, .null, .null, .null, .null, .null, .null, .null, .null, .int (0 : Int32), .int (0 : Int32), .null, .int (0 : Int32), .int (0 : Int32), .null, .null, .int (0 : Int32), .int (0 : Int32), .int (0 : Int32), .int (0 : Int32), .int (0 : Int32)])) := ⟨_, rfl⟩
  have hH : gH E A L107 f113 s.heap H locs := by rw [ef113]; exact hH
  have h114 : f113 q = .inr (10, [.int (0 : Int32), .ref q1, .ref q12, .ref q25, .ref q36, .ref q47, .int (0 : Int32), .int (0 : Int32), .int (0 : Int32), .int (0 : Int32), .int (0 : Int32), .long (0 : Int64), .int (0 : Int32), .int (0 : Int32), .int (0 : Int32), .int (-1 : Int32), .ref q60, .ref q71, .ref q82, .ref q93, .ref q104, .null, .int (0 : Int32), .int (0 : Int32), .int (0 : Int32), .null, .null, .null, .null, .null, .null, .null, .null, .null, .null, .null, .int (0 : Int32), .int (0 : Int32), .null, .int (0 : Int32), .int (0 : Int32), .null, .null, .int (0 : Int32), .int (0 : Int32), .int (0 : Int32), .int (0 : Int32), .int (0 : Int32)]) := (congrFun ef113 q).trans (va_up_self _ _ _)
  refine lv_aload_n hx hb dX10_init_89 rfl (lv_at hl 0 rfl) ?_
  refine lv_iconst (v := (3 : Int32)) hx hb dX10_init_90 (by decide) ?_
  refine g_newa C hH hA 3 rfl (fun _ _ h => h) wd234 rfl (N' := 3) (a0 := (3, (.inl (fun _ => 0)))) (avZ 3) (by decide) (by decide) (Nat.le_of_ble_eq_true rfl) (Nat.le_of_ble_eq_true rfl) (Nat.le_of_ble_eq_true rfl) dX10_init_91 (fun q115 H n116 hH => ?_)
  obtain ⟨f117, ef117⟩ : ∃ z : gF, z = va_up f113 q115 (.inl (E.2.2 3, 3, .inl (fun _ => 0))) := ⟨_, rfl⟩
  obtain ⟨L118, eL118⟩ : ∃ z : List Nat, z = L107 ++ [q115] := ⟨_, rfl⟩
  have hH := g_re ef117 eL118 hH
  have sb119 : ∀ b ∈ L107, b ∈ L118 := fun b h => by rw [eL118]; exact List.mem_append_left _ h
  have h120 : q115 ∈ L118 := by rw [eL118]; exact List.mem_append_right _ List.mem_cons_self
  have h121 : f117 q115 = .inl (E.2.2 3, 3, .inl (fun _ => 0)) := (congrFun ef117 q115).trans (va_up_self _ _ _)
  have h122 : f117 q = .inr (10, [.int (0 : Int32), .ref q1, .ref q12, .ref q25, .ref q36, .ref q47, .int (0 : Int32), .int (0 : Int32), .int (0 : Int32), .int (0 : Int32), .int (0 : Int32), .long (0 : Int64), .int (0 : Int32), .int (0 : Int32), .int (0 : Int32), .int (-1 : Int32), .ref q60, .ref q71, .ref q82, .ref q93, .ref q104, .null, .int (0 : Int32), .int (0 : Int32), .int (0 : Int32), .null, .null, .null, .null, .null, .null, .null, .null, .null, .null, .null, .int (0 : Int32), .int (0 : Int32), .null, .int (0 : Int32), .int (0 : Int32), .null, .null, .int (0 : Int32), .int (0 : Int32), .int (0 : Int32), .int (0 : Int32), .int (0 : Int32)]) := ((congrFun ef117 q).trans (va_up_ne _ _ (g_neL h112 n116))).trans h114
  have h123 : q ∈ L118 := sb119 _ h112
  refine g_putF C hH h123 h122 iX10 tyX10 tyX10_ok nmX10 rfl 21 (by decide) wd317 rfl rfl hnm rfl rfl rfl (Nat.le_of_ble_eq_true rfl) (fs' := [.int (0 : Int32), .ref q1, .ref q12, .ref q25, .ref q36, .ref q47, .int (0 : Int32), .int (0 : Int32), .int (0 : Int32), .int (0 : Int32), .int (0 : Int32), .long (0 : Int64), .int (0 : Int32), .int (0 : Int32), .int (0 : Int32), .int (-1 : Int32), .ref q60, .ref q71, .ref q82, .ref q93, .ref q104, .ref q115, .int (0 : Int32), .int (0 : Int32), .int (0 : Int32), .null, .null, .null, .null, .null, .null, .null, .null, .null, .null, .null, .int (0 : Int32), .int (0 : Int32), .null, .int (0 : Int32), .int (0 : Int32), .null, .null, .int (0 : Int32), .int (0 : Int32), .int (0 : Int32), .int (0 : Int32), .int (0 : Int32)]) rfl dX10_init_93 (fun H locs hH => ?_)
  obtain ⟨f124, ef124⟩ : ∃ z : gF, z = va_up f117 q (.inr (10, [.int (0 : Int32), .ref q1, .ref q12, .ref q25, .ref q36, .ref q47, .int (0 : Int32), .int (0 : Int32), .int (0 : Int32), .int (0 : Int32), .int (0 : Int32), .long (0 : Int64), .int (0 : Int32), .int (0 : Int32), .int (0 : Int32), .int (-1 : Int32), .ref q60, .ref q71, .ref q82, .ref q93, .ref q104, .ref q115, .int (0 : Int32), .int (0 : Int32), .int (0 : Int32), .null, .null, .null, .null, .null, .null, .null, .null, .null, .null, .null, .int (0 : Int32), .int (0 : Int32), .null, .int (0 : Int32), .int (0 : Int32), .null, .null, .int (0 : Int32), .int (0 : Int32), .int (0 : Int32), .int (0 : Int32), .int (0 : Int32)])) := ⟨_, rfl⟩
  have hH : gH E A L118 f124 s.heap H locs := by rw [ef124]; exact hH
  have h125 : f124 q = .inr (10, [.int (0 : Int32), .ref q1, .ref q12, .ref q25, .ref q36, .ref q47, .int (0 : Int32), .int (0 : Int32), .int (0 : Int32), .int (0 : Int32), .int (0 : Int32), .long (0 : Int64), .int (0 : Int32), .int (0 : Int32), .int (0 : Int32), .int (-1 : Int32), .ref q60, .ref q71, .ref q82, .ref q93, .ref q104, .ref q115, .int (0 : Int32), .int (0 : Int32), .int (0 : Int32), .null, .null, .null, .null, .null, .null, .null, .null, .null, .null, .null, .int (0 : Int32), .int (0 : Int32), .null, .int (0 : Int32), .int (0 : Int32), .null, .null, .int (0 : Int32), .int (0 : Int32), .int (0 : Int32), .int (0 : Int32), .int (0 : Int32)]) := (congrFun ef124 q).trans (va_up_self _ _ _)
  refine lv_aload_n hx hb dX10_init_96 rfl (lv_at hl 0 rfl) ?_
  refine lv_iconst (v := (5 : Int32)) hx hb dX10_init_97 (by decide) ?_
  refine g_newa C hH hA 1 rfl (fun _ _ h => h) wd156 rfl (N' := 5) (a0 := (5, (.inl (fun _ => 0)))) (avI 5) (by decide) (by decide) (Nat.le_of_ble_eq_true rfl) (Nat.le_of_ble_eq_true rfl) (Nat.le_of_ble_eq_true rfl) dX10_init_98 (fun q126 H n127 hH => ?_)
  obtain ⟨f128, ef128⟩ : ∃ z : gF, z = va_up f124 q126 (.inl (E.2.2 1, 5, .inl (fun _ => 0))) := ⟨_, rfl⟩
  obtain ⟨L129, eL129⟩ : ∃ z : List Nat, z = L118 ++ [q126] := ⟨_, rfl⟩
  have hH := g_re ef128 eL129 hH
  have sb130 : ∀ b ∈ L118, b ∈ L129 := fun b h => by rw [eL129]; exact List.mem_append_left _ h
  have h131 : f69 q60 = .inl (E.2.2 1, 5, .inl (fun _ => 0)) := ((congrFun ef69 q60).trans (va_up_ne _ _ (g_neAO h66 h67))).trans h66
  have h132 : f73 q60 = .inl (E.2.2 1, 5, .inl (fun _ => 0)) := ((congrFun ef73 q60).trans (va_up_ne _ _ (g_neL h65 n72))).trans h131
  have h133 : q60 ∈ L74 := sb75 _ h65
  have h134 : f80 q60 = .inl (E.2.2 1, 5, .inl (fun _ => 0)) := ((congrFun ef80 q60).trans (va_up_ne _ _ (g_neAO h132 h78))).trans h132
  have h135 : f84 q60 = .inl (E.2.2 1, 5, .inl (fun _ => 0)) := ((congrFun ef84 q60).trans (va_up_ne _ _ (g_neL h133 n83))).trans h134
  have h136 : q60 ∈ L85 := sb86 _ h133
  have h137 : f91 q60 = .inl (E.2.2 1, 5, .inl (fun _ => 0)) := ((congrFun ef91 q60).trans (va_up_ne _ _ (g_neAO h135 h89))).trans h135
  have h138 : f95 q60 = .inl (E.2.2 1, 5, .inl (fun _ => 0)) := ((congrFun ef95 q60).trans (va_up_ne _ _ (g_neL h136 n94))).trans h137
  have h139 : q60 ∈ L96 := sb97 _ h136
  have h140 : f102 q60 = .inl (E.2.2 1, 5, .inl (fun _ => 0)) := ((congrFun ef102 q60).trans (va_up_ne _ _ (g_neAO h138 h100))).trans h138
  have h141 : f106 q60 = .inl (E.2.2 1, 5, .inl (fun _ => 0)) := ((congrFun ef106 q60).trans (va_up_ne _ _ (g_neL h139 n105))).trans h140
  have h142 : q60 ∈ L107 := sb108 _ h139
  have h143 : f113 q60 = .inl (E.2.2 1, 5, .inl (fun _ => 0)) := ((congrFun ef113 q60).trans (va_up_ne _ _ (g_neAO h141 h111))).trans h141
  have h144 : f117 q60 = .inl (E.2.2 1, 5, .inl (fun _ => 0)) := ((congrFun ef117 q60).trans (va_up_ne _ _ (g_neL h142 n116))).trans h143
  have h145 : q60 ∈ L118 := sb119 _ h142
  have h146 : f124 q60 = .inl (E.2.2 1, 5, .inl (fun _ => 0)) := ((congrFun ef124 q60).trans (va_up_ne _ _ (g_neAO h144 h122))).trans h144
  have h147 : q60 ≠ q126 := g_neL h145 n127
  have h148 : q126 ∈ L129 := by rw [eL129]; exact List.mem_append_right _ List.mem_cons_self
  have h149 : f128 q126 = .inl (E.2.2 1, 5, .inl (fun _ => 0)) := (congrFun ef128 q126).trans (va_up_self _ _ _)
  have h150 : f128 q = .inr (10, [.int (0 : Int32), .ref q1, .ref q12, .ref q25, .ref q36, .ref q47, .int (0 : Int32), .int (0 : Int32), .int (0 : Int32), .int (0 : Int32), .int (0 : Int32), .long (0 : Int64), .int (0 : Int32), .int (0 : Int32), .int (0 : Int32), .int (-1 : Int32), .ref q60, .ref q71, .ref q82, .ref q93, .ref q104, .ref q115, .int (0 : Int32), .int (0 : Int32), .int (0 : Int32), .null, .null, .null, .null, .null, .null, .null, .null, .null, .null, .null, .int (0 : Int32), .int (0 : Int32), .null, .int (0 : Int32), .int (0 : Int32), .null, .null, .int (0 : Int32), .int (0 : Int32), .int (0 : Int32), .int (0 : Int32), .int (0 : Int32)]) := ((congrFun ef128 q).trans (va_up_ne _ _ (g_neL h123 n127))).trans h125
  have h151 : q ∈ L129 := sb130 _ h123
  refine g_putF C hH h151 h150 iX10 tyX10 tyX10_ok nmX10 rfl 25 (by decide) wd367 rfl rfl hnm rfl rfl rfl (Nat.le_of_ble_eq_true rfl) (fs' := [.int (0 : Int32), .ref q1, .ref q12, .ref q25, .ref q36, .ref q47, .int (0 : Int32), .int (0 : Int32), .int (0 : Int32), .int (0 : Int32), .int (0 : Int32), .long (0 : Int64), .int (0 : Int32), .int (0 : Int32), .int (0 : Int32), .int (-1 : Int32), .ref q60, .ref q71, .ref q82, .ref q93, .ref q104, .ref q115, .int (0 : Int32), .int (0 : Int32), .int (0 : Int32), .ref q126, .null, .null, .null, .null, .null, .null, .null, .null, .null, .null, .int (0 : Int32), .int (0 : Int32), .null, .int (0 : Int32), .int (0 : Int32), .null, .null, .int (0 : Int32), .int (0 : Int32), .int (0 : Int32), .int (0 : Int32), .int (0 : Int32)]) rfl dX10_init_100 (fun H locs hH => ?_)
  obtain ⟨f152, ef152⟩ : ∃ z : gF, z = va_up f128 q (.inr (10, [.int (0 : Int32), .ref q1, .ref q12, .ref q25, .ref q36, .ref q47, .int (0 : Int32), .int (0 : Int32), .int (0 : Int32), .int (0 : Int32), .int (0 : Int32), .long (0 : Int64), .int (0 : Int32), .int (0 : Int32), .int (0 : Int32), .int (-1 : Int32), .ref q60, .ref q71, .ref q82, .ref q93, .ref q104, .ref q115, .int (0 : Int32), .int (0 : Int32), .int (0 : Int32), .ref q126, .null, .null, .null, .null, .null, .null, .null, .null, .null, .null, .int (0 : Int32), .int (0 : Int32), .null, .int (0 : Int32), .int (0 : Int32), .null, .null, .int (0 : Int32), .int (0 : Int32), .int (0 : Int32), .int (0 : Int32), .int (0 : Int32)])) := ⟨_, rfl⟩
  have hH : gH E A L129 f152 s.heap H locs := by rw [ef152]; exact hH
  have h153 : f152 q = .inr (10, [.int (0 : Int32), .ref q1, .ref q12, .ref q25, .ref q36, .ref q47, .int (0 : Int32), .int (0 : Int32), .int (0 : Int32), .int (0 : Int32), .int (0 : Int32), .long (0 : Int64), .int (0 : Int32), .int (0 : Int32), .int (0 : Int32), .int (-1 : Int32), .ref q60, .ref q71, .ref q82, .ref q93, .ref q104, .ref q115, .int (0 : Int32), .int (0 : Int32), .int (0 : Int32), .ref q126, .null, .null, .null, .null, .null, .null, .null, .null, .null, .null, .int (0 : Int32), .int (0 : Int32), .null, .int (0 : Int32), .int (0 : Int32), .null, .null, .int (0 : Int32), .int (0 : Int32), .int (0 : Int32), .int (0 : Int32), .int (0 : Int32)]) := (congrFun ef152 q).trans (va_up_self _ _ _)
  refine lv_aload_n hx hb dX10_init_103 rfl (lv_at hl 0 rfl) ?_
  refine lv_sipush (v := (205 : Int32)) hx hb dX10_init_104 (by decide) ?_
  refine g_newa C hH hA 1 rfl (fun _ _ h => h) wd156 rfl (N' := 205) (a0 := (205, (.inl (fun _ => 0)))) (avI 205) (by decide) (by decide) (Nat.le_of_ble_eq_true rfl) (Nat.le_of_ble_eq_true rfl) (Nat.le_of_ble_eq_true rfl) dX10_init_107 (fun q154 H n155 hH => ?_)
  obtain ⟨f156, ef156⟩ : ∃ z : gF, z = va_up f152 q154 (.inl (E.2.2 1, 205, .inl (fun _ => 0))) := ⟨_, rfl⟩
  obtain ⟨L157, eL157⟩ : ∃ z : List Nat, z = L129 ++ [q154] := ⟨_, rfl⟩
  have hH := g_re ef156 eL157 hH
  have sb158 : ∀ b ∈ L129, b ∈ L157 := fun b h => by rw [eL157]; exact List.mem_append_left _ h
  have h159 : q154 ∈ L157 := by rw [eL157]; exact List.mem_append_right _ List.mem_cons_self
  have h160 : f156 q154 = .inl (E.2.2 1, 205, .inl (fun _ => 0)) := (congrFun ef156 q154).trans (va_up_self _ _ _)
  have h161 : f156 q = .inr (10, [.int (0 : Int32), .ref q1, .ref q12, .ref q25, .ref q36, .ref q47, .int (0 : Int32), .int (0 : Int32), .int (0 : Int32), .int (0 : Int32), .int (0 : Int32), .long (0 : Int64), .int (0 : Int32), .int (0 : Int32), .int (0 : Int32), .int (-1 : Int32), .ref q60, .ref q71, .ref q82, .ref q93, .ref q104, .ref q115, .int (0 : Int32), .int (0 : Int32), .int (0 : Int32), .ref q126, .null, .null, .null, .null, .null, .null, .null, .null, .null, .null, .int (0 : Int32), .int (0 : Int32), .null, .int (0 : Int32), .int (0 : Int32), .null, .null, .int (0 : Int32), .int (0 : Int32), .int (0 : Int32), .int (0 : Int32), .int (0 : Int32)]) := ((congrFun ef156 q).trans (va_up_ne _ _ (g_neL h151 n155))).trans h153
  have h162 : q ∈ L157 := sb158 _ h151
  refine g_putF C hH h162 h161 iX10 tyX10 tyX10_ok nmX10 rfl 26 (by decide) wd368 rfl rfl hnm rfl rfl rfl (Nat.le_of_ble_eq_true rfl) (fs' := [.int (0 : Int32), .ref q1, .ref q12, .ref q25, .ref q36, .ref q47, .int (0 : Int32), .int (0 : Int32), .int (0 : Int32), .int (0 : Int32), .int (0 : Int32), .long (0 : Int64), .int (0 : Int32), .int (0 : Int32), .int (0 : Int32), .int (-1 : Int32), .ref q60, .ref q71, .ref q82, .ref q93, .ref q104, .ref q115, .int (0 : Int32), .int (0 : Int32), .int (0 : Int32), .ref q126, .ref q154, .null, .null, .null, .null, .null, .null, .null, .null, .null, .int (0 : Int32), .int (0 : Int32), .null, .int (0 : Int32), .int (0 : Int32), .null, .null, .int (0 : Int32), .int (0 : Int32), .int (0 : Int32), .int (0 : Int32), .int (0 : Int32)]) rfl dX10_init_109 (fun H locs hH => ?_)
  obtain ⟨f163, ef163⟩ : ∃ z : gF, z = va_up f156 q (.inr (10, [.int (0 : Int32), .ref q1, .ref q12, .ref q25, .ref q36, .ref q47, .int (0 : Int32), .int (0 : Int32), .int (0 : Int32), .int (0 : Int32), .int (0 : Int32), .long (0 : Int64), .int (0 : Int32), .int (0 : Int32), .int (0 : Int32), .int (-1 : Int32), .ref q60, .ref q71, .ref q82, .ref q93, .ref q104, .ref q115, .int (0 : Int32), .int (0 : Int32), .int (0 : Int32), .ref q126, .ref q154, .null, .null, .null, .null, .null, .null, .null, .null, .null, .int (0 : Int32), .int (0 : Int32), .null, .int (0 : Int32), .int (0 : Int32), .null, .null, .int (0 : Int32), .int (0 : Int32), .int (0 : Int32), .int (0 : Int32), .int (0 : Int32)])) := ⟨_, rfl⟩
  have hH : gH E A L157 f163 s.heap H locs := by rw [ef163]; exact hH
  have h164 : f163 q = .inr (10, [.int (0 : Int32), .ref q1, .ref q12, .ref q25, .ref q36, .ref q47, .int (0 : Int32), .int (0 : Int32), .int (0 : Int32), .int (0 : Int32), .int (0 : Int32), .long (0 : Int64), .int (0 : Int32), .int (0 : Int32), .int (0 : Int32), .int (-1 : Int32), .ref q60, .ref q71, .ref q82, .ref q93, .ref q104, .ref q115, .int (0 : Int32), .int (0 : Int32), .int (0 : Int32), .ref q126, .ref q154, .null, .null, .null, .null, .null, .null, .null, .null, .null, .int (0 : Int32), .int (0 : Int32), .null, .int (0 : Int32), .int (0 : Int32), .null, .null, .int (0 : Int32), .int (0 : Int32), .int (0 : Int32), .int (0 : Int32), .int (0 : Int32)]) := (congrFun ef163 q).trans (va_up_self _ _ _)
  refine lv_aload_n hx hb dX10_init_112 rfl (lv_at hl 0 rfl) ?_
  refine lv_sipush (v := (205 : Int32)) hx hb dX10_init_113 (by decide) ?_
  refine g_newa C hH hA 1 rfl (fun _ _ h => h) wd156 rfl (N' := 205) (a0 := (205, (.inl (fun _ => 0)))) (avI 205) (by decide) (by decide) (Nat.le_of_ble_eq_true rfl) (Nat.le_of_ble_eq_true rfl) (Nat.le_of_ble_eq_true rfl) dX10_init_116 (fun q165 H n166 hH => ?_)
  obtain ⟨f167, ef167⟩ : ∃ z : gF, z = va_up f163 q165 (.inl (E.2.2 1, 205, .inl (fun _ => 0))) := ⟨_, rfl⟩
  obtain ⟨L168, eL168⟩ : ∃ z : List Nat, z = L157 ++ [q165] := ⟨_, rfl⟩
  have hH := g_re ef167 eL168 hH
  have sb169 : ∀ b ∈ L157, b ∈ L168 := fun b h => by rw [eL168]; exact List.mem_append_left _ h
  have h170 : f163 q154 = .inl (E.2.2 1, 205, .inl (fun _ => 0)) := ((congrFun ef163 q154).trans (va_up_ne _ _ (g_neAO h160 h161))).trans h160
  have h171 : q154 ≠ q165 := g_neL h159 n166
  have h172 : q165 ∈ L168 := by rw [eL168]; exact List.mem_append_right _ List.mem_cons_self
  have h173 : f167 q165 = .inl (E.2.2 1, 205, .inl (fun _ => 0)) := (congrFun ef167 q165).trans (va_up_self _ _ _)
  have h174 : f167 q = .inr (10, [.int (0 : Int32), .ref q1, .ref q12, .ref q25, .ref q36, .ref q47, .int (0 : Int32), .int (0 : Int32), .int (0 : Int32), .int (0 : Int32), .int (0 : Int32), .long (0 : Int64), .int (0 : Int32), .int (0 : Int32), .int (0 : Int32), .int (-1 : Int32), .ref q60, .ref q71, .ref q82, .ref q93, .ref q104, .ref q115, .int (0 : Int32), .int (0 : Int32), .int (0 : Int32), .ref q126, .ref q154, .null, .null, .null, .null, .null, .null, .null, .null, .null, .int (0 : Int32), .int (0 : Int32), .null, .int (0 : Int32), .int (0 : Int32), .null, .null, .int (0 : Int32), .int (0 : Int32), .int (0 : Int32), .int (0 : Int32), .int (0 : Int32)]) := ((congrFun ef167 q).trans (va_up_ne _ _ (g_neL h162 n166))).trans h164
  have h175 : q ∈ L168 := sb169 _ h162
  refine g_putF C hH h175 h174 iX10 tyX10 tyX10_ok nmX10 rfl 27 (by decide) wd369 rfl rfl hnm rfl rfl rfl (Nat.le_of_ble_eq_true rfl) (fs' := [.int (0 : Int32), .ref q1, .ref q12, .ref q25, .ref q36, .ref q47, .int (0 : Int32), .int (0 : Int32), .int (0 : Int32), .int (0 : Int32), .int (0 : Int32), .long (0 : Int64), .int (0 : Int32), .int (0 : Int32), .int (0 : Int32), .int (-1 : Int32), .ref q60, .ref q71, .ref q82, .ref q93, .ref q104, .ref q115, .int (0 : Int32), .int (0 : Int32), .int (0 : Int32), .ref q126, .ref q154, .ref q165, .null, .null, .null, .null, .null, .null, .null, .null, .int (0 : Int32), .int (0 : Int32), .null, .int (0 : Int32), .int (0 : Int32), .null, .null, .int (0 : Int32), .int (0 : Int32), .int (0 : Int32), .int (0 : Int32), .int (0 : Int32)]) rfl dX10_init_118 (fun H locs hH => ?_)
  obtain ⟨f176, ef176⟩ : ∃ z : gF, z = va_up f167 q (.inr (10, [.int (0 : Int32), .ref q1, .ref q12, .ref q25, .ref q36, .ref q47, .int (0 : Int32), .int (0 : Int32), .int (0 : Int32), .int (0 : Int32), .int (0 : Int32), .long (0 : Int64), .int (0 : Int32), .int (0 : Int32), .int (0 : Int32), .int (-1 : Int32), .ref q60, .ref q71, .ref q82, .ref q93, .ref q104, .ref q115, .int (0 : Int32), .int (0 : Int32), .int (0 : Int32), .ref q126, .ref q154, .ref q165, .null, .null, .null, .null, .null, .null, .null, .null, .int (0 : Int32), .int (0 : Int32), .null, .int (0 : Int32), .int (0 : Int32), .null, .null, .int (0 : Int32), .int (0 : Int32), .int (0 : Int32), .int (0 : Int32), .int (0 : Int32)])) := ⟨_, rfl⟩
  have hH : gH E A L168 f176 s.heap H locs := by rw [ef176]; exact hH
  have h177 : f176 q = .inr (10, [.int (0 : Int32), .ref q1, .ref q12, .ref q25, .ref q36, .ref q47, .int (0 : Int32), .int (0 : Int32), .int (0 : Int32), .int (0 : Int32), .int (0 : Int32), .long (0 : Int64), .int (0 : Int32), .int (0 : Int32), .int (0 : Int32), .int (-1 : Int32), .ref q60, .ref q71, .ref q82, .ref q93, .ref q104, .ref q115, .int (0 : Int32), .int (0 : Int32), .int (0 : Int32), .ref q126, .ref q154, .ref q165, .null, .null, .null, .null, .null, .null, .null, .null, .int (0 : Int32), .int (0 : Int32), .null, .int (0 : Int32), .int (0 : Int32), .null, .null, .int (0 : Int32), .int (0 : Int32), .int (0 : Int32), .int (0 : Int32), .int (0 : Int32)]) := (congrFun ef176 q).trans (va_up_self _ _ _)
  refine lv_aload_n hx hb dX10_init_121 rfl (lv_at hl 0 rfl) ?_
  refine lv_iconst (v := (5 : Int32)) hx hb dX10_init_122 (by decide) ?_
  refine g_newa C hH hA 1 rfl (fun _ _ h => h) wd156 rfl (N' := 5) (a0 := (5, (.inl (fun _ => 0)))) (avI 5) (by decide) (by decide) (Nat.le_of_ble_eq_true rfl) (Nat.le_of_ble_eq_true rfl) (Nat.le_of_ble_eq_true rfl) dX10_init_123 (fun q178 H n179 hH => ?_)
  obtain ⟨f180, ef180⟩ : ∃ z : gF, z = va_up f176 q178 (.inl (E.2.2 1, 5, .inl (fun _ => 0))) := ⟨_, rfl⟩
  obtain ⟨L181, eL181⟩ : ∃ z : List Nat, z = L168 ++ [q178] := ⟨_, rfl⟩
  have hH := g_re ef180 eL181 hH
  have sb182 : ∀ b ∈ L168, b ∈ L181 := fun b h => by rw [eL181]; exact List.mem_append_left _ h
  have h183 : f128 q60 = .inl (E.2.2 1, 5, .inl (fun _ => 0)) := ((congrFun ef128 q60).trans (va_up_ne _ _ (g_neL h145 n127))).trans h146
  have h184 : q60 ∈ L129 := sb130 _ h145
  have h185 : f152 q60 = .inl (E.2.2 1, 5, .inl (fun _ => 0)) := ((congrFun ef152 q60).trans (va_up_ne _ _ (g_neAO h183 h150))).trans h183
  have h186 : f156 q60 = .inl (E.2.2 1, 5, .inl (fun _ => 0)) := ((congrFun ef156 q60).trans (va_up_ne _ _ (g_neL h184 n155))).trans h185
  have h187 : q60 ∈ L157 := sb158 _ h184
  have h188 : f163 q60 = .inl (E.2.2 1, 5, .inl (fun _ => 0)) := ((congrFun ef163 q60).trans (va_up_ne _ _ (g_neAO h186 h161))).trans h186
  have h189 : f167 q60 = .inl (E.2.2 1, 5, .inl (fun _ => 0)) := ((congrFun ef167 q60).trans (va_up_ne _ _ (g_neL h187 n166))).trans h188
  have h190 : q60 ∈ L168 := sb169 _ h187
  have h191 : f176 q60 = .inl (E.2.2 1, 5, .inl (fun _ => 0)) := ((congrFun ef176 q60).trans (va_up_ne _ _ (g_neAO h189 h174))).trans h189
  have h192 : q60 ≠ q178 := g_neL h190 n179
  have h193 : f152 q126 = .inl (E.2.2 1, 5, .inl (fun _ => 0)) := ((congrFun ef152 q126).trans (va_up_ne _ _ (g_neAO h149 h150))).trans h149
  have h194 : f156 q126 = .inl (E.2.2 1, 5, .inl (fun _ => 0)) := ((congrFun ef156 q126).trans (va_up_ne _ _ (g_neL h148 n155))).trans h193
  have h195 : q126 ∈ L157 := sb158 _ h148
  have h196 : f163 q126 = .inl (E.2.2 1, 5, .inl (fun _ => 0)) := ((congrFun ef163 q126).trans (va_up_ne _ _ (g_neAO h194 h161))).trans h194
  have h197 : f167 q126 = .inl (E.2.2 1, 5, .inl (fun _ => 0)) := ((congrFun ef167 q126).trans (va_up_ne _ _ (g_neL h195 n166))).trans h196
  have h198 : q126 ∈ L168 := sb169 _ h195
  have h199 : f176 q126 = .inl (E.2.2 1, 5, .inl (fun _ => 0)) := ((congrFun ef176 q126).trans (va_up_ne _ _ (g_neAO h197 h174))).trans h197
  have h200 : q126 ≠ q178 := g_neL h198 n179
  have h201 : q178 ∈ L181 := by rw [eL181]; exact List.mem_append_right _ List.mem_cons_self
  have h202 : f180 q178 = .inl (E.2.2 1, 5, .inl (fun _ => 0)) := (congrFun ef180 q178).trans (va_up_self _ _ _)
  have h203 : f180 q = .inr (10, [.int (0 : Int32), .ref q1, .ref q12, .ref q25, .ref q36, .ref q47, .int (0 : Int32), .int (0 : Int32), .int (0 : Int32), .int (0 : Int32), .int (0 : Int32), .long (0 : Int64), .int (0 : Int32), .int (0 : Int32), .int (0 : Int32), .int (-1 : Int32), .ref q60, .ref q71, .ref q82, .ref q93, .ref q104, .ref q115, .int (0 : Int32), .int (0 : Int32), .int (0 : Int32), .ref q126, .ref q154, .ref q165, .null, .null, .null, .null, .null, .null, .null, .null, .int (0 : Int32), .int (0 : Int32), .null, .int (0 : Int32), .int (0 : Int32), .null, .null, .int (0 : Int32), .int (0 : Int32), .int (0 : Int32), .int (0 : Int32), .int (0 : Int32)]) := ((congrFun ef180 q).trans (va_up_ne _ _ (g_neL h175 n179))).trans h177
  have h204 : q ∈ L181 := sb182 _ h175
  refine g_putF C hH h204 h203 iX10 tyX10 tyX10_ok nmX10 rfl 28 (by decide) wd370 rfl rfl hnm rfl rfl rfl (Nat.le_of_ble_eq_true rfl) (fs' := [.int (0 : Int32), .ref q1, .ref q12, .ref q25, .ref q36, .ref q47, .int (0 : Int32), .int (0 : Int32), .int (0 : Int32), .int (0 : Int32), .int (0 : Int32), .long (0 : Int64), .int (0 : Int32), .int (0 : Int32), .int (0 : Int32), .int (-1 : Int32), .ref q60, .ref q71, .ref q82, .ref q93, .ref q104, .ref q115, .int (0 : Int32), .int (0 : Int32), .int (0 : Int32), .ref q126, .ref q154, .ref q165, .ref q178, .null, .null, .null, .null, .null, .null, .null, .int (0 : Int32), .int (0 : Int32), .null, .int (0 : Int32), .int (0 : Int32), .null, .null, .int (0 : Int32), .int (0 : Int32), .int (0 : Int32), .int (0 : Int32), .int (0 : Int32)]) rfl dX10_init_125 (fun H locs hH => ?_)
  obtain ⟨f205, ef205⟩ : ∃ z : gF, z = va_up f180 q (.inr (10, [.int (0 : Int32), .ref q1, .ref q12, .ref q25, .ref q36, .ref q47, .int (0 : Int32), .int (0 : Int32), .int (0 : Int32), .int (0 : Int32), .int (0 : Int32), .long (0 : Int64), .int (0 : Int32), .int (0 : Int32), .int (0 : Int32), .int (-1 : Int32), .ref q60, .ref q71, .ref q82, .ref q93, .ref q104, .ref q115, .int (0 : Int32), .int (0 : Int32), .int (0 : Int32), .ref q126, .ref q154, .ref q165, .ref q178, .null, .null, .null, .null, .null, .null, .null, .int (0 : Int32), .int (0 : Int32), .null, .int (0 : Int32), .int (0 : Int32), .null, .null, .int (0 : Int32), .int (0 : Int32), .int (0 : Int32), .int (0 : Int32), .int (0 : Int32)])) := ⟨_, rfl⟩
  have hH : gH E A L181 f205 s.heap H locs := by rw [ef205]; exact hH
  have h206 : f205 q = .inr (10, [.int (0 : Int32), .ref q1, .ref q12, .ref q25, .ref q36, .ref q47, .int (0 : Int32), .int (0 : Int32), .int (0 : Int32), .int (0 : Int32), .int (0 : Int32), .long (0 : Int64), .int (0 : Int32), .int (0 : Int32), .int (0 : Int32), .int (-1 : Int32), .ref q60, .ref q71, .ref q82, .ref q93, .ref q104, .ref q115, .int (0 : Int32), .int (0 : Int32), .int (0 : Int32), .ref q126, .ref q154, .ref q165, .ref q178, .null, .null, .null, .null, .null, .null, .null, .int (0 : Int32), .int (0 : Int32), .null, .int (0 : Int32), .int (0 : Int32), .null, .null, .int (0 : Int32), .int (0 : Int32), .int (0 : Int32), .int (0 : Int32), .int (0 : Int32)]) := (congrFun ef205 q).trans (va_up_self _ _ _)
  refine lv_aload_n hx hb dX10_init_128 rfl (lv_at hl 0 rfl) ?_
  refine lv_bipush (v := (20 : Int32)) hx hb dX10_init_129 (by decide) ?_
  refine g_newa C hH hA 1 rfl (fun _ _ h => h) wd156 rfl (N' := 20) (a0 := (20, (.inl (fun _ => 0)))) (avI 20) (by decide) (by decide) (Nat.le_of_ble_eq_true rfl) (Nat.le_of_ble_eq_true rfl) (Nat.le_of_ble_eq_true rfl) dX10_init_131 (fun q207 H n208 hH => ?_)
  obtain ⟨f209, ef209⟩ : ∃ z : gF, z = va_up f205 q207 (.inl (E.2.2 1, 20, .inl (fun _ => 0))) := ⟨_, rfl⟩
  obtain ⟨L210, eL210⟩ : ∃ z : List Nat, z = L181 ++ [q207] := ⟨_, rfl⟩
  have hH := g_re ef209 eL210 hH
  have sb211 : ∀ b ∈ L181, b ∈ L210 := fun b h => by rw [eL210]; exact List.mem_append_left _ h
  have h212 : q207 ∈ L210 := by rw [eL210]; exact List.mem_append_right _ List.mem_cons_self
  have h213 : f209 q207 = .inl (E.2.2 1, 20, .inl (fun _ => 0)) := (congrFun ef209 q207).trans (va_up_self _ _ _)
  have h214 : f209 q = .inr (10, [.int (0 : Int32), .ref q1, .ref q12, .ref q25, .ref q36, .ref q47, .int (0 : Int32), .int (0 : Int32), .int (0 : Int32), .int (0 : Int32), .int (0 : Int32), .long (0 : Int64), .int (0 : Int32), .int (0 : Int32), .int (0 : Int32), .int (-1 : Int32), .ref q60, .ref q71, .ref q82, .ref q93, .ref q104, .ref q115, .int (0 : Int32), .int (0 : Int32), .int (0 : Int32), .ref q126, .ref q154, .ref q165, .ref q178, .null, .null, .null, .null, .null, .null, .null, .int (0 : Int32), .int (0 : Int32), .null, .int (0 : Int32), .int (0 : Int32), .null, .null, .int (0 : Int32), .int (0 : Int32), .int (0 : Int32), .int (0 : Int32), .int (0 : Int32)]) := ((congrFun ef209 q).trans (va_up_ne _ _ (g_neL h204 n208))).trans h206
  have h215 : q ∈ L210 := sb211 _ h204
  refine g_putF C hH h215 h214 iX10 tyX10 tyX10_ok nmX10 rfl 29 (by decide) wd371 rfl rfl hnm rfl rfl rfl (Nat.le_of_ble_eq_true rfl) (fs' := [.int (0 : Int32), .ref q1, .ref q12, .ref q25, .ref q36, .ref q47, .int (0 : Int32), .int (0 : Int32), .int (0 : Int32), .int (0 : Int32), .int (0 : Int32), .long (0 : Int64), .int (0 : Int32), .int (0 : Int32), .int (0 : Int32), .int (-1 : Int32), .ref q60, .ref q71, .ref q82, .ref q93, .ref q104, .ref q115, .int (0 : Int32), .int (0 : Int32), .int (0 : Int32), .ref q126, .ref q154, .ref q165, .ref q178, .ref q207, .null, .null, .null, .null, .null, .null, .int (0 : Int32), .int (0 : Int32), .null, .int (0 : Int32), .int (0 : Int32), .null, .null, .int (0 : Int32), .int (0 : Int32), .int (0 : Int32), .int (0 : Int32), .int (0 : Int32)]) rfl dX10_init_133 (fun H locs hH => ?_)
  obtain ⟨f216, ef216⟩ : ∃ z : gF, z = va_up f209 q (.inr (10, [.int (0 : Int32), .ref q1, .ref q12, .ref q25, .ref q36, .ref q47, .int (0 : Int32), .int (0 : Int32), .int (0 : Int32), .int (0 : Int32), .int (0 : Int32), .long (0 : Int64), .int (0 : Int32), .int (0 : Int32), .int (0 : Int32), .int (-1 : Int32), .ref q60, .ref q71, .ref q82, .ref q93, .ref q104, .ref q115, .int (0 : Int32), .int (0 : Int32), .int (0 : Int32), .ref q126, .ref q154, .ref q165, .ref q178, .ref q207, .null, .null, .null, .null, .null, .null, .int (0 : Int32), .int (0 : Int32), .null, .int (0 : Int32), .int (0 : Int32), .null, .null, .int (0 : Int32), .int (0 : Int32), .int (0 : Int32), .int (0 : Int32), .int (0 : Int32)])) := ⟨_, rfl⟩
  have hH : gH E A L210 f216 s.heap H locs := by rw [ef216]; exact hH
  have h217 : f216 q = .inr (10, [.int (0 : Int32), .ref q1, .ref q12, .ref q25, .ref q36, .ref q47, .int (0 : Int32), .int (0 : Int32), .int (0 : Int32), .int (0 : Int32), .int (0 : Int32), .long (0 : Int64), .int (0 : Int32), .int (0 : Int32), .int (0 : Int32), .int (-1 : Int32), .ref q60, .ref q71, .ref q82, .ref q93, .ref q104, .ref q115, .int (0 : Int32), .int (0 : Int32), .int (0 : Int32), .ref q126, .ref q154, .ref q165, .ref q178, .ref q207, .null, .null, .null, .null, .null, .null, .int (0 : Int32), .int (0 : Int32), .null, .int (0 : Int32), .int (0 : Int32), .null, .null, .int (0 : Int32), .int (0 : Int32), .int (0 : Int32), .int (0 : Int32), .int (0 : Int32)]) := (congrFun ef216 q).trans (va_up_self _ _ _)
  refine lv_aload_n hx hb dX10_init_136 rfl (lv_at hl 0 rfl) ?_
  refine lv_bipush (v := (64 : Int32)) hx hb dX10_init_137 (by decide) ?_
  refine g_newa C hH hA 1 rfl (fun _ _ h => h) wd156 rfl (N' := 64) (a0 := (64, (.inl (fun _ => 0)))) (avI 64) (by decide) (by decide) (Nat.le_of_ble_eq_true rfl) (Nat.le_of_ble_eq_true rfl) (Nat.le_of_ble_eq_true rfl) dX10_init_139 (fun q218 H n219 hH => ?_)
  obtain ⟨f220, ef220⟩ : ∃ z : gF, z = va_up f216 q218 (.inl (E.2.2 1, 64, .inl (fun _ => 0))) := ⟨_, rfl⟩
  obtain ⟨L221, eL221⟩ : ∃ z : List Nat, z = L210 ++ [q218] := ⟨_, rfl⟩
  have hH := g_re ef220 eL221 hH
  have sb222 : ∀ b ∈ L210, b ∈ L221 := fun b h => by rw [eL221]; exact List.mem_append_left _ h
  have h223 : q218 ∈ L221 := by rw [eL221]; exact List.mem_append_right _ List.mem_cons_self
  have h224 : f220 q218 = .inl (E.2.2 1, 64, .inl (fun _ => 0)) := (congrFun ef220 q218).trans (va_up_self _ _ _)
  have h225 : f220 q = .inr (10, [.int (0 : Int32), .ref q1, .ref q12, .ref q25, .ref q36, .ref q47, .int (0 : Int32), .int (0 : Int32), .int (0 : Int32), .int (0 : Int32), .int (0 : Int32), .long (0 : Int64), .int (0 : Int32), .int (0 : Int32), .int (0 : Int32), .int (-1 : Int32), .ref q60, .ref q71, .ref q82, .ref q93, .ref q104, .ref q115, .int (0 : Int32), .int (0 : Int32), .int (0 : Int32), .ref q126, .ref q154, .ref q165, .ref q178, .ref q207, .null, .null, .null, .null, .null, .null, .int (0 : Int32), .int (0 : Int32), .null, .int (0 : Int32), .int (0 : Int32), .null, .null, .int (0 : Int32), .int (0 : Int32), .int (0 : Int32), .int (0 : Int32), .int (0 : Int32)]) := ((congrFun ef220 q).trans (va_up_ne _ _ (g_neL h215 n219))).trans h217
  have h226 : q ∈ L221 := sb222 _ h215
  refine g_putF C hH h226 h225 iX10 tyX10 tyX10_ok nmX10 rfl 30 (by decide) wd372 rfl rfl hnm rfl rfl rfl (Nat.le_of_ble_eq_true rfl) (fs' := [.int (0 : Int32), .ref q1, .ref q12, .ref q25, .ref q36, .ref q47, .int (0 : Int32), .int (0 : Int32), .int (0 : Int32), .int (0 : Int32), .int (0 : Int32), .long (0 : Int64), .int (0 : Int32), .int (0 : Int32), .int (0 : Int32), .int (-1 : Int32), .ref q60, .ref q71, .ref q82, .ref q93, .ref q104, .ref q115, .int (0 : Int32), .int (0 : Int32), .int (0 : Int32), .ref q126, .ref q154, .ref q165, .ref q178, .ref q207, .ref q218, .null, .null, .null, .null, .null, .int (0 : Int32), .int (0 : Int32), .null, .int (0 : Int32), .int (0 : Int32), .null, .null, .int (0 : Int32), .int (0 : Int32), .int (0 : Int32), .int (0 : Int32), .int (0 : Int32)]) rfl dX10_init_141 (fun H locs hH => ?_)
  obtain ⟨f227, ef227⟩ : ∃ z : gF, z = va_up f220 q (.inr (10, [.int (0 : Int32), .ref q1, .ref q12, .ref q25, .ref q36, .ref q47, .int (0 : Int32), .int (0 : Int32), .int (0 : Int32), .int (0 : Int32), .int (0 : Int32), .long (0 : Int64), .int (0 : Int32), .int (0 : Int32), .int (0 : Int32), .int (-1 : Int32), .ref q60, .ref q71, .ref q82, .ref q93, .ref q104, .ref q115, .int (0 : Int32), .int (0 : Int32), .int (0 : Int32), .ref q126, .ref q154, .ref q165, .ref q178, .ref q207, .ref q218, .null, .null, .null, .null, .null, .int (0 : Int32), .int (0 : Int32), .null, .int (0 : Int32), .int (0 : Int32), .null, .null, .int (0 : Int32), .int (0 : Int32), .int (0 : Int32), .int (0 : Int32), .int (0 : Int32)])) := ⟨_, rfl⟩
  have hH : gH E A L221 f227 s.heap H locs := by rw [ef227]; exact hH
  have h228 : f227 q = .inr (10, [.int (0 : Int32), .ref q1, .ref q12, .ref q25, .ref q36, .ref q47, .int (0 : Int32), .int (0 : Int32), .int (0 : Int32), .int (0 : Int32), .int (0 : Int32), .long (0 : Int64), .int (0 : Int32), .int (0 : Int32), .int (0 : Int32), .int (-1 : Int32), .ref q60, .ref q71, .ref q82, .ref q93, .ref q104, .ref q115, .int (0 : Int32), .int (0 : Int32), .int (0 : Int32), .ref q126, .ref q154, .ref q165, .ref q178, .ref q207, .ref q218, .null, .null, .null, .null, .null, .int (0 : Int32), .int (0 : Int32), .null, .int (0 : Int32), .int (0 : Int32), .null, .null, .int (0 : Int32), .int (0 : Int32), .int (0 : Int32), .int (0 : Int32), .int (0 : Int32)]) := (congrFun ef227 q).trans (va_up_self _ _ _)
  refine lv_aload_n hx hb dX10_init_144 rfl (lv_at hl 0 rfl) ?_
  refine lv_bipush (v := (64 : Int32)) hx hb dX10_init_145 (by decide) ?_
  refine g_newa C hH hA 1 rfl (fun _ _ h => h) wd156 rfl (N' := 64) (a0 := (64, (.inl (fun _ => 0)))) (avI 64) (by decide) (by decide) (Nat.le_of_ble_eq_true rfl) (Nat.le_of_ble_eq_true rfl) (Nat.le_of_ble_eq_true rfl) dX10_init_147 (fun q229 H n230 hH => ?_)
  obtain ⟨f231, ef231⟩ : ∃ z : gF, z = va_up f227 q229 (.inl (E.2.2 1, 64, .inl (fun _ => 0))) := ⟨_, rfl⟩
  obtain ⟨L232, eL232⟩ : ∃ z : List Nat, z = L221 ++ [q229] := ⟨_, rfl⟩
  have hH := g_re ef231 eL232 hH
  have sb233 : ∀ b ∈ L221, b ∈ L232 := fun b h => by rw [eL232]; exact List.mem_append_left _ h
  have h234 : f227 q218 = .inl (E.2.2 1, 64, .inl (fun _ => 0)) := ((congrFun ef227 q218).trans (va_up_ne _ _ (g_neAO h224 h225))).trans h224
  have h235 : q218 ≠ q229 := g_neL h223 n230
  have h236 : q229 ∈ L232 := by rw [eL232]; exact List.mem_append_right _ List.mem_cons_self
  have h237 : f231 q229 = .inl (E.2.2 1, 64, .inl (fun _ => 0)) := (congrFun ef231 q229).trans (va_up_self _ _ _)
  have h238 : f231 q = .inr (10, [.int (0 : Int32), .ref q1, .ref q12, .ref q25, .ref q36, .ref q47, .int (0 : Int32), .int (0 : Int32), .int (0 : Int32), .int (0 : Int32), .int (0 : Int32), .long (0 : Int64), .int (0 : Int32), .int (0 : Int32), .int (0 : Int32), .int (-1 : Int32), .ref q60, .ref q71, .ref q82, .ref q93, .ref q104, .ref q115, .int (0 : Int32), .int (0 : Int32), .int (0 : Int32), .ref q126, .ref q154, .ref q165, .ref q178, .ref q207, .ref q218, .null, .null, .null, .null, .null, .int (0 : Int32), .int (0 : Int32), .null, .int (0 : Int32), .int (0 : Int32), .null, .null, .int (0 : Int32), .int (0 : Int32), .int (0 : Int32), .int (0 : Int32), .int (0 : Int32)]) := ((congrFun ef231 q).trans (va_up_ne _ _ (g_neL h226 n230))).trans h228
  have h239 : q ∈ L232 := sb233 _ h226
  refine g_putF C hH h239 h238 iX10 tyX10 tyX10_ok nmX10 rfl 31 (by decide) wd373 rfl rfl hnm rfl rfl rfl (Nat.le_of_ble_eq_true rfl) (fs' := [.int (0 : Int32), .ref q1, .ref q12, .ref q25, .ref q36, .ref q47, .int (0 : Int32), .int (0 : Int32), .int (0 : Int32), .int (0 : Int32), .int (0 : Int32), .long (0 : Int64), .int (0 : Int32), .int (0 : Int32), .int (0 : Int32), .int (-1 : Int32), .ref q60, .ref q71, .ref q82, .ref q93, .ref q104, .ref q115, .int (0 : Int32), .int (0 : Int32), .int (0 : Int32), .ref q126, .ref q154, .ref q165, .ref q178, .ref q207, .ref q218, .ref q229, .null, .null, .null, .null, .int (0 : Int32), .int (0 : Int32), .null, .int (0 : Int32), .int (0 : Int32), .null, .null, .int (0 : Int32), .int (0 : Int32), .int (0 : Int32), .int (0 : Int32), .int (0 : Int32)]) rfl dX10_init_149 (fun H locs hH => ?_)
  obtain ⟨f240, ef240⟩ : ∃ z : gF, z = va_up f231 q (.inr (10, [.int (0 : Int32), .ref q1, .ref q12, .ref q25, .ref q36, .ref q47, .int (0 : Int32), .int (0 : Int32), .int (0 : Int32), .int (0 : Int32), .int (0 : Int32), .long (0 : Int64), .int (0 : Int32), .int (0 : Int32), .int (0 : Int32), .int (-1 : Int32), .ref q60, .ref q71, .ref q82, .ref q93, .ref q104, .ref q115, .int (0 : Int32), .int (0 : Int32), .int (0 : Int32), .ref q126, .ref q154, .ref q165, .ref q178, .ref q207, .ref q218, .ref q229, .null, .null, .null, .null, .int (0 : Int32), .int (0 : Int32), .null, .int (0 : Int32), .int (0 : Int32), .null, .null, .int (0 : Int32), .int (0 : Int32), .int (0 : Int32), .int (0 : Int32), .int (0 : Int32)])) := ⟨_, rfl⟩
  have hH : gH E A L232 f240 s.heap H locs := by rw [ef240]; exact hH
  have h241 : f240 q = .inr (10, [.int (0 : Int32), .ref q1, .ref q12, .ref q25, .ref q36, .ref q47, .int (0 : Int32), .int (0 : Int32), .int (0 : Int32), .int (0 : Int32), .int (0 : Int32), .long (0 : Int64), .int (0 : Int32), .int (0 : Int32), .int (0 : Int32), .int (-1 : Int32), .ref q60, .ref q71, .ref q82, .ref q93, .ref q104, .ref q115, .int (0 : Int32), .int (0 : Int32), .int (0 : Int32), .ref q126, .ref q154, .ref q165, .ref q178, .ref q207, .ref q218, .ref q229, .null, .null, .null, .null, .int (0 : Int32), .int (0 : Int32), .null, .int (0 : Int32), .int (0 : Int32), .null, .null, .int (0 : Int32), .int (0 : Int32), .int (0 : Int32), .int (0 : Int32), .int (0 : Int32)]) := (congrFun ef240 q).trans (va_up_self _ _ _)
  refine lv_aload_n hx hb dX10_init_152 rfl (lv_at hl 0 rfl) ?_
  refine lv_iconst (v := (4 : Int32)) hx hb dX10_init_153 (by decide) ?_
  refine g_newa C hH hA 1 rfl (fun _ _ h => h) wd156 rfl (N' := 4) (a0 := (4, (.inl (fun _ => 0)))) (avI 4) (by decide) (by decide) (Nat.le_of_ble_eq_true rfl) (Nat.le_of_ble_eq_true rfl) (Nat.le_of_ble_eq_true rfl) dX10_init_154 (fun q242 H n243 hH => ?_)
  obtain ⟨f244, ef244⟩ : ∃ z : gF, z = va_up f240 q242 (.inl (E.2.2 1, 4, .inl (fun _ => 0))) := ⟨_, rfl⟩
  obtain ⟨L245, eL245⟩ : ∃ z : List Nat, z = L232 ++ [q242] := ⟨_, rfl⟩
  have hH := g_re ef244 eL245 hH
  have sb246 : ∀ b ∈ L232, b ∈ L245 := fun b h => by rw [eL245]; exact List.mem_append_left _ h
  have h247 : f14 q1 = .inl (E.2.2 1, 4, .inl (fun _ => 0)) := ((congrFun ef14 q1).trans (va_up_ne _ _ (g_neL h6 n13))).trans h17
  have h248 : q1 ∈ L15 := sb16 _ h6
  have h249 : f23 q1 = .inl (E.2.2 1, 4, .inl (fun _ => 0)) := ((congrFun ef23 q1).trans (va_up_ne _ _ (g_neAO h247 h21))).trans h247
  have h250 : f27 q1 = .inl (E.2.2 1, 4, .inl (fun _ => 0)) := ((congrFun ef27 q1).trans (va_up_ne _ _ (g_neL h248 n26))).trans h249
  have h251 : q1 ∈ L28 := sb29 _ h248
  have h252 : f34 q1 = .inl (E.2.2 1, 4, .inl (fun _ => 0)) := ((congrFun ef34 q1).trans (va_up_ne _ _ (g_neAO h250 h32))).trans h250
  have h253 : f38 q1 = .inl (E.2.2 1, 4, .inl (fun _ => 0)) := ((congrFun ef38 q1).trans (va_up_ne _ _ (g_neL h251 n37))).trans h252
  have h254 : q1 ∈ L39 := sb40 _ h251
  have h255 : f45 q1 = .inl (E.2.2 1, 4, .inl (fun _ => 0)) := ((congrFun ef45 q1).trans (va_up_ne _ _ (g_neAO h253 h43))).trans h253
  have h256 : f49 q1 = .inl (E.2.2 1, 4, .inl (fun _ => 0)) := ((congrFun ef49 q1).trans (va_up_ne _ _ (g_neL h254 n48))).trans h255
  have h257 : q1 ∈ L50 := sb51 _ h254
  have h258 : f56 q1 = .inl (E.2.2 1, 4, .inl (fun _ => 0)) := ((congrFun ef56 q1).trans (va_up_ne _ _ (g_neAO h256 h54))).trans h256
  have h259 : f58 q1 = .inl (E.2.2 1, 4, .inl (fun _ => 0)) := ((congrFun ef58 q1).trans (va_up_ne _ _ (g_neAO h258 h57))).trans h258
  have h260 : f62 q1 = .inl (E.2.2 1, 4, .inl (fun _ => 0)) := ((congrFun ef62 q1).trans (va_up_ne _ _ (g_neL h257 n61))).trans h259
  have h261 : q1 ∈ L63 := sb64 _ h257
  have h262 : f69 q1 = .inl (E.2.2 1, 4, .inl (fun _ => 0)) := ((congrFun ef69 q1).trans (va_up_ne _ _ (g_neAO h260 h67))).trans h260
  have h263 : f73 q1 = .inl (E.2.2 1, 4, .inl (fun _ => 0)) := ((congrFun ef73 q1).trans (va_up_ne _ _ (g_neL h261 n72))).trans h262
  have h264 : q1 ∈ L74 := sb75 _ h261
  have h265 : f80 q1 = .inl (E.2.2 1, 4, .inl (fun _ => 0)) := ((congrFun ef80 q1).trans (va_up_ne _ _ (g_neAO h263 h78))).trans h263
  have h266 : f84 q1 = .inl (E.2.2 1, 4, .inl (fun _ => 0)) := ((congrFun ef84 q1).trans (va_up_ne _ _ (g_neL h264 n83))).trans h265
  have h267 : q1 ∈ L85 := sb86 _ h264
  have h268 : f91 q1 = .inl (E.2.2 1, 4, .inl (fun _ => 0)) := ((congrFun ef91 q1).trans (va_up_ne _ _ (g_neAO h266 h89))).trans h266
  have h269 : f95 q1 = .inl (E.2.2 1, 4, .inl (fun _ => 0)) := ((congrFun ef95 q1).trans (va_up_ne _ _ (g_neL h267 n94))).trans h268
  have h270 : q1 ∈ L96 := sb97 _ h267
  have h271 : f102 q1 = .inl (E.2.2 1, 4, .inl (fun _ => 0)) := ((congrFun ef102 q1).trans (va_up_ne _ _ (g_neAO h269 h100))).trans h269
  have h272 : f106 q1 = .inl (E.2.2 1, 4, .inl (fun _ => 0)) := ((congrFun ef106 q1).trans (va_up_ne _ _ (g_neL h270 n105))).trans h271
  have h273 : q1 ∈ L107 := sb108 _ h270
  have h274 : f113 q1 = .inl (E.2.2 1, 4, .inl (fun _ => 0)) := ((congrFun ef113 q1).trans (va_up_ne _ _ (g_neAO h272 h111))).trans h272
  have h275 : f117 q1 = .inl (E.2.2 1, 4, .inl (fun _ => 0)) := ((congrFun ef117 q1).trans (va_up_ne _ _ (g_neL h273 n116))).trans h274
  have h276 : q1 ∈ L118 := sb119 _ h273
  have h277 : f124 q1 = .inl (E.2.2 1, 4, .inl (fun _ => 0)) := ((congrFun ef124 q1).trans (va_up_ne _ _ (g_neAO h275 h122))).trans h275
  have h278 : f128 q1 = .inl (E.2.2 1, 4, .inl (fun _ => 0)) := ((congrFun ef128 q1).trans (va_up_ne _ _ (g_neL h276 n127))).trans h277
  have h279 : q1 ∈ L129 := sb130 _ h276
  have h280 : f152 q1 = .inl (E.2.2 1, 4, .inl (fun _ => 0)) := ((congrFun ef152 q1).trans (va_up_ne _ _ (g_neAO h278 h150))).trans h278
  have h281 : f156 q1 = .inl (E.2.2 1, 4, .inl (fun _ => 0)) := ((congrFun ef156 q1).trans (va_up_ne _ _ (g_neL h279 n155))).trans h280
  have h282 : q1 ∈ L157 := sb158 _ h279
  have h283 : f163 q1 = .inl (E.2.2 1, 4, .inl (fun _ => 0)) := ((congrFun ef163 q1).trans (va_up_ne _ _ (g_neAO h281 h161))).trans h281
  have h284 : f167 q1 = .inl (E.2.2 1, 4, .inl (fun _ => 0)) := ((congrFun ef167 q1).trans (va_up_ne _ _ (g_neL h282 n166))).trans h283
  have h285 : q1 ∈ L168 := sb169 _ h282
  have h286 : f176 q1 = .inl (E.2.2 1, 4, .inl (fun _ => 0)) := ((congrFun ef176 q1).trans (va_up_ne _ _ (g_neAO h284 h174))).trans h284
  have h287 : f180 q1 = .inl (E.2.2 1, 4, .inl (fun _ => 0)) := ((congrFun ef180 q1).trans (va_up_ne _ _ (g_neL h285 n179))).trans h286
  have h288 : q1 ∈ L181 := sb182 _ h285
  have h289 : f205 q1 = .inl (E.2.2 1, 4, .inl (fun _ => 0)) := ((congrFun ef205 q1).trans (va_up_ne _ _ (g_neAO h287 h203))).trans h287
  have h290 : f209 q1 = .inl (E.2.2 1, 4, .inl (fun _ => 0)) := ((congrFun ef209 q1).trans (va_up_ne _ _ (g_neL h288 n208))).trans h289
  have h291 : q1 ∈ L210 := sb211 _ h288
  have h292 : f216 q1 = .inl (E.2.2 1, 4, .inl (fun _ => 0)) := ((congrFun ef216 q1).trans (va_up_ne _ _ (g_neAO h290 h214))).trans h290
  have h293 : f220 q1 = .inl (E.2.2 1, 4, .inl (fun _ => 0)) := ((congrFun ef220 q1).trans (va_up_ne _ _ (g_neL h291 n219))).trans h292
  have h294 : q1 ∈ L221 := sb222 _ h291
  have h295 : f227 q1 = .inl (E.2.2 1, 4, .inl (fun _ => 0)) := ((congrFun ef227 q1).trans (va_up_ne _ _ (g_neAO h293 h225))).trans h293
  have h296 : f231 q1 = .inl (E.2.2 1, 4, .inl (fun _ => 0)) := ((congrFun ef231 q1).trans (va_up_ne _ _ (g_neL h294 n230))).trans h295
  have h297 : q1 ∈ L232 := sb233 _ h294
  have h298 : f240 q1 = .inl (E.2.2 1, 4, .inl (fun _ => 0)) := ((congrFun ef240 q1).trans (va_up_ne _ _ (g_neAO h296 h238))).trans h296
  have h299 : q1 ≠ q242 := g_neL h297 n243
  have h300 : f23 q12 = .inl (E.2.2 1, 4, .inl (fun _ => 0)) := ((congrFun ef23 q12).trans (va_up_ne _ _ (g_neAO h20 h21))).trans h20
  have h301 : f27 q12 = .inl (E.2.2 1, 4, .inl (fun _ => 0)) := ((congrFun ef27 q12).trans (va_up_ne _ _ (g_neL h19 n26))).trans h300
  have h302 : q12 ∈ L28 := sb29 _ h19
  have h303 : f34 q12 = .inl (E.2.2 1, 4, .inl (fun _ => 0)) := ((congrFun ef34 q12).trans (va_up_ne _ _ (g_neAO h301 h32))).trans h301
  have h304 : f38 q12 = .inl (E.2.2 1, 4, .inl (fun _ => 0)) := ((congrFun ef38 q12).trans (va_up_ne _ _ (g_neL h302 n37))).trans h303
  have h305 : q12 ∈ L39 := sb40 _ h302
  have h306 : f45 q12 = .inl (E.2.2 1, 4, .inl (fun _ => 0)) := ((congrFun ef45 q12).trans (va_up_ne _ _ (g_neAO h304 h43))).trans h304
  have h307 : f49 q12 = .inl (E.2.2 1, 4, .inl (fun _ => 0)) := ((congrFun ef49 q12).trans (va_up_ne _ _ (g_neL h305 n48))).trans h306
  have h308 : q12 ∈ L50 := sb51 _ h305
  have h309 : f56 q12 = .inl (E.2.2 1, 4, .inl (fun _ => 0)) := ((congrFun ef56 q12).trans (va_up_ne _ _ (g_neAO h307 h54))).trans h307
  have h310 : f58 q12 = .inl (E.2.2 1, 4, .inl (fun _ => 0)) := ((congrFun ef58 q12).trans (va_up_ne _ _ (g_neAO h309 h57))).trans h309
  have h311 : f62 q12 = .inl (E.2.2 1, 4, .inl (fun _ => 0)) := ((congrFun ef62 q12).trans (va_up_ne _ _ (g_neL h308 n61))).trans h310
  have h312 : q12 ∈ L63 := sb64 _ h308
  have h313 : f69 q12 = .inl (E.2.2 1, 4, .inl (fun _ => 0)) := ((congrFun ef69 q12).trans (va_up_ne _ _ (g_neAO h311 h67))).trans h311
  have h314 : f73 q12 = .inl (E.2.2 1, 4, .inl (fun _ => 0)) := ((congrFun ef73 q12).trans (va_up_ne _ _ (g_neL h312 n72))).trans h313
  have h315 : q12 ∈ L74 := sb75 _ h312
  have h316 : f80 q12 = .inl (E.2.2 1, 4, .inl (fun _ => 0)) := ((congrFun ef80 q12).trans (va_up_ne _ _ (g_neAO h314 h78))).trans h314
  have h317 : f84 q12 = .inl (E.2.2 1, 4, .inl (fun _ => 0)) := ((congrFun ef84 q12).trans (va_up_ne _ _ (g_neL h315 n83))).trans h316
  have h318 : q12 ∈ L85 := sb86 _ h315
  have h319 : f91 q12 = .inl (E.2.2 1, 4, .inl (fun _ => 0)) := ((congrFun ef91 q12).trans (va_up_ne _ _ (g_neAO h317 h89))).trans h317
  have h320 : f95 q12 = .inl (E.2.2 1, 4, .inl (fun _ => 0)) := ((congrFun ef95 q12).trans (va_up_ne _ _ (g_neL h318 n94))).trans h319
  have h321 : q12 ∈ L96 := sb97 _ h318
  have h322 : f102 q12 = .inl (E.2.2 1, 4, .inl (fun _ => 0)) := ((congrFun ef102 q12).trans (va_up_ne _ _ (g_neAO h320 h100))).trans h320
  have h323 : f106 q12 = .inl (E.2.2 1, 4, .inl (fun _ => 0)) := ((congrFun ef106 q12).trans (va_up_ne _ _ (g_neL h321 n105))).trans h322
  have h324 : q12 ∈ L107 := sb108 _ h321
  have h325 : f113 q12 = .inl (E.2.2 1, 4, .inl (fun _ => 0)) := ((congrFun ef113 q12).trans (va_up_ne _ _ (g_neAO h323 h111))).trans h323
  have h326 : f117 q12 = .inl (E.2.2 1, 4, .inl (fun _ => 0)) := ((congrFun ef117 q12).trans (va_up_ne _ _ (g_neL h324 n116))).trans h325
  have h327 : q12 ∈ L118 := sb119 _ h324
  have h328 : f124 q12 = .inl (E.2.2 1, 4, .inl (fun _ => 0)) := ((congrFun ef124 q12).trans (va_up_ne _ _ (g_neAO h326 h122))).trans h326
  have h329 : f128 q12 = .inl (E.2.2 1, 4, .inl (fun _ => 0)) := ((congrFun ef128 q12).trans (va_up_ne _ _ (g_neL h327 n127))).trans h328
  have h330 : q12 ∈ L129 := sb130 _ h327
  have h331 : f152 q12 = .inl (E.2.2 1, 4, .inl (fun _ => 0)) := ((congrFun ef152 q12).trans (va_up_ne _ _ (g_neAO h329 h150))).trans h329
  have h332 : f156 q12 = .inl (E.2.2 1, 4, .inl (fun _ => 0)) := ((congrFun ef156 q12).trans (va_up_ne _ _ (g_neL h330 n155))).trans h331
  have h333 : q12 ∈ L157 := sb158 _ h330
  have h334 : f163 q12 = .inl (E.2.2 1, 4, .inl (fun _ => 0)) := ((congrFun ef163 q12).trans (va_up_ne _ _ (g_neAO h332 h161))).trans h332
  have h335 : f167 q12 = .inl (E.2.2 1, 4, .inl (fun _ => 0)) := ((congrFun ef167 q12).trans (va_up_ne _ _ (g_neL h333 n166))).trans h334
  have h336 : q12 ∈ L168 := sb169 _ h333
  have h337 : f176 q12 = .inl (E.2.2 1, 4, .inl (fun _ => 0)) := ((congrFun ef176 q12).trans (va_up_ne _ _ (g_neAO h335 h174))).trans h335
  have h338 : f180 q12 = .inl (E.2.2 1, 4, .inl (fun _ => 0)) := ((congrFun ef180 q12).trans (va_up_ne _ _ (g_neL h336 n179))).trans h337
  have h339 : q12 ∈ L181 := sb182 _ h336
  have h340 : f205 q12 = .inl (E.2.2 1, 4, .inl (fun _ => 0)) := ((congrFun ef205 q12).trans (va_up_ne _ _ (g_neAO h338 h203))).trans h338
  have h341 : f209 q12 = .inl (E.2.2 1, 4, .inl (fun _ => 0)) := ((congrFun ef209 q12).trans (va_up_ne _ _ (g_neL h339 n208))).trans h340
  have h342 : q12 ∈ L210 := sb211 _ h339
  have h343 : f216 q12 = .inl (E.2.2 1, 4, .inl (fun _ => 0)) := ((congrFun ef216 q12).trans (va_up_ne _ _ (g_neAO h341 h214))).trans h341
  have h344 : f220 q12 = .inl (E.2.2 1, 4, .inl (fun _ => 0)) := ((congrFun ef220 q12).trans (va_up_ne _ _ (g_neL h342 n219))).trans h343
  have h345 : q12 ∈ L221 := sb222 _ h342
  have h346 : f227 q12 = .inl (E.2.2 1, 4, .inl (fun _ => 0)) := ((congrFun ef227 q12).trans (va_up_ne _ _ (g_neAO h344 h225))).trans h344
  have h347 : f231 q12 = .inl (E.2.2 1, 4, .inl (fun _ => 0)) := ((congrFun ef231 q12).trans (va_up_ne _ _ (g_neL h345 n230))).trans h346
  have h348 : q12 ∈ L232 := sb233 _ h345
  have h349 : f240 q12 = .inl (E.2.2 1, 4, .inl (fun _ => 0)) := ((congrFun ef240 q12).trans (va_up_ne _ _ (g_neAO h347 h238))).trans h347
  have h350 : q12 ≠ q242 := g_neL h348 n243
  have h351 : q242 ∈ L245 := by rw [eL245]; exact List.mem_append_right _ List.mem_cons_self
  have h352 : f244 q242 = .inl (E.2.2 1, 4, .inl (fun _ => 0)) := (congrFun ef244 q242).trans (va_up_self _ _ _)
  have h353 : f244 q = .inr (10, [.int (0 : Int32), .ref q1, .ref q12, .ref q25, .ref q36, .ref q47, .int (0 : Int32), .int (0 : Int32), .int (0 : Int32), .int (0 : Int32), .int (0 : Int32), .long (0 : Int64), .int (0 : Int32), .int (0 : Int32), .int (0 : Int32), .int (-1 : Int32), .ref q60, .ref q71, .ref q82, .ref q93, .ref q104, .ref q115, .int (0 : Int32), .int (0 : Int32), .int (0 : Int32), .ref q126, .ref q154, .ref q165, .ref q178, .ref q207, .ref q218, .ref q229, .null, .null, .null, .null, .int (0 : Int32), .int (0 : Int32), .null, .int (0 : Int32), .int (0 : Int32), .null, .null, .int (0 : Int32), .int (0 : Int32), .int (0 : Int32), .int (0 : Int32), .int (0 : Int32)]) := ((congrFun ef244 q).trans (va_up_ne _ _ (g_neL h239 n243))).trans h241
  have h354 : q ∈ L245 := sb246 _ h239
  refine g_putF C hH h354 h353 iX10 tyX10 tyX10_ok nmX10 rfl 32 (by decide) wd374 rfl rfl hnm rfl rfl rfl (Nat.le_of_ble_eq_true rfl) (fs' := [.int (0 : Int32), .ref q1, .ref q12, .ref q25, .ref q36, .ref q47, .int (0 : Int32), .int (0 : Int32), .int (0 : Int32), .int (0 : Int32), .int (0 : Int32), .long (0 : Int64), .int (0 : Int32), .int (0 : Int32), .int (0 : Int32), .int (-1 : Int32), .ref q60, .ref q71, .ref q82, .ref q93, .ref q104, .ref q115, .int (0 : Int32), .int (0 : Int32), .int (0 : Int32), .ref q126, .ref q154, .ref q165, .ref q178, .ref q207, .ref q218, .ref q229, .ref q242, .null, .null, .null, .int (0 : Int32), .int (0 : Int32), .null, .int (0 : Int32), .int (0 : Int32), .null, .null, .int (0 : Int32), .int (0 : Int32), .int (0 : Int32), .int (0 : Int32), .int (0 : Int32)]) rfl dX10_init_156 (fun H locs hH => ?_)
  obtain ⟨f355, ef355⟩ : ∃ z : gF, z = va_up f244 q (.inr (10, [.int (0 : Int32), .ref q1, .ref q12, .ref q25, .ref q36, .ref q47, .int (0 : Int32), .int (0 : Int32), .int (0 : Int32), .int (0 : Int32), .int (0 : Int32), .long (0 : Int64), .int (0 : Int32), .int (0 : Int32), .int (0 : Int32), .int (-1 : Int32), .ref q60, .ref q71, .ref q82, .ref q93, .ref q104, .ref q115, .int (0 : Int32), .int (0 : Int32), .int (0 : Int32), .ref q126, .ref q154, .ref q165, .ref q178, .ref q207, .ref q218, .ref q229, .ref q242, .null, .null, .null, .int (0 : Int32), .int (0 : Int32), .null, .int (0 : Int32), .int (0 : Int32), .null, .null, .int (0 : Int32), .int (0 : Int32), .int (0 : Int32), .int (0 : Int32), .int (0 : Int32)])) := ⟨_, rfl⟩
  have hH : gH E A L245 f355 s.heap H locs := by rw [ef355]; exact hH
  have h356 : f355 q = .inr (10, [.int (0 : Int32), .ref q1, .ref q12, .ref q25, .ref q36, .ref q47, .int (0 : Int32), .int (0 : Int32), .int (0 : Int32), .int (0 : Int32), .int (0 : Int32), .long (0 : Int64), .int (0 : Int32), .int (0 : Int32), .int (0 : Int32), .int (-1 : Int32), .ref q60, .ref q71, .ref q82, .ref q93, .ref q104, .ref q115, .int (0 : Int32), .int (0 : Int32), .int (0 : Int32), .ref q126, .ref q154, .ref q165, .ref q178, .ref q207, .ref q218, .ref q229, .ref q242, .null, .null, .null, .int (0 : Int32), .int (0 : Int32), .null, .int (0 : Int32), .int (0 : Int32), .null, .null, .int (0 : Int32), .int (0 : Int32), .int (0 : Int32), .int (0 : Int32), .int (0 : Int32)]) := (congrFun ef355 q).trans (va_up_self _ _ _)
  refine lv_aload_n hx hb dX10_init_159 rfl (lv_at hl 0 rfl) ?_
  refine lv_iconst (v := (4 : Int32)) hx hb dX10_init_160 (by decide) ?_
  refine g_newa C hH hA 1 rfl (fun _ _ h => h) wd156 rfl (N' := 4) (a0 := (4, (.inl (fun _ => 0)))) (avI 4) (by decide) (by decide) (Nat.le_of_ble_eq_true rfl) (Nat.le_of_ble_eq_true rfl) (Nat.le_of_ble_eq_true rfl) dX10_init_161 (fun q357 H n358 hH => ?_)
  obtain ⟨f359, ef359⟩ : ∃ z : gF, z = va_up f355 q357 (.inl (E.2.2 1, 4, .inl (fun _ => 0))) := ⟨_, rfl⟩
  obtain ⟨L360, eL360⟩ : ∃ z : List Nat, z = L245 ++ [q357] := ⟨_, rfl⟩
  have hH := g_re ef359 eL360 hH
  have sb361 : ∀ b ∈ L245, b ∈ L360 := fun b h => by rw [eL360]; exact List.mem_append_left _ h
  have h362 : f244 q1 = .inl (E.2.2 1, 4, .inl (fun _ => 0)) := ((congrFun ef244 q1).trans (va_up_ne _ _ (g_neL h297 n243))).trans h298
  have h363 : q1 ∈ L245 := sb246 _ h297
  have h364 : f355 q1 = .inl (E.2.2 1, 4, .inl (fun _ => 0)) := ((congrFun ef355 q1).trans (va_up_ne _ _ (g_neAO h362 h353))).trans h362
  have h365 : q1 ≠ q357 := g_neL h363 n358
  have h366 : f244 q12 = .inl (E.2.2 1, 4, .inl (fun _ => 0)) := ((congrFun ef244 q12).trans (va_up_ne _ _ (g_neL h348 n243))).trans h349
  have h367 : q12 ∈ L245 := sb246 _ h348
  have h368 : f355 q12 = .inl (E.2.2 1, 4, .inl (fun _ => 0)) := ((congrFun ef355 q12).trans (va_up_ne _ _ (g_neAO h366 h353))).trans h366
  have h369 : q12 ≠ q357 := g_neL h367 n358
  have h370 : f355 q242 = .inl (E.2.2 1, 4, .inl (fun _ => 0)) := ((congrFun ef355 q242).trans (va_up_ne _ _ (g_neAO h352 h353))).trans h352
  have h371 : q242 ≠ q357 := g_neL h351 n358
  have h372 : q357 ∈ L360 := by rw [eL360]; exact List.mem_append_right _ List.mem_cons_self
  have h373 : f359 q357 = .inl (E.2.2 1, 4, .inl (fun _ => 0)) := (congrFun ef359 q357).trans (va_up_self _ _ _)
  have h374 : f359 q = .inr (10, [.int (0 : Int32), .ref q1, .ref q12, .ref q25, .ref q36, .ref q47, .int (0 : Int32), .int (0 : Int32), .int (0 : Int32), .int (0 : Int32), .int (0 : Int32), .long (0 : Int64), .int (0 : Int32), .int (0 : Int32), .int (0 : Int32), .int (-1 : Int32), .ref q60, .ref q71, .ref q82, .ref q93, .ref q104, .ref q115, .int (0 : Int32), .int (0 : Int32), .int (0 : Int32), .ref q126, .ref q154, .ref q165, .ref q178, .ref q207, .ref q218, .ref q229, .ref q242, .null, .null, .null, .int (0 : Int32), .int (0 : Int32), .null, .int (0 : Int32), .int (0 : Int32), .null, .null, .int (0 : Int32), .int (0 : Int32), .int (0 : Int32), .int (0 : Int32), .int (0 : Int32)]) := ((congrFun ef359 q).trans (va_up_ne _ _ (g_neL h354 n358))).trans h356
  have h375 : q ∈ L360 := sb361 _ h354
  refine g_putF C hH h375 h374 iX10 tyX10 tyX10_ok nmX10 rfl 33 (by decide) wd375 rfl rfl hnm rfl rfl rfl (Nat.le_of_ble_eq_true rfl) (fs' := [.int (0 : Int32), .ref q1, .ref q12, .ref q25, .ref q36, .ref q47, .int (0 : Int32), .int (0 : Int32), .int (0 : Int32), .int (0 : Int32), .int (0 : Int32), .long (0 : Int64), .int (0 : Int32), .int (0 : Int32), .int (0 : Int32), .int (-1 : Int32), .ref q60, .ref q71, .ref q82, .ref q93, .ref q104, .ref q115, .int (0 : Int32), .int (0 : Int32), .int (0 : Int32), .ref q126, .ref q154, .ref q165, .ref q178, .ref q207, .ref q218, .ref q229, .ref q242, .ref q357, .null, .null, .int (0 : Int32), .int (0 : Int32), .null, .int (0 : Int32), .int (0 : Int32), .null, .null, .int (0 : Int32), .int (0 : Int32), .int (0 : Int32), .int (0 : Int32), .int (0 : Int32)]) rfl dX10_init_163 (fun H locs hH => ?_)
  obtain ⟨f376, ef376⟩ : ∃ z : gF, z = va_up f359 q (.inr (10, [.int (0 : Int32), .ref q1, .ref q12, .ref q25, .ref q36, .ref q47, .int (0 : Int32), .int (0 : Int32), .int (0 : Int32), .int (0 : Int32), .int (0 : Int32), .long (0 : Int64), .int (0 : Int32), .int (0 : Int32), .int (0 : Int32), .int (-1 : Int32), .ref q60, .ref q71, .ref q82, .ref q93, .ref q104, .ref q115, .int (0 : Int32), .int (0 : Int32), .int (0 : Int32), .ref q126, .ref q154, .ref q165, .ref q178, .ref q207, .ref q218, .ref q229, .ref q242, .ref q357, .null, .null, .int (0 : Int32), .int (0 : Int32), .null, .int (0 : Int32), .int (0 : Int32), .null, .null, .int (0 : Int32), .int (0 : Int32), .int (0 : Int32), .int (0 : Int32), .int (0 : Int32)])) := ⟨_, rfl⟩
  have hH : gH E A L360 f376 s.heap H locs := by rw [ef376]; exact hH
  have h377 : f376 q = .inr (10, [.int (0 : Int32), .ref q1, .ref q12, .ref q25, .ref q36, .ref q47, .int (0 : Int32), .int (0 : Int32), .int (0 : Int32), .int (0 : Int32), .int (0 : Int32), .long (0 : Int64), .int (0 : Int32), .int (0 : Int32), .int (0 : Int32), .int (-1 : Int32), .ref q60, .ref q71, .ref q82, .ref q93, .ref q104, .ref q115, .int (0 : Int32), .int (0 : Int32), .int (0 : Int32), .ref q126, .ref q154, .ref q165, .ref q178, .ref q207, .ref q218, .ref q229, .ref q242, .ref q357, .null, .null, .int (0 : Int32), .int (0 : Int32), .null, .int (0 : Int32), .int (0 : Int32), .null, .null, .int (0 : Int32), .int (0 : Int32), .int (0 : Int32), .int (0 : Int32), .int (0 : Int32)]) := (congrFun ef376 q).trans (va_up_self _ _ _)
  refine lv_aload_n hx hb dX10_init_166 rfl (lv_at hl 0 rfl) ?_
  refine lv_iconst (v := (4 : Int32)) hx hb dX10_init_167 (by decide) ?_
  refine g_newa C hH hA 1 rfl (fun _ _ h => h) wd156 rfl (N' := 4) (a0 := (4, (.inl (fun _ => 0)))) (avI 4) (by decide) (by decide) (Nat.le_of_ble_eq_true rfl) (Nat.le_of_ble_eq_true rfl) (Nat.le_of_ble_eq_true rfl) dX10_init_168 (fun q378 H n379 hH => ?_)
  obtain ⟨f380, ef380⟩ : ∃ z : gF, z = va_up f376 q378 (.inl (E.2.2 1, 4, .inl (fun _ => 0))) := ⟨_, rfl⟩
  obtain ⟨L381, eL381⟩ : ∃ z : List Nat, z = L360 ++ [q378] := ⟨_, rfl⟩
  have hH := g_re ef380 eL381 hH
  have sb382 : ∀ b ∈ L360, b ∈ L381 := fun b h => by rw [eL381]; exact List.mem_append_left _ h
  have h383 : f359 q1 = .inl (E.2.2 1, 4, .inl (fun _ => 0)) := ((congrFun ef359 q1).trans (va_up_ne _ _ (g_neL h363 n358))).trans h364
  have h384 : q1 ∈ L360 := sb361 _ h363
  have h385 : f376 q1 = .inl (E.2.2 1, 4, .inl (fun _ => 0)) := ((congrFun ef376 q1).trans (va_up_ne _ _ (g_neAO h383 h374))).trans h383
  have h386 : q1 ≠ q378 := g_neL h384 n379
  have h387 : f359 q12 = .inl (E.2.2 1, 4, .inl (fun _ => 0)) := ((congrFun ef359 q12).trans (va_up_ne _ _ (g_neL h367 n358))).trans h368
  have h388 : q12 ∈ L360 := sb361 _ h367
  have h389 : f376 q12 = .inl (E.2.2 1, 4, .inl (fun _ => 0)) := ((congrFun ef376 q12).trans (va_up_ne _ _ (g_neAO h387 h374))).trans h387
  have h390 : q12 ≠ q378 := g_neL h388 n379
  have h391 : f359 q242 = .inl (E.2.2 1, 4, .inl (fun _ => 0)) := ((congrFun ef359 q242).trans (va_up_ne _ _ (g_neL h351 n358))).trans h370
  have h392 : q242 ∈ L360 := sb361 _ h351
  have h393 : f376 q242 = .inl (E.2.2 1, 4, .inl (fun _ => 0)) := ((congrFun ef376 q242).trans (va_up_ne _ _ (g_neAO h391 h374))).trans h391
  have h394 : q242 ≠ q378 := g_neL h392 n379
  have h395 : f376 q357 = .inl (E.2.2 1, 4, .inl (fun _ => 0)) := ((congrFun ef376 q357).trans (va_up_ne _ _ (g_neAO h373 h374))).trans h373
  have h396 : q357 ≠ q378 := g_neL h372 n379
  have h397 : q378 ∈ L381 := by rw [eL381]; exact List.mem_append_right _ List.mem_cons_self
  have h398 : f380 q378 = .inl (E.2.2 1, 4, .inl (fun _ => 0)) := (congrFun ef380 q378).trans (va_up_self _ _ _)
  have h399 : f380 q = .inr (10, [.int (0 : Int32), .ref q1, .ref q12, .ref q25, .ref q36, .ref q47, .int (0 : Int32), .int (0 : Int32), .int (0 : Int32), .int (0 : Int32), .int (0 : Int32), .long (0 : Int64), .int (0 : Int32), .int (0 : Int32), .int (0 : Int32), .int (-1 : Int32), .ref q60, .ref q71, .ref q82, .ref q93, .ref q104, .ref q115, .int (0 : Int32), .int (0 : Int32), .int (0 : Int32), .ref q126, .ref q154, .ref q165, .ref q178, .ref q207, .ref q218, .ref q229, .ref q242, .ref q357, .null, .null, .int (0 : Int32), .int (0 : Int32), .null, .int (0 : Int32), .int (0 : Int32), .null, .null, .int (0 : Int32), .int (0 : Int32), .int (0 : Int32), .int (0 : Int32), .int (0 : Int32)]) := ((congrFun ef380 q).trans (va_up_ne _ _ (g_neL h375 n379))).trans h377
  have h400 : q ∈ L381 := sb382 _ h375
  refine g_putF C hH h400 h399 iX10 tyX10 tyX10_ok nmX10 rfl 34 (by decide) wd376 rfl rfl hnm rfl rfl rfl (Nat.le_of_ble_eq_true rfl) (fs' := [.int (0 : Int32), .ref q1, .ref q12, .ref q25, .ref q36, .ref q47, .int (0 : Int32), .int (0 : Int32), .int (0 : Int32), .int (0 : Int32), .int (0 : Int32), .long (0 : Int64), .int (0 : Int32), .int (0 : Int32), .int (0 : Int32), .int (-1 : Int32), .ref q60, .ref q71, .ref q82, .ref q93, .ref q104, .ref q115, .int (0 : Int32), .int (0 : Int32), .int (0 : Int32), .ref q126, .ref q154, .ref q165, .ref q178, .ref q207, .ref q218, .ref q229, .ref q242, .ref q357, .ref q378, .null, .int (0 : Int32), .int (0 : Int32), .null, .int (0 : Int32), .int (0 : Int32), .null, .null, .int (0 : Int32), .int (0 : Int32), .int (0 : Int32), .int (0 : Int32), .int (0 : Int32)]) rfl dX10_init_170 (fun H locs hH => ?_)
  obtain ⟨f401, ef401⟩ : ∃ z : gF, z = va_up f380 q (.inr (10, [.int (0 : Int32), .ref q1, .ref q12, .ref q25, .ref q36, .ref q47, .int (0 : Int32), .int (0 : Int32), .int (0 : Int32), .int (0 : Int32), .int (0 : Int32), .long (0 : Int64), .int (0 : Int32), .int (0 : Int32), .int (0 : Int32), .int (-1 : Int32), .ref q60, .ref q71, .ref q82, .ref q93, .ref q104, .ref q115, .int (0 : Int32), .int (0 : Int32), .int (0 : Int32), .ref q126, .ref q154, .ref q165, .ref q178, .ref q207, .ref q218, .ref q229, .ref q242, .ref q357, .ref q378, .null, .int (0 : Int32), .int (0 : Int32), .null, .int (0 : Int32), .int (0 : Int32), .null, .null, .int (0 : Int32), .int (0 : Int32), .int (0 : Int32), .int (0 : Int32), .int (0 : Int32)])) := ⟨_, rfl⟩
  have hH : gH E A L381 f401 s.heap H locs := by rw [ef401]; exact hH
  have h402 : f401 q = .inr (10, [.int (0 : Int32), .ref q1, .ref q12, .ref q25, .ref q36, .ref q47, .int (0 : Int32), .int (0 : Int32), .int (0 : Int32), .int (0 : Int32), .int (0 : Int32), .long (0 : Int64), .int (0 : Int32), .int (0 : Int32), .int (0 : Int32), .int (-1 : Int32), .ref q60, .ref q71, .ref q82, .ref q93, .ref q104, .ref q115, .int (0 : Int32), .int (0 : Int32), .int (0 : Int32), .ref q126, .ref q154, .ref q165, .ref q178, .ref q207, .ref q218, .ref q229, .ref q242, .ref q357, .ref q378, .null, .int (0 : Int32), .int (0 : Int32), .null, .int (0 : Int32), .int (0 : Int32), .null, .null, .int (0 : Int32), .int (0 : Int32), .int (0 : Int32), .int (0 : Int32), .int (0 : Int32)]) := (congrFun ef401 q).trans (va_up_self _ _ _)
  refine lv_aload_n hx hb dX10_init_173 rfl (lv_at hl 0 rfl) ?_
  refine lv_bipush (v := (42 : Int32)) hx hb dX10_init_174 (by decide) ?_
  refine g_newa C hH hA 1 rfl (fun _ _ h => h) wd156 rfl (N' := 42) (a0 := (42, (.inl (fun _ => 0)))) (avI 42) (by decide) (by decide) (Nat.le_of_ble_eq_true rfl) (Nat.le_of_ble_eq_true rfl) (Nat.le_of_ble_eq_true rfl) dX10_init_176 (fun q403 H n404 hH => ?_)
  obtain ⟨f405, ef405⟩ : ∃ z : gF, z = va_up f401 q403 (.inl (E.2.2 1, 42, .inl (fun _ => 0))) := ⟨_, rfl⟩
  obtain ⟨L406, eL406⟩ : ∃ z : List Nat, z = L381 ++ [q403] := ⟨_, rfl⟩
  have hH := g_re ef405 eL406 hH
  have sb407 : ∀ b ∈ L381, b ∈ L406 := fun b h => by rw [eL406]; exact List.mem_append_left _ h
  have h408 : q403 ∈ L406 := by rw [eL406]; exact List.mem_append_right _ List.mem_cons_self
  have h409 : f405 q403 = .inl (E.2.2 1, 42, .inl (fun _ => 0)) := (congrFun ef405 q403).trans (va_up_self _ _ _)
  have h410 : f405 q = .inr (10, [.int (0 : Int32), .ref q1, .ref q12, .ref q25, .ref q36, .ref q47, .int (0 : Int32), .int (0 : Int32), .int (0 : Int32), .int (0 : Int32), .int (0 : Int32), .long (0 : Int64), .int (0 : Int32), .int (0 : Int32), .int (0 : Int32), .int (-1 : Int32), .ref q60, .ref q71, .ref q82, .ref q93, .ref q104, .ref q115, .int (0 : Int32), .int (0 : Int32), .int (0 : Int32), .ref q126, .ref q154, .ref q165, .ref q178, .ref q207, .ref q218, .ref q229, .ref q242, .ref q357, .ref q378, .null, .int (0 : Int32), .int (0 : Int32), .null, .int (0 : Int32), .int (0 : Int32), .null, .null, .int (0 : Int32), .int (0 : Int32), .int (0 : Int32), .int (0 : Int32), .int (0 : Int32)]) := ((congrFun ef405 q).trans (va_up_ne _ _ (g_neL h400 n404))).trans h402
  have h411 : q ∈ L406 := sb407 _ h400
  refine g_putF C hH h411 h410 iX10 tyX10 tyX10_ok nmX10 rfl 35 (by decide) wd377 rfl rfl hnm rfl rfl rfl (Nat.le_of_ble_eq_true rfl) (fs' := [.int (0 : Int32), .ref q1, .ref q12, .ref q25, .ref q36, .ref q47, .int (0 : Int32), .int (0 : Int32), .int (0 : Int32), .int (0 : Int32), .int (0 : Int32), .long (0 : Int64), .int (0 : Int32), .int (0 : Int32), .int (0 : Int32), .int (-1 : Int32), .ref q60, .ref q71, .ref q82, .ref q93, .ref q104, .ref q115, .int (0 : Int32), .int (0 : Int32), .int (0 : Int32), .ref q126, .ref q154, .ref q165, .ref q178, .ref q207, .ref q218, .ref q229, .ref q242, .ref q357, .ref q378, .ref q403, .int (0 : Int32), .int (0 : Int32), .null, .int (0 : Int32), .int (0 : Int32), .null, .null, .int (0 : Int32), .int (0 : Int32), .int (0 : Int32), .int (0 : Int32), .int (0 : Int32)]) rfl dX10_init_178 (fun H locs hH => ?_)
  obtain ⟨f412, ef412⟩ : ∃ z : gF, z = va_up f405 q (.inr (10, [.int (0 : Int32), .ref q1, .ref q12, .ref q25, .ref q36, .ref q47, .int (0 : Int32), .int (0 : Int32), .int (0 : Int32), .int (0 : Int32), .int (0 : Int32), .long (0 : Int64), .int (0 : Int32), .int (0 : Int32), .int (0 : Int32), .int (-1 : Int32), .ref q60, .ref q71, .ref q82, .ref q93, .ref q104, .ref q115, .int (0 : Int32), .int (0 : Int32), .int (0 : Int32), .ref q126, .ref q154, .ref q165, .ref q178, .ref q207, .ref q218, .ref q229, .ref q242, .ref q357, .ref q378, .ref q403, .int (0 : Int32), .int (0 : Int32), .null, .int (0 : Int32), .int (0 : Int32), .null, .null, .int (0 : Int32), .int (0 : Int32), .int (0 : Int32), .int (0 : Int32), .int (0 : Int32)])) := ⟨_, rfl⟩
  have hH : gH E A L406 f412 s.heap H locs := by rw [ef412]; exact hH
  have h413 : f412 q = .inr (10, [.int (0 : Int32), .ref q1, .ref q12, .ref q25, .ref q36, .ref q47, .int (0 : Int32), .int (0 : Int32), .int (0 : Int32), .int (0 : Int32), .int (0 : Int32), .long (0 : Int64), .int (0 : Int32), .int (0 : Int32), .int (0 : Int32), .int (-1 : Int32), .ref q60, .ref q71, .ref q82, .ref q93, .ref q104, .ref q115, .int (0 : Int32), .int (0 : Int32), .int (0 : Int32), .ref q126, .ref q154, .ref q165, .ref q178, .ref q207, .ref q218, .ref q229, .ref q242, .ref q357, .ref q378, .ref q403, .int (0 : Int32), .int (0 : Int32), .null, .int (0 : Int32), .int (0 : Int32), .null, .null, .int (0 : Int32), .int (0 : Int32), .int (0 : Int32), .int (0 : Int32), .int (0 : Int32)]) := (congrFun ef412 q).trans (va_up_self _ _ _)
  refine lv_aload_n hx hb dX10_init_181 rfl (lv_at hl 0 rfl) ?_
  refine lv_bipush (v := (6 : Int32)) hx hb dX10_init_182 (by decide) ?_
  refine g_newa C hH hA 1 rfl (fun _ _ h => h) wd156 rfl (N' := 6) (a0 := (6, (.inl (fun _ => 0)))) (avI 6) (by decide) (by decide) (Nat.le_of_ble_eq_true rfl) (Nat.le_of_ble_eq_true rfl) (Nat.le_of_ble_eq_true rfl) dX10_init_184 (fun q414 H n415 hH => ?_)
  obtain ⟨f416, ef416⟩ : ∃ z : gF, z = va_up f412 q414 (.inl (E.2.2 1, 6, .inl (fun _ => 0))) := ⟨_, rfl⟩
  obtain ⟨L417, eL417⟩ : ∃ z : List Nat, z = L406 ++ [q414] := ⟨_, rfl⟩
  have hH := g_re ef416 eL417 hH
  have sb418 : ∀ b ∈ L406, b ∈ L417 := fun b h => by rw [eL417]; exact List.mem_append_left _ h
  have h419 : q414 ∈ L417 := by rw [eL417]; exact List.mem_append_right _ List.mem_cons_self
  have h420 : f416 q414 = .inl (E.2.2 1, 6, .inl (fun _ => 0)) := (congrFun ef416 q414).trans (va_up_self _ _ _)
  have h421 : f416 q = .inr (10, [.int (0 : Int32), .ref q1, .ref q12, .ref q25, .ref q36, .ref q47, .int (0 : Int32), .int (0 : Int32), .int (0 : Int32), .int (0 : Int32), .int (0 : Int32), .long (0 : Int64), .int (0 : Int32), .int (0 : Int32), .int (0 : Int32), .int (-1 : Int32), .ref q60, .ref q71, .ref q82, .ref q93, .ref q104, .ref q115, .int (0 : Int32), .int (0 : Int32), .int (0 : Int32), .ref q126, .ref q154, .ref q165, .ref q178, .ref q207, .ref q218, .ref q229, .ref q242, .ref q357, .ref q378, .ref q403, .int (0 : Int32), .int (0 : Int32), .null, .int (0 : Int32), .int (0 : Int32), .null, .null, .int (0 : Int32), .int (0 : Int32), .int (0 : Int32), .int (0 : Int32), .int (0 : Int32)]) := ((congrFun ef416 q).trans (va_up_ne _ _ (g_neL h411 n415))).trans h413
  have h422 : q ∈ L417 := sb418 _ h411
  refine g_putF C hH h422 h421 iX10 tyX10 tyX10_ok nmX10 rfl 38 (by decide) wd378 rfl rfl hnm rfl rfl rfl (Nat.le_of_ble_eq_true rfl) (fs' := [.int (0 : Int32), .ref q1, .ref q12, .ref q25, .ref q36, .ref q47, .int (0 : Int32), .int (0 : Int32), .int (0 : Int32), .int (0 : Int32), .int (0 : Int32), .long (0 : Int64), .int (0 : Int32), .int (0 : Int32), .int (0 : Int32), .int (-1 : Int32), .ref q60, .ref q71, .ref q82, .ref q93, .ref q104, .ref q115, .int (0 : Int32), .int (0 : Int32), .int (0 : Int32), .ref q126, .ref q154, .ref q165, .ref q178, .ref q207, .ref q218, .ref q229, .ref q242, .ref q357, .ref q378, .ref q403, .int (0 : Int32), .int (0 : Int32), .ref q414, .int (0 : Int32), .int (0 : Int32), .null, .null, .int (0 : Int32), .int (0 : Int32), .int (0 : Int32), .int (0 : Int32), .int (0 : Int32)]) rfl dX10_init_186 (fun H locs hH => ?_)
  obtain ⟨f423, ef423⟩ : ∃ z : gF, z = va_up f416 q (.inr (10, [.int (0 : Int32), .ref q1, .ref q12, .ref q25, .ref q36, .ref q47, .int (0 : Int32), .int (0 : Int32), .int (0 : Int32), .int (0 : Int32), .int (0 : Int32), .long (0 : Int64), .int (0 : Int32), .int (0 : Int32), .int (0 : Int32), .int (-1 : Int32), .ref q60, .ref q71, .ref q82, .ref q93, .ref q104, .ref q115, .int (0 : Int32), .int (0 : Int32), .int (0 : Int32), .ref q126, .ref q154, .ref q165, .ref q178, .ref q207, .ref q218, .ref q229, .ref q242, .ref q357, .ref q378, .ref q403, .int (0 : Int32), .int (0 : Int32), .ref q414, .int (0 : Int32), .int (0 : Int32), .null, .null, .int (0 : Int32), .int (0 : Int32), .int (0 : Int32), .int (0 : Int32), .int (0 : Int32)])) := ⟨_, rfl⟩
  have hH : gH E A L417 f423 s.heap H locs := by rw [ef423]; exact hH
  have h424 : f423 q = .inr (10, [.int (0 : Int32), .ref q1, .ref q12, .ref q25, .ref q36, .ref q47, .int (0 : Int32), .int (0 : Int32), .int (0 : Int32), .int (0 : Int32), .int (0 : Int32), .long (0 : Int64), .int (0 : Int32), .int (0 : Int32), .int (0 : Int32), .int (-1 : Int32), .ref q60, .ref q71, .ref q82, .ref q93, .ref q104, .ref q115, .int (0 : Int32), .int (0 : Int32), .int (0 : Int32), .ref q126, .ref q154, .ref q165, .ref q178, .ref q207, .ref q218, .ref q229, .ref q242, .ref q357, .ref q378, .ref q403, .int (0 : Int32), .int (0 : Int32), .ref q414, .int (0 : Int32), .int (0 : Int32), .null, .null, .int (0 : Int32), .int (0 : Int32), .int (0 : Int32), .int (0 : Int32), .int (0 : Int32)]) := (congrFun ef423 q).trans (va_up_self _ _ _)
  refine lv_aload_n hx hb dX10_init_189 rfl (lv_at hl 0 rfl) ?_
  refine lv_bipush (v := (6 : Int32)) hx hb dX10_init_190 (by decide) ?_
  refine g_newa C hH hA 1 rfl (fun _ _ h => h) wd156 rfl (N' := 6) (a0 := (6, (.inl (fun _ => 0)))) (avI 6) (by decide) (by decide) (Nat.le_of_ble_eq_true rfl) (Nat.le_of_ble_eq_true rfl) (Nat.le_of_ble_eq_true rfl) dX10_init_192 (fun q425 H n426 hH => ?_)
  obtain ⟨f427, ef427⟩ : ∃ z : gF, z = va_up f423 q425 (.inl (E.2.2 1, 6, .inl (fun _ => 0))) := ⟨_, rfl⟩
  obtain ⟨L428, eL428⟩ : ∃ z : List Nat, z = L417 ++ [q425] := ⟨_, rfl⟩
  have hH := g_re ef427 eL428 hH
  have sb429 : ∀ b ∈ L417, b ∈ L428 := fun b h => by rw [eL428]; exact List.mem_append_left _ h
  have h430 : f423 q414 = .inl (E.2.2 1, 6, .inl (fun _ => 0)) := ((congrFun ef423 q414).trans (va_up_ne _ _ (g_neAO h420 h421))).trans h420
  have h431 : q414 ≠ q425 := g_neL h419 n426
  have h432 : q425 ∈ L428 := by rw [eL428]; exact List.mem_append_right _ List.mem_cons_self
  have h433 : f427 q425 = .inl (E.2.2 1, 6, .inl (fun _ => 0)) := (congrFun ef427 q425).trans (va_up_self _ _ _)
  have h434 : f427 q = .inr (10, [.int (0 : Int32), .ref q1, .ref q12, .ref q25, .ref q36, .ref q47, .int (0 : Int32), .int (0 : Int32), .int (0 : Int32), .int (0 : Int32), .int (0 : Int32), .long (0 : Int64), .int (0 : Int32), .int (0 : Int32), .int (0 : Int32), .int (-1 : Int32), .ref q60, .ref q71, .ref q82, .ref q93, .ref q104, .ref q115, .int (0 : Int32), .int (0 : Int32), .int (0 : Int32), .ref q126, .ref q154, .ref q165, .ref q178, .ref q207, .ref q218, .ref q229, .ref q242, .ref q357, .ref q378, .ref q403, .int (0 : Int32), .int (0 : Int32), .ref q414, .int (0 : Int32), .int (0 : Int32), .null, .null, .int (0 : Int32), .int (0 : Int32), .int (0 : Int32), .int (0 : Int32), .int (0 : Int32)]) := ((congrFun ef427 q).trans (va_up_ne _ _ (g_neL h422 n426))).trans h424
  have h435 : q ∈ L428 := sb429 _ h422
  refine g_putF C hH h435 h434 iX10 tyX10 tyX10_ok nmX10 rfl 41 (by decide) wd379 rfl rfl hnm rfl rfl rfl (Nat.le_of_ble_eq_true rfl) (fs' := [.int (0 : Int32), .ref q1, .ref q12, .ref q25, .ref q36, .ref q47, .int (0 : Int32), .int (0 : Int32), .int (0 : Int32), .int (0 : Int32), .int (0 : Int32), .long (0 : Int64), .int (0 : Int32), .int (0 : Int32), .int (0 : Int32), .int (-1 : Int32), .ref q60, .ref q71, .ref q82, .ref q93, .ref q104, .ref q115, .int (0 : Int32), .int (0 : Int32), .int (0 : Int32), .ref q126, .ref q154, .ref q165, .ref q178, .ref q207, .ref q218, .ref q229, .ref q242, .ref q357, .ref q378, .ref q403, .int (0 : Int32), .int (0 : Int32), .ref q414, .int (0 : Int32), .int (0 : Int32), .ref q425, .null, .int (0 : Int32), .int (0 : Int32), .int (0 : Int32), .int (0 : Int32), .int (0 : Int32)]) rfl dX10_init_194 (fun H locs hH => ?_)
  obtain ⟨f436, ef436⟩ : ∃ z : gF, z = va_up f427 q (.inr (10, [.int (0 : Int32), .ref q1, .ref q12, .ref q25, .ref q36, .ref q47, .int (0 : Int32), .int (0 : Int32), .int (0 : Int32), .int (0 : Int32), .int (0 : Int32), .long (0 : Int64), .int (0 : Int32), .int (0 : Int32), .int (0 : Int32), .int (-1 : Int32), .ref q60, .ref q71, .ref q82, .ref q93, .ref q104, .ref q115, .int (0 : Int32), .int (0 : Int32), .int (0 : Int32), .ref q126, .ref q154, .ref q165, .ref q178, .ref q207, .ref q218, .ref q229, .ref q242, .ref q357, .ref q378, .ref q403, .int (0 : Int32), .int (0 : Int32), .ref q414, .int (0 : Int32), .int (0 : Int32), .ref q425, .null, .int (0 : Int32), .int (0 : Int32), .int (0 : Int32), .int (0 : Int32), .int (0 : Int32)])) := ⟨_, rfl⟩
  have hH : gH E A L428 f436 s.heap H locs := by rw [ef436]; exact hH
  have h437 : f436 q = .inr (10, [.int (0 : Int32), .ref q1, .ref q12, .ref q25, .ref q36, .ref q47, .int (0 : Int32), .int (0 : Int32), .int (0 : Int32), .int (0 : Int32), .int (0 : Int32), .long (0 : Int64), .int (0 : Int32), .int (0 : Int32), .int (0 : Int32), .int (-1 : Int32), .ref q60, .ref q71, .ref q82, .ref q93, .ref q104, .ref q115, .int (0 : Int32), .int (0 : Int32), .int (0 : Int32), .ref q126, .ref q154, .ref q165, .ref q178, .ref q207, .ref q218, .ref q229, .ref q242, .ref q357, .ref q378, .ref q403, .int (0 : Int32), .int (0 : Int32), .ref q414, .int (0 : Int32), .int (0 : Int32), .ref q425, .null, .int (0 : Int32), .int (0 : Int32), .int (0 : Int32), .int (0 : Int32), .int (0 : Int32)]) := (congrFun ef436 q).trans (va_up_self _ _ _)
  refine lv_aload_n hx hb dX10_init_197 rfl (lv_at hl 0 rfl) ?_
  refine lv_bipush (v := (6 : Int32)) hx hb dX10_init_198 (by decide) ?_
  refine g_newa C hH hA 1 rfl (fun _ _ h => h) wd156 rfl (N' := 6) (a0 := (6, (.inl (fun _ => 0)))) (avI 6) (by decide) (by decide) (Nat.le_of_ble_eq_true rfl) (Nat.le_of_ble_eq_true rfl) (Nat.le_of_ble_eq_true rfl) dX10_init_200 (fun q438 H n439 hH => ?_)
  obtain ⟨f440, ef440⟩ : ∃ z : gF, z = va_up f436 q438 (.inl (E.2.2 1, 6, .inl (fun _ => 0))) := ⟨_, rfl⟩
  obtain ⟨L441, eL441⟩ : ∃ z : List Nat, z = L428 ++ [q438] := ⟨_, rfl⟩
  have hH := g_re ef440 eL441 hH
  have sb442 : ∀ b ∈ L428, b ∈ L441 := fun b h => by rw [eL441]; exact List.mem_append_left _ h
  have h443 : f427 q414 = .inl (E.2.2 1, 6, .inl (fun _ => 0)) := ((congrFun ef427 q414).trans (va_up_ne _ _ (g_neL h419 n426))).trans h430
  have h444 : q414 ∈ L428 := sb429 _ h419
  have h445 : f436 q414 = .inl (E.2.2 1, 6, .inl (fun _ => 0)) := ((congrFun ef436 q414).trans (va_up_ne _ _ (g_neAO h443 h434))).trans h443
  have h446 : q414 ≠ q438 := g_neL h444 n439
  have h447 : f436 q425 = .inl (E.2.2 1, 6, .inl (fun _ => 0)) := ((congrFun ef436 q425).trans (va_up_ne _ _ (g_neAO h433 h434))).trans h433
  have h448 : q425 ≠ q438 := g_neL h432 n439
  have h449 : q438 ∈ L441 := by rw [eL441]; exact List.mem_append_right _ List.mem_cons_self
  have h450 : f440 q438 = .inl (E.2.2 1, 6, .inl (fun _ => 0)) := (congrFun ef440 q438).trans (va_up_self _ _ _)
  have h451 : f440 q = .inr (10, [.int (0 : Int32), .ref q1, .ref q12, .ref q25, .ref q36, .ref q47, .int (0 : Int32), .int (0 : Int32), .int (0 : Int32), .int (0 : Int32), .int (0 : Int32), .long (0 : Int64), .int (0 : Int32), .int (0 : Int32), .int (0 : Int32), .int (-1 : Int32), .ref q60, .ref q71, .ref q82, .ref q93, .ref q104, .ref q115, .int (0 : Int32), .int (0 : Int32), .int (0 : Int32), .ref q126, .ref q154, .ref q165, .ref q178, .ref q207, .ref q218, .ref q229, .ref q242, .ref q357, .ref q378, .ref q403, .int (0 : Int32), .int (0 : Int32), .ref q414, .int (0 : Int32), .int (0 : Int32), .ref q425, .null, .int (0 : Int32), .int (0 : Int32), .int (0 : Int32), .int (0 : Int32), .int (0 : Int32)]) := ((congrFun ef440 q).trans (va_up_ne _ _ (g_neL h435 n439))).trans h437
  have h452 : q ∈ L441 := sb442 _ h435
  refine g_putF C hH h452 h451 iX10 tyX10 tyX10_ok nmX10 rfl 42 (by decide) wd380 rfl rfl hnm rfl rfl rfl (Nat.le_of_ble_eq_true rfl) (fs' := [.int (0 : Int32), .ref q1, .ref q12, .ref q25, .ref q36, .ref q47, .int (0 : Int32), .int (0 : Int32), .int (0 : Int32), .int (0 : Int32), .int (0 : Int32), .long (0 : Int64), .int (0 : Int32), .int (0 : Int32), .int (0 : Int32), .int (-1 : Int32), .ref q60, .ref q71, .ref q82, .ref q93, .ref q104, .ref q115, .int (0 : Int32), .int (0 : Int32), .int (0 : Int32), .ref q126, .ref q154, .ref q165, .ref q178, .ref q207, .ref q218, .ref q229, .ref q242, .ref q357, .ref q378, .ref q403, .int (0 : Int32), .int (0 : Int32), .ref q414, .int (0 : Int32), .int (0 : Int32), .ref q425, .ref q438, .int (0 : Int32), .int (0 : Int32), .int (0 : Int32), .int (0 : Int32), .int (0 : Int32)]) rfl dX10_init_202 (fun H locs hH => ?_)
  obtain ⟨f453, ef453⟩ : ∃ z : gF, z = va_up f440 q (.inr (10, [.int (0 : Int32), .ref q1, .ref q12, .ref q25, .ref q36, .ref q47, .int (0 : Int32), .int (0 : Int32), .int (0 : Int32), .int (0 : Int32), .int (0 : Int32), .long (0 : Int64), .int (0 : Int32), .int (0 : Int32), .int (0 : Int32), .int (-1 : Int32), .ref q60, .ref q71, .ref q82, .ref q93, .ref q104, .ref q115, .int (0 : Int32), .int (0 : Int32), .int (0 : Int32), .ref q126, .ref q154, .ref q165, .ref q178, .ref q207, .ref q218, .ref q229, .ref q242, .ref q357, .ref q378, .ref q403, .int (0 : Int32), .int (0 : Int32), .ref q414, .int (0 : Int32), .int (0 : Int32), .ref q425, .ref q438, .int (0 : Int32), .int (0 : Int32), .int (0 : Int32), .int (0 : Int32), .int (0 : Int32)])) := ⟨_, rfl⟩
  have hH : gH E A L441 f453 s.heap H locs := by rw [ef453]; exact hH
  have h454 : f453 q = .inr (10, [.int (0 : Int32), .ref q1, .ref q12, .ref q25, .ref q36, .ref q47, .int (0 : Int32), .int (0 : Int32), .int (0 : Int32), .int (0 : Int32), .int (0 : Int32), .long (0 : Int64), .int (0 : Int32), .int (0 : Int32), .int (0 : Int32), .int (-1 : Int32), .ref q60, .ref q71, .ref q82, .ref q93, .ref q104, .ref q115, .int (0 : Int32), .int (0 : Int32), .int (0 : Int32), .ref q126, .ref q154, .ref q165, .ref q178, .ref q207, .ref q218, .ref q229, .ref q242, .ref q357, .ref q378, .ref q403, .int (0 : Int32), .int (0 : Int32), .ref q414, .int (0 : Int32), .int (0 : Int32), .ref q425, .ref q438, .int (0 : Int32), .int (0 : Int32), .int (0 : Int32), .int (0 : Int32), .int (0 : Int32)]) := (congrFun ef453 q).trans (va_up_self _ _ _)
  refine lv_iconst (v := (0 : Int32)) hx hb dX10_init_205 (by decide) ?_
  refine lv_istore_n (lv' := [(1, .int (0 : Int32)), (0, .ref q)]) hx hb dX10_init_206 rfl hl (by decide) rfl (fun ls hl => ?_)
  refine lv_iload_n hx hb dX10_init_207 rfl (lv_at hl 0 rfl) ?_
  refine lv_iconst (v := (4 : Int32)) hx hb dX10_init_208 (by decide) ?_
  refine lv_icmp_ge (tgt := 225) hx hb dX10_init_209 (by decide) (fun h => absurd h (by decide)) (fun _ => ?_)
  refine lv_aload_n hx hb dX10_init_212 rfl (lv_at hl 1 rfl) ?_
  refine g_get C hH h452 h454 iX10 rfl 1 (by decide) wd315 rfl rfl dX10_init_213 ?_
  refine lv_iload_n hx hb dX10_init_216 rfl (lv_at hl 0 rfl) ?_
  refine lv_iconst (v := (-1 : Int32)) hx hb dX10_init_217 (by decide) ?_
  have h455 : f380 q1 = .inl (E.2.2 1, 4, .inl (fun _ => 0)) := ((congrFun ef380 q1).trans (va_up_ne _ _ (g_neL h384 n379))).trans h385
  have h456 : q1 ∈ L381 := sb382 _ h384
  have h457 : f401 q1 = .inl (E.2.2 1, 4, .inl (fun _ => 0)) := ((congrFun ef401 q1).trans (va_up_ne _ _ (g_neAO h455 h399))).trans h455
  have h458 : f405 q1 = .inl (E.2.2 1, 4, .inl (fun _ => 0)) := ((congrFun ef405 q1).trans (va_up_ne _ _ (g_neL h456 n404))).trans h457
  have h459 : q1 ∈ L406 := sb407 _ h456
  have h460 : f412 q1 = .inl (E.2.2 1, 4, .inl (fun _ => 0)) := ((congrFun ef412 q1).trans (va_up_ne _ _ (g_neAO h458 h410))).trans h458
  have h461 : f416 q1 = .inl (E.2.2 1, 4, .inl (fun _ => 0)) := ((congrFun ef416 q1).trans (va_up_ne _ _ (g_neL h459 n415))).trans h460
  have h462 : q1 ∈ L417 := sb418 _ h459
  have h463 : f423 q1 = .inl (E.2.2 1, 4, .inl (fun _ => 0)) := ((congrFun ef423 q1).trans (va_up_ne _ _ (g_neAO h461 h421))).trans h461
  have h464 : f427 q1 = .inl (E.2.2 1, 4, .inl (fun _ => 0)) := ((congrFun ef427 q1).trans (va_up_ne _ _ (g_neL h462 n426))).trans h463
  have h465 : q1 ∈ L428 := sb429 _ h462
  have h466 : f436 q1 = .inl (E.2.2 1, 4, .inl (fun _ => 0)) := ((congrFun ef436 q1).trans (va_up_ne _ _ (g_neAO h464 h434))).trans h464
  have h467 : f440 q1 = .inl (E.2.2 1, 4, .inl (fun _ => 0)) := ((congrFun ef440 q1).trans (va_up_ne _ _ (g_neL h465 n439))).trans h466
  have h468 : q1 ∈ L441 := sb442 _ h465
  have h469 : f453 q1 = .inl (E.2.2 1, 4, .inl (fun _ => 0)) := ((congrFun ef453 q1).trans (va_up_ne _ _ (g_neAO h467 h451))).trans h467
  refine g_iast C hH h468 h469 (vp_inL (by decide)) dX10_init_218 (fun H locs hH => ?_)
  obtain ⟨f470, ef470⟩ : ∃ z : gF, z = va_up f453 q1 (.inl (E.2.2 1, 4, .inl (upd (fun _ => 0) ((0 : Int32)).toNatClampNeg ((-1 : Int32))))) := ⟨_, rfl⟩
  have hH : gH E A L441 f470 s.heap H locs := by rw [ef470]; exact hH
  have h471 : f470 q1 = .inl (E.2.2 1, 4, .inl (upd (fun _ => 0) ((0 : Int32)).toNatClampNeg ((-1 : Int32)))) := (congrFun ef470 q1).trans (va_up_self _ _ _)
  refine lv_iinc (v := (1 : Int32)) (lv' := [(1, .int (1 : Int32)), (0, .ref q)]) hx hb dX10_init_219 hl (k := 0) rfl (by decide) (by decide) rfl (fun ls hl => ?_)
  refine lv_goto (tgt := 207) hx hb dX10_init_222 (by decide) ?_
  refine lv_iload_n hx hb dX10_init_207 rfl (lv_at hl 0 rfl) ?_
  refine lv_iconst (v := (4 : Int32)) hx hb dX10_init_208 (by decide) ?_
  refine lv_icmp_ge (tgt := 225) hx hb dX10_init_209 (by decide) (fun h => absurd h (by decide)) (fun _ => ?_)
  refine lv_aload_n hx hb dX10_init_212 rfl (lv_at hl 1 rfl) ?_
  have h472 : f470 q = .inr (10, [.int (0 : Int32), .ref q1, .ref q12, .ref q25, .ref q36, .ref q47, .int (0 : Int32), .int (0 : Int32), .int (0 : Int32), .int (0 : Int32), .int (0 : Int32), .long (0 : Int64), .int (0 : Int32), .int (0 : Int32), .int (0 : Int32), .int (-1 : Int32), .ref q60, .ref q71, .ref q82, .ref q93, .ref q104, .ref q115, .int (0 : Int32), .int (0 : Int32), .int (0 : Int32), .ref q126, .ref q154, .ref q165, .ref q178, .ref q207, .ref q218, .ref q229, .ref q242, .ref q357, .ref q378, .ref q403, .int (0 : Int32), .int (0 : Int32), .ref q414, .int (0 : Int32), .int (0 : Int32), .ref q425, .ref q438, .int (0 : Int32), .int (0 : Int32), .int (0 : Int32), .int (0 : Int32), .int (0 : Int32)]) := ((congrFun ef470 q).trans (va_up_ne _ _ (g_neOA h454 h469))).trans h454
  refine g_get C hH h452 h472 iX10 rfl 1 (by decide) wd315 rfl rfl dX10_init_213 ?_
  refine lv_iload_n hx hb dX10_init_216 rfl (lv_at hl 0 rfl) ?_
  refine lv_iconst (v := (-1 : Int32)) hx hb dX10_init_217 (by decide) ?_
  refine g_iast C hH h468 h471 (vp_inL (by decide)) dX10_init_218 (fun H locs hH => ?_)
  obtain ⟨f473, ef473⟩ : ∃ z : gF, z = va_up f470 q1 (.inl (E.2.2 1, 4, .inl (upd (upd (fun _ => 0) ((0 : Int32)).toNatClampNeg ((-1 : Int32))) ((1 : Int32)).toNatClampNeg ((-1 : Int32))))) := ⟨_, rfl⟩
  have hH : gH E A L441 f473 s.heap H locs := by rw [ef473]; exact hH
  have h474 : f473 q1 = .inl (E.2.2 1, 4, .inl (upd (upd (fun _ => 0) ((0 : Int32)).toNatClampNeg ((-1 : Int32))) ((1 : Int32)).toNatClampNeg ((-1 : Int32)))) := (congrFun ef473 q1).trans (va_up_self _ _ _)
  refine lv_iinc (v := (2 : Int32)) (lv' := [(1, .int (2 : Int32)), (0, .ref q)]) hx hb dX10_init_219 hl (k := 0) rfl (by decide) (by decide) rfl (fun ls hl => ?_)
  refine lv_goto (tgt := 207) hx hb dX10_init_222 (by decide) ?_
  refine lv_iload_n hx hb dX10_init_207 rfl (lv_at hl 0 rfl) ?_
  refine lv_iconst (v := (4 : Int32)) hx hb dX10_init_208 (by decide) ?_
  refine lv_icmp_ge (tgt := 225) hx hb dX10_init_209 (by decide) (fun h => absurd h (by decide)) (fun _ => ?_)
  refine lv_aload_n hx hb dX10_init_212 rfl (lv_at hl 1 rfl) ?_
  have h475 : f473 q = .inr (10, [.int (0 : Int32), .ref q1, .ref q12, .ref q25, .ref q36, .ref q47, .int (0 : Int32), .int (0 : Int32), .int (0 : Int32), .int (0 : Int32), .int (0 : Int32), .long (0 : Int64), .int (0 : Int32), .int (0 : Int32), .int (0 : Int32), .int (-1 : Int32), .ref q60, .ref q71, .ref q82, .ref q93, .ref q104, .ref q115, .int (0 : Int32), .int (0 : Int32), .int (0 : Int32), .ref q126, .ref q154, .ref q165, .ref q178, .ref q207, .ref q218, .ref q229, .ref q242, .ref q357, .ref q378, .ref q403, .int (0 : Int32), .int (0 : Int32), .ref q414, .int (0 : Int32), .int (0 : Int32), .ref q425, .ref q438, .int (0 : Int32), .int (0 : Int32), .int (0 : Int32), .int (0 : Int32), .int (0 : Int32)]) := ((congrFun ef473 q).trans (va_up_ne _ _ (g_neOA h472 h471))).trans h472
  refine g_get C hH h452 h475 iX10 rfl 1 (by decide) wd315 rfl rfl dX10_init_213 ?_
  refine lv_iload_n hx hb dX10_init_216 rfl (lv_at hl 0 rfl) ?_
  refine lv_iconst (v := (-1 : Int32)) hx hb dX10_init_217 (by decide) ?_
  refine g_iast C hH h468 h474 (vp_inL (by decide)) dX10_init_218 (fun H locs hH => ?_)
  obtain ⟨f476, ef476⟩ : ∃ z : gF, z = va_up f473 q1 (.inl (E.2.2 1, 4, .inl (upd (upd (upd (fun _ => 0) ((0 : Int32)).toNatClampNeg ((-1 : Int32))) ((1 : Int32)).toNatClampNeg ((-1 : Int32))) ((2 : Int32)).toNatClampNeg ((-1 : Int32))))) := ⟨_, rfl⟩
  have hH : gH E A L441 f476 s.heap H locs := by rw [ef476]; exact hH
  have h477 : f476 q1 = .inl (E.2.2 1, 4, .inl (upd (upd (upd (fun _ => 0) ((0 : Int32)).toNatClampNeg ((-1 : Int32))) ((1 : Int32)).toNatClampNeg ((-1 : Int32))) ((2 : Int32)).toNatClampNeg ((-1 : Int32)))) := (congrFun ef476 q1).trans (va_up_self _ _ _)
  refine lv_iinc (v := (3 : Int32)) (lv' := [(1, .int (3 : Int32)), (0, .ref q)]) hx hb dX10_init_219 hl (k := 0) rfl (by decide) (by decide) rfl (fun ls hl => ?_)
  refine lv_goto (tgt := 207) hx hb dX10_init_222 (by decide) ?_
  refine lv_iload_n hx hb dX10_init_207 rfl (lv_at hl 0 rfl) ?_
  refine lv_iconst (v := (4 : Int32)) hx hb dX10_init_208 (by decide) ?_
  refine lv_icmp_ge (tgt := 225) hx hb dX10_init_209 (by decide) (fun h => absurd h (by decide)) (fun _ => ?_)
  refine lv_aload_n hx hb dX10_init_212 rfl (lv_at hl 1 rfl) ?_
  have h478 : f476 q = .inr (10, [.int (0 : Int32), .ref q1, .ref q12, .ref q25, .ref q36, .ref q47, .int (0 : Int32), .int (0 : Int32), .int (0 : Int32), .int (0 : Int32), .int (0 : Int32), .long (0 : Int64), .int (0 : Int32), .int (0 : Int32), .int (0 : Int32), .int (-1 : Int32), .ref q60, .ref q71, .ref q82, .ref q93, .ref q104, .ref q115, .int (0 : Int32), .int (0 : Int32), .int (0 : Int32), .ref q126, .ref q154, .ref q165, .ref q178, .ref q207, .ref q218, .ref q229, .ref q242, .ref q357, .ref q378, .ref q403, .int (0 : Int32), .int (0 : Int32), .ref q414, .int (0 : Int32), .int (0 : Int32), .ref q425, .ref q438, .int (0 : Int32), .int (0 : Int32), .int (0 : Int32), .int (0 : Int32), .int (0 : Int32)]) := ((congrFun ef476 q).trans (va_up_ne _ _ (g_neOA h475 h474))).trans h475
  refine g_get C hH h452 h478 iX10 rfl 1 (by decide) wd315 rfl rfl dX10_init_213 ?_
  refine lv_iload_n hx hb dX10_init_216 rfl (lv_at hl 0 rfl) ?_
  refine lv_iconst (v := (-1 : Int32)) hx hb dX10_init_217 (by decide) ?_
  refine g_iast C hH h468 h477 (vp_inL (by decide)) dX10_init_218 (fun H locs hH => ?_)
  obtain ⟨f479, ef479⟩ : ∃ z : gF, z = va_up f476 q1 (.inl (E.2.2 1, 4, .inl (upd (upd (upd (upd (fun _ => 0) ((0 : Int32)).toNatClampNeg ((-1 : Int32))) ((1 : Int32)).toNatClampNeg ((-1 : Int32))) ((2 : Int32)).toNatClampNeg ((-1 : Int32))) ((3 : Int32)).toNatClampNeg ((-1 : Int32))))) := ⟨_, rfl⟩
  have hH : gH E A L441 f479 s.heap H locs := by rw [ef479]; exact hH
  have h480 : f479 q1 = .inl (E.2.2 1, 4, .inl (upd (upd (upd (upd (fun _ => 0) ((0 : Int32)).toNatClampNeg ((-1 : Int32))) ((1 : Int32)).toNatClampNeg ((-1 : Int32))) ((2 : Int32)).toNatClampNeg ((-1 : Int32))) ((3 : Int32)).toNatClampNeg ((-1 : Int32)))) := (congrFun ef479 q1).trans (va_up_self _ _ _)
  refine lv_iinc (v := (4 : Int32)) (lv' := [(1, .int (4 : Int32)), (0, .ref q)]) hx hb dX10_init_219 hl (k := 0) rfl (by decide) (by decide) rfl (fun ls hl => ?_)
  refine lv_goto (tgt := 207) hx hb dX10_init_222 (by decide) ?_
  refine lv_iload_n hx hb dX10_init_207 rfl (lv_at hl 0 rfl) ?_
  refine lv_iconst (v := (4 : Int32)) hx hb dX10_init_208 (by decide) ?_
  refine lv_icmp_ge (tgt := 225) hx hb dX10_init_209 (by decide) (fun _ => ?_) (fun h => absurd (by decide) h)
  refine g_vret C hr hH (Nat.le_of_ble_eq_true rfl) (Nat.le_of_ble_eq_true rfl) dX10_init_225 ?_
  have h481 : f479 q = .inr (10, [.int (0 : Int32), .ref q1, .ref q12, .ref q25, .ref q36, .ref q47, .int (0 : Int32), .int (0 : Int32), .int (0 : Int32), .int (0 : Int32), .int (0 : Int32), .long (0 : Int64), .int (0 : Int32), .int (0 : Int32), .int (0 : Int32), .int (-1 : Int32), .ref q60, .ref q71, .ref q82, .ref q93, .ref q104, .ref q115, .int (0 : Int32), .int (0 : Int32), .int (0 : Int32), .ref q126, .ref q154, .ref q165, .ref q178, .ref q207, .ref q218, .ref q229, .ref q242, .ref q357, .ref q378, .ref q403, .int (0 : Int32), .int (0 : Int32), .ref q414, .int (0 : Int32), .int (0 : Int32), .ref q425, .ref q438, .int (0 : Int32), .int (0 : Int32), .int (0 : Int32), .int (0 : Int32), .int (0 : Int32)]) := ((congrFun ef479 q).trans (va_up_ne _ _ (g_neOA h478 h477))).trans h478
  have h482 : f380 q12 = .inl (E.2.2 1, 4, .inl (fun _ => 0)) := ((congrFun ef380 q12).trans (va_up_ne _ _ (g_neL h388 n379))).trans h389
  have h483 : q12 ∈ L381 := sb382 _ h388
  have h484 : f401 q12 = .inl (E.2.2 1, 4, .inl (fun _ => 0)) := ((congrFun ef401 q12).trans (va_up_ne _ _ (g_neAO h482 h399))).trans h482
  have h485 : f405 q12 = .inl (E.2.2 1, 4, .inl (fun _ => 0)) := ((congrFun ef405 q12).trans (va_up_ne _ _ (g_neL h483 n404))).trans h484
  have h486 : q12 ∈ L406 := sb407 _ h483
  have h487 : f412 q12 = .inl (E.2.2 1, 4, .inl (fun _ => 0)) := ((congrFun ef412 q12).trans (va_up_ne _ _ (g_neAO h485 h410))).trans h485
  have h488 : f416 q12 = .inl (E.2.2 1, 4, .inl (fun _ => 0)) := ((congrFun ef416 q12).trans (va_up_ne _ _ (g_neL h486 n415))).trans h487
  have h489 : q12 ∈ L417 := sb418 _ h486
  have h490 : f423 q12 = .inl (E.2.2 1, 4, .inl (fun _ => 0)) := ((congrFun ef423 q12).trans (va_up_ne _ _ (g_neAO h488 h421))).trans h488
  have h491 : f427 q12 = .inl (E.2.2 1, 4, .inl (fun _ => 0)) := ((congrFun ef427 q12).trans (va_up_ne _ _ (g_neL h489 n426))).trans h490
  have h492 : q12 ∈ L428 := sb429 _ h489
  have h493 : f436 q12 = .inl (E.2.2 1, 4, .inl (fun _ => 0)) := ((congrFun ef436 q12).trans (va_up_ne _ _ (g_neAO h491 h434))).trans h491
  have h494 : f440 q12 = .inl (E.2.2 1, 4, .inl (fun _ => 0)) := ((congrFun ef440 q12).trans (va_up_ne _ _ (g_neL h492 n439))).trans h493
  have h495 : q12 ∈ L441 := sb442 _ h492
  have h496 : f453 q12 = .inl (E.2.2 1, 4, .inl (fun _ => 0)) := ((congrFun ef453 q12).trans (va_up_ne _ _ (g_neAO h494 h451))).trans h494
  have h497 : f470 q12 = .inl (E.2.2 1, 4, .inl (fun _ => 0)) := ((congrFun ef470 q12).trans (va_up_ne _ _ (Ne.symm h18))).trans h496
  have h498 : f473 q12 = .inl (E.2.2 1, 4, .inl (fun _ => 0)) := ((congrFun ef473 q12).trans (va_up_ne _ _ (Ne.symm h18))).trans h497
  have h499 : f476 q12 = .inl (E.2.2 1, 4, .inl (fun _ => 0)) := ((congrFun ef476 q12).trans (va_up_ne _ _ (Ne.symm h18))).trans h498
  have h500 : f479 q12 = .inl (E.2.2 1, 4, .inl (fun _ => 0)) := ((congrFun ef479 q12).trans (va_up_ne _ _ (Ne.symm h18))).trans h499
  have h501 : f34 q25 = .inl (E.2.2 2, 240, .inr (.inl (fun _ => 0))) := ((congrFun ef34 q25).trans (va_up_ne _ _ (g_neAO h31 h32))).trans h31
  have h502 : f38 q25 = .inl (E.2.2 2, 240, .inr (.inl (fun _ => 0))) := ((congrFun ef38 q25).trans (va_up_ne _ _ (g_neL h30 n37))).trans h501
  have h503 : q25 ∈ L39 := sb40 _ h30
  have h504 : f45 q25 = .inl (E.2.2 2, 240, .inr (.inl (fun _ => 0))) := ((congrFun ef45 q25).trans (va_up_ne _ _ (g_neAO h502 h43))).trans h502
  have h505 : f49 q25 = .inl (E.2.2 2, 240, .inr (.inl (fun _ => 0))) := ((congrFun ef49 q25).trans (va_up_ne _ _ (g_neL h503 n48))).trans h504
  have h506 : q25 ∈ L50 := sb51 _ h503
  have h507 : f56 q25 = .inl (E.2.2 2, 240, .inr (.inl (fun _ => 0))) := ((congrFun ef56 q25).trans (va_up_ne _ _ (g_neAO h505 h54))).trans h505
  have h508 : f58 q25 = .inl (E.2.2 2, 240, .inr (.inl (fun _ => 0))) := ((congrFun ef58 q25).trans (va_up_ne _ _ (g_neAO h507 h57))).trans h507
  have h509 : f62 q25 = .inl (E.2.2 2, 240, .inr (.inl (fun _ => 0))) := ((congrFun ef62 q25).trans (va_up_ne _ _ (g_neL h506 n61))).trans h508
  have h510 : q25 ∈ L63 := sb64 _ h506
  have h511 : f69 q25 = .inl (E.2.2 2, 240, .inr (.inl (fun _ => 0))) := ((congrFun ef69 q25).trans (va_up_ne _ _ (g_neAO h509 h67))).trans h509
  have h512 : f73 q25 = .inl (E.2.2 2, 240, .inr (.inl (fun _ => 0))) := ((congrFun ef73 q25).trans (va_up_ne _ _ (g_neL h510 n72))).trans h511
  have h513 : q25 ∈ L74 := sb75 _ h510
  have h514 : f80 q25 = .inl (E.2.2 2, 240, .inr (.inl (fun _ => 0))) := ((congrFun ef80 q25).trans (va_up_ne _ _ (g_neAO h512 h78))).trans h512
  have h515 : f84 q25 = .inl (E.2.2 2, 240, .inr (.inl (fun _ => 0))) := ((congrFun ef84 q25).trans (va_up_ne _ _ (g_neL h513 n83))).trans h514
  have h516 : q25 ∈ L85 := sb86 _ h513
  have h517 : f91 q25 = .inl (E.2.2 2, 240, .inr (.inl (fun _ => 0))) := ((congrFun ef91 q25).trans (va_up_ne _ _ (g_neAO h515 h89))).trans h515
  have h518 : f95 q25 = .inl (E.2.2 2, 240, .inr (.inl (fun _ => 0))) := ((congrFun ef95 q25).trans (va_up_ne _ _ (g_neL h516 n94))).trans h517
  have h519 : q25 ∈ L96 := sb97 _ h516
  have h520 : f102 q25 = .inl (E.2.2 2, 240, .inr (.inl (fun _ => 0))) := ((congrFun ef102 q25).trans (va_up_ne _ _ (g_neAO h518 h100))).trans h518
  have h521 : f106 q25 = .inl (E.2.2 2, 240, .inr (.inl (fun _ => 0))) := ((congrFun ef106 q25).trans (va_up_ne _ _ (g_neL h519 n105))).trans h520
  have h522 : q25 ∈ L107 := sb108 _ h519
  have h523 : f113 q25 = .inl (E.2.2 2, 240, .inr (.inl (fun _ => 0))) := ((congrFun ef113 q25).trans (va_up_ne _ _ (g_neAO h521 h111))).trans h521
  have h524 : f117 q25 = .inl (E.2.2 2, 240, .inr (.inl (fun _ => 0))) := ((congrFun ef117 q25).trans (va_up_ne _ _ (g_neL h522 n116))).trans h523
  have h525 : q25 ∈ L118 := sb119 _ h522
  have h526 : f124 q25 = .inl (E.2.2 2, 240, .inr (.inl (fun _ => 0))) := ((congrFun ef124 q25).trans (va_up_ne _ _ (g_neAO h524 h122))).trans h524
  have h527 : f128 q25 = .inl (E.2.2 2, 240, .inr (.inl (fun _ => 0))) := ((congrFun ef128 q25).trans (va_up_ne _ _ (g_neL h525 n127))).trans h526
  have h528 : q25 ∈ L129 := sb130 _ h525
  have h529 : f152 q25 = .inl (E.2.2 2, 240, .inr (.inl (fun _ => 0))) := ((congrFun ef152 q25).trans (va_up_ne _ _ (g_neAO h527 h150))).trans h527
  have h530 : f156 q25 = .inl (E.2.2 2, 240, .inr (.inl (fun _ => 0))) := ((congrFun ef156 q25).trans (va_up_ne _ _ (g_neL h528 n155))).trans h529
  have h531 : q25 ∈ L157 := sb158 _ h528
  have h532 : f163 q25 = .inl (E.2.2 2, 240, .inr (.inl (fun _ => 0))) := ((congrFun ef163 q25).trans (va_up_ne _ _ (g_neAO h530 h161))).trans h530
  have h533 : f167 q25 = .inl (E.2.2 2, 240, .inr (.inl (fun _ => 0))) := ((congrFun ef167 q25).trans (va_up_ne _ _ (g_neL h531 n166))).trans h532
  have h534 : q25 ∈ L168 := sb169 _ h531
  have h535 : f176 q25 = .inl (E.2.2 2, 240, .inr (.inl (fun _ => 0))) := ((congrFun ef176 q25).trans (va_up_ne _ _ (g_neAO h533 h174))).trans h533
  have h536 : f180 q25 = .inl (E.2.2 2, 240, .inr (.inl (fun _ => 0))) := ((congrFun ef180 q25).trans (va_up_ne _ _ (g_neL h534 n179))).trans h535
  have h537 : q25 ∈ L181 := sb182 _ h534
  have h538 : f205 q25 = .inl (E.2.2 2, 240, .inr (.inl (fun _ => 0))) := ((congrFun ef205 q25).trans (va_up_ne _ _ (g_neAO h536 h203))).trans h536
  have h539 : f209 q25 = .inl (E.2.2 2, 240, .inr (.inl (fun _ => 0))) := ((congrFun ef209 q25).trans (va_up_ne _ _ (g_neL h537 n208))).trans h538
  have h540 : q25 ∈ L210 := sb211 _ h537
  have h541 : f216 q25 = .inl (E.2.2 2, 240, .inr (.inl (fun _ => 0))) := ((congrFun ef216 q25).trans (va_up_ne _ _ (g_neAO h539 h214))).trans h539
  have h542 : f220 q25 = .inl (E.2.2 2, 240, .inr (.inl (fun _ => 0))) := ((congrFun ef220 q25).trans (va_up_ne _ _ (g_neL h540 n219))).trans h541
  have h543 : q25 ∈ L221 := sb222 _ h540
  have h544 : f227 q25 = .inl (E.2.2 2, 240, .inr (.inl (fun _ => 0))) := ((congrFun ef227 q25).trans (va_up_ne _ _ (g_neAO h542 h225))).trans h542
  have h545 : f231 q25 = .inl (E.2.2 2, 240, .inr (.inl (fun _ => 0))) := ((congrFun ef231 q25).trans (va_up_ne _ _ (g_neL h543 n230))).trans h544
  have h546 : q25 ∈ L232 := sb233 _ h543
  have h547 : f240 q25 = .inl (E.2.2 2, 240, .inr (.inl (fun _ => 0))) := ((congrFun ef240 q25).trans (va_up_ne _ _ (g_neAO h545 h238))).trans h545
  have h548 : f244 q25 = .inl (E.2.2 2, 240, .inr (.inl (fun _ => 0))) := ((congrFun ef244 q25).trans (va_up_ne _ _ (g_neL h546 n243))).trans h547
  have h549 : q25 ∈ L245 := sb246 _ h546
  have h550 : f355 q25 = .inl (E.2.2 2, 240, .inr (.inl (fun _ => 0))) := ((congrFun ef355 q25).trans (va_up_ne _ _ (g_neAO h548 h353))).trans h548
  have h551 : f359 q25 = .inl (E.2.2 2, 240, .inr (.inl (fun _ => 0))) := ((congrFun ef359 q25).trans (va_up_ne _ _ (g_neL h549 n358))).trans h550
  have h552 : q25 ∈ L360 := sb361 _ h549
  have h553 : f376 q25 = .inl (E.2.2 2, 240, .inr (.inl (fun _ => 0))) := ((congrFun ef376 q25).trans (va_up_ne _ _ (g_neAO h551 h374))).trans h551
  have h554 : f380 q25 = .inl (E.2.2 2, 240, .inr (.inl (fun _ => 0))) := ((congrFun ef380 q25).trans (va_up_ne _ _ (g_neL h552 n379))).trans h553
  have h555 : q25 ∈ L381 := sb382 _ h552
  have h556 : f401 q25 = .inl (E.2.2 2, 240, .inr (.inl (fun _ => 0))) := ((congrFun ef401 q25).trans (va_up_ne _ _ (g_neAO h554 h399))).trans h554
  have h557 : f405 q25 = .inl (E.2.2 2, 240, .inr (.inl (fun _ => 0))) := ((congrFun ef405 q25).trans (va_up_ne _ _ (g_neL h555 n404))).trans h556
  have h558 : q25 ∈ L406 := sb407 _ h555
  have h559 : f412 q25 = .inl (E.2.2 2, 240, .inr (.inl (fun _ => 0))) := ((congrFun ef412 q25).trans (va_up_ne _ _ (g_neAO h557 h410))).trans h557
  have h560 : f416 q25 = .inl (E.2.2 2, 240, .inr (.inl (fun _ => 0))) := ((congrFun ef416 q25).trans (va_up_ne _ _ (g_neL h558 n415))).trans h559
  have h561 : q25 ∈ L417 := sb418 _ h558
  have h562 : f423 q25 = .inl (E.2.2 2, 240, .inr (.inl (fun _ => 0))) := ((congrFun ef423 q25).trans (va_up_ne _ _ (g_neAO h560 h421))).trans h560
  have h563 : f427 q25 = .inl (E.2.2 2, 240, .inr (.inl (fun _ => 0))) := ((congrFun ef427 q25).trans (va_up_ne _ _ (g_neL h561 n426))).trans h562
  have h564 : q25 ∈ L428 := sb429 _ h561
  have h565 : f436 q25 = .inl (E.2.2 2, 240, .inr (.inl (fun _ => 0))) := ((congrFun ef436 q25).trans (va_up_ne _ _ (g_neAO h563 h434))).trans h563
  have h566 : f440 q25 = .inl (E.2.2 2, 240, .inr (.inl (fun _ => 0))) := ((congrFun ef440 q25).trans (va_up_ne _ _ (g_neL h564 n439))).trans h565
  have h567 : q25 ∈ L441 := sb442 _ h564
  have h568 : f453 q25 = .inl (E.2.2 2, 240, .inr (.inl (fun _ => 0))) := ((congrFun ef453 q25).trans (va_up_ne _ _ (g_neAO h566 h451))).trans h566
  have h569 : f470 q25 = .inl (E.2.2 2, 240, .inr (.inl (fun _ => 0))) := ((congrFun ef470 q25).trans (va_up_ne _ _ (g_nePr h568 h469))).trans h568
  have h570 : f473 q25 = .inl (E.2.2 2, 240, .inr (.inl (fun _ => 0))) := ((congrFun ef473 q25).trans (va_up_ne _ _ (g_nePr h569 h471))).trans h569
  have h571 : f476 q25 = .inl (E.2.2 2, 240, .inr (.inl (fun _ => 0))) := ((congrFun ef476 q25).trans (va_up_ne _ _ (g_nePr h570 h474))).trans h570
  have h572 : f479 q25 = .inl (E.2.2 2, 240, .inr (.inl (fun _ => 0))) := ((congrFun ef479 q25).trans (va_up_ne _ _ (g_nePr h571 h477))).trans h571
  have h573 : f56 q47 = .inl (E.2.2 0, 800, .inl (fun _ => 0)) := ((congrFun ef56 q47).trans (va_up_ne _ _ (g_neAO h53 h54))).trans h53
  have h574 : f58 q47 = .inl (E.2.2 0, 800, .inl (fun _ => 0)) := ((congrFun ef58 q47).trans (va_up_ne _ _ (g_neAO h573 h57))).trans h573
  have h575 : f62 q47 = .inl (E.2.2 0, 800, .inl (fun _ => 0)) := ((congrFun ef62 q47).trans (va_up_ne _ _ (g_neL h52 n61))).trans h574
  have h576 : q47 ∈ L63 := sb64 _ h52
  have h577 : f69 q47 = .inl (E.2.2 0, 800, .inl (fun _ => 0)) := ((congrFun ef69 q47).trans (va_up_ne _ _ (g_neAO h575 h67))).trans h575
  have h578 : f73 q47 = .inl (E.2.2 0, 800, .inl (fun _ => 0)) := ((congrFun ef73 q47).trans (va_up_ne _ _ (g_neL h576 n72))).trans h577
  have h579 : q47 ∈ L74 := sb75 _ h576
  have h580 : f80 q47 = .inl (E.2.2 0, 800, .inl (fun _ => 0)) := ((congrFun ef80 q47).trans (va_up_ne _ _ (g_neAO h578 h78))).trans h578
  have h581 : f84 q47 = .inl (E.2.2 0, 800, .inl (fun _ => 0)) := ((congrFun ef84 q47).trans (va_up_ne _ _ (g_neL h579 n83))).trans h580
  have h582 : q47 ∈ L85 := sb86 _ h579
  have h583 : f91 q47 = .inl (E.2.2 0, 800, .inl (fun _ => 0)) := ((congrFun ef91 q47).trans (va_up_ne _ _ (g_neAO h581 h89))).trans h581
  have h584 : f95 q47 = .inl (E.2.2 0, 800, .inl (fun _ => 0)) := ((congrFun ef95 q47).trans (va_up_ne _ _ (g_neL h582 n94))).trans h583
  have h585 : q47 ∈ L96 := sb97 _ h582
  have h586 : f102 q47 = .inl (E.2.2 0, 800, .inl (fun _ => 0)) := ((congrFun ef102 q47).trans (va_up_ne _ _ (g_neAO h584 h100))).trans h584
  have h587 : f106 q47 = .inl (E.2.2 0, 800, .inl (fun _ => 0)) := ((congrFun ef106 q47).trans (va_up_ne _ _ (g_neL h585 n105))).trans h586
  have h588 : q47 ∈ L107 := sb108 _ h585
  have h589 : f113 q47 = .inl (E.2.2 0, 800, .inl (fun _ => 0)) := ((congrFun ef113 q47).trans (va_up_ne _ _ (g_neAO h587 h111))).trans h587
  have h590 : f117 q47 = .inl (E.2.2 0, 800, .inl (fun _ => 0)) := ((congrFun ef117 q47).trans (va_up_ne _ _ (g_neL h588 n116))).trans h589
  have h591 : q47 ∈ L118 := sb119 _ h588
  have h592 : f124 q47 = .inl (E.2.2 0, 800, .inl (fun _ => 0)) := ((congrFun ef124 q47).trans (va_up_ne _ _ (g_neAO h590 h122))).trans h590
  have h593 : f128 q47 = .inl (E.2.2 0, 800, .inl (fun _ => 0)) := ((congrFun ef128 q47).trans (va_up_ne _ _ (g_neL h591 n127))).trans h592
  have h594 : q47 ∈ L129 := sb130 _ h591
  have h595 : f152 q47 = .inl (E.2.2 0, 800, .inl (fun _ => 0)) := ((congrFun ef152 q47).trans (va_up_ne _ _ (g_neAO h593 h150))).trans h593
  have h596 : f156 q47 = .inl (E.2.2 0, 800, .inl (fun _ => 0)) := ((congrFun ef156 q47).trans (va_up_ne _ _ (g_neL h594 n155))).trans h595
  have h597 : q47 ∈ L157 := sb158 _ h594
  have h598 : f163 q47 = .inl (E.2.2 0, 800, .inl (fun _ => 0)) := ((congrFun ef163 q47).trans (va_up_ne _ _ (g_neAO h596 h161))).trans h596
  have h599 : f167 q47 = .inl (E.2.2 0, 800, .inl (fun _ => 0)) := ((congrFun ef167 q47).trans (va_up_ne _ _ (g_neL h597 n166))).trans h598
  have h600 : q47 ∈ L168 := sb169 _ h597
  have h601 : f176 q47 = .inl (E.2.2 0, 800, .inl (fun _ => 0)) := ((congrFun ef176 q47).trans (va_up_ne _ _ (g_neAO h599 h174))).trans h599
  have h602 : f180 q47 = .inl (E.2.2 0, 800, .inl (fun _ => 0)) := ((congrFun ef180 q47).trans (va_up_ne _ _ (g_neL h600 n179))).trans h601
  have h603 : q47 ∈ L181 := sb182 _ h600
  have h604 : f205 q47 = .inl (E.2.2 0, 800, .inl (fun _ => 0)) := ((congrFun ef205 q47).trans (va_up_ne _ _ (g_neAO h602 h203))).trans h602
  have h605 : f209 q47 = .inl (E.2.2 0, 800, .inl (fun _ => 0)) := ((congrFun ef209 q47).trans (va_up_ne _ _ (g_neL h603 n208))).trans h604
  have h606 : q47 ∈ L210 := sb211 _ h603
  have h607 : f216 q47 = .inl (E.2.2 0, 800, .inl (fun _ => 0)) := ((congrFun ef216 q47).trans (va_up_ne _ _ (g_neAO h605 h214))).trans h605
  have h608 : f220 q47 = .inl (E.2.2 0, 800, .inl (fun _ => 0)) := ((congrFun ef220 q47).trans (va_up_ne _ _ (g_neL h606 n219))).trans h607
  have h609 : q47 ∈ L221 := sb222 _ h606
  have h610 : f227 q47 = .inl (E.2.2 0, 800, .inl (fun _ => 0)) := ((congrFun ef227 q47).trans (va_up_ne _ _ (g_neAO h608 h225))).trans h608
  have h611 : f231 q47 = .inl (E.2.2 0, 800, .inl (fun _ => 0)) := ((congrFun ef231 q47).trans (va_up_ne _ _ (g_neL h609 n230))).trans h610
  have h612 : q47 ∈ L232 := sb233 _ h609
  have h613 : f240 q47 = .inl (E.2.2 0, 800, .inl (fun _ => 0)) := ((congrFun ef240 q47).trans (va_up_ne _ _ (g_neAO h611 h238))).trans h611
  have h614 : f244 q47 = .inl (E.2.2 0, 800, .inl (fun _ => 0)) := ((congrFun ef244 q47).trans (va_up_ne _ _ (g_neL h612 n243))).trans h613
  have h615 : q47 ∈ L245 := sb246 _ h612
  have h616 : f355 q47 = .inl (E.2.2 0, 800, .inl (fun _ => 0)) := ((congrFun ef355 q47).trans (va_up_ne _ _ (g_neAO h614 h353))).trans h614
  have h617 : f359 q47 = .inl (E.2.2 0, 800, .inl (fun _ => 0)) := ((congrFun ef359 q47).trans (va_up_ne _ _ (g_neL h615 n358))).trans h616
  have h618 : q47 ∈ L360 := sb361 _ h615
  have h619 : f376 q47 = .inl (E.2.2 0, 800, .inl (fun _ => 0)) := ((congrFun ef376 q47).trans (va_up_ne _ _ (g_neAO h617 h374))).trans h617
  have h620 : f380 q47 = .inl (E.2.2 0, 800, .inl (fun _ => 0)) := ((congrFun ef380 q47).trans (va_up_ne _ _ (g_neL h618 n379))).trans h619
  have h621 : q47 ∈ L381 := sb382 _ h618
  have h622 : f401 q47 = .inl (E.2.2 0, 800, .inl (fun _ => 0)) := ((congrFun ef401 q47).trans (va_up_ne _ _ (g_neAO h620 h399))).trans h620
  have h623 : f405 q47 = .inl (E.2.2 0, 800, .inl (fun _ => 0)) := ((congrFun ef405 q47).trans (va_up_ne _ _ (g_neL h621 n404))).trans h622
  have h624 : q47 ∈ L406 := sb407 _ h621
  have h625 : f412 q47 = .inl (E.2.2 0, 800, .inl (fun _ => 0)) := ((congrFun ef412 q47).trans (va_up_ne _ _ (g_neAO h623 h410))).trans h623
  have h626 : f416 q47 = .inl (E.2.2 0, 800, .inl (fun _ => 0)) := ((congrFun ef416 q47).trans (va_up_ne _ _ (g_neL h624 n415))).trans h625
  have h627 : q47 ∈ L417 := sb418 _ h624
  have h628 : f423 q47 = .inl (E.2.2 0, 800, .inl (fun _ => 0)) := ((congrFun ef423 q47).trans (va_up_ne _ _ (g_neAO h626 h421))).trans h626
  have h629 : f427 q47 = .inl (E.2.2 0, 800, .inl (fun _ => 0)) := ((congrFun ef427 q47).trans (va_up_ne _ _ (g_neL h627 n426))).trans h628
  have h630 : q47 ∈ L428 := sb429 _ h627
  have h631 : f436 q47 = .inl (E.2.2 0, 800, .inl (fun _ => 0)) := ((congrFun ef436 q47).trans (va_up_ne _ _ (g_neAO h629 h434))).trans h629
  have h632 : f440 q47 = .inl (E.2.2 0, 800, .inl (fun _ => 0)) := ((congrFun ef440 q47).trans (va_up_ne _ _ (g_neL h630 n439))).trans h631
  have h633 : q47 ∈ L441 := sb442 _ h630
  have h634 : f453 q47 = .inl (E.2.2 0, 800, .inl (fun _ => 0)) := ((congrFun ef453 q47).trans (va_up_ne _ _ (g_neAO h632 h451))).trans h632
  have h635 : f470 q47 = .inl (E.2.2 0, 800, .inl (fun _ => 0)) := ((congrFun ef470 q47).trans (va_up_ne _ _ (g_neN h634 h469 (by decide)))).trans h634
  have h636 : f473 q47 = .inl (E.2.2 0, 800, .inl (fun _ => 0)) := ((congrFun ef473 q47).trans (va_up_ne _ _ (g_neN h635 h471 (by decide)))).trans h635
  have h637 : f476 q47 = .inl (E.2.2 0, 800, .inl (fun _ => 0)) := ((congrFun ef476 q47).trans (va_up_ne _ _ (g_neN h636 h474 (by decide)))).trans h636
  have h638 : f479 q47 = .inl (E.2.2 0, 800, .inl (fun _ => 0)) := ((congrFun ef479 q47).trans (va_up_ne _ _ (g_neN h637 h477 (by decide)))).trans h637
  have h639 : f180 q60 = .inl (E.2.2 1, 5, .inl (fun _ => 0)) := ((congrFun ef180 q60).trans (va_up_ne _ _ (g_neL h190 n179))).trans h191
  have h640 : q60 ∈ L181 := sb182 _ h190
  have h641 : f205 q60 = .inl (E.2.2 1, 5, .inl (fun _ => 0)) := ((congrFun ef205 q60).trans (va_up_ne _ _ (g_neAO h639 h203))).trans h639
  have h642 : f209 q60 = .inl (E.2.2 1, 5, .inl (fun _ => 0)) := ((congrFun ef209 q60).trans (va_up_ne _ _ (g_neL h640 n208))).trans h641
  have h643 : q60 ∈ L210 := sb211 _ h640
  have h644 : f216 q60 = .inl (E.2.2 1, 5, .inl (fun _ => 0)) := ((congrFun ef216 q60).trans (va_up_ne _ _ (g_neAO h642 h214))).trans h642
  have h645 : f220 q60 = .inl (E.2.2 1, 5, .inl (fun _ => 0)) := ((congrFun ef220 q60).trans (va_up_ne _ _ (g_neL h643 n219))).trans h644
  have h646 : q60 ∈ L221 := sb222 _ h643
  have h647 : f227 q60 = .inl (E.2.2 1, 5, .inl (fun _ => 0)) := ((congrFun ef227 q60).trans (va_up_ne _ _ (g_neAO h645 h225))).trans h645
  have h648 : f231 q60 = .inl (E.2.2 1, 5, .inl (fun _ => 0)) := ((congrFun ef231 q60).trans (va_up_ne _ _ (g_neL h646 n230))).trans h647
  have h649 : q60 ∈ L232 := sb233 _ h646
  have h650 : f240 q60 = .inl (E.2.2 1, 5, .inl (fun _ => 0)) := ((congrFun ef240 q60).trans (va_up_ne _ _ (g_neAO h648 h238))).trans h648
  have h651 : f244 q60 = .inl (E.2.2 1, 5, .inl (fun _ => 0)) := ((congrFun ef244 q60).trans (va_up_ne _ _ (g_neL h649 n243))).trans h650
  have h652 : q60 ∈ L245 := sb246 _ h649
  have h653 : f355 q60 = .inl (E.2.2 1, 5, .inl (fun _ => 0)) := ((congrFun ef355 q60).trans (va_up_ne _ _ (g_neAO h651 h353))).trans h651
  have h654 : f359 q60 = .inl (E.2.2 1, 5, .inl (fun _ => 0)) := ((congrFun ef359 q60).trans (va_up_ne _ _ (g_neL h652 n358))).trans h653
  have h655 : q60 ∈ L360 := sb361 _ h652
  have h656 : f376 q60 = .inl (E.2.2 1, 5, .inl (fun _ => 0)) := ((congrFun ef376 q60).trans (va_up_ne _ _ (g_neAO h654 h374))).trans h654
  have h657 : f380 q60 = .inl (E.2.2 1, 5, .inl (fun _ => 0)) := ((congrFun ef380 q60).trans (va_up_ne _ _ (g_neL h655 n379))).trans h656
  have h658 : q60 ∈ L381 := sb382 _ h655
  have h659 : f401 q60 = .inl (E.2.2 1, 5, .inl (fun _ => 0)) := ((congrFun ef401 q60).trans (va_up_ne _ _ (g_neAO h657 h399))).trans h657
  have h660 : f405 q60 = .inl (E.2.2 1, 5, .inl (fun _ => 0)) := ((congrFun ef405 q60).trans (va_up_ne _ _ (g_neL h658 n404))).trans h659
  have h661 : q60 ∈ L406 := sb407 _ h658
  have h662 : f412 q60 = .inl (E.2.2 1, 5, .inl (fun _ => 0)) := ((congrFun ef412 q60).trans (va_up_ne _ _ (g_neAO h660 h410))).trans h660
  have h663 : f416 q60 = .inl (E.2.2 1, 5, .inl (fun _ => 0)) := ((congrFun ef416 q60).trans (va_up_ne _ _ (g_neL h661 n415))).trans h662
  have h664 : q60 ∈ L417 := sb418 _ h661
  have h665 : f423 q60 = .inl (E.2.2 1, 5, .inl (fun _ => 0)) := ((congrFun ef423 q60).trans (va_up_ne _ _ (g_neAO h663 h421))).trans h663
  have h666 : f427 q60 = .inl (E.2.2 1, 5, .inl (fun _ => 0)) := ((congrFun ef427 q60).trans (va_up_ne _ _ (g_neL h664 n426))).trans h665
  have h667 : q60 ∈ L428 := sb429 _ h664
  have h668 : f436 q60 = .inl (E.2.2 1, 5, .inl (fun _ => 0)) := ((congrFun ef436 q60).trans (va_up_ne _ _ (g_neAO h666 h434))).trans h666
  have h669 : f440 q60 = .inl (E.2.2 1, 5, .inl (fun _ => 0)) := ((congrFun ef440 q60).trans (va_up_ne _ _ (g_neL h667 n439))).trans h668
  have h670 : q60 ∈ L441 := sb442 _ h667
  have h671 : f453 q60 = .inl (E.2.2 1, 5, .inl (fun _ => 0)) := ((congrFun ef453 q60).trans (va_up_ne _ _ (g_neAO h669 h451))).trans h669
  have h672 : f470 q60 = .inl (E.2.2 1, 5, .inl (fun _ => 0)) := ((congrFun ef470 q60).trans (va_up_ne _ _ (g_neN h671 h469 (by decide)))).trans h671
  have h673 : f473 q60 = .inl (E.2.2 1, 5, .inl (fun _ => 0)) := ((congrFun ef473 q60).trans (va_up_ne _ _ (g_neN h672 h471 (by decide)))).trans h672
  have h674 : f476 q60 = .inl (E.2.2 1, 5, .inl (fun _ => 0)) := ((congrFun ef476 q60).trans (va_up_ne _ _ (g_neN h673 h474 (by decide)))).trans h673
  have h675 : f479 q60 = .inl (E.2.2 1, 5, .inl (fun _ => 0)) := ((congrFun ef479 q60).trans (va_up_ne _ _ (g_neN h674 h477 (by decide)))).trans h674
  have h676 : f80 q71 = .inl (E.2.2 1, 45, .inl (fun _ => 0)) := ((congrFun ef80 q71).trans (va_up_ne _ _ (g_neAO h77 h78))).trans h77
  have h677 : f84 q71 = .inl (E.2.2 1, 45, .inl (fun _ => 0)) := ((congrFun ef84 q71).trans (va_up_ne _ _ (g_neL h76 n83))).trans h676
  have h678 : q71 ∈ L85 := sb86 _ h76
  have h679 : f91 q71 = .inl (E.2.2 1, 45, .inl (fun _ => 0)) := ((congrFun ef91 q71).trans (va_up_ne _ _ (g_neAO h677 h89))).trans h677
  have h680 : f95 q71 = .inl (E.2.2 1, 45, .inl (fun _ => 0)) := ((congrFun ef95 q71).trans (va_up_ne _ _ (g_neL h678 n94))).trans h679
  have h681 : q71 ∈ L96 := sb97 _ h678
  have h682 : f102 q71 = .inl (E.2.2 1, 45, .inl (fun _ => 0)) := ((congrFun ef102 q71).trans (va_up_ne _ _ (g_neAO h680 h100))).trans h680
  have h683 : f106 q71 = .inl (E.2.2 1, 45, .inl (fun _ => 0)) := ((congrFun ef106 q71).trans (va_up_ne _ _ (g_neL h681 n105))).trans h682
  have h684 : q71 ∈ L107 := sb108 _ h681
  have h685 : f113 q71 = .inl (E.2.2 1, 45, .inl (fun _ => 0)) := ((congrFun ef113 q71).trans (va_up_ne _ _ (g_neAO h683 h111))).trans h683
  have h686 : f117 q71 = .inl (E.2.2 1, 45, .inl (fun _ => 0)) := ((congrFun ef117 q71).trans (va_up_ne _ _ (g_neL h684 n116))).trans h685
  have h687 : q71 ∈ L118 := sb119 _ h684
  have h688 : f124 q71 = .inl (E.2.2 1, 45, .inl (fun _ => 0)) := ((congrFun ef124 q71).trans (va_up_ne _ _ (g_neAO h686 h122))).trans h686
  have h689 : f128 q71 = .inl (E.2.2 1, 45, .inl (fun _ => 0)) := ((congrFun ef128 q71).trans (va_up_ne _ _ (g_neL h687 n127))).trans h688
  have h690 : q71 ∈ L129 := sb130 _ h687
  have h691 : f152 q71 = .inl (E.2.2 1, 45, .inl (fun _ => 0)) := ((congrFun ef152 q71).trans (va_up_ne _ _ (g_neAO h689 h150))).trans h689
  have h692 : f156 q71 = .inl (E.2.2 1, 45, .inl (fun _ => 0)) := ((congrFun ef156 q71).trans (va_up_ne _ _ (g_neL h690 n155))).trans h691
  have h693 : q71 ∈ L157 := sb158 _ h690
  have h694 : f163 q71 = .inl (E.2.2 1, 45, .inl (fun _ => 0)) := ((congrFun ef163 q71).trans (va_up_ne _ _ (g_neAO h692 h161))).trans h692
  have h695 : f167 q71 = .inl (E.2.2 1, 45, .inl (fun _ => 0)) := ((congrFun ef167 q71).trans (va_up_ne _ _ (g_neL h693 n166))).trans h694
  have h696 : q71 ∈ L168 := sb169 _ h693
  have h697 : f176 q71 = .inl (E.2.2 1, 45, .inl (fun _ => 0)) := ((congrFun ef176 q71).trans (va_up_ne _ _ (g_neAO h695 h174))).trans h695
  have h698 : f180 q71 = .inl (E.2.2 1, 45, .inl (fun _ => 0)) := ((congrFun ef180 q71).trans (va_up_ne _ _ (g_neL h696 n179))).trans h697
  have h699 : q71 ∈ L181 := sb182 _ h696
  have h700 : f205 q71 = .inl (E.2.2 1, 45, .inl (fun _ => 0)) := ((congrFun ef205 q71).trans (va_up_ne _ _ (g_neAO h698 h203))).trans h698
  have h701 : f209 q71 = .inl (E.2.2 1, 45, .inl (fun _ => 0)) := ((congrFun ef209 q71).trans (va_up_ne _ _ (g_neL h699 n208))).trans h700
  have h702 : q71 ∈ L210 := sb211 _ h699
  have h703 : f216 q71 = .inl (E.2.2 1, 45, .inl (fun _ => 0)) := ((congrFun ef216 q71).trans (va_up_ne _ _ (g_neAO h701 h214))).trans h701
  have h704 : f220 q71 = .inl (E.2.2 1, 45, .inl (fun _ => 0)) := ((congrFun ef220 q71).trans (va_up_ne _ _ (g_neL h702 n219))).trans h703
  have h705 : q71 ∈ L221 := sb222 _ h702
  have h706 : f227 q71 = .inl (E.2.2 1, 45, .inl (fun _ => 0)) := ((congrFun ef227 q71).trans (va_up_ne _ _ (g_neAO h704 h225))).trans h704
  have h707 : f231 q71 = .inl (E.2.2 1, 45, .inl (fun _ => 0)) := ((congrFun ef231 q71).trans (va_up_ne _ _ (g_neL h705 n230))).trans h706
  have h708 : q71 ∈ L232 := sb233 _ h705
  have h709 : f240 q71 = .inl (E.2.2 1, 45, .inl (fun _ => 0)) := ((congrFun ef240 q71).trans (va_up_ne _ _ (g_neAO h707 h238))).trans h707
  have h710 : f244 q71 = .inl (E.2.2 1, 45, .inl (fun _ => 0)) := ((congrFun ef244 q71).trans (va_up_ne _ _ (g_neL h708 n243))).trans h709
  have h711 : q71 ∈ L245 := sb246 _ h708
  have h712 : f355 q71 = .inl (E.2.2 1, 45, .inl (fun _ => 0)) := ((congrFun ef355 q71).trans (va_up_ne _ _ (g_neAO h710 h353))).trans h710
  have h713 : f359 q71 = .inl (E.2.2 1, 45, .inl (fun _ => 0)) := ((congrFun ef359 q71).trans (va_up_ne _ _ (g_neL h711 n358))).trans h712
  have h714 : q71 ∈ L360 := sb361 _ h711
  have h715 : f376 q71 = .inl (E.2.2 1, 45, .inl (fun _ => 0)) := ((congrFun ef376 q71).trans (va_up_ne _ _ (g_neAO h713 h374))).trans h713
  have h716 : f380 q71 = .inl (E.2.2 1, 45, .inl (fun _ => 0)) := ((congrFun ef380 q71).trans (va_up_ne _ _ (g_neL h714 n379))).trans h715
  have h717 : q71 ∈ L381 := sb382 _ h714
  have h718 : f401 q71 = .inl (E.2.2 1, 45, .inl (fun _ => 0)) := ((congrFun ef401 q71).trans (va_up_ne _ _ (g_neAO h716 h399))).trans h716
  have h719 : f405 q71 = .inl (E.2.2 1, 45, .inl (fun _ => 0)) := ((congrFun ef405 q71).trans (va_up_ne _ _ (g_neL h717 n404))).trans h718
  have h720 : q71 ∈ L406 := sb407 _ h717
  have h721 : f412 q71 = .inl (E.2.2 1, 45, .inl (fun _ => 0)) := ((congrFun ef412 q71).trans (va_up_ne _ _ (g_neAO h719 h410))).trans h719
  have h722 : f416 q71 = .inl (E.2.2 1, 45, .inl (fun _ => 0)) := ((congrFun ef416 q71).trans (va_up_ne _ _ (g_neL h720 n415))).trans h721
  have h723 : q71 ∈ L417 := sb418 _ h720
  have h724 : f423 q71 = .inl (E.2.2 1, 45, .inl (fun _ => 0)) := ((congrFun ef423 q71).trans (va_up_ne _ _ (g_neAO h722 h421))).trans h722
  have h725 : f427 q71 = .inl (E.2.2 1, 45, .inl (fun _ => 0)) := ((congrFun ef427 q71).trans (va_up_ne _ _ (g_neL h723 n426))).trans h724
  have h726 : q71 ∈ L428 := sb429 _ h723
  have h727 : f436 q71 = .inl (E.2.2 1, 45, .inl (fun _ => 0)) := ((congrFun ef436 q71).trans (va_up_ne _ _ (g_neAO h725 h434))).trans h725
  have h728 : f440 q71 = .inl (E.2.2 1, 45, .inl (fun _ => 0)) := ((congrFun ef440 q71).trans (va_up_ne _ _ (g_neL h726 n439))).trans h727
  have h729 : q71 ∈ L441 := sb442 _ h726
  have h730 : f453 q71 = .inl (E.2.2 1, 45, .inl (fun _ => 0)) := ((congrFun ef453 q71).trans (va_up_ne _ _ (g_neAO h728 h451))).trans h728
  have h731 : f470 q71 = .inl (E.2.2 1, 45, .inl (fun _ => 0)) := ((congrFun ef470 q71).trans (va_up_ne _ _ (g_neN h730 h469 (by decide)))).trans h730
  have h732 : f473 q71 = .inl (E.2.2 1, 45, .inl (fun _ => 0)) := ((congrFun ef473 q71).trans (va_up_ne _ _ (g_neN h731 h471 (by decide)))).trans h731
  have h733 : f476 q71 = .inl (E.2.2 1, 45, .inl (fun _ => 0)) := ((congrFun ef476 q71).trans (va_up_ne _ _ (g_neN h732 h474 (by decide)))).trans h732
  have h734 : f479 q71 = .inl (E.2.2 1, 45, .inl (fun _ => 0)) := ((congrFun ef479 q71).trans (va_up_ne _ _ (g_neN h733 h477 (by decide)))).trans h733
  have h735 : f91 q82 = .inl (E.2.2 1, 60, .inl (fun _ => 0)) := ((congrFun ef91 q82).trans (va_up_ne _ _ (g_neAO h88 h89))).trans h88
  have h736 : f95 q82 = .inl (E.2.2 1, 60, .inl (fun _ => 0)) := ((congrFun ef95 q82).trans (va_up_ne _ _ (g_neL h87 n94))).trans h735
  have h737 : q82 ∈ L96 := sb97 _ h87
  have h738 : f102 q82 = .inl (E.2.2 1, 60, .inl (fun _ => 0)) := ((congrFun ef102 q82).trans (va_up_ne _ _ (g_neAO h736 h100))).trans h736
  have h739 : f106 q82 = .inl (E.2.2 1, 60, .inl (fun _ => 0)) := ((congrFun ef106 q82).trans (va_up_ne _ _ (g_neL h737 n105))).trans h738
  have h740 : q82 ∈ L107 := sb108 _ h737
  have h741 : f113 q82 = .inl (E.2.2 1, 60, .inl (fun _ => 0)) := ((congrFun ef113 q82).trans (va_up_ne _ _ (g_neAO h739 h111))).trans h739
  have h742 : f117 q82 = .inl (E.2.2 1, 60, .inl (fun _ => 0)) := ((congrFun ef117 q82).trans (va_up_ne _ _ (g_neL h740 n116))).trans h741
  have h743 : q82 ∈ L118 := sb119 _ h740
  have h744 : f124 q82 = .inl (E.2.2 1, 60, .inl (fun _ => 0)) := ((congrFun ef124 q82).trans (va_up_ne _ _ (g_neAO h742 h122))).trans h742
  have h745 : f128 q82 = .inl (E.2.2 1, 60, .inl (fun _ => 0)) := ((congrFun ef128 q82).trans (va_up_ne _ _ (g_neL h743 n127))).trans h744
  have h746 : q82 ∈ L129 := sb130 _ h743
  have h747 : f152 q82 = .inl (E.2.2 1, 60, .inl (fun _ => 0)) := ((congrFun ef152 q82).trans (va_up_ne _ _ (g_neAO h745 h150))).trans h745
  have h748 : f156 q82 = .inl (E.2.2 1, 60, .inl (fun _ => 0)) := ((congrFun ef156 q82).trans (va_up_ne _ _ (g_neL h746 n155))).trans h747
  have h749 : q82 ∈ L157 := sb158 _ h746
  have h750 : f163 q82 = .inl (E.2.2 1, 60, .inl (fun _ => 0)) := ((congrFun ef163 q82).trans (va_up_ne _ _ (g_neAO h748 h161))).trans h748
  have h751 : f167 q82 = .inl (E.2.2 1, 60, .inl (fun _ => 0)) := ((congrFun ef167 q82).trans (va_up_ne _ _ (g_neL h749 n166))).trans h750
  have h752 : q82 ∈ L168 := sb169 _ h749
  have h753 : f176 q82 = .inl (E.2.2 1, 60, .inl (fun _ => 0)) := ((congrFun ef176 q82).trans (va_up_ne _ _ (g_neAO h751 h174))).trans h751
  have h754 : f180 q82 = .inl (E.2.2 1, 60, .inl (fun _ => 0)) := ((congrFun ef180 q82).trans (va_up_ne _ _ (g_neL h752 n179))).trans h753
  have h755 : q82 ∈ L181 := sb182 _ h752
  have h756 : f205 q82 = .inl (E.2.2 1, 60, .inl (fun _ => 0)) := ((congrFun ef205 q82).trans (va_up_ne _ _ (g_neAO h754 h203))).trans h754
  have h757 : f209 q82 = .inl (E.2.2 1, 60, .inl (fun _ => 0)) := ((congrFun ef209 q82).trans (va_up_ne _ _ (g_neL h755 n208))).trans h756
  have h758 : q82 ∈ L210 := sb211 _ h755
  have h759 : f216 q82 = .inl (E.2.2 1, 60, .inl (fun _ => 0)) := ((congrFun ef216 q82).trans (va_up_ne _ _ (g_neAO h757 h214))).trans h757
  have h760 : f220 q82 = .inl (E.2.2 1, 60, .inl (fun _ => 0)) := ((congrFun ef220 q82).trans (va_up_ne _ _ (g_neL h758 n219))).trans h759
  have h761 : q82 ∈ L221 := sb222 _ h758
  have h762 : f227 q82 = .inl (E.2.2 1, 60, .inl (fun _ => 0)) := ((congrFun ef227 q82).trans (va_up_ne _ _ (g_neAO h760 h225))).trans h760
  have h763 : f231 q82 = .inl (E.2.2 1, 60, .inl (fun _ => 0)) := ((congrFun ef231 q82).trans (va_up_ne _ _ (g_neL h761 n230))).trans h762
  have h764 : q82 ∈ L232 := sb233 _ h761
  have h765 : f240 q82 = .inl (E.2.2 1, 60, .inl (fun _ => 0)) := ((congrFun ef240 q82).trans (va_up_ne _ _ (g_neAO h763 h238))).trans h763
  have h766 : f244 q82 = .inl (E.2.2 1, 60, .inl (fun _ => 0)) := ((congrFun ef244 q82).trans (va_up_ne _ _ (g_neL h764 n243))).trans h765
  have h767 : q82 ∈ L245 := sb246 _ h764
  have h768 : f355 q82 = .inl (E.2.2 1, 60, .inl (fun _ => 0)) := ((congrFun ef355 q82).trans (va_up_ne _ _ (g_neAO h766 h353))).trans h766
  have h769 : f359 q82 = .inl (E.2.2 1, 60, .inl (fun _ => 0)) := ((congrFun ef359 q82).trans (va_up_ne _ _ (g_neL h767 n358))).trans h768
  have h770 : q82 ∈ L360 := sb361 _ h767
  have h771 : f376 q82 = .inl (E.2.2 1, 60, .inl (fun _ => 0)) := ((congrFun ef376 q82).trans (va_up_ne _ _ (g_neAO h769 h374))).trans h769
  have h772 : f380 q82 = .inl (E.2.2 1, 60, .inl (fun _ => 0)) := ((congrFun ef380 q82).trans (va_up_ne _ _ (g_neL h770 n379))).trans h771
  have h773 : q82 ∈ L381 := sb382 _ h770
  have h774 : f401 q82 = .inl (E.2.2 1, 60, .inl (fun _ => 0)) := ((congrFun ef401 q82).trans (va_up_ne _ _ (g_neAO h772 h399))).trans h772
  have h775 : f405 q82 = .inl (E.2.2 1, 60, .inl (fun _ => 0)) := ((congrFun ef405 q82).trans (va_up_ne _ _ (g_neL h773 n404))).trans h774
  have h776 : q82 ∈ L406 := sb407 _ h773
  have h777 : f412 q82 = .inl (E.2.2 1, 60, .inl (fun _ => 0)) := ((congrFun ef412 q82).trans (va_up_ne _ _ (g_neAO h775 h410))).trans h775
  have h778 : f416 q82 = .inl (E.2.2 1, 60, .inl (fun _ => 0)) := ((congrFun ef416 q82).trans (va_up_ne _ _ (g_neL h776 n415))).trans h777
  have h779 : q82 ∈ L417 := sb418 _ h776
  have h780 : f423 q82 = .inl (E.2.2 1, 60, .inl (fun _ => 0)) := ((congrFun ef423 q82).trans (va_up_ne _ _ (g_neAO h778 h421))).trans h778
  have h781 : f427 q82 = .inl (E.2.2 1, 60, .inl (fun _ => 0)) := ((congrFun ef427 q82).trans (va_up_ne _ _ (g_neL h779 n426))).trans h780
  have h782 : q82 ∈ L428 := sb429 _ h779
  have h783 : f436 q82 = .inl (E.2.2 1, 60, .inl (fun _ => 0)) := ((congrFun ef436 q82).trans (va_up_ne _ _ (g_neAO h781 h434))).trans h781
  have h784 : f440 q82 = .inl (E.2.2 1, 60, .inl (fun _ => 0)) := ((congrFun ef440 q82).trans (va_up_ne _ _ (g_neL h782 n439))).trans h783
  have h785 : q82 ∈ L441 := sb442 _ h782
  have h786 : f453 q82 = .inl (E.2.2 1, 60, .inl (fun _ => 0)) := ((congrFun ef453 q82).trans (va_up_ne _ _ (g_neAO h784 h451))).trans h784
  have h787 : f470 q82 = .inl (E.2.2 1, 60, .inl (fun _ => 0)) := ((congrFun ef470 q82).trans (va_up_ne _ _ (g_neN h786 h469 (by decide)))).trans h786
  have h788 : f473 q82 = .inl (E.2.2 1, 60, .inl (fun _ => 0)) := ((congrFun ef473 q82).trans (va_up_ne _ _ (g_neN h787 h471 (by decide)))).trans h787
  have h789 : f476 q82 = .inl (E.2.2 1, 60, .inl (fun _ => 0)) := ((congrFun ef476 q82).trans (va_up_ne _ _ (g_neN h788 h474 (by decide)))).trans h788
  have h790 : f479 q82 = .inl (E.2.2 1, 60, .inl (fun _ => 0)) := ((congrFun ef479 q82).trans (va_up_ne _ _ (g_neN h789 h477 (by decide)))).trans h789
  have h791 : f102 q93 = .inl (E.2.2 1, 90, .inl (fun _ => 0)) := ((congrFun ef102 q93).trans (va_up_ne _ _ (g_neAO h99 h100))).trans h99
  have h792 : f106 q93 = .inl (E.2.2 1, 90, .inl (fun _ => 0)) := ((congrFun ef106 q93).trans (va_up_ne _ _ (g_neL h98 n105))).trans h791
  have h793 : q93 ∈ L107 := sb108 _ h98
  have h794 : f113 q93 = .inl (E.2.2 1, 90, .inl (fun _ => 0)) := ((congrFun ef113 q93).trans (va_up_ne _ _ (g_neAO h792 h111))).trans h792
  have h795 : f117 q93 = .inl (E.2.2 1, 90, .inl (fun _ => 0)) := ((congrFun ef117 q93).trans (va_up_ne _ _ (g_neL h793 n116))).trans h794
  have h796 : q93 ∈ L118 := sb119 _ h793
  have h797 : f124 q93 = .inl (E.2.2 1, 90, .inl (fun _ => 0)) := ((congrFun ef124 q93).trans (va_up_ne _ _ (g_neAO h795 h122))).trans h795
  have h798 : f128 q93 = .inl (E.2.2 1, 90, .inl (fun _ => 0)) := ((congrFun ef128 q93).trans (va_up_ne _ _ (g_neL h796 n127))).trans h797
  have h799 : q93 ∈ L129 := sb130 _ h796
  have h800 : f152 q93 = .inl (E.2.2 1, 90, .inl (fun _ => 0)) := ((congrFun ef152 q93).trans (va_up_ne _ _ (g_neAO h798 h150))).trans h798
  have h801 : f156 q93 = .inl (E.2.2 1, 90, .inl (fun _ => 0)) := ((congrFun ef156 q93).trans (va_up_ne _ _ (g_neL h799 n155))).trans h800
  have h802 : q93 ∈ L157 := sb158 _ h799
  have h803 : f163 q93 = .inl (E.2.2 1, 90, .inl (fun _ => 0)) := ((congrFun ef163 q93).trans (va_up_ne _ _ (g_neAO h801 h161))).trans h801
  have h804 : f167 q93 = .inl (E.2.2 1, 90, .inl (fun _ => 0)) := ((congrFun ef167 q93).trans (va_up_ne _ _ (g_neL h802 n166))).trans h803
  have h805 : q93 ∈ L168 := sb169 _ h802
  have h806 : f176 q93 = .inl (E.2.2 1, 90, .inl (fun _ => 0)) := ((congrFun ef176 q93).trans (va_up_ne _ _ (g_neAO h804 h174))).trans h804
  have h807 : f180 q93 = .inl (E.2.2 1, 90, .inl (fun _ => 0)) := ((congrFun ef180 q93).trans (va_up_ne _ _ (g_neL h805 n179))).trans h806
  have h808 : q93 ∈ L181 := sb182 _ h805
  have h809 : f205 q93 = .inl (E.2.2 1, 90, .inl (fun _ => 0)) := ((congrFun ef205 q93).trans (va_up_ne _ _ (g_neAO h807 h203))).trans h807
  have h810 : f209 q93 = .inl (E.2.2 1, 90, .inl (fun _ => 0)) := ((congrFun ef209 q93).trans (va_up_ne _ _ (g_neL h808 n208))).trans h809
  have h811 : q93 ∈ L210 := sb211 _ h808
  have h812 : f216 q93 = .inl (E.2.2 1, 90, .inl (fun _ => 0)) := ((congrFun ef216 q93).trans (va_up_ne _ _ (g_neAO h810 h214))).trans h810
  have h813 : f220 q93 = .inl (E.2.2 1, 90, .inl (fun _ => 0)) := ((congrFun ef220 q93).trans (va_up_ne _ _ (g_neL h811 n219))).trans h812
  have h814 : q93 ∈ L221 := sb222 _ h811
  have h815 : f227 q93 = .inl (E.2.2 1, 90, .inl (fun _ => 0)) := ((congrFun ef227 q93).trans (va_up_ne _ _ (g_neAO h813 h225))).trans h813
  have h816 : f231 q93 = .inl (E.2.2 1, 90, .inl (fun _ => 0)) := ((congrFun ef231 q93).trans (va_up_ne _ _ (g_neL h814 n230))).trans h815
  have h817 : q93 ∈ L232 := sb233 _ h814
  have h818 : f240 q93 = .inl (E.2.2 1, 90, .inl (fun _ => 0)) := ((congrFun ef240 q93).trans (va_up_ne _ _ (g_neAO h816 h238))).trans h816
  have h819 : f244 q93 = .inl (E.2.2 1, 90, .inl (fun _ => 0)) := ((congrFun ef244 q93).trans (va_up_ne _ _ (g_neL h817 n243))).trans h818
  have h820 : q93 ∈ L245 := sb246 _ h817
  have h821 : f355 q93 = .inl (E.2.2 1, 90, .inl (fun _ => 0)) := ((congrFun ef355 q93).trans (va_up_ne _ _ (g_neAO h819 h353))).trans h819
  have h822 : f359 q93 = .inl (E.2.2 1, 90, .inl (fun _ => 0)) := ((congrFun ef359 q93).trans (va_up_ne _ _ (g_neL h820 n358))).trans h821
  have h823 : q93 ∈ L360 := sb361 _ h820
  have h824 : f376 q93 = .inl (E.2.2 1, 90, .inl (fun _ => 0)) := ((congrFun ef376 q93).trans (va_up_ne _ _ (g_neAO h822 h374))).trans h822
  have h825 : f380 q93 = .inl (E.2.2 1, 90, .inl (fun _ => 0)) := ((congrFun ef380 q93).trans (va_up_ne _ _ (g_neL h823 n379))).trans h824
  have h826 : q93 ∈ L381 := sb382 _ h823
  have h827 : f401 q93 = .inl (E.2.2 1, 90, .inl (fun _ => 0)) := ((congrFun ef401 q93).trans (va_up_ne _ _ (g_neAO h825 h399))).trans h825
  have h828 : f405 q93 = .inl (E.2.2 1, 90, .inl (fun _ => 0)) := ((congrFun ef405 q93).trans (va_up_ne _ _ (g_neL h826 n404))).trans h827
  have h829 : q93 ∈ L406 := sb407 _ h826
  have h830 : f412 q93 = .inl (E.2.2 1, 90, .inl (fun _ => 0)) := ((congrFun ef412 q93).trans (va_up_ne _ _ (g_neAO h828 h410))).trans h828
  have h831 : f416 q93 = .inl (E.2.2 1, 90, .inl (fun _ => 0)) := ((congrFun ef416 q93).trans (va_up_ne _ _ (g_neL h829 n415))).trans h830
  have h832 : q93 ∈ L417 := sb418 _ h829
  have h833 : f423 q93 = .inl (E.2.2 1, 90, .inl (fun _ => 0)) := ((congrFun ef423 q93).trans (va_up_ne _ _ (g_neAO h831 h421))).trans h831
  have h834 : f427 q93 = .inl (E.2.2 1, 90, .inl (fun _ => 0)) := ((congrFun ef427 q93).trans (va_up_ne _ _ (g_neL h832 n426))).trans h833
  have h835 : q93 ∈ L428 := sb429 _ h832
  have h836 : f436 q93 = .inl (E.2.2 1, 90, .inl (fun _ => 0)) := ((congrFun ef436 q93).trans (va_up_ne _ _ (g_neAO h834 h434))).trans h834
  have h837 : f440 q93 = .inl (E.2.2 1, 90, .inl (fun _ => 0)) := ((congrFun ef440 q93).trans (va_up_ne _ _ (g_neL h835 n439))).trans h836
  have h838 : q93 ∈ L441 := sb442 _ h835
  have h839 : f453 q93 = .inl (E.2.2 1, 90, .inl (fun _ => 0)) := ((congrFun ef453 q93).trans (va_up_ne _ _ (g_neAO h837 h451))).trans h837
  have h840 : f470 q93 = .inl (E.2.2 1, 90, .inl (fun _ => 0)) := ((congrFun ef470 q93).trans (va_up_ne _ _ (g_neN h839 h469 (by decide)))).trans h839
  have h841 : f473 q93 = .inl (E.2.2 1, 90, .inl (fun _ => 0)) := ((congrFun ef473 q93).trans (va_up_ne _ _ (g_neN h840 h471 (by decide)))).trans h840
  have h842 : f476 q93 = .inl (E.2.2 1, 90, .inl (fun _ => 0)) := ((congrFun ef476 q93).trans (va_up_ne _ _ (g_neN h841 h474 (by decide)))).trans h841
  have h843 : f479 q93 = .inl (E.2.2 1, 90, .inl (fun _ => 0)) := ((congrFun ef479 q93).trans (va_up_ne _ _ (g_neN h842 h477 (by decide)))).trans h842
  have h844 : f113 q104 = .inl (E.2.2 1, 600, .inl (fun _ => 0)) := ((congrFun ef113 q104).trans (va_up_ne _ _ (g_neAO h110 h111))).trans h110
  have h845 : f117 q104 = .inl (E.2.2 1, 600, .inl (fun _ => 0)) := ((congrFun ef117 q104).trans (va_up_ne _ _ (g_neL h109 n116))).trans h844
  have h846 : q104 ∈ L118 := sb119 _ h109
  have h847 : f124 q104 = .inl (E.2.2 1, 600, .inl (fun _ => 0)) := ((congrFun ef124 q104).trans (va_up_ne _ _ (g_neAO h845 h122))).trans h845
  have h848 : f128 q104 = .inl (E.2.2 1, 600, .inl (fun _ => 0)) := ((congrFun ef128 q104).trans (va_up_ne _ _ (g_neL h846 n127))).trans h847
  have h849 : q104 ∈ L129 := sb130 _ h846
  have h850 : f152 q104 = .inl (E.2.2 1, 600, .inl (fun _ => 0)) := ((congrFun ef152 q104).trans (va_up_ne _ _ (g_neAO h848 h150))).trans h848
  have h851 : f156 q104 = .inl (E.2.2 1, 600, .inl (fun _ => 0)) := ((congrFun ef156 q104).trans (va_up_ne _ _ (g_neL h849 n155))).trans h850
  have h852 : q104 ∈ L157 := sb158 _ h849
  have h853 : f163 q104 = .inl (E.2.2 1, 600, .inl (fun _ => 0)) := ((congrFun ef163 q104).trans (va_up_ne _ _ (g_neAO h851 h161))).trans h851
  have h854 : f167 q104 = .inl (E.2.2 1, 600, .inl (fun _ => 0)) := ((congrFun ef167 q104).trans (va_up_ne _ _ (g_neL h852 n166))).trans h853
  have h855 : q104 ∈ L168 := sb169 _ h852
  have h856 : f176 q104 = .inl (E.2.2 1, 600, .inl (fun _ => 0)) := ((congrFun ef176 q104).trans (va_up_ne _ _ (g_neAO h854 h174))).trans h854
  have h857 : f180 q104 = .inl (E.2.2 1, 600, .inl (fun _ => 0)) := ((congrFun ef180 q104).trans (va_up_ne _ _ (g_neL h855 n179))).trans h856
  have h858 : q104 ∈ L181 := sb182 _ h855
  have h859 : f205 q104 = .inl (E.2.2 1, 600, .inl (fun _ => 0)) := ((congrFun ef205 q104).trans (va_up_ne _ _ (g_neAO h857 h203))).trans h857
  have h860 : f209 q104 = .inl (E.2.2 1, 600, .inl (fun _ => 0)) := ((congrFun ef209 q104).trans (va_up_ne _ _ (g_neL h858 n208))).trans h859
  have h861 : q104 ∈ L210 := sb211 _ h858
  have h862 : f216 q104 = .inl (E.2.2 1, 600, .inl (fun _ => 0)) := ((congrFun ef216 q104).trans (va_up_ne _ _ (g_neAO h860 h214))).trans h860
  have h863 : f220 q104 = .inl (E.2.2 1, 600, .inl (fun _ => 0)) := ((congrFun ef220 q104).trans (va_up_ne _ _ (g_neL h861 n219))).trans h862
  have h864 : q104 ∈ L221 := sb222 _ h861
  have h865 : f227 q104 = .inl (E.2.2 1, 600, .inl (fun _ => 0)) := ((congrFun ef227 q104).trans (va_up_ne _ _ (g_neAO h863 h225))).trans h863
  have h866 : f231 q104 = .inl (E.2.2 1, 600, .inl (fun _ => 0)) := ((congrFun ef231 q104).trans (va_up_ne _ _ (g_neL h864 n230))).trans h865
  have h867 : q104 ∈ L232 := sb233 _ h864
  have h868 : f240 q104 = .inl (E.2.2 1, 600, .inl (fun _ => 0)) := ((congrFun ef240 q104).trans (va_up_ne _ _ (g_neAO h866 h238))).trans h866
  have h869 : f244 q104 = .inl (E.2.2 1, 600, .inl (fun _ => 0)) := ((congrFun ef244 q104).trans (va_up_ne _ _ (g_neL h867 n243))).trans h868
  have h870 : q104 ∈ L245 := sb246 _ h867
  have h871 : f355 q104 = .inl (E.2.2 1, 600, .inl (fun _ => 0)) := ((congrFun ef355 q104).trans (va_up_ne _ _ (g_neAO h869 h353))).trans h869
  have h872 : f359 q104 = .inl (E.2.2 1, 600, .inl (fun _ => 0)) := ((congrFun ef359 q104).trans (va_up_ne _ _ (g_neL h870 n358))).trans h871
  have h873 : q104 ∈ L360 := sb361 _ h870
  have h874 : f376 q104 = .inl (E.2.2 1, 600, .inl (fun _ => 0)) := ((congrFun ef376 q104).trans (va_up_ne _ _ (g_neAO h872 h374))).trans h872
  have h875 : f380 q104 = .inl (E.2.2 1, 600, .inl (fun _ => 0)) := ((congrFun ef380 q104).trans (va_up_ne _ _ (g_neL h873 n379))).trans h874
  have h876 : q104 ∈ L381 := sb382 _ h873
  have h877 : f401 q104 = .inl (E.2.2 1, 600, .inl (fun _ => 0)) := ((congrFun ef401 q104).trans (va_up_ne _ _ (g_neAO h875 h399))).trans h875
  have h878 : f405 q104 = .inl (E.2.2 1, 600, .inl (fun _ => 0)) := ((congrFun ef405 q104).trans (va_up_ne _ _ (g_neL h876 n404))).trans h877
  have h879 : q104 ∈ L406 := sb407 _ h876
  have h880 : f412 q104 = .inl (E.2.2 1, 600, .inl (fun _ => 0)) := ((congrFun ef412 q104).trans (va_up_ne _ _ (g_neAO h878 h410))).trans h878
  have h881 : f416 q104 = .inl (E.2.2 1, 600, .inl (fun _ => 0)) := ((congrFun ef416 q104).trans (va_up_ne _ _ (g_neL h879 n415))).trans h880
  have h882 : q104 ∈ L417 := sb418 _ h879
  have h883 : f423 q104 = .inl (E.2.2 1, 600, .inl (fun _ => 0)) := ((congrFun ef423 q104).trans (va_up_ne _ _ (g_neAO h881 h421))).trans h881
  have h884 : f427 q104 = .inl (E.2.2 1, 600, .inl (fun _ => 0)) := ((congrFun ef427 q104).trans (va_up_ne _ _ (g_neL h882 n426))).trans h883
  have h885 : q104 ∈ L428 := sb429 _ h882
  have h886 : f436 q104 = .inl (E.2.2 1, 600, .inl (fun _ => 0)) := ((congrFun ef436 q104).trans (va_up_ne _ _ (g_neAO h884 h434))).trans h884
  have h887 : f440 q104 = .inl (E.2.2 1, 600, .inl (fun _ => 0)) := ((congrFun ef440 q104).trans (va_up_ne _ _ (g_neL h885 n439))).trans h886
  have h888 : q104 ∈ L441 := sb442 _ h885
  have h889 : f453 q104 = .inl (E.2.2 1, 600, .inl (fun _ => 0)) := ((congrFun ef453 q104).trans (va_up_ne _ _ (g_neAO h887 h451))).trans h887
  have h890 : f470 q104 = .inl (E.2.2 1, 600, .inl (fun _ => 0)) := ((congrFun ef470 q104).trans (va_up_ne _ _ (g_neN h889 h469 (by decide)))).trans h889
  have h891 : f473 q104 = .inl (E.2.2 1, 600, .inl (fun _ => 0)) := ((congrFun ef473 q104).trans (va_up_ne _ _ (g_neN h890 h471 (by decide)))).trans h890
  have h892 : f476 q104 = .inl (E.2.2 1, 600, .inl (fun _ => 0)) := ((congrFun ef476 q104).trans (va_up_ne _ _ (g_neN h891 h474 (by decide)))).trans h891
  have h893 : f479 q104 = .inl (E.2.2 1, 600, .inl (fun _ => 0)) := ((congrFun ef479 q104).trans (va_up_ne _ _ (g_neN h892 h477 (by decide)))).trans h892
  have h894 : f124 q115 = .inl (E.2.2 3, 3, .inl (fun _ => 0)) := ((congrFun ef124 q115).trans (va_up_ne _ _ (g_neAO h121 h122))).trans h121
  have h895 : f128 q115 = .inl (E.2.2 3, 3, .inl (fun _ => 0)) := ((congrFun ef128 q115).trans (va_up_ne _ _ (g_neL h120 n127))).trans h894
  have h896 : q115 ∈ L129 := sb130 _ h120
  have h897 : f152 q115 = .inl (E.2.2 3, 3, .inl (fun _ => 0)) := ((congrFun ef152 q115).trans (va_up_ne _ _ (g_neAO h895 h150))).trans h895
  have h898 : f156 q115 = .inl (E.2.2 3, 3, .inl (fun _ => 0)) := ((congrFun ef156 q115).trans (va_up_ne _ _ (g_neL h896 n155))).trans h897
  have h899 : q115 ∈ L157 := sb158 _ h896
  have h900 : f163 q115 = .inl (E.2.2 3, 3, .inl (fun _ => 0)) := ((congrFun ef163 q115).trans (va_up_ne _ _ (g_neAO h898 h161))).trans h898
  have h901 : f167 q115 = .inl (E.2.2 3, 3, .inl (fun _ => 0)) := ((congrFun ef167 q115).trans (va_up_ne _ _ (g_neL h899 n166))).trans h900
  have h902 : q115 ∈ L168 := sb169 _ h899
  have h903 : f176 q115 = .inl (E.2.2 3, 3, .inl (fun _ => 0)) := ((congrFun ef176 q115).trans (va_up_ne _ _ (g_neAO h901 h174))).trans h901
  have h904 : f180 q115 = .inl (E.2.2 3, 3, .inl (fun _ => 0)) := ((congrFun ef180 q115).trans (va_up_ne _ _ (g_neL h902 n179))).trans h903
  have h905 : q115 ∈ L181 := sb182 _ h902
  have h906 : f205 q115 = .inl (E.2.2 3, 3, .inl (fun _ => 0)) := ((congrFun ef205 q115).trans (va_up_ne _ _ (g_neAO h904 h203))).trans h904
  have h907 : f209 q115 = .inl (E.2.2 3, 3, .inl (fun _ => 0)) := ((congrFun ef209 q115).trans (va_up_ne _ _ (g_neL h905 n208))).trans h906
  have h908 : q115 ∈ L210 := sb211 _ h905
  have h909 : f216 q115 = .inl (E.2.2 3, 3, .inl (fun _ => 0)) := ((congrFun ef216 q115).trans (va_up_ne _ _ (g_neAO h907 h214))).trans h907
  have h910 : f220 q115 = .inl (E.2.2 3, 3, .inl (fun _ => 0)) := ((congrFun ef220 q115).trans (va_up_ne _ _ (g_neL h908 n219))).trans h909
  have h911 : q115 ∈ L221 := sb222 _ h908
  have h912 : f227 q115 = .inl (E.2.2 3, 3, .inl (fun _ => 0)) := ((congrFun ef227 q115).trans (va_up_ne _ _ (g_neAO h910 h225))).trans h910
  have h913 : f231 q115 = .inl (E.2.2 3, 3, .inl (fun _ => 0)) := ((congrFun ef231 q115).trans (va_up_ne _ _ (g_neL h911 n230))).trans h912
  have h914 : q115 ∈ L232 := sb233 _ h911
  have h915 : f240 q115 = .inl (E.2.2 3, 3, .inl (fun _ => 0)) := ((congrFun ef240 q115).trans (va_up_ne _ _ (g_neAO h913 h238))).trans h913
  have h916 : f244 q115 = .inl (E.2.2 3, 3, .inl (fun _ => 0)) := ((congrFun ef244 q115).trans (va_up_ne _ _ (g_neL h914 n243))).trans h915
  have h917 : q115 ∈ L245 := sb246 _ h914
  have h918 : f355 q115 = .inl (E.2.2 3, 3, .inl (fun _ => 0)) := ((congrFun ef355 q115).trans (va_up_ne _ _ (g_neAO h916 h353))).trans h916
  have h919 : f359 q115 = .inl (E.2.2 3, 3, .inl (fun _ => 0)) := ((congrFun ef359 q115).trans (va_up_ne _ _ (g_neL h917 n358))).trans h918
  have h920 : q115 ∈ L360 := sb361 _ h917
  have h921 : f376 q115 = .inl (E.2.2 3, 3, .inl (fun _ => 0)) := ((congrFun ef376 q115).trans (va_up_ne _ _ (g_neAO h919 h374))).trans h919
  have h922 : f380 q115 = .inl (E.2.2 3, 3, .inl (fun _ => 0)) := ((congrFun ef380 q115).trans (va_up_ne _ _ (g_neL h920 n379))).trans h921
  have h923 : q115 ∈ L381 := sb382 _ h920
  have h924 : f401 q115 = .inl (E.2.2 3, 3, .inl (fun _ => 0)) := ((congrFun ef401 q115).trans (va_up_ne _ _ (g_neAO h922 h399))).trans h922
  have h925 : f405 q115 = .inl (E.2.2 3, 3, .inl (fun _ => 0)) := ((congrFun ef405 q115).trans (va_up_ne _ _ (g_neL h923 n404))).trans h924
  have h926 : q115 ∈ L406 := sb407 _ h923
  have h927 : f412 q115 = .inl (E.2.2 3, 3, .inl (fun _ => 0)) := ((congrFun ef412 q115).trans (va_up_ne _ _ (g_neAO h925 h410))).trans h925
  have h928 : f416 q115 = .inl (E.2.2 3, 3, .inl (fun _ => 0)) := ((congrFun ef416 q115).trans (va_up_ne _ _ (g_neL h926 n415))).trans h927
  have h929 : q115 ∈ L417 := sb418 _ h926
  have h930 : f423 q115 = .inl (E.2.2 3, 3, .inl (fun _ => 0)) := ((congrFun ef423 q115).trans (va_up_ne _ _ (g_neAO h928 h421))).trans h928
  have h931 : f427 q115 = .inl (E.2.2 3, 3, .inl (fun _ => 0)) := ((congrFun ef427 q115).trans (va_up_ne _ _ (g_neL h929 n426))).trans h930
  have h932 : q115 ∈ L428 := sb429 _ h929
  have h933 : f436 q115 = .inl (E.2.2 3, 3, .inl (fun _ => 0)) := ((congrFun ef436 q115).trans (va_up_ne _ _ (g_neAO h931 h434))).trans h931
  have h934 : f440 q115 = .inl (E.2.2 3, 3, .inl (fun _ => 0)) := ((congrFun ef440 q115).trans (va_up_ne _ _ (g_neL h932 n439))).trans h933
  have h935 : q115 ∈ L441 := sb442 _ h932
  have h936 : f453 q115 = .inl (E.2.2 3, 3, .inl (fun _ => 0)) := ((congrFun ef453 q115).trans (va_up_ne _ _ (g_neAO h934 h451))).trans h934
  have h937 : f470 q115 = .inl (E.2.2 3, 3, .inl (fun _ => 0)) := ((congrFun ef470 q115).trans (va_up_ne _ _ (g_neN h936 h469 (by decide)))).trans h936
  have h938 : f473 q115 = .inl (E.2.2 3, 3, .inl (fun _ => 0)) := ((congrFun ef473 q115).trans (va_up_ne _ _ (g_neN h937 h471 (by decide)))).trans h937
  have h939 : f476 q115 = .inl (E.2.2 3, 3, .inl (fun _ => 0)) := ((congrFun ef476 q115).trans (va_up_ne _ _ (g_neN h938 h474 (by decide)))).trans h938
  have h940 : f479 q115 = .inl (E.2.2 3, 3, .inl (fun _ => 0)) := ((congrFun ef479 q115).trans (va_up_ne _ _ (g_neN h939 h477 (by decide)))).trans h939
  refine ⟨⟨fun i => [0, q1, q12, q25, q36, q47, 0, 0, 0, 0, 0, 0, 0, 0, 0, 0, q60, q71, q82, q93, q104, q115, 0, 0, 0, q126, q154, q165, q178, q207, q218, q229, q242, q357, q378, q403, 0, 0, q414, 0, 0, q425, q438, 0, 0, 0, 0, 0].getD i 0, _, h452, h481, h468, h480, h495, h500, h567, h572, h633, h638, h670, h675, h729, h734, h785, h790, h838, h843, h888, h893, h935, h940, ?_⟩, ?_, ?_⟩
  · intro k hk
    rcases (show k = 0 ∨ k = 1 ∨ k = 2 ∨ k = 3 by omega) with rfl | rfl | rfl | rfl <;> decide
  · exact fun b hb => (sb442 _ (sb429 _ (sb418 _ (sb407 _ (sb382 _ (sb361 _ (sb246 _ (sb233 _ (sb222 _ (sb211 _ (sb182 _ (sb169 _ (sb158 _ (sb130 _ (sb119 _ (sb108 _ (sb97 _ (sb86 _ (sb75 _ (sb64 _ (sb51 _ (sb40 _ (sb29 _ (sb16 _ (sb5 _ hb)))))))))))))))))))))))))
  · intro b hb hbq
    have h941 : b ≠ q1 := g_neL hb n2
    have h942 : f3 b = f b := ((congrFun ef3 b).trans (va_up_ne _ _ (g_neL hb n2))).trans rfl
    have h943 : b ∈ L4 := sb5 _ hb
    have h944 : f10 b = f b := ((congrFun ef10 b).trans (va_up_ne _ _ hbq)).trans h942
    have h945 : b ≠ q12 := g_neL h943 n13
    have h946 : f14 b = f b := ((congrFun ef14 b).trans (va_up_ne _ _ (g_neL h943 n13))).trans h944
    have h947 : b ∈ L15 := sb16 _ h943
    have h948 : f23 b = f b := ((congrFun ef23 b).trans (va_up_ne _ _ hbq)).trans h946
    have h949 : b ≠ q25 := g_neL h947 n26
    have h950 : f27 b = f b := ((congrFun ef27 b).trans (va_up_ne _ _ (g_neL h947 n26))).trans h948
    have h951 : b ∈ L28 := sb29 _ h947
    have h952 : f34 b = f b := ((congrFun ef34 b).trans (va_up_ne _ _ hbq)).trans h950
    have h953 : b ≠ q36 := g_neL h951 n37
    have h954 : f38 b = f b := ((congrFun ef38 b).trans (va_up_ne _ _ (g_neL h951 n37))).trans h952
    have h955 : b ∈ L39 := sb40 _ h951
    have h956 : f45 b = f b := ((congrFun ef45 b).trans (va_up_ne _ _ hbq)).trans h954
    have h957 : b ≠ q47 := g_neL h955 n48
    have h958 : f49 b = f b := ((congrFun ef49 b).trans (va_up_ne _ _ (g_neL h955 n48))).trans h956
    have h959 : b ∈ L50 := sb51 _ h955
    have h960 : f56 b = f b := ((congrFun ef56 b).trans (va_up_ne _ _ hbq)).trans h958
    have h961 : f58 b = f b := ((congrFun ef58 b).trans (va_up_ne _ _ hbq)).trans h960
    have h962 : b ≠ q60 := g_neL h959 n61
    have h963 : f62 b = f b := ((congrFun ef62 b).trans (va_up_ne _ _ (g_neL h959 n61))).trans h961
    have h964 : b ∈ L63 := sb64 _ h959
    have h965 : f69 b = f b := ((congrFun ef69 b).trans (va_up_ne _ _ hbq)).trans h963
    have h966 : b ≠ q71 := g_neL h964 n72
    have h967 : f73 b = f b := ((congrFun ef73 b).trans (va_up_ne _ _ (g_neL h964 n72))).trans h965
    have h968 : b ∈ L74 := sb75 _ h964
    have h969 : f80 b = f b := ((congrFun ef80 b).trans (va_up_ne _ _ hbq)).trans h967
    have h970 : b ≠ q82 := g_neL h968 n83
    have h971 : f84 b = f b := ((congrFun ef84 b).trans (va_up_ne _ _ (g_neL h968 n83))).trans h969
    have h972 : b ∈ L85 := sb86 _ h968
    have h973 : f91 b = f b := ((congrFun ef91 b).trans (va_up_ne _ _ hbq)).trans h971
    have h974 : b ≠ q93 := g_neL h972 n94
    have h975 : f95 b = f b := ((congrFun ef95 b).trans (va_up_ne _ _ (g_neL h972 n94))).trans h973
    have h976 : b ∈ L96 := sb97 _ h972
    have h977 : f102 b = f b := ((congrFun ef102 b).trans (va_up_ne _ _ hbq)).trans h975
    have h978 : b ≠ q104 := g_neL h976 n105
    have h979 : f106 b = f b := ((congrFun ef106 b).trans (va_up_ne _ _ (g_neL h976 n105))).trans h977
    have h980 : b ∈ L107 := sb108 _ h976
    have h981 : f113 b = f b := ((congrFun ef113 b).trans (va_up_ne _ _ hbq)).trans h979
    have h982 : b ≠ q115 := g_neL h980 n116
    have h983 : f117 b = f b := ((congrFun ef117 b).trans (va_up_ne _ _ (g_neL h980 n116))).trans h981
    have h984 : b ∈ L118 := sb119 _ h980
    have h985 : f124 b = f b := ((congrFun ef124 b).trans (va_up_ne _ _ hbq)).trans h983
    have h986 : b ≠ q126 := g_neL h984 n127
    have h987 : f128 b = f b := ((congrFun ef128 b).trans (va_up_ne _ _ (g_neL h984 n127))).trans h985
    have h988 : b ∈ L129 := sb130 _ h984
    have h989 : f152 b = f b := ((congrFun ef152 b).trans (va_up_ne _ _ hbq)).trans h987
    have h990 : b ≠ q154 := g_neL h988 n155
    have h991 : f156 b = f b := ((congrFun ef156 b).trans (va_up_ne _ _ (g_neL h988 n155))).trans h989
    have h992 : b ∈ L157 := sb158 _ h988
    have h993 : f163 b = f b := ((congrFun ef163 b).trans (va_up_ne _ _ hbq)).trans h991
    have h994 : b ≠ q165 := g_neL h992 n166
    have h995 : f167 b = f b := ((congrFun ef167 b).trans (va_up_ne _ _ (g_neL h992 n166))).trans h993
    have h996 : b ∈ L168 := sb169 _ h992
    have h997 : f176 b = f b := ((congrFun ef176 b).trans (va_up_ne _ _ hbq)).trans h995
    have h998 : b ≠ q178 := g_neL h996 n179
    have h999 : f180 b = f b := ((congrFun ef180 b).trans (va_up_ne _ _ (g_neL h996 n179))).trans h997
    have h1000 : b ∈ L181 := sb182 _ h996
    have h1001 : f205 b = f b := ((congrFun ef205 b).trans (va_up_ne _ _ hbq)).trans h999
    have h1002 : b ≠ q207 := g_neL h1000 n208
    have h1003 : f209 b = f b := ((congrFun ef209 b).trans (va_up_ne _ _ (g_neL h1000 n208))).trans h1001
    have h1004 : b ∈ L210 := sb211 _ h1000
    have h1005 : f216 b = f b := ((congrFun ef216 b).trans (va_up_ne _ _ hbq)).trans h1003
    have h1006 : b ≠ q218 := g_neL h1004 n219
    have h1007 : f220 b = f b := ((congrFun ef220 b).trans (va_up_ne _ _ (g_neL h1004 n219))).trans h1005
    have h1008 : b ∈ L221 := sb222 _ h1004
    have h1009 : f227 b = f b := ((congrFun ef227 b).trans (va_up_ne _ _ hbq)).trans h1007
    have h1010 : b ≠ q229 := g_neL h1008 n230
    have h1011 : f231 b = f b := ((congrFun ef231 b).trans (va_up_ne _ _ (g_neL h1008 n230))).trans h1009
    have h1012 : b ∈ L232 := sb233 _ h1008
    have h1013 : f240 b = f b := ((congrFun ef240 b).trans (va_up_ne _ _ hbq)).trans h1011
    have h1014 : b ≠ q242 := g_neL h1012 n243
    have h1015 : f244 b = f b := ((congrFun ef244 b).trans (va_up_ne _ _ (g_neL h1012 n243))).trans h1013
    have h1016 : b ∈ L245 := sb246 _ h1012
    have h1017 : f355 b = f b := ((congrFun ef355 b).trans (va_up_ne _ _ hbq)).trans h1015
    have h1018 : b ≠ q357 := g_neL h1016 n358
    have h1019 : f359 b = f b := ((congrFun ef359 b).trans (va_up_ne _ _ (g_neL h1016 n358))).trans h1017
    have h1020 : b ∈ L360 := sb361 _ h1016
    have h1021 : f376 b = f b := ((congrFun ef376 b).trans (va_up_ne _ _ hbq)).trans h1019
    have h1022 : b ≠ q378 := g_neL h1020 n379
    have h1023 : f380 b = f b := ((congrFun ef380 b).trans (va_up_ne _ _ (g_neL h1020 n379))).trans h1021
    have h1024 : b ∈ L381 := sb382 _ h1020
    have h1025 : f401 b = f b := ((congrFun ef401 b).trans (va_up_ne _ _ hbq)).trans h1023
    have h1026 : b ≠ q403 := g_neL h1024 n404
    have h1027 : f405 b = f b := ((congrFun ef405 b).trans (va_up_ne _ _ (g_neL h1024 n404))).trans h1025
    have h1028 : b ∈ L406 := sb407 _ h1024
    have h1029 : f412 b = f b := ((congrFun ef412 b).trans (va_up_ne _ _ hbq)).trans h1027
    have h1030 : b ≠ q414 := g_neL h1028 n415
    have h1031 : f416 b = f b := ((congrFun ef416 b).trans (va_up_ne _ _ (g_neL h1028 n415))).trans h1029
    have h1032 : b ∈ L417 := sb418 _ h1028
    have h1033 : f423 b = f b := ((congrFun ef423 b).trans (va_up_ne _ _ hbq)).trans h1031
    have h1034 : b ≠ q425 := g_neL h1032 n426
    have h1035 : f427 b = f b := ((congrFun ef427 b).trans (va_up_ne _ _ (g_neL h1032 n426))).trans h1033
    have h1036 : b ∈ L428 := sb429 _ h1032
    have h1037 : f436 b = f b := ((congrFun ef436 b).trans (va_up_ne _ _ hbq)).trans h1035
    have h1038 : b ≠ q438 := g_neL h1036 n439
    have h1039 : f440 b = f b := ((congrFun ef440 b).trans (va_up_ne _ _ (g_neL h1036 n439))).trans h1037
    have h1040 : b ∈ L441 := sb442 _ h1036
    have h1041 : f453 b = f b := ((congrFun ef453 b).trans (va_up_ne _ _ hbq)).trans h1039
    have h1042 : f470 b = f b := ((congrFun ef470 b).trans (va_up_ne _ _ h941)).trans h1041
    have h1043 : f473 b = f b := ((congrFun ef473 b).trans (va_up_ne _ _ h941)).trans h1042
    have h1044 : f476 b = f b := ((congrFun ef476 b).trans (va_up_ne _ _ h941)).trans h1043
    have h1045 : f479 b = f b := ((congrFun ef479 b).trans (va_up_ne _ _ h941)).trans h1044
    exact h1045
