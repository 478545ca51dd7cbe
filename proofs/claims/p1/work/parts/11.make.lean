theorem g_re {E : gE} {A : Nat → Prop} {L L2 : List Nat} {f f2 : gF} {H0 H : Heap} {locs : List Loc} (e : f2 = f) (eL : L2 = L) (h : gH E A L f H0 H locs) : gH E A L2 f2 H0 H locs := by
  subst e
  subst eL
  exact h
theorem g_neP {f : gF} {a b n m : Nat} {cA cB : ClassId} {x : Nat → Int32} {y : (Nat → Int64) ⊕ ((Nat → UInt32) ⊕ ((Nat → UInt64) ⊕ (Nat → Option Nat)))} (h1 : f a = .inl (cA, n, .inl x)) (h2 : f b = .inl (cB, m, .inr y)) : a ≠ b := g_ne h1 h2 (fun e => nomatch (congrArg (fun q : ClassId × vp_A => q.2.2) (Sum.inl.inj e)))
theorem g_nePr {f : gF} {a b n m : Nat} {cA cB : ClassId} {x : Nat → Int32} {y : (Nat → Int64) ⊕ ((Nat → UInt32) ⊕ ((Nat → UInt64) ⊕ (Nat → Option Nat)))} (h1 : f a = .inl (cA, n, .inr y)) (h2 : f b = .inl (cB, m, .inl x)) : a ≠ b := (g_neP h2 h1).symm
theorem gArrs_grow {E : gE} {L L2 : List Nat} {f f2 : gF} {na : Nat → Nat} {q : Nat} {y : va_E} (e : f2 = va_up f q y) (eL : L2 = L ++ [q]) (hq : q ∉ L) (h : gArrs E L f na) : gArrs E L2 f2 na := fun i hi => by
  obtain ⟨h1, v, h2⟩ := h i hi
  exact ⟨by rw [eL]; exact List.mem_append_left _ h1, v, ((congrFun e _).trans (va_up_ne _ _ (g_neL h1 hq))).trans h2⟩
theorem gArrs_sub {E : gE} {L L1 : List Nat} {f f1 : gF} {na : Nat → Nat} {q ci : Nat} {x : List Value} (hs : ∀ b ∈ L, b ∈ L1) (hk : ∀ b ∈ L, b ≠ q → f1 b = f b) (hq : f q = .inr (ci, x)) (h : gArrs E L f na) : gArrs E L1 f1 na := fun i hi => by
  obtain ⟨h1, v, h2⟩ := h i hi
  exact ⟨hs _ h1, v, (hk _ h1 (g_neAO h2 hq)).trans h2⟩
theorem gArrs_upQ {E : gE} {L : List Nat} {f f2 : gF} {na : Nat → Nat} {q n : Nat} {cA : ClassId} {y : (Nat → Int64) ⊕ ((Nat → UInt32) ⊕ ((Nat → UInt64) ⊕ (Nat → Option Nat)))} {z : va_E} (e : f2 = va_up f q z) (hq : f q = .inl (cA, n, .inr y)) (h : gArrs E L f na) : gArrs E L f2 na := fun i hi => by
  obtain ⟨h1, v, h2⟩ := h i hi
  exact ⟨h1, v, ((congrFun e _).trans (va_up_ne _ _ (g_neP h2 hq))).trans h2⟩
def gFresh (E : gE) (L : List Nat) (f : gF) (x : Nat) : Prop := ∃ (xt xn xr xi xw xs xl xc xh xf xm xb xd lf ll : Nat) (na da : Nat → Nat) (wv iv : Nat → Option Nat), x ∈ L ∧ f x = .inr (9, [.ref xt, .ref xn, .ref xr, .ref xi, .ref xw, .ref xs, .ref xl, .ref xc, .ref xh, .ref xf, .ref xm]) ∧ xt ∈ L ∧ f xt = .inr (8, [.ref xb, .int (0 : Int32)]) ∧ xb ∈ L ∧ f xb = .inl (E.2.2 0, 800, .inl (fun _ => 0)) ∧ xn ∈ L ∧ f xn = .inr (3, [.int (0 : Int32), .int (0 : Int32), .int (0 : Int32), .int (0 : Int32), .int (0 : Int32), .int (0 : Int32), .int (0 : Int32), .int (0 : Int32), .int (0 : Int32), .int (0 : Int32), .ref (na 0), .ref (na 1), .ref (na 2), .ref (na 3), .ref (na 4), .ref (na 5), .ref (na 6), .ref (na 7), .ref (na 8), .ref (na 9)]) ∧ xr ∈ L ∧ f xr = .inr (5, [.ref xt, .ref xd, .int (0 : Int32), .int (0 : Int32), .int (0 : Int32), .int (0 : Int32), .int (-1 : Int32)]) ∧ xd ∈ L ∧ f xd = .inr (3, [.int (0 : Int32), .int (0 : Int32), .int (0 : Int32), .int (0 : Int32), .int (0 : Int32), .int (0 : Int32), .int (0 : Int32), .int (0 : Int32), .int (0 : Int32), .int (0 : Int32), .ref (da 0), .ref (da 1), .ref (da 2), .ref (da 3), .ref (da 4), .ref (da 5), .ref (da 6), .ref (da 7), .ref (da 8), .ref (da 9)]) ∧ xl ∈ L ∧ f xl = .inr (4, [.ref xn, .ref xs, .ref lf, .ref ll, .int (0 : Int32)]) ∧ xw ∈ L ∧ f xw = .inl (E.2.2 5, 4, .inr (.inr (.inr (.inr wv)))) ∧ xi ∈ L ∧ f xi = .inl (E.2.2 4, 3, .inr (.inr (.inr (.inr iv)))) ∧ xm ∈ L ∧ f xm = .inl (E.2.2 3, 3, .inl (fun _ => 0)) ∧ gArrs E L f na ∧ gArrs E L f da ∧ xn ≠ xd ∧ gRows E L f wv ∧ gImgs E L f iv xn
set_option maxHeartbeats 4000000 in
set_option maxRecDepth 100000 in
theorem k_Land (l : Launch) (E : gE) (L : List Nat) (f : gF) {q : Nat} (mq : q ∈ L) (fq : f q = .inr (3, [.int (0 : Int32), .int (0 : Int32), .int (0 : Int32), .int (0 : Int32), .int (0 : Int32), .int (0 : Int32), .int (0 : Int32), .int (0 : Int32), .int (0 : Int32), .int (0 : Int32), .null, .null, .null, .null, .null, .null, .null, .null, .null, .null])) : gMv l E yX3_init cX3_init 1 (gRm 1 10 210) [.ref q] L f (fun L1 f1 => ∃ na : Nat → Nat, f1 q = .inr (3, [.int (0 : Int32), .int (0 : Int32), .int (0 : Int32), .int (0 : Int32), .int (0 : Int32), .int (0 : Int32), .int (0 : Int32), .int (0 : Int32), .int (0 : Int32), .int (0 : Int32), .ref (na 0), .ref (na 1), .ref (na 2), .ref (na 3), .ref (na 4), .ref (na 5), .ref (na 6), .ref (na 7), .ref (na 8), .ref (na 9)]) ∧ gArrs E L1 f1 na ∧ (∀ b ∈ L, b ∈ L1) ∧ (∀ b ∈ L, b ≠ q → f1 b = f b)) := by
  refine gMv.intro (by decide) (Nat.le_of_ble_eq_true rfl) ?_
  intro p e s m below meth c A ls C hr hnm hA hH hl
  have C : gC E cX3_init 1 RX3 p s m _ meth c := C
  have hl : lv_has ls 1 [(0, .ref q)] := hl
  have hx := C.1
  have hb := C.2.1
  refine lv_aload_n hx hb dX3_init_0 rfl (lv_at hl 0 rfl) ?_
  refine g_obj C hl.1 wd153 wd154 wd155 dX3_init_1 (Nat.le_of_ble_eq_true rfl) (Nat.le_of_ble_eq_true rfl) ?_
  refine lv_aload_n hx hb dX3_init_4 rfl (lv_at hl 0 rfl) ?_
  refine lv_iconst (v := (4 : Int32)) hx hb dX3_init_5 (by decide) ?_
  refine g_newa C hH hA 1 rfl (fun _ _ h => h) wd156 rfl (N' := 4) (a0 := (4, (.inl (fun _ => 0)))) (avI 4) (by decide) (by decide) (Nat.le_of_ble_eq_true rfl) (Nat.le_of_ble_eq_true rfl) (Nat.le_of_ble_eq_true rfl) dX3_init_6 (fun q1 H n2 hH => ?_)
  obtain ⟨f3, ef3⟩ : ∃ z : gF, z = va_up f q1 (.inl (E.2.2 1, 4, .inl (fun _ => 0))) := ⟨_, rfl⟩
  obtain ⟨L4, eL4⟩ : ∃ z : List Nat, z = L ++ [q1] := ⟨_, rfl⟩
  have hH := g_re ef3 eL4 hH
  have sb5 : ∀ b ∈ L, b ∈ L4 := fun b h => by rw [eL4]; exact List.mem_append_left _ h
  have h6 : q1 ∈ L4 := by rw [eL4]; exact List.mem_append_right _ List.mem_cons_self
  have h7 : f3 q1 = .inl (E.2.2 1, 4, .inl (fun _ => 0)) := (congrFun ef3 q1).trans (va_up_self _ _ _)
  have h8 : f3 q = .inr (3, [.int (0 : Int32), .int (0 : Int32), .int (0 : Int32), .int (0 : Int32), .int (0 : Int32), .int (0 : Int32), .int (0 : Int32), .int (0 : Int32), .int (0 : Int32), .int (0 : Int32), .null, .null, .null, .null, .null, .null, .null, .null, .null, .null]) := ((congrFun ef3 q).trans (va_up_ne _ _ (g_neL mq n2))).trans fq
  have h9 : q ∈ L4 := sb5 _ mq
  refine g_putF C hH h9 h8 iX3 tyX3 tyX3_ok nmX3 rfl 10 (by decide) wd100 rfl rfl hnm rfl rfl rfl (Nat.le_of_ble_eq_true rfl) (fs' := [.int (0 : Int32), .int (0 : Int32), .int (0 : Int32), .int (0 : Int32), .int (0 : Int32), .int (0 : Int32), .int (0 : Int32), .int (0 : Int32), .int (0 : Int32), .int (0 : Int32), .ref q1, .null, .null, .null, .null, .null, .null, .null, .null, .null]) rfl dX3_init_8 (fun H locs hH => ?_)
  obtain ⟨f10, ef10⟩ : ∃ z : gF, z = va_up f3 q (.inr (3, [.int (0 : Int32), .int (0 : Int32), .int (0 : Int32), .int (0 : Int32), .int (0 : Int32), .int (0 : Int32), .int (0 : Int32), .int (0 : Int32), .int (0 : Int32), .int (0 : Int32), .ref q1, .null, .null, .null, .null, .null, .null, .null, .null, .null])) := ⟨_, rfl⟩
  have hH : gH E A L4 f10 s.heap H locs := by rw [ef10]; exact hH
  have h11 : f10 q = .inr (3, [.int (0 : Int32), .int (0 : Int32), .int (0 : Int32), .int (0 : Int32), .int (0 : Int32), .int (0 : Int32), .int (0 : Int32), .int (0 : Int32), .int (0 : Int32), .int (0 : Int32), .ref q1, .null, .null, .null, .null, .null, .null, .null, .null, .null]) := (congrFun ef10 q).trans (va_up_self _ _ _)
  refine lv_aload_n hx hb dX3_init_11 rfl (lv_at hl 0 rfl) ?_
  refine lv_iconst (v := (4 : Int32)) hx hb dX3_init_12 (by decide) ?_
  refine g_newa C hH hA 1 rfl (fun _ _ h => h) wd156 rfl (N' := 4) (a0 := (4, (.inl (fun _ => 0)))) (avI 4) (by decide) (by decide) (Nat.le_of_ble_eq_true rfl) (Nat.le_of_ble_eq_true rfl) (Nat.le_of_ble_eq_true rfl) dX3_init_13 (fun q12 H n13 hH => ?_)
  obtain ⟨f14, ef14⟩ : ∃ z : gF, z = va_up f10 q12 (.inl (E.2.2 1, 4, .inl (fun _ => 0))) := ⟨_, rfl⟩
  obtain ⟨L15, eL15⟩ : ∃ z : List Nat, z = L4 ++ [q12] := ⟨_, rfl⟩
  have hH := g_re ef14 eL15 hH
  have sb16 : ∀ b ∈ L4, b ∈ L15 := fun b h => by rw [eL15]; exact List.mem_append_left _ h
  have h17 : q12 ∈ L15 := by rw [eL15]; exact List.mem_append_right _ List.mem_cons_self
  have h18 : f14 q12 = .inl (E.2.2 1, 4, .inl (fun _ => 0)) := (congrFun ef14 q12).trans (va_up_self _ _ _)
  have h19 : f14 q = .inr (3, [.int (0 : Int32), .int (0 : Int32), .int (0 : Int32), .int (0 : Int32), .int (0 : Int32), .int (0 : Int32), .int (0 : Int32), .int (0 : Int32), .int (0 : Int32), .int (0 : Int32), .ref q1, .null, .null, .null, .null, .null, .null, .null, .null, .null]) := ((congrFun ef14 q).trans (va_up_ne _ _ (g_neL h9 n13))).trans h11
  have h20 : q ∈ L15 := sb16 _ h9
  refine g_putF C hH h20 h19 iX3 tyX3 tyX3_ok nmX3 rfl 11 (by decide) wd105 rfl rfl hnm rfl rfl rfl (Nat.le_of_ble_eq_true rfl) (fs' := [.int (0 : Int32), .int (0 : Int32), .int (0 : Int32), .int (0 : Int32), .int (0 : Int32), .int (0 : Int32), .int (0 : Int32), .int (0 : Int32), .int (0 : Int32), .int (0 : Int32), .ref q1, .ref q12, .null, .null, .null, .null, .null, .null, .null, .null]) rfl dX3_init_15 (fun H locs hH => ?_)
  obtain ⟨f21, ef21⟩ : ∃ z : gF, z = va_up f14 q (.inr (3, [.int (0 : Int32), .int (0 : Int32), .int (0 : Int32), .int (0 : Int32), .int (0 : Int32), .int (0 : Int32), .int (0 : Int32), .int (0 : Int32), .int (0 : Int32), .int (0 : Int32), .ref q1, .ref q12, .null, .null, .null, .null, .null, .null, .null, .null])) := ⟨_, rfl⟩
  have hH : gH E A L15 f21 s.heap H locs := by rw [ef21]; exact hH
  have h22 : f21 q = .inr (3, [.int (0 : Int32), .int (0 : Int32), .int (0 : Int32), .int (0 : Int32), .int (0 : Int32), .int (0 : Int32), .int (0 : Int32), .int (0 : Int32), .int (0 : Int32), .int (0 : Int32), .ref q1, .ref q12, .null, .null, .null, .null, .null, .null, .null, .null]) := (congrFun ef21 q).trans (va_up_self _ _ _)
  refine lv_aload_n hx hb dX3_init_18 rfl (lv_at hl 0 rfl) ?_
  refine lv_iconst (v := (4 : Int32)) hx hb dX3_init_19 (by decide) ?_
  refine g_newa C hH hA 1 rfl (fun _ _ h => h) wd156 rfl (N' := 4) (a0 := (4, (.inl (fun _ => 0)))) (avI 4) (by decide) (by decide) (Nat.le_of_ble_eq_true rfl) (Nat.le_of_ble_eq_true rfl) (Nat.le_of_ble_eq_true rfl) dX3_init_20 (fun q23 H n24 hH => ?_)
  obtain ⟨f25, ef25⟩ : ∃ z : gF, z = va_up f21 q23 (.inl (E.2.2 1, 4, .inl (fun _ => 0))) := ⟨_, rfl⟩
  obtain ⟨L26, eL26⟩ : ∃ z : List Nat, z = L15 ++ [q23] := ⟨_, rfl⟩
  have hH := g_re ef25 eL26 hH
  have sb27 : ∀ b ∈ L15, b ∈ L26 := fun b h => by rw [eL26]; exact List.mem_append_left _ h
  have h28 : q23 ∈ L26 := by rw [eL26]; exact List.mem_append_right _ List.mem_cons_self
  have h29 : f25 q23 = .inl (E.2.2 1, 4, .inl (fun _ => 0)) := (congrFun ef25 q23).trans (va_up_self _ _ _)
  have h30 : f25 q = .inr (3, [.int (0 : Int32), .int (0 : Int32), .int (0 : Int32), .int (0 : Int32), .int (0 : Int32), .int (0 : Int32), .int (0 : Int32), .int (0 : Int32), .int (0 : Int32), .int (0 : Int32), .ref q1, .ref q12, .null, .null, .null, .null, .null, .null, .null, .null]) := ((congrFun ef25 q).trans (va_up_ne _ _ (g_neL h20 n24))).trans h22
  have h31 : q ∈ L26 := sb27 _ h20
  refine g_putF C hH h31 h30 iX3 tyX3 tyX3_ok nmX3 rfl 12 (by decide) wd106 rfl rfl hnm rfl rfl rfl (Nat.le_of_ble_eq_true rfl) (fs' := [.int (0 : Int32), .int (0 : Int32), .int (0 : Int32), .int (0 : Int32), .int (0 : Int32), .int (0 : Int32), .int (0 : Int32), .int (0 : Int32), .int (0 : Int32), .int (0 : Int32), .ref q1, .ref q12, .ref q23, .null, .null, .null, .null, .null, .null, .null]) rfl dX3_init_22 (fun H locs hH => ?_)
  obtain ⟨f32, ef32⟩ : ∃ z : gF, z = va_up f25 q (.inr (3, [.int (0 : Int32), .int (0 : Int32), .int (0 : Int32), .int (0 : Int32), .int (0 : Int32), .int (0 : Int32), .int (0 : Int32), .int (0 : Int32), .int (0 : Int32), .int (0 : Int32), .ref q1, .ref q12, .ref q23, .null, .null, .null, .null, .null, .null, .null])) := ⟨_, rfl⟩
  have hH : gH E A L26 f32 s.heap H locs := by rw [ef32]; exact hH
  have h33 : f32 q = .inr (3, [.int (0 : Int32), .int (0 : Int32), .int (0 : Int32), .int (0 : Int32), .int (0 : Int32), .int (0 : Int32), .int (0 : Int32), .int (0 : Int32), .int (0 : Int32), .int (0 : Int32), .ref q1, .ref q12, .ref q23, .null, .null, .null, .null, .null, .null, .null]) := (congrFun ef32 q).trans (va_up_self _ _ _)
  refine lv_aload_n hx hb dX3_init_25 rfl (lv_at hl 0 rfl) ?_
  refine lv_bipush (v := (6 : Int32)) hx hb dX3_init_26 (by decide) ?_
  refine g_newa C hH hA 1 rfl (fun _ _ h => h) wd156 rfl (N' := 6) (a0 := (6, (.inl (fun _ => 0)))) (avI 6) (by decide) (by decide) (Nat.le_of_ble_eq_true rfl) (Nat.le_of_ble_eq_true rfl) (Nat.le_of_ble_eq_true rfl) dX3_init_28 (fun q34 H n35 hH => ?_)
  obtain ⟨f36, ef36⟩ : ∃ z : gF, z = va_up f32 q34 (.inl (E.2.2 1, 6, .inl (fun _ => 0))) := ⟨_, rfl⟩
  obtain ⟨L37, eL37⟩ : ∃ z : List Nat, z = L26 ++ [q34] := ⟨_, rfl⟩
  have hH := g_re ef36 eL37 hH
  have sb38 : ∀ b ∈ L26, b ∈ L37 := fun b h => by rw [eL37]; exact List.mem_append_left _ h
  have h39 : q34 ∈ L37 := by rw [eL37]; exact List.mem_append_right _ List.mem_cons_self
  have h40 : f36 q34 = .inl (E.2.2 1, 6, .inl (fun _ => 0)) := (congrFun ef36 q34).trans (va_up_self _ _ _)
  have h41 : f36 q = .inr (3, [.int (0 : Int32), .int (0 : Int32), .int (0 : Int32), .int (0 : Int32), .int (0 : Int32), .int (0 : Int32), .int (0 : Int32), .int (0 : Int32), .int (0 : Int32), .int (0 : Int32), .ref q1, .ref q12, .ref q23, .null, .null, .null, .null, .null, .null, .null]) := ((congrFun ef36 q).trans (va_up_ne _ _ (g_neL h31 n35))).trans h33
  have h42 : q ∈ L37 := sb38 _ h31
  refine g_putF C hH h42 h41 iX3 tyX3 tyX3_ok nmX3 rfl 13 (by decide) wd107 rfl rfl hnm rfl rfl rfl (Nat.le_of_ble_eq_true rfl) (fs' := [.int (0 : Int32), .int (0 : Int32), .int (0 : Int32), .int (0 : Int32), .int (0 : Int32), .int (0 : Int32), .int (0 : Int32), .int (0 : Int32), .int (0 : Int32), .int (0 : Int32), .ref q1, .ref q12, .ref q23, .ref q34, .null, .null, .null, .null, .null, .null]) rfl dX3_init_30 (fun H locs hH => ?_)
  obtain ⟨f43, ef43⟩ : ∃ z : gF, z = va_up f36 q (.inr (3, [.int (0 : Int32), .int (0 : Int32), .int (0 : Int32), .int (0 : Int32), .int (0 : Int32), .int (0 : Int32), .int (0 : Int32), .int (0 : Int32), .int (0 : Int32), .int (0 : Int32), .ref q1, .ref q12, .ref q23, .ref q34, .null, .null, .null, .null, .null, .null])) := ⟨_, rfl⟩
  have hH : gH E A L37 f43 s.heap H locs := by rw [ef43]; exact hH
  have h44 : f43 q = .inr (3, [.int (0 : Int32), .int (0 : Int32), .int (0 : Int32), .int (0 : Int32), .int (0 : Int32), .int (0 : Int32), .int (0 : Int32), .int (0 : Int32), .int (0 : Int32), .int (0 : Int32), .ref q1, .ref q12, .ref q23, .ref q34, .null, .null, .null, .null, .null, .null]) := (congrFun ef43 q).trans (va_up_self _ _ _)
  refine lv_aload_n hx hb dX3_init_33 rfl (lv_at hl 0 rfl) ?_
  refine lv_bipush (v := (6 : Int32)) hx hb dX3_init_34 (by decide) ?_
  refine g_newa C hH hA 1 rfl (fun _ _ h => h) wd156 rfl (N' := 6) (a0 := (6, (.inl (fun _ => 0)))) (avI 6) (by decide) (by decide) (Nat.le_of_ble_eq_true rfl) (Nat.le_of_ble_eq_true rfl) (Nat.le_of_ble_eq_true rfl) dX3_init_36 (fun q45 H n46 hH => ?_)
  obtain ⟨f47, ef47⟩ : ∃ z : gF, z = va_up f43 q45 (.inl (E.2.2 1, 6, .inl (fun _ => 0))) := ⟨_, rfl⟩
  obtain ⟨L48, eL48⟩ : ∃ z : List Nat, z = L37 ++ [q45] := ⟨_, rfl⟩
  have hH := g_re ef47 eL48 hH
  have sb49 : ∀ b ∈ L37, b ∈ L48 := fun b h => by rw [eL48]; exact List.mem_append_left _ h
  have h50 : q45 ∈ L48 := by rw [eL48]; exact List.mem_append_right _ List.mem_cons_self
  have h51 : f47 q45 = .inl (E.2.2 1, 6, .inl (fun _ => 0)) := (congrFun ef47 q45).trans (va_up_self _ _ _)
  have h52 : f47 q = .inr (3, [.int (0 : Int32), .int (0 : Int32), .int (0 : Int32), .int (0 : Int32), .int (0 : Int32), .int (0 : Int32), .int (0 : Int32), .int (0 : Int32), .int (0 : Int32), .int (0 : Int32), .ref q1, .ref q12, .ref q23, .ref q34, .null, .null, .null, .null, .null, .null]) := ((congrFun ef47 q).trans (va_up_ne _ _ (g_neL h42 n46))).trans h44
  have h53 : q ∈ L48 := sb49 _ h42
  refine g_putF C hH h53 h52 iX3 tyX3 tyX3_ok nmX3 rfl 14 (by decide) wd108 rfl rfl hnm rfl rfl rfl (Nat.le_of_ble_eq_true rfl) (fs' := [.int (0 : Int32), .int (0 : Int32), .int (0 : Int32), .int (0 : Int32), .int (0 : Int32), .int (0 : Int32), .int (0 : Int32), .int (0 : Int32), .int (0 : Int32), .int (0 : Int32), .ref q1, .ref q12, .ref q23, .ref q34, .ref q45, .null, .null, .null, .null, .null]) rfl dX3_init_38 (fun H locs hH => ?_)
  obtain ⟨f54, ef54⟩ : ∃ z : gF, z = va_up f47 q (.inr (3, [.int (0 : Int32), .int (0 : Int32), .int (0 : Int32), .int (0 : Int32), .int (0 : Int32), .int (0 : Int32), .int (0 : Int32), .int (0 : Int32), .int (0 : Int32), .int (0 : Int32), .ref q1, .ref q12, .ref q23, .ref q34, .ref q45, .null, .null, .null, .null, .null])) := ⟨_, rfl⟩
  have hH : gH E A L48 f54 s.heap H locs := by rw [ef54]; exact hH
  have h55 : f54 q = .inr (3, [.int (0 : Int32), .int (0 : Int32), .int (0 : Int32), .int (0 : Int32), .int (0 : Int32), .int (0 : Int32), .int (0 : Int32), .int (0 : Int32), .int (0 : Int32), .int (0 : Int32), .ref q1, .ref q12, .ref q23, .ref q34, .ref q45, .null, .null, .null, .null, .null]) := (congrFun ef54 q).trans (va_up_self _ _ _)
  refine lv_aload_n hx hb dX3_init_41 rfl (lv_at hl 0 rfl) ?_
  refine lv_bipush (v := (6 : Int32)) hx hb dX3_init_42 (by decide) ?_
  refine g_newa C hH hA 1 rfl (fun _ _ h => h) wd156 rfl (N' := 6) (a0 := (6, (.inl (fun _ => 0)))) (avI 6) (by decide) (by decide) (Nat.le_of_ble_eq_true rfl) (Nat.le_of_ble_eq_true rfl) (Nat.le_of_ble_eq_true rfl) dX3_init_44 (fun q56 H n57 hH => ?_)
  obtain ⟨f58, ef58⟩ : ∃ z : gF, z = va_up f54 q56 (.inl (E.2.2 1, 6, .inl (fun _ => 0))) := ⟨_, rfl⟩
  obtain ⟨L59, eL59⟩ : ∃ z : List Nat, z = L48 ++ [q56] := ⟨_, rfl⟩
  have hH := g_re ef58 eL59 hH
  have sb60 : ∀ b ∈ L48, b ∈ L59 := fun b h => by rw [eL59]; exact List.mem_append_left _ h
  have h61 : q56 ∈ L59 := by rw [eL59]; exact List.mem_append_right _ List.mem_cons_self
  have h62 : f58 q56 = .inl (E.2.2 1, 6, .inl (fun _ => 0)) := (congrFun ef58 q56).trans (va_up_self _ _ _)
  have h63 : f58 q = .inr (3, [.int (0 : Int32), .int (0 : Int32), .int (0 : Int32), .int (0 : Int32), .int (0 : Int32), .int (0 : Int32), .int (0 : Int32), .int (0 : Int32), .int (0 : Int32), .int (0 : Int32), .ref q1, .ref q12, .ref q23, .ref q34, .ref q45, .null, .null, .null, .null, .null]) := ((congrFun ef58 q).trans (va_up_ne _ _ (g_neL h53 n57))).trans h55
  have h64 : q ∈ L59 := sb60 _ h53
  refine g_putF C hH h64 h63 iX3 tyX3 tyX3_ok nmX3 rfl 15 (by decide) wd109 rfl rfl hnm rfl rfl rfl (Nat.le_of_ble_eq_true rfl) (fs' := [.int (0 : Int32), .int (0 : Int32), .int (0 : Int32), .int (0 : Int32), .int (0 : Int32), .int (0 : Int32), .int (0 : Int32), .int (0 : Int32), .int (0 : Int32), .int (0 : Int32), .ref q1, .ref q12, .ref q23, .ref q34, .ref q45, .ref q56, .null, .null, .null, .null]) rfl dX3_init_46 (fun H locs hH => ?_)
  obtain ⟨f65, ef65⟩ : ∃ z : gF, z = va_up f58 q (.inr (3, [.int (0 : Int32), .int (0 : Int32), .int (0 : Int32), .int (0 : Int32), .int (0 : Int32), .int (0 : Int32), .int (0 : Int32), .int (0 : Int32), .int (0 : Int32), .int (0 : Int32), .ref q1, .ref q12, .ref q23, .ref q34, .ref q45, .ref q56, .null, .null, .null, .null])) := ⟨_, rfl⟩
  have hH : gH E A L59 f65 s.heap H locs := by rw [ef65]; exact hH
  have h66 : f65 q = .inr (3, [.int (0 : Int32), .int (0 : Int32), .int (0 : Int32), .int (0 : Int32), .int (0 : Int32), .int (0 : Int32), .int (0 : Int32), .int (0 : Int32), .int (0 : Int32), .int (0 : Int32), .ref q1, .ref q12, .ref q23, .ref q34, .ref q45, .ref q56, .null, .null, .null, .null]) := (congrFun ef65 q).trans (va_up_self _ _ _)
  refine lv_aload_n hx hb dX3_init_49 rfl (lv_at hl 0 rfl) ?_
  refine lv_bipush (v := (40 : Int32)) hx hb dX3_init_50 (by decide) ?_
  refine g_newa C hH hA 1 rfl (fun _ _ h => h) wd156 rfl (N' := 40) (a0 := (40, (.inl (fun _ => 0)))) (avI 40) (by decide) (by decide) (Nat.le_of_ble_eq_true rfl) (Nat.le_of_ble_eq_true rfl) (Nat.le_of_ble_eq_true rfl) dX3_init_52 (fun q67 H n68 hH => ?_)
  obtain ⟨f69, ef69⟩ : ∃ z : gF, z = va_up f65 q67 (.inl (E.2.2 1, 40, .inl (fun _ => 0))) := ⟨_, rfl⟩
  obtain ⟨L70, eL70⟩ : ∃ z : List Nat, z = L59 ++ [q67] := ⟨_, rfl⟩
  have hH := g_re ef69 eL70 hH
  have sb71 : ∀ b ∈ L59, b ∈ L70 := fun b h => by rw [eL70]; exact List.mem_append_left _ h
  have h72 : q67 ∈ L70 := by rw [eL70]; exact List.mem_append_right _ List.mem_cons_self
  have h73 : f69 q67 = .inl (E.2.2 1, 40, .inl (fun _ => 0)) := (congrFun ef69 q67).trans (va_up_self _ _ _)
  have h74 : f69 q = .inr (3, [.int (0 : Int32), .int (0 : Int32), .int (0 : Int32), .int (0 : Int32), .int (0 : Int32), .int (0 : Int32), .int (0 : Int32), .int (0 : Int32), .int (0 : Int32), .int (0 : Int32), .ref q1, .ref q12, .ref q23, .ref q34, .ref q45, .ref q56, .null, .null, .null, .null]) := ((congrFun ef69 q).trans (va_up_ne _ _ (g_neL h64 n68))).trans h66
  have h75 : q ∈ L70 := sb71 _ h64
  refine g_putF C hH h75 h74 iX3 tyX3 tyX3_ok nmX3 rfl 16 (by decide) wd110 rfl rfl hnm rfl rfl rfl (Nat.le_of_ble_eq_true rfl) (fs' := [.int (0 : Int32), .int (0 : Int32), .int (0 : Int32), .int (0 : Int32), .int (0 : Int32), .int (0 : Int32), .int (0 : Int32), .int (0 : Int32), .int (0 : Int32), .int (0 : Int32), .ref q1, .ref q12, .ref q23, .ref q34, .ref q45, .ref q56, .ref q67, .null, .null, .null]) rfl dX3_init_54 (fun H locs hH => ?_)
  obtain ⟨f76, ef76⟩ : ∃ z : gF, z = va_up f69 q (.inr (3, [.int (0 : Int32), .int (0 : Int32), .int (0 : Int32), .int (0 : Int32), .int (0 : Int32), .int (0 : Int32), .int (0 : Int32), .int (0 : Int32), .int (0 : Int32), .int (0 : Int32), .ref q1, .ref q12, .ref q23, .ref q34, .ref q45, .ref q56, .ref q67, .null, .null, .null])) := ⟨_, rfl⟩
  have hH : gH E A L70 f76 s.heap H locs := by rw [ef76]; exact hH
  have h77 : f76 q = .inr (3, [.int (0 : Int32), .int (0 : Int32), .int (0 : Int32), .int (0 : Int32), .int (0 : Int32), .int (0 : Int32), .int (0 : Int32), .int (0 : Int32), .int (0 : Int32), .int (0 : Int32), .ref q1, .ref q12, .ref q23, .ref q34, .ref q45, .ref q56, .ref q67, .null, .null, .null]) := (congrFun ef76 q).trans (va_up_self _ _ _)
  refine lv_aload_n hx hb dX3_init_57 rfl (lv_at hl 0 rfl) ?_
  refine lv_bipush (v := (40 : Int32)) hx hb dX3_init_58 (by decide) ?_
  refine g_newa C hH hA 1 rfl (fun _ _ h => h) wd156 rfl (N' := 40) (a0 := (40, (.inl (fun _ => 0)))) (avI 40) (by decide) (by decide) (Nat.le_of_ble_eq_true rfl) (Nat.le_of_ble_eq_true rfl) (Nat.le_of_ble_eq_true rfl) dX3_init_60 (fun q78 H n79 hH => ?_)
  obtain ⟨f80, ef80⟩ : ∃ z : gF, z = va_up f76 q78 (.inl (E.2.2 1, 40, .inl (fun _ => 0))) := ⟨_, rfl⟩
  obtain ⟨L81, eL81⟩ : ∃ z : List Nat, z = L70 ++ [q78] := ⟨_, rfl⟩
  have hH := g_re ef80 eL81 hH
  have sb82 : ∀ b ∈ L70, b ∈ L81 := fun b h => by rw [eL81]; exact List.mem_append_left _ h
  have h83 : q78 ∈ L81 := by rw [eL81]; exact List.mem_append_right _ List.mem_cons_self
  have h84 : f80 q78 = .inl (E.2.2 1, 40, .inl (fun _ => 0)) := (congrFun ef80 q78).trans (va_up_self _ _ _)
  have h85 : f80 q = .inr (3, [.int (0 : Int32), .int (0 : Int32), .int (0 : Int32), .int (0 : Int32), .int (0 : Int32), .int (0 : Int32), .int (0 : Int32), .int (0 : Int32), .int (0 : Int32), .int (0 : Int32), .ref q1, .ref q12, .ref q23, .ref q34, .ref q45, .ref q56, .ref q67, .null, .null, .null]) := ((congrFun ef80 q).trans (va_up_ne _ _ (g_neL h75 n79))).trans h77
  have h86 : q ∈ L81 := sb82 _ h75
  refine g_putF C hH h86 h85 iX3 tyX3 tyX3_ok nmX3 rfl 17 (by decide) wd111 rfl rfl hnm rfl rfl rfl (Nat.le_of_ble_eq_true rfl) (fs' := [.int (0 : Int32), .int (0 : Int32), .int (0 : Int32), .int (0 : Int32), .int (0 : Int32), .int (0 : Int32), .int (0 : Int32), .int (0 : Int32), .int (0 : Int32), .int (0 : Int32), .ref q1, .ref q12, .ref q23, .ref q34, .ref q45, .ref q56, .ref q67, .ref q78, .null, .null]) rfl dX3_init_62 (fun H locs hH => ?_)
  obtain ⟨f87, ef87⟩ : ∃ z : gF, z = va_up f80 q (.inr (3, [.int (0 : Int32), .int (0 : Int32), .int (0 : Int32), .int (0 : Int32), .int (0 : Int32), .int (0 : Int32), .int (0 : Int32), .int (0 : Int32), .int (0 : Int32), .int (0 : Int32), .ref q1, .ref q12, .ref q23, .ref q34, .ref q45, .ref q56, .ref q67, .ref q78, .null, .null])) := ⟨_, rfl⟩
  have hH : gH E A L81 f87 s.heap H locs := by rw [ef87]; exact hH
  have h88 : f87 q = .inr (3, [.int (0 : Int32), .int (0 : Int32), .int (0 : Int32), .int (0 : Int32), .int (0 : Int32), .int (0 : Int32), .int (0 : Int32), .int (0 : Int32), .int (0 : Int32), .int (0 : Int32), .ref q1, .ref q12, .ref q23, .ref q34, .ref q45, .ref q56, .ref q67, .ref q78, .null, .null]) := (congrFun ef87 q).trans (va_up_self _ _ _)
  refine lv_aload_n hx hb dX3_init_65 rfl (lv_at hl 0 rfl) ?_
  refine lv_bipush (v := (20 : Int32)) hx hb dX3_init_66 (by decide) ?_
  refine g_newa C hH hA 1 rfl (fun _ _ h => h) wd156 rfl (N' := 20) (a0 := (20, (.inl (fun _ => 0)))) (avI 20) (by decide) (by decide) (Nat.le_of_ble_eq_true rfl) (Nat.le_of_ble_eq_true rfl) (Nat.le_of_ble_eq_true rfl) dX3_init_68 (fun q89 H n90 hH => ?_)
  obtain ⟨f91, ef91⟩ : ∃ z : gF, z = va_up f87 q89 (.inl (E.2.2 1, 20, .inl (fun _ => 0))) := ⟨_, rfl⟩
  obtain ⟨L92, eL92⟩ : ∃ z : List Nat, z = L81 ++ [q89] := ⟨_, rfl⟩
  have hH := g_re ef91 eL92 hH
  have sb93 : ∀ b ∈ L81, b ∈ L92 := fun b h => by rw [eL92]; exact List.mem_append_left _ h
  have h94 : q89 ∈ L92 := by rw [eL92]; exact List.mem_append_right _ List.mem_cons_self
  have h95 : f91 q89 = .inl (E.2.2 1, 20, .inl (fun _ => 0)) := (congrFun ef91 q89).trans (va_up_self _ _ _)
  have h96 : f91 q = .inr (3, [.int (0 : Int32), .int (0 : Int32), .int (0 : Int32), .int (0 : Int32), .int (0 : Int32), .int (0 : Int32), .int (0 : Int32), .int (0 : Int32), .int (0 : Int32), .int (0 : Int32), .ref q1, .ref q12, .ref q23, .ref q34, .ref q45, .ref q56, .ref q67, .ref q78, .null, .null]) := ((congrFun ef91 q).trans (va_up_ne _ _ (g_neL h86 n90))).trans h88
  have h97 : q ∈ L92 := sb93 _ h86
  refine g_putF C hH h97 h96 iX3 tyX3 tyX3_ok nmX3 rfl 18 (by decide) wd112 rfl rfl hnm rfl rfl rfl (Nat.le_of_ble_eq_true rfl) (fs' := [.int (0 : Int32), .int (0 : Int32), .int (0 : Int32), .int (0 : Int32), .int (0 : Int32), .int (0 : Int32), .int (0 : Int32), .int (0 : Int32), .int (0 : Int32), .int (0 : Int32), .ref q1, .ref q12, .ref q23, .ref q34, .ref q45, .ref q56, .ref q67, .ref q78, .ref q89, .null]) rfl dX3_init_70 (fun H locs hH => ?_)
  obtain ⟨f98, ef98⟩ : ∃ z : gF, z = va_up f91 q (.inr (3, [.int (0 : Int32), .int (0 : Int32), .int (0 : Int32), .int (0 : Int32), .int (0 : Int32), .int (0 : Int32), .int (0 : Int32), .int (0 : Int32), .int (0 : Int32), .int (0 : Int32), .ref q1, .ref q12, .ref q23, .ref q34, .ref q45, .ref q56, .ref q67, .ref q78, .ref q89, .null])) := ⟨_, rfl⟩
  have hH : gH E A L92 f98 s.heap H locs := by rw [ef98]; exact hH
  have h99 : f98 q = .inr (3, [.int (0 : Int32), .int (0 : Int32), .int (0 : Int32), .int (0 : Int32), .int (0 : Int32), .int (0 : Int32), .int (0 : Int32), .int (0 : Int32), .int (0 : Int32), .int (0 : Int32), .ref q1, .ref q12, .ref q23, .ref q34, .ref q45, .ref q56, .ref q67, .ref q78, .ref q89, .null]) := (congrFun ef98 q).trans (va_up_self _ _ _)
  refine lv_aload_n hx hb dX3_init_73 rfl (lv_at hl 0 rfl) ?_
  refine lv_bipush (v := (80 : Int32)) hx hb dX3_init_74 (by decide) ?_
  refine g_newa C hH hA 1 rfl (fun _ _ h => h) wd156 rfl (N' := 80) (a0 := (80, (.inl (fun _ => 0)))) (avI 80) (by decide) (by decide) (Nat.le_of_ble_eq_true rfl) (Nat.le_of_ble_eq_true rfl) (Nat.le_of_ble_eq_true rfl) dX3_init_76 (fun q100 H n101 hH => ?_)
  obtain ⟨f102, ef102⟩ : ∃ z : gF, z = va_up f98 q100 (.inl (E.2.2 1, 80, .inl (fun _ => 0))) := ⟨_, rfl⟩
  obtain ⟨L103, eL103⟩ : ∃ z : List Nat, z = L92 ++ [q100] := ⟨_, rfl⟩
  have hH := g_re ef102 eL103 hH
  have sb104 : ∀ b ∈ L92, b ∈ L103 := fun b h => by rw [eL103]; exact List.mem_append_left _ h
  have h105 : q100 ∈ L103 := by rw [eL103]; exact List.mem_append_right _ List.mem_cons_self
  have h106 : f102 q100 = .inl (E.2.2 1, 80, .inl (fun _ => 0)) := (congrFun ef102 q100).trans (va_up_self _ _ _)
  have h107 : f102 q = .inr (3, [.int (0 : Int32), .int (0 : Int32), .int (0 : Int32), .int (0 : Int32), .int (0 : Int32), .int (0 : Int32), .int (0 : Int32), .int (0 : Int32), .int (0 : Int32), .int (0 : Int32), .ref q1, .ref q12, .ref q23, .ref q34, .ref q45, .ref q56, .ref q67, .ref q78, .ref q89, .null]) := ((congrFun ef102 q).trans (va_up_ne _ _ (g_neL h97 n101))).trans h99
  have h108 : q ∈ L103 := sb104 _ h97
  refine g_putF C hH h108 h107 iX3 tyX3 tyX3_ok nmX3 rfl 19 (by decide) wd113 rfl rfl hnm rfl rfl rfl (Nat.le_of_ble_eq_true rfl) (fs' := [.int (0 : Int32), .int (0 : Int32), .int (0 : Int32), .int (0 : Int32), .int (0 : Int32), .int (0 : Int32), .int (0 : Int32), .int (0 : Int32), .int (0 : Int32), .int (0 : Int32), .ref q1, .ref q12, .ref q23, .ref q34, .ref q45, .ref q56, .ref q67, .ref q78, .ref q89, .ref q100]) rfl dX3_init_78 (fun H locs hH => ?_)
  obtain ⟨f109, ef109⟩ : ∃ z : gF, z = va_up f102 q (.inr (3, [.int (0 : Int32), .int (0 : Int32), .int (0 : Int32), .int (0 : Int32), .int (0 : Int32), .int (0 : Int32), .int (0 : Int32), .int (0 : Int32), .int (0 : Int32), .int (0 : Int32), .ref q1, .ref q12, .ref q23, .ref q34, .ref q45, .ref q56, .ref q67, .ref q78, .ref q89, .ref q100])) := ⟨_, rfl⟩
  have hH : gH E A L103 f109 s.heap H locs := by rw [ef109]; exact hH
  have h110 : f109 q = .inr (3, [.int (0 : Int32), .int (0 : Int32), .int (0 : Int32), .int (0 : Int32), .int (0 : Int32), .int (0 : Int32), .int (0 : Int32), .int (0 : Int32), .int (0 : Int32), .int (0 : Int32), .ref q1, .ref q12, .ref q23, .ref q34, .ref q45, .ref q56, .ref q67, .ref q78, .ref q89, .ref q100]) := (congrFun ef109 q).trans (va_up_self _ _ _)
  refine g_vret C hr hH (Nat.le_of_ble_eq_true rfl) (Nat.le_of_ble_eq_true rfl) dX3_init_81 ?_
  have h111 : f10 q1 = .inl (E.2.2 1, 4, .inl (fun _ => 0)) := ((congrFun ef10 q1).trans (va_up_ne _ _ (g_neAO h7 h8))).trans h7
  have h112 : f14 q1 = .inl (E.2.2 1, 4, .inl (fun _ => 0)) := ((congrFun ef14 q1).trans (va_up_ne _ _ (g_neL h6 n13))).trans h111
  have h113 : q1 ∈ L15 := sb16 _ h6
  have h114 : f21 q1 = .inl (E.2.2 1, 4, .inl (fun _ => 0)) := ((congrFun ef21 q1).trans (va_up_ne _ _ (g_neAO h112 h19))).trans h112
  have h115 : f25 q1 = .inl (E.2.2 1, 4, .inl (fun _ => 0)) := ((congrFun ef25 q1).trans (va_up_ne _ _ (g_neL h113 n24))).trans h114
  have h116 : q1 ∈ L26 := sb27 _ h113
  have h117 : f32 q1 = .inl (E.2.2 1, 4, .inl (fun _ => 0)) := ((congrFun ef32 q1).trans (va_up_ne _ _ (g_neAO h115 h30))).trans h115
  have h118 : f36 q1 = .inl (E.2.2 1, 4, .inl (fun _ => 0)) := ((congrFun ef36 q1).trans (va_up_ne _ _ (g_neL h116 n35))).trans h117
  have h119 : q1 ∈ L37 := sb38 _ h116
  have h120 : f43 q1 = .inl (E.2.2 1, 4, .inl (fun _ => 0)) := ((congrFun ef43 q1).trans (va_up_ne _ _ (g_neAO h118 h41))).trans h118
  have h121 : f47 q1 = .inl (E.2.2 1, 4, .inl (fun _ => 0)) := ((congrFun ef47 q1).trans (va_up_ne _ _ (g_neL h119 n46))).trans h120
  have h122 : q1 ∈ L48 := sb49 _ h119
  have h123 : f54 q1 = .inl (E.2.2 1, 4, .inl (fun _ => 0)) := ((congrFun ef54 q1).trans (va_up_ne _ _ (g_neAO h121 h52))).trans h121
  have h124 : f58 q1 = .inl (E.2.2 1, 4, .inl (fun _ => 0)) := ((congrFun ef58 q1).trans (va_up_ne _ _ (g_neL h122 n57))).trans h123
  have h125 : q1 ∈ L59 := sb60 _ h122
  have h126 : f65 q1 = .inl (E.2.2 1, 4, .inl (fun _ => 0)) := ((congrFun ef65 q1).trans (va_up_ne _ _ (g_neAO h124 h63))).trans h124
  have h127 : f69 q1 = .inl (E.2.2 1, 4, .inl (fun _ => 0)) := ((congrFun ef69 q1).trans (va_up_ne _ _ (g_neL h125 n68))).trans h126
  have h128 : q1 ∈ L70 := sb71 _ h125
  have h129 : f76 q1 = .inl (E.2.2 1, 4, .inl (fun _ => 0)) := ((congrFun ef76 q1).trans (va_up_ne _ _ (g_neAO h127 h74))).trans h127
  have h130 : f80 q1 = .inl (E.2.2 1, 4, .inl (fun _ => 0)) := ((congrFun ef80 q1).trans (va_up_ne _ _ (g_neL h128 n79))).trans h129
  have h131 : q1 ∈ L81 := sb82 _ h128
  have h132 : f87 q1 = .inl (E.2.2 1, 4, .inl (fun _ => 0)) := ((congrFun ef87 q1).trans (va_up_ne _ _ (g_neAO h130 h85))).trans h130
  have h133 : f91 q1 = .inl (E.2.2 1, 4, .inl (fun _ => 0)) := ((congrFun ef91 q1).trans (va_up_ne _ _ (g_neL h131 n90))).trans h132
  have h134 : q1 ∈ L92 := sb93 _ h131
  have h135 : f98 q1 = .inl (E.2.2 1, 4, .inl (fun _ => 0)) := ((congrFun ef98 q1).trans (va_up_ne _ _ (g_neAO h133 h96))).trans h133
  have h136 : f102 q1 = .inl (E.2.2 1, 4, .inl (fun _ => 0)) := ((congrFun ef102 q1).trans (va_up_ne _ _ (g_neL h134 n101))).trans h135
  have h137 : q1 ∈ L103 := sb104 _ h134
  have h138 : f109 q1 = .inl (E.2.2 1, 4, .inl (fun _ => 0)) := ((congrFun ef109 q1).trans (va_up_ne _ _ (g_neAO h136 h107))).trans h136
  have h139 : f21 q12 = .inl (E.2.2 1, 4, .inl (fun _ => 0)) := ((congrFun ef21 q12).trans (va_up_ne _ _ (g_neAO h18 h19))).trans h18
  have h140 : f25 q12 = .inl (E.2.2 1, 4, .inl (fun _ => 0)) := ((congrFun ef25 q12).trans (va_up_ne _ _ (g_neL h17 n24))).trans h139
  have h141 : q12 ∈ L26 := sb27 _ h17
  have h142 : f32 q12 = .inl (E.2.2 1, 4, .inl (fun _ => 0)) := ((congrFun ef32 q12).trans (va_up_ne _ _ (g_neAO h140 h30))).trans h140
  have h143 : f36 q12 = .inl (E.2.2 1, 4, .inl (fun _ => 0)) := ((congrFun ef36 q12).trans (va_up_ne _ _ (g_neL h141 n35))).trans h142
  have h144 : q12 ∈ L37 := sb38 _ h141
  have h145 : f43 q12 = .inl (E.2.2 1, 4, .inl (fun _ => 0)) := ((congrFun ef43 q12).trans (va_up_ne _ _ (g_neAO h143 h41))).trans h143
  have h146 : f47 q12 = .inl (E.2.2 1, 4, .inl (fun _ => 0)) := ((congrFun ef47 q12).trans (va_up_ne _ _ (g_neL h144 n46))).trans h145
  have h147 : q12 ∈ L48 := sb49 _ h144
  have h148 : f54 q12 = .inl (E.2.2 1, 4, .inl (fun _ => 0)) := ((congrFun ef54 q12).trans (va_up_ne _ _ (g_neAO h146 h52))).trans h146
  have h149 : f58 q12 = .inl (E.2.2 1, 4, .inl (fun _ => 0)) := ((congrFun ef58 q12).trans (va_up_ne _ _ (g_neL h147 n57))).trans h148
  have h150 : q12 ∈ L59 := sb60 _ h147
  have h151 : f65 q12 = .inl (E.2.2 1, 4, .inl (fun _ => 0)) := ((congrFun ef65 q12).trans (va_up_ne _ _ (g_neAO h149 h63))).trans h149
  have h152 : f69 q12 = .inl (E.2.2 1, 4, .inl (fun _ => 0)) := ((congrFun ef69 q12).trans (va_up_ne _ _ (g_neL h150 n68))).trans h151
  have h153 : q12 ∈ L70 := sb71 _ h150
  have h154 : f76 q12 = .inl (E.2.2 1, 4, .inl (fun _ => 0)) := ((congrFun ef76 q12).trans (va_up_ne _ _ (g_neAO h152 h74))).trans h152
  have h155 : f80 q12 = .inl (E.2.2 1, 4, .inl (fun _ => 0)) := ((congrFun ef80 q12).trans (va_up_ne _ _ (g_neL h153 n79))).trans h154
  have h156 : q12 ∈ L81 := sb82 _ h153
  have h157 : f87 q12 = .inl (E.2.2 1, 4, .inl (fun _ => 0)) := ((congrFun ef87 q12).trans (va_up_ne _ _ (g_neAO h155 h85))).trans h155
  have h158 : f91 q12 = .inl (E.2.2 1, 4, .inl (fun _ => 0)) := ((congrFun ef91 q12).trans (va_up_ne _ _ (g_neL h156 n90))).trans h157
  have h159 : q12 ∈ L92 := sb93 _ h156
  have h160 : f98 q12 = .inl (E.2.2 1, 4, .inl (fun _ => 0)) := ((congrFun ef98 q12).trans (va_up_ne _ _ (g_neAO h158 h96))).trans h158
  have h161 : f102 q12 = .inl (E.2.2 1, 4, .inl (fun _ => 0)) := ((congrFun ef102 q12).trans (va_up_ne _ _ (g_neL h159 n101))).trans h160
  have h162 : q12 ∈ L103 := sb104 _ h159
  have h163 : f109 q12 = .inl (E.2.2 1, 4, .inl (fun _ => 0)) := ((congrFun ef109 q12).trans (va_up_ne _ _ (g_neAO h161 h107))).trans h161
  have h164 : f32 q23 = .inl (E.2.2 1, 4, .inl (fun _ => 0)) := ((congrFun ef32 q23).trans (va_up_ne _ _ (g_neAO h29 h30))).trans h29
  have h165 : f36 q23 = .inl (E.2.2 1, 4, .inl (fun _ => 0)) := ((congrFun ef36 q23).trans (va_up_ne _ _ (g_neL h28 n35))).trans h164
  have h166 : q23 ∈ L37 := sb38 _ h28
  have h167 : f43 q23 = .inl (E.2.2 1, 4, .inl (fun _ => 0)) := ((congrFun ef43 q23).trans (va_up_ne _ _ (g_neAO h165 h41))).trans h165
  have h168 : f47 q23 = .inl (E.2.2 1, 4, .inl (fun _ => 0)) := ((congrFun ef47 q23).trans (va_up_ne _ _ (g_neL h166 n46))).trans h167
  have h169 : q23 ∈ L48 := sb49 _ h166
  have h170 : f54 q23 = .inl (E.2.2 1, 4, .inl (fun _ => 0)) := ((congrFun ef54 q23).trans (va_up_ne _ _ (g_neAO h168 h52))).trans h168
  have h171 : f58 q23 = .inl (E.2.2 1, 4, .inl (fun _ => 0)) := ((congrFun ef58 q23).trans (va_up_ne _ _ (g_neL h169 n57))).trans h170
  have h172 : q23 ∈ L59 := sb60 _ h169
  have h173 : f65 q23 = .inl (E.2.2 1, 4, .inl (fun _ => 0)) := ((congrFun ef65 q23).trans (va_up_ne _ _ (g_neAO h171 h63))).trans h171
  have h174 : f69 q23 = .inl (E.2.2 1, 4, .inl (fun _ => 0)) := ((congrFun ef69 q23).trans (va_up_ne _ _ (g_neL h172 n68))).trans h173
  have h175 : q23 ∈ L70 := sb71 _ h172
  have h176 : f76 q23 = .inl (E.2.2 1, 4, .inl (fun _ => 0)) := ((congrFun ef76 q23).trans (va_up_ne _ _ (g_neAO h174 h74))).trans h174
  have h177 : f80 q23 = .inl (E.2.2 1, 4, .inl (fun _ => 0)) := ((congrFun ef80 q23).trans (va_up_ne _ _ (g_neL h175 n79))).trans h176
  have h178 : q23 ∈ L81 := sb82 _ h175
  have h179 : f87 q23 = .inl (E.2.2 1, 4, .inl (fun _ => 0)) := ((congrFun ef87 q23).trans (va_up_ne _ _ (g_neAO h177 h85))).trans h177
  have h180 : f91 q23 = .inl (E.2.2 1, 4, .inl (fun _ => 0)) := ((congrFun ef91 q23).trans (va_up_ne _ _ (g_neL h178 n90))).trans h179
  have h181 : q23 ∈ L92 := sb93 _ h178
  have h182 : f98 q23 = .inl (E.2.2 1, 4, .inl (fun _ => 0)) := ((congrFun ef98 q23).trans (va_up_ne _ _ (g_neAO h180 h96))).trans h180
  have h183 : f102 q23 = .inl (E.2.2 1, 4, .inl (fun _ => 0)) := ((congrFun ef102 q23).trans (va_up_ne _ _ (g_neL h181 n101))).trans h182
  have h184 : q23 ∈ L103 := sb104 _ h181
  have h185 : f109 q23 = .inl (E.2.2 1, 4, .inl (fun _ => 0)) := ((congrFun ef109 q23).trans (va_up_ne _ _ (g_neAO h183 h107))).trans h183
  have h186 : f43 q34 = .inl (E.2.2 1, 6, .inl (fun _ => 0)) := ((congrFun ef43 q34).trans (va_up_ne _ _ (g_neAO h40 h41))).trans h40
  have h187 : f47 q34 = .inl (E.2.2 1, 6, .inl (fun _ => 0)) := ((congrFun ef47 q34).trans (va_up_ne _ _ (g_neL h39 n46))).trans h186
  have h188 : q34 ∈ L48 := sb49 _ h39
  have h189 : f54 q34 = .inl (E.2.2 1, 6, .inl (fun _ => 0)) := ((congrFun ef54 q34).trans (va_up_ne _ _ (g_neAO h187 h52))).trans h187
  have h190 : f58 q34 = .inl (E.2.2 1, 6, .inl (fun _ => 0)) := ((congrFun ef58 q34).trans (va_up_ne _ _ (g_neL h188 n57))).trans h189
  have h191 : q34 ∈ L59 := sb60 _ h188
  have h192 : f65 q34 = .inl (E.2.2 1, 6, .inl (fun _ => 0)) := ((congrFun ef65 q34).trans (va_up_ne _ _ (g_neAO h190 h63))).trans h190
  have h193 : f69 q34 = .inl (E.2.2 1, 6, .inl (fun _ => 0)) := ((congrFun ef69 q34).trans (va_up_ne _ _ (g_neL h191 n68))).trans h192
  have h194 : q34 ∈ L70 := sb71 _ h191
  have h195 : f76 q34 = .inl (E.2.2 1, 6, .inl (fun _ => 0)) := ((congrFun ef76 q34).trans (va_up_ne _ _ (g_neAO h193 h74))).trans h193
  have h196 : f80 q34 = .inl (E.2.2 1, 6, .inl (fun _ => 0)) := ((congrFun ef80 q34).trans (va_up_ne _ _ (g_neL h194 n79))).trans h195
  have h197 : q34 ∈ L81 := sb82 _ h194
  have h198 : f87 q34 = .inl (E.2.2 1, 6, .inl (fun _ => 0)) := ((congrFun ef87 q34).trans (va_up_ne _ _ (g_neAO h196 h85))).trans h196
  have h199 : f91 q34 = .inl (E.2.2 1, 6, .inl (fun _ => 0)) := ((congrFun ef91 q34).trans (va_up_ne _ _ (g_neL h197 n90))).trans h198
  have h200 : q34 ∈ L92 := sb93 _ h197
  have h201 : f98 q34 = .inl (E.2.2 1, 6, .inl (fun _ => 0)) := ((congrFun ef98 q34).trans (va_up_ne _ _ (g_neAO h199 h96))).trans h199
  have h202 : f102 q34 = .inl (E.2.2 1, 6, .inl (fun _ => 0)) := ((congrFun ef102 q34).trans (va_up_ne _ _ (g_neL h200 n101))).trans h201
  have h203 : q34 ∈ L103 := sb104 _ h200
  have h204 : f109 q34 = .inl (E.2.2 1, 6, .inl (fun _ => 0)) := ((congrFun ef109 q34).trans (va_up_ne _ _ (g_neAO h202 h107))).trans h202
  have h205 : f54 q45 = .inl (E.2.2 1, 6, .inl (fun _ => 0)) := ((congrFun ef54 q45).trans (va_up_ne _ _ (g_neAO h51 h52))).trans h51
  have h206 : f58 q45 = .inl (E.2.2 1, 6, .inl (fun _ => 0)) := ((congrFun ef58 q45).trans (va_up_ne _ _ (g_neL h50 n57))).trans h205
  have h207 : q45 ∈ L59 := sb60 _ h50
  have h208 : f65 q45 = .inl (E.2.2 1, 6, .inl (fun _ => 0)) := ((congrFun ef65 q45).trans (va_up_ne _ _ (g_neAO h206 h63))).trans h206
  have h209 : f69 q45 = .inl (E.2.2 1, 6, .inl (fun _ => 0)) := ((congrFun ef69 q45).trans (va_up_ne _ _ (g_neL h207 n68))).trans h208
  have h210 : q45 ∈ L70 := sb71 _ h207
  have h211 : f76 q45 = .inl (E.2.2 1, 6, .inl (fun _ => 0)) := ((congrFun ef76 q45).trans (va_up_ne _ _ (g_neAO h209 h74))).trans h209
  have h212 : f80 q45 = .inl (E.2.2 1, 6, .inl (fun _ => 0)) := ((congrFun ef80 q45).trans (va_up_ne _ _ (g_neL h210 n79))).trans h211
  have h213 : q45 ∈ L81 := sb82 _ h210
  have h214 : f87 q45 = .inl (E.2.2 1, 6, .inl (fun _ => 0)) := ((congrFun ef87 q45).trans (va_up_ne _ _ (g_neAO h212 h85))).trans h212
  have h215 : f91 q45 = .inl (E.2.2 1, 6, .inl (fun _ => 0)) := ((congrFun ef91 q45).trans (va_up_ne _ _ (g_neL h213 n90))).trans h214
  have h216 : q45 ∈ L92 := sb93 _ h213
  have h217 : f98 q45 = .inl (E.2.2 1, 6, .inl (fun _ => 0)) := ((congrFun ef98 q45).trans (va_up_ne _ _ (g_neAO h215 h96))).trans h215
  have h218 : f102 q45 = .inl (E.2.2 1, 6, .inl (fun _ => 0)) := ((congrFun ef102 q45).trans (va_up_ne _ _ (g_neL h216 n101))).trans h217
  have h219 : q45 ∈ L103 := sb104 _ h216
  have h220 : f109 q45 = .inl (E.2.2 1, 6, .inl (fun _ => 0)) := ((congrFun ef109 q45).trans (va_up_ne _ _ (g_neAO h218 h107))).trans h218
  have h221 : f65 q56 = .inl (E.2.2 1, 6, .inl (fun _ => 0)) := ((congrFun ef65 q56).trans (va_up_ne _ _ (g_neAO h62 h63))).trans h62
  have h222 : f69 q56 = .inl (E.2.2 1, 6, .inl (fun _ => 0)) := ((congrFun ef69 q56).trans (va_up_ne _ _ (g_neL h61 n68))).trans h221
  have h223 : q56 ∈ L70 := sb71 _ h61
  have h224 : f76 q56 = .inl (E.2.2 1, 6, .inl (fun _ => 0)) := ((congrFun ef76 q56).trans (va_up_ne _ _ (g_neAO h222 h74))).trans h222
  have h225 : f80 q56 = .inl (E.2.2 1, 6, .inl (fun _ => 0)) := ((congrFun ef80 q56).trans (va_up_ne _ _ (g_neL h223 n79))).trans h224
  have h226 : q56 ∈ L81 := sb82 _ h223
  have h227 : f87 q56 = .inl (E.2.2 1, 6, .inl (fun _ => 0)) := ((congrFun ef87 q56).trans (va_up_ne _ _ (g_neAO h225 h85))).trans h225
  have h228 : f91 q56 = .inl (E.2.2 1, 6, .inl (fun _ => 0)) := ((congrFun ef91 q56).trans (va_up_ne _ _ (g_neL h226 n90))).trans h227
  have h229 : q56 ∈ L92 := sb93 _ h226
  have h230 : f98 q56 = .inl (E.2.2 1, 6, .inl (fun _ => 0)) := ((congrFun ef98 q56).trans (va_up_ne _ _ (g_neAO h228 h96))).trans h228
  have h231 : f102 q56 = .inl (E.2.2 1, 6, .inl (fun _ => 0)) := ((congrFun ef102 q56).trans (va_up_ne _ _ (g_neL h229 n101))).trans h230
  have h232 : q56 ∈ L103 := sb104 _ h229
  have h233 : f109 q56 = .inl (E.2.2 1, 6, .inl (fun _ => 0)) := ((congrFun ef109 q56).trans (va_up_ne _ _ (g_neAO h231 h107))).trans h231
  have h234 : f76 q67 = .inl (E.2.2 1, 40, .inl (fun _ => 0)) := ((congrFun ef76 q67).trans (va_up_ne _ _ (g_neAO h73 h74))).trans h73
  have h235 : f80 q67 = .inl (E.2.2 1, 40, .inl (fun _ => 0)) := ((congrFun ef80 q67).trans (va_up_ne _ _ (g_neL h72 n79))).trans h234
  have h236 : q67 ∈ L81 := sb82 _ h72
  have h237 : f87 q67 = .inl (E.2.2 1, 40, .inl (fun _ => 0)) := ((congrFun ef87 q67).trans (va_up_ne _ _ (g_neAO h235 h85))).trans h235
  have h238 : f91 q67 = .inl (E.2.2 1, 40, .inl (fun _ => 0)) := ((congrFun ef91 q67).trans (va_up_ne _ _ (g_neL h236 n90))).trans h237
  have h239 : q67 ∈ L92 := sb93 _ h236
  have h240 : f98 q67 = .inl (E.2.2 1, 40, .inl (fun _ => 0)) := ((congrFun ef98 q67).trans (va_up_ne _ _ (g_neAO h238 h96))).trans h238
  have h241 : f102 q67 = .inl (E.2.2 1, 40, .inl (fun _ => 0)) := ((congrFun ef102 q67).trans (va_up_ne _ _ (g_neL h239 n101))).trans h240
  have h242 : q67 ∈ L103 := sb104 _ h239
  have h243 : f109 q67 = .inl (E.2.2 1, 40, .inl (fun _ => 0)) := ((congrFun ef109 q67).trans (va_up_ne _ _ (g_neAO h241 h107))).trans h241
  have h244 : f87 q78 = .inl (E.2.2 1, 40, .inl (fun _ => 0)) := ((congrFun ef87 q78).trans (va_up_ne _ _ (g_neAO h84 h85))).trans h84
  have h245 : f91 q78 = .inl (E.2.2 1, 40, .inl (fun _ => 0)) := ((congrFun ef91 q78).trans (va_up_ne _ _ (g_neL h83 n90))).trans h244
  have h246 : q78 ∈ L92 := sb93 _ h83
  have h247 : f98 q78 = .inl (E.2.2 1, 40, .inl (fun _ => 0)) := ((congrFun ef98 q78).trans (va_up_ne _ _ (g_neAO h245 h96))).trans h245
  have h248 : f102 q78 = .inl (E.2.2 1, 40, .inl (fun _ => 0)) := ((congrFun ef102 q78).trans (va_up_ne _ _ (g_neL h246 n101))).trans h247
  have h249 : q78 ∈ L103 := sb104 _ h246
  have h250 : f109 q78 = .inl (E.2.2 1, 40, .inl (fun _ => 0)) := ((congrFun ef109 q78).trans (va_up_ne _ _ (g_neAO h248 h107))).trans h248
  have h251 : f98 q89 = .inl (E.2.2 1, 20, .inl (fun _ => 0)) := ((congrFun ef98 q89).trans (va_up_ne _ _ (g_neAO h95 h96))).trans h95
  have h252 : f102 q89 = .inl (E.2.2 1, 20, .inl (fun _ => 0)) := ((congrFun ef102 q89).trans (va_up_ne _ _ (g_neL h94 n101))).trans h251
  have h253 : q89 ∈ L103 := sb104 _ h94
  have h254 : f109 q89 = .inl (E.2.2 1, 20, .inl (fun _ => 0)) := ((congrFun ef109 q89).trans (va_up_ne _ _ (g_neAO h252 h107))).trans h252
  have h255 : f109 q100 = .inl (E.2.2 1, 80, .inl (fun _ => 0)) := ((congrFun ef109 q100).trans (va_up_ne _ _ (g_neAO h106 h107))).trans h106
  refine ⟨fun i => [q1, q12, q23, q34, q45, q56, q67, q78, q89, q100].getD i 0, h110, fun i hi => ?_, ?_, ?_⟩
  · rcases (show i = 0 ∨ i = 1 ∨ i = 2 ∨ i = 3 ∨ i = 4 ∨ i = 5 ∨ i = 6 ∨ i = 7 ∨ i = 8 ∨ i = 9 by omega) with rfl | rfl | rfl | rfl | rfl | rfl | rfl | rfl | rfl | rfl
    · exact ⟨h137, _, h138⟩
    · exact ⟨h162, _, h163⟩
    · exact ⟨h184, _, h185⟩
    · exact ⟨h203, _, h204⟩
    · exact ⟨h219, _, h220⟩
    · exact ⟨h232, _, h233⟩
    · exact ⟨h242, _, h243⟩
    · exact ⟨h249, _, h250⟩
    · exact ⟨h253, _, h254⟩
    · exact ⟨h105, _, h255⟩
  · exact fun b hb => (sb104 _ (sb93 _ (sb82 _ (sb71 _ (sb60 _ (sb49 _ (sb38 _ (sb27 _ (sb16 _ (sb5 _ hb))))))))))
  · intro b hb hbq
    have h256 : b ≠ q1 := g_neL hb n2
    have h257 : f3 b = f b := ((congrFun ef3 b).trans (va_up_ne _ _ (g_neL hb n2))).trans rfl
    have h258 : b ∈ L4 := sb5 _ hb
    have h259 : f10 b = f b := ((congrFun ef10 b).trans (va_up_ne _ _ hbq)).trans h257
    have h260 : b ≠ q12 := g_neL h258 n13
    have h261 : f14 b = f b := ((congrFun ef14 b).trans (va_up_ne _ _ (g_neL h258 n13))).trans h259
    have h262 : b ∈ L15 := sb16 _ h258
    have h263 : f21 b = f b := ((congrFun ef21 b).trans (va_up_ne _ _ hbq)).trans h261
    have h264 : b ≠ q23 := g_neL h262 n24
    have h265 : f25 b = f b := ((congrFun ef25 b).trans (va_up_ne _ _ (g_neL h262 n24))).trans h263
    have h266 : b ∈ L26 := sb27 _ h262
    have h267 : f32 b = f b := ((congrFun ef32 b).trans (va_up_ne _ _ hbq)).trans h265
    have h268 : b ≠ q34 := g_neL h266 n35
    have h269 : f36 b = f b := ((congrFun ef36 b).trans (va_up_ne _ _ (g_neL h266 n35))).trans h267
    have h270 : b ∈ L37 := sb38 _ h266
    have h271 : f43 b = f b := ((congrFun ef43 b).trans (va_up_ne _ _ hbq)).trans h269
    have h272 : b ≠ q45 := g_neL h270 n46
    have h273 : f47 b = f b := ((congrFun ef47 b).trans (va_up_ne _ _ (g_neL h270 n46))).trans h271
    have h274 : b ∈ L48 := sb49 _ h270
    have h275 : f54 b = f b := ((congrFun ef54 b).trans (va_up_ne _ _ hbq)).trans h273
    have h276 : b ≠ q56 := g_neL h274 n57
    have h277 : f58 b = f b := ((congrFun ef58 b).trans (va_up_ne _ _ (g_neL h274 n57))).trans h275
    have h278 : b ∈ L59 := sb60 _ h274
    have h279 : f65 b = f b := ((congrFun ef65 b).trans (va_up_ne _ _ hbq)).trans h277
    have h280 : b ≠ q67 := g_neL h278 n68
    have h281 : f69 b = f b := ((congrFun ef69 b).trans (va_up_ne _ _ (g_neL h278 n68))).trans h279
    have h282 : b ∈ L70 := sb71 _ h278
    have h283 : f76 b = f b := ((congrFun ef76 b).trans (va_up_ne _ _ hbq)).trans h281
    have h284 : b ≠ q78 := g_neL h282 n79
    have h285 : f80 b = f b := ((congrFun ef80 b).trans (va_up_ne _ _ (g_neL h282 n79))).trans h283
    have h286 : b ∈ L81 := sb82 _ h282
    have h287 : f87 b = f b := ((congrFun ef87 b).trans (va_up_ne _ _ hbq)).trans h285
    have h288 : b ≠ q89 := g_neL h286 n90
    have h289 : f91 b = f b := ((congrFun ef91 b).trans (va_up_ne _ _ (g_neL h286 n90))).trans h287
    have h290 : b ∈ L92 := sb93 _ h286
    have h291 : f98 b = f b := ((congrFun ef98 b).trans (va_up_ne _ _ hbq)).trans h289
    have h292 : b ≠ q100 := g_neL h290 n101
    have h293 : f102 b = f b := ((congrFun ef102 b).trans (va_up_ne _ _ (g_neL h290 n101))).trans h291
    have h294 : b ∈ L103 := sb104 _ h290
    have h295 : f109 b = f b := ((congrFun ef109 b).trans (va_up_ne _ _ hbq)).trans h293
    exact h295
set_option maxHeartbeats 4000000 in
set_option maxRecDepth 100000 in
theorem k_Tape (l : Launch) (E : gE) (L : List Nat) (f : gF) {q : Nat} (mq : q ∈ L) (fq : f q = .inr (8, [.null, .int (0 : Int32)])) : gMv l E yX8_init cX8_init 1 (gRm 1 1 800) [.ref q] L f (fun L1 f1 => ∃ xb : Nat, f1 q = .inr (8, [.ref xb, .int 0]) ∧ xb ∈ L1 ∧ f1 xb = .inl (E.2.2 0, 800, .inl (fun _ => 0)) ∧ (∀ b ∈ L, b ∈ L1) ∧ (∀ b ∈ L, b ≠ q → f1 b = f b)) := by
  refine gMv.intro (by decide) (Nat.le_of_ble_eq_true rfl) ?_
  intro p e s m below meth c A ls C hr hnm hA hH hl
  have C : gC E cX8_init 1 RX8 p s m _ meth c := C
  have hl : lv_has ls 1 [(0, .ref q)] := hl
  have hx := C.1
  have hb := C.2.1
  refine lv_aload_n hx hb dX8_init_0 rfl (lv_at hl 0 rfl) ?_
  refine g_obj C hl.1 wd157 wd154 wd155 dX8_init_1 (Nat.le_of_ble_eq_true rfl) (Nat.le_of_ble_eq_true rfl) ?_
  refine lv_aload_n hx hb dX8_init_4 rfl (lv_at hl 0 rfl) ?_
  refine lv_sipush (v := (800 : Int32)) hx hb dX8_init_5 (by decide) ?_
  refine g_newa C hH hA 0 rfl (fun _ _ h => h) wd158 rfl (N' := 800) (a0 := (800, (.inl (fun _ => 0)))) (avB 800) (by decide) (by decide) (Nat.le_of_ble_eq_true rfl) (Nat.le_of_ble_eq_true rfl) (Nat.le_of_ble_eq_true rfl) dX8_init_8 (fun q1 H n2 hH => ?_)
  obtain ⟨f3, ef3⟩ : ∃ z : gF, z = va_up f q1 (.inl (E.2.2 0, 800, .inl (fun _ => 0))) := ⟨_, rfl⟩
  obtain ⟨L4, eL4⟩ : ∃ z : List Nat, z = L ++ [q1] := ⟨_, rfl⟩
  have hH := g_re ef3 eL4 hH
  have sb5 : ∀ b ∈ L, b ∈ L4 := fun b h => by rw [eL4]; exact List.mem_append_left _ h
  have h6 : q1 ∈ L4 := by rw [eL4]; exact List.mem_append_right _ List.mem_cons_self
  have h7 : f3 q1 = .inl (E.2.2 0, 800, .inl (fun _ => 0)) := (congrFun ef3 q1).trans (va_up_self _ _ _)
  have h8 : f3 q = .inr (8, [.null, .int (0 : Int32)]) := ((congrFun ef3 q).trans (va_up_ne _ _ (g_neL mq n2))).trans fq
  have h9 : q ∈ L4 := sb5 _ mq
  refine g_putF C hH h9 h8 iX8 tyX8 tyX8_ok nmX8 rfl 0 (by decide) wd53 rfl rfl hnm rfl rfl rfl (Nat.le_of_ble_eq_true rfl) (fs' := [.ref q1, .int (0 : Int32)]) rfl dX8_init_10 (fun H locs hH => ?_)
  obtain ⟨f10, ef10⟩ : ∃ z : gF, z = va_up f3 q (.inr (8, [.ref q1, .int (0 : Int32)])) := ⟨_, rfl⟩
  have hH : gH E A L4 f10 s.heap H locs := by rw [ef10]; exact hH
  have h11 : f10 q = .inr (8, [.ref q1, .int (0 : Int32)]) := (congrFun ef10 q).trans (va_up_self _ _ _)
  refine g_vret C hr hH (Nat.le_of_ble_eq_true rfl) (Nat.le_of_ble_eq_true rfl) dX8_init_13 ?_
  have h12 : f10 q1 = .inl (E.2.2 0, 800, .inl (fun _ => 0)) := ((congrFun ef10 q1).trans (va_up_ne _ _ (g_neAO h7 h8))).trans h7
  refine ⟨q1, h11, h6, h12, ?_, ?_⟩
  · exact fun b hb => (sb5 _ hb)
  · intro b hb hbq
    have h13 : b ≠ q1 := g_neL hb n2
    have h14 : f3 b = f b := ((congrFun ef3 b).trans (va_up_ne _ _ (g_neL hb n2))).trans rfl
    have h15 : b ∈ L4 := sb5 _ hb
    have h16 : f10 b = f b := ((congrFun ef10 b).trans (va_up_ne _ _ hbq)).trans h14
    exact h16
set_option maxHeartbeats 4000000 in
set_option maxRecDepth 100000 in
theorem k_Row (l : Launch) (E : gE) (L : List Nat) (f : gF) {q : Nat} (mq : q ∈ L) (fq : f q = .inr (6, [.null, .int (0 : Int32), .int (0 : Int32)])) : gMv l E yX6_init cX6_init 1 (gRm 1 1 60) [.ref q] L f (fun L1 f1 => ∃ nu : Nat, f1 q = .inr (6, [.ref nu, .int (-1), .int 0]) ∧ nu ∈ L1 ∧ f1 nu = .inl (E.2.2 2, 60, .inr (.inl (fun _ => 0))) ∧ (∀ b ∈ L, b ∈ L1) ∧ (∀ b ∈ L, b ≠ q → f1 b = f b)) := by
  refine gMv.intro (by decide) (Nat.le_of_ble_eq_true rfl) ?_
  intro p e s m below meth c A ls C hr hnm hA hH hl
  have C : gC E cX6_init 1 RX6 p s m _ meth c := C
  have hl : lv_has ls 1 [(0, .ref q)] := hl
  have hx := C.1
  have hb := C.2.1
  refine lv_aload_n hx hb dX6_init_0 rfl (lv_at hl 0 rfl) ?_
  refine g_obj C hl.1 wd159 wd154 wd155 dX6_init_1 (Nat.le_of_ble_eq_true rfl) (Nat.le_of_ble_eq_true rfl) ?_
  refine lv_aload_n hx hb dX6_init_4 rfl (lv_at hl 0 rfl) ?_
  refine lv_bipush (v := (60 : Int32)) hx hb dX6_init_5 (by decide) ?_
  refine g_newa C hH hA 2 rfl (fun _ _ h => h) wd160 rfl (N' := 60) (a0 := (60, (.inr (.inl (fun _ => 0))))) (avJ 60) (by decide) (by decide) (Nat.le_of_ble_eq_true rfl) (Nat.le_of_ble_eq_true rfl) (Nat.le_of_ble_eq_true rfl) dX6_init_7 (fun q1 H n2 hH => ?_)
  obtain ⟨f3, ef3⟩ : ∃ z : gF, z = va_up f q1 (.inl (E.2.2 2, 60, .inr (.inl (fun _ => 0)))) := ⟨_, rfl⟩
  obtain ⟨L4, eL4⟩ : ∃ z : List Nat, z = L ++ [q1] := ⟨_, rfl⟩
  have hH := g_re ef3 eL4 hH
  have sb5 : ∀ b ∈ L, b ∈ L4 := fun b h => by rw [eL4]; exact List.mem_append_left _ h
  have h6 : q1 ∈ L4 := by rw [eL4]; exact List.mem_append_right _ List.mem_cons_self
  have h7 : f3 q1 = .inl (E.2.2 2, 60, .inr (.inl (fun _ => 0))) := (congrFun ef3 q1).trans (va_up_self _ _ _)
  have h8 : f3 q = .inr (6, [.null, .int (0 : Int32), .int (0 : Int32)]) := ((congrFun ef3 q).trans (va_up_ne _ _ (g_neL mq n2))).trans fq
  have h9 : q ∈ L4 := sb5 _ mq
  refine g_putF C hH h9 h8 iX6 tyX6 tyX6_ok nmX6 rfl 0 (by decide) wd86 rfl rfl hnm rfl rfl rfl (Nat.le_of_ble_eq_true rfl) (fs' := [.ref q1, .int (0 : Int32), .int (0 : Int32)]) rfl dX6_init_9 (fun H locs hH => ?_)
  obtain ⟨f10, ef10⟩ : ∃ z : gF, z = va_up f3 q (.inr (6, [.ref q1, .int (0 : Int32), .int (0 : Int32)])) := ⟨_, rfl⟩
  have hH : gH E A L4 f10 s.heap H locs := by rw [ef10]; exact hH
  have h11 : f10 q = .inr (6, [.ref q1, .int (0 : Int32), .int (0 : Int32)]) := (congrFun ef10 q).trans (va_up_self _ _ _)
  refine lv_aload_n hx hb dX6_init_12 rfl (lv_at hl 0 rfl) ?_
  refine lv_iconst (v := (-1 : Int32)) hx hb dX6_init_13 (by decide) ?_
  refine g_put C hH h9 h11 iX6 tyX6 tyX6_ok nmX6 rfl 1 (by decide) wd64 rfl rfl rfl rfl (Nat.le_of_ble_eq_true rfl) (fs' := [.ref q1, .int (-1 : Int32), .int (0 : Int32)]) rfl dX6_init_14 (fun H locs hH => ?_)
  obtain ⟨f12, ef12⟩ : ∃ z : gF, z = va_up f10 q (.inr (6, [.ref q1, .int (-1 : Int32), .int (0 : Int32)])) := ⟨_, rfl⟩
  have hH : gH E A L4 f12 s.heap H locs := by rw [ef12]; exact hH
  have h13 : f12 q = .inr (6, [.ref q1, .int (-1 : Int32), .int (0 : Int32)]) := (congrFun ef12 q).trans (va_up_self _ _ _)
  refine g_vret C hr hH (Nat.le_of_ble_eq_true rfl) (Nat.le_of_ble_eq_true rfl) dX6_init_17 ?_
  have h14 : f10 q1 = .inl (E.2.2 2, 60, .inr (.inl (fun _ => 0))) := ((congrFun ef10 q1).trans (va_up_ne _ _ (g_neAO h7 h8))).trans h7
  have h15 : f12 q1 = .inl (E.2.2 2, 60, .inr (.inl (fun _ => 0))) := ((congrFun ef12 q1).trans (va_up_ne _ _ (g_neAO h14 h11))).trans h14
  refine ⟨q1, h13, h6, h15, ?_, ?_⟩
  · exact fun b hb => (sb5 _ hb)
  · intro b hb hbq
    have h16 : b ≠ q1 := g_neL hb n2
    have h17 : f3 b = f b := ((congrFun ef3 b).trans (va_up_ne _ _ (g_neL hb n2))).trans rfl
    have h18 : b ∈ L4 := sb5 _ hb
    have h19 : f10 b = f b := ((congrFun ef10 b).trans (va_up_ne _ _ hbq)).trans h17
    have h20 : f12 b = f b := ((congrFun ef12 b).trans (va_up_ne _ _ hbq)).trans h19
    exact h20
set_option maxHeartbeats 4000000 in
set_option maxRecDepth 100000 in
theorem k_Reader (l : Launch) (E : gE) (L : List Nat) (f : gF) {q r0 r1 : Nat} (mq : q ∈ L) (fq : f q = .inr (5, [.null, .null, .int (0 : Int32), .int (0 : Int32), .int (0 : Int32), .int (0 : Int32), .int (0 : Int32)])) : gMv l E yX5_init cX5_init 3 (gRm 1 0 0) [.ref q, .ref r0, .ref r1] L f (fun L1 f1 => f1 q = .inr (5, [.ref r0, .ref r1, .int 0, .int 0, .int 0, .int 0, .int (-1)]) ∧ (∀ b ∈ L, b ∈ L1) ∧ (∀ b ∈ L, b ≠ q → f1 b = f b)) := by
  refine gMv.intro (by decide) (Nat.le_of_ble_eq_true rfl) ?_
  intro p e s m below meth c A ls C hr hnm hA hH hl
  have C : gC E cX5_init 3 RX5 p s m _ meth c := C
  have hl : lv_has ls 3 [(0, .ref q), (1, .ref r0), (2, .ref r1)] := hl
  have hx := C.1
  have hb := C.2.1
  refine lv_aload_n hx hb dX5_init_0 rfl (lv_at hl 0 rfl) ?_
  refine g_obj C hl.1 wd161 wd154 wd155 dX5_init_1 (Nat.le_of_ble_eq_true rfl) (Nat.le_of_ble_eq_true rfl) ?_
  refine lv_aload_n hx hb dX5_init_4 rfl (lv_at hl 0 rfl) ?_
  refine lv_iconst (v := (-1 : Int32)) hx hb dX5_init_5 (by decide) ?_
  refine g_put C hH mq fq iX5 tyX5 tyX5_ok nmX5 rfl 6 (by decide) wd131 rfl rfl rfl rfl (Nat.le_of_ble_eq_true rfl) (fs' := [.null, .null, .int (0 : Int32), .int (0 : Int32), .int (0 : Int32), .int (0 : Int32), .int (-1 : Int32)]) rfl dX5_init_6 (fun H locs hH => ?_)
  obtain ⟨f1, ef1⟩ : ∃ z : gF, z = va_up f q (.inr (5, [.null, .null, .int (0 : Int32), .int (0 : Int32), .int (0 : Int32), .int (0 : Int32), .int (-1 : Int32)])) := ⟨_, rfl⟩
  have hH : gH E A L f1 s.heap H locs := by rw [ef1]; exact hH
  have h2 : f1 q = .inr (5, [.null, .null, .int (0 : Int32), .int (0 : Int32), .int (0 : Int32), .int (0 : Int32), .int (-1 : Int32)]) := (congrFun ef1 q).trans (va_up_self _ _ _)
  refine lv_aload_n hx hb dX5_init_9 rfl (lv_at hl 0 rfl) ?_
  refine lv_aload_n hx hb dX5_init_10 rfl (lv_at hl 1 rfl) ?_
  refine g_putF C hH mq h2 iX5 tyX5 tyX5_ok nmX5 rfl 0 (by decide) wd122 rfl rfl hnm rfl rfl rfl (Nat.le_of_ble_eq_true rfl) (fs' := [.ref r0, .null, .int (0 : Int32), .int (0 : Int32), .int (0 : Int32), .int (0 : Int32), .int (-1 : Int32)]) rfl dX5_init_11 (fun H locs hH => ?_)
  obtain ⟨f3, ef3⟩ : ∃ z : gF, z = va_up f1 q (.inr (5, [.ref r0, .null, .int (0 : Int32), .int (0 : Int32), .int (0 : Int32), .int (0 : Int32), .int (-1 : Int32)])) := ⟨_, rfl⟩
  have hH : gH E A L f3 s.heap H locs := by rw [ef3]; exact hH
  have h4 : f3 q = .inr (5, [.ref r0, .null, .int (0 : Int32), .int (0 : Int32), .int (0 : Int32), .int (0 : Int32), .int (-1 : Int32)]) := (congrFun ef3 q).trans (va_up_self _ _ _)
  refine lv_aload_n hx hb dX5_init_14 rfl (lv_at hl 0 rfl) ?_
  refine lv_aload_n hx hb dX5_init_15 rfl (lv_at hl 2 rfl) ?_
  refine g_putF C hH mq h4 iX5 tyX5 tyX5_ok nmX5 rfl 1 (by decide) wd125 rfl rfl hnm rfl rfl rfl (Nat.le_of_ble_eq_true rfl) (fs' := [.ref r0, .ref r1, .int (0 : Int32), .int (0 : Int32), .int (0 : Int32), .int (0 : Int32), .int (-1 : Int32)]) rfl dX5_init_16 (fun H locs hH => ?_)
  obtain ⟨f5, ef5⟩ : ∃ z : gF, z = va_up f3 q (.inr (5, [.ref r0, .ref r1, .int (0 : Int32), .int (0 : Int32), .int (0 : Int32), .int (0 : Int32), .int (-1 : Int32)])) := ⟨_, rfl⟩
  have hH : gH E A L f5 s.heap H locs := by rw [ef5]; exact hH
  have h6 : f5 q = .inr (5, [.ref r0, .ref r1, .int (0 : Int32), .int (0 : Int32), .int (0 : Int32), .int (0 : Int32), .int (-1 : Int32)]) := (congrFun ef5 q).trans (va_up_self _ _ _)
  refine g_vret C hr hH (Nat.le_of_ble_eq_true rfl) (Nat.le_of_ble_eq_true rfl) dX5_init_19 ?_
  refine ⟨h6, ?_, ?_⟩
  · exact fun b hb => hb
  · intro b hb hbq
    have h7 : f1 b = f b := ((congrFun ef1 b).trans (va_up_ne _ _ hbq)).trans rfl
    have h8 : f3 b = f b := ((congrFun ef3 b).trans (va_up_ne _ _ hbq)).trans h7
    have h9 : f5 b = f b := ((congrFun ef5 b).trans (va_up_ne _ _ hbq)).trans h8
    exact h9
set_option maxHeartbeats 4000000 in
set_option maxRecDepth 100000 in
theorem k_Sky (l : Launch) (E : gE) (L : List Nat) (f : gF) {q r0 : Nat} (mq : q ∈ L) (fq : f q = .inr (7, [.null, .null, .null, .null, .null, .int (0 : Int32), .int (0 : Int32), .int (0 : Int32), .int (0 : Int32), .int (0 : Int32)])) : gMv l E yX7_init cX7_init 2 (gRm 1 4 143) [.ref q, .ref r0] L f (fun L1 f1 => (∀ b ∈ L, b ∈ L1) ∧ (∀ b ∈ L, b ≠ q → f1 b = f b)) := by
  refine gMv.intro (by decide) (Nat.le_of_ble_eq_true rfl) ?_
  intro p e s m below meth c A ls C hr hnm hA hH hl
  have C : gC E cX7_init 2 RX7 p s m _ meth c := C
  have hl : lv_has ls 2 [(0, .ref q), (1, .ref r0)] := hl
  have hx := C.1
  have hb := C.2.1
  refine lv_aload_n hx hb dX7_init_0 rfl (lv_at hl 0 rfl) ?_
  refine g_obj C hl.1 wd162 wd154 wd155 dX7_init_1 (Nat.le_of_ble_eq_true rfl) (Nat.le_of_ble_eq_true rfl) ?_
  refine lv_aload_n hx hb dX7_init_4 rfl (lv_at hl 0 rfl) ?_
  refine lv_bipush (v := (41 : Int32)) hx hb dX7_init_5 (by decide) ?_
  refine g_newa C hH hA 1 rfl (fun _ _ h => h) wd156 rfl (N' := 41) (a0 := (41, (.inl (fun _ => 0)))) (avI 41) (by decide) (by decide) (Nat.le_of_ble_eq_true rfl) (Nat.le_of_ble_eq_true rfl) (Nat.le_of_ble_eq_true rfl) dX7_init_7 (fun q1 H n2 hH => ?_)
  obtain ⟨f3, ef3⟩ : ∃ z : gF, z = va_up f q1 (.inl (E.2.2 1, 41, .inl (fun _ => 0))) := ⟨_, rfl⟩
  obtain ⟨L4, eL4⟩ : ∃ z : List Nat, z = L ++ [q1] := ⟨_, rfl⟩
  have hH := g_re ef3 eL4 hH
  have sb5 : ∀ b ∈ L, b ∈ L4 := fun b h => by rw [eL4]; exact List.mem_append_left _ h
  have h6 : q1 ∈ L4 := by rw [eL4]; exact List.mem_append_right _ List.mem_cons_self
  have h7 : f3 q1 = .inl (E.2.2 1, 41, .inl (fun _ => 0)) := (congrFun ef3 q1).trans (va_up_self _ _ _)
  have h8 : f3 q = .inr (7, [.null, .null, .null, .null, .null, .int (0 : Int32), .int (0 : Int32), .int (0 : Int32), .int (0 : Int32), .int (0 : Int32)]) := ((congrFun ef3 q).trans (va_up_ne _ _ (g_neL mq n2))).trans fq
  have h9 : q ∈ L4 := sb5 _ mq
  refine g_putF C hH h9 h8 iX7 tyX7 tyX7_ok nmX7 rfl 1 (by decide) wd163 rfl rfl hnm rfl rfl rfl (Nat.le_of_ble_eq_true rfl) (fs' := [.null, .ref q1, .null, .null, .null, .int (0 : Int32), .int (0 : Int32), .int (0 : Int32), .int (0 : Int32), .int (0 : Int32)]) rfl dX7_init_9 (fun H locs hH => ?_)
  obtain ⟨f10, ef10⟩ : ∃ z : gF, z = va_up f3 q (.inr (7, [.null, .ref q1, .null, .null, .null, .int (0 : Int32), .int (0 : Int32), .int (0 : Int32), .int (0 : Int32), .int (0 : Int32)])) := ⟨_, rfl⟩
  have hH : gH E A L4 f10 s.heap H locs := by rw [ef10]; exact hH
  have h11 : f10 q = .inr (7, [.null, .ref q1, .null, .null, .null, .int (0 : Int32), .int (0 : Int32), .int (0 : Int32), .int (0 : Int32), .int (0 : Int32)]) := (congrFun ef10 q).trans (va_up_self _ _ _)
  refine lv_aload_n hx hb dX7_init_12 rfl (lv_at hl 0 rfl) ?_
  refine lv_bipush (v := (41 : Int32)) hx hb dX7_init_13 (by decide) ?_
  refine g_newa C hH hA 1 rfl (fun _ _ h => h) wd156 rfl (N' := 41) (a0 := (41, (.inl (fun _ => 0)))) (avI 41) (by decide) (by decide) (Nat.le_of_ble_eq_true rfl) (Nat.le_of_ble_eq_true rfl) (Nat.le_of_ble_eq_true rfl) dX7_init_15 (fun q12 H n13 hH => ?_)
  obtain ⟨f14, ef14⟩ : ∃ z : gF, z = va_up f10 q12 (.inl (E.2.2 1, 41, .inl (fun _ => 0))) := ⟨_, rfl⟩
  obtain ⟨L15, eL15⟩ : ∃ z : List Nat, z = L4 ++ [q12] := ⟨_, rfl⟩
  have hH := g_re ef14 eL15 hH
  have sb16 : ∀ b ∈ L4, b ∈ L15 := fun b h => by rw [eL15]; exact List.mem_append_left _ h
  have h17 : q12 ∈ L15 := by rw [eL15]; exact List.mem_append_right _ List.mem_cons_self
  have h18 : f14 q12 = .inl (E.2.2 1, 41, .inl (fun _ => 0)) := (congrFun ef14 q12).trans (va_up_self _ _ _)
  have h19 : f14 q = .inr (7, [.null, .ref q1, .null, .null, .null, .int (0 : Int32), .int (0 : Int32), .int (0 : Int32), .int (0 : Int32), .int (0 : Int32)]) := ((congrFun ef14 q).trans (va_up_ne _ _ (g_neL h9 n13))).trans h11
  have h20 : q ∈ L15 := sb16 _ h9
  refine g_putF C hH h20 h19 iX7 tyX7 tyX7_ok nmX7 rfl 2 (by decide) wd164 rfl rfl hnm rfl rfl rfl (Nat.le_of_ble_eq_true rfl) (fs' := [.null, .ref q1, .ref q12, .null, .null, .int (0 : Int32), .int (0 : Int32), .int (0 : Int32), .int (0 : Int32), .int (0 : Int32)]) rfl dX7_init_17 (fun H locs hH => ?_)
  obtain ⟨f21, ef21⟩ : ∃ z : gF, z = va_up f14 q (.inr (7, [.null, .ref q1, .ref q12, .null, .null, .int (0 : Int32), .int (0 : Int32), .int (0 : Int32), .int (0 : Int32), .int (0 : Int32)])) := ⟨_, rfl⟩
  have hH : gH E A L15 f21 s.heap H locs := by rw [ef21]; exact hH
  have h22 : f21 q = .inr (7, [.null, .ref q1, .ref q12, .null, .null, .int (0 : Int32), .int (0 : Int32), .int (0 : Int32), .int (0 : Int32), .int (0 : Int32)]) := (congrFun ef21 q).trans (va_up_self _ _ _)
  refine lv_aload_n hx hb dX7_init_20 rfl (lv_at hl 0 rfl) ?_
  refine lv_bipush (v := (41 : Int32)) hx hb dX7_init_21 (by decide) ?_
  refine g_newa C hH hA 1 rfl (fun _ _ h => h) wd156 rfl (N' := 41) (a0 := (41, (.inl (fun _ => 0)))) (avI 41) (by decide) (by decide) (Nat.le_of_ble_eq_true rfl) (Nat.le_of_ble_eq_true rfl) (Nat.le_of_ble_eq_true rfl) dX7_init_23 (fun q23 H n24 hH => ?_)
  obtain ⟨f25, ef25⟩ : ∃ z : gF, z = va_up f21 q23 (.inl (E.2.2 1, 41, .inl (fun _ => 0))) := ⟨_, rfl⟩
  obtain ⟨L26, eL26⟩ : ∃ z : List Nat, z = L15 ++ [q23] := ⟨_, rfl⟩
  have hH := g_re ef25 eL26 hH
  have sb27 : ∀ b ∈ L15, b ∈ L26 := fun b h => by rw [eL26]; exact List.mem_append_left _ h
  have h28 : q23 ∈ L26 := by rw [eL26]; exact List.mem_append_right _ List.mem_cons_self
  have h29 : f25 q23 = .inl (E.2.2 1, 41, .inl (fun _ => 0)) := (congrFun ef25 q23).trans (va_up_self _ _ _)
  have h30 : f25 q = .inr (7, [.null, .ref q1, .ref q12, .null, .null, .int (0 : Int32), .int (0 : Int32), .int (0 : Int32), .int (0 : Int32), .int (0 : Int32)]) := ((congrFun ef25 q).trans (va_up_ne _ _ (g_neL h20 n24))).trans h22
  have h31 : q ∈ L26 := sb27 _ h20
  refine g_putF C hH h31 h30 iX7 tyX7 tyX7_ok nmX7 rfl 3 (by decide) wd165 rfl rfl hnm rfl rfl rfl (Nat.le_of_ble_eq_true rfl) (fs' := [.null, .ref q1, .ref q12, .ref q23, .null, .int (0 : Int32), .int (0 : Int32), .int (0 : Int32), .int (0 : Int32), .int (0 : Int32)]) rfl dX7_init_25 (fun H locs hH => ?_)
  obtain ⟨f32, ef32⟩ : ∃ z : gF, z = va_up f25 q (.inr (7, [.null, .ref q1, .ref q12, .ref q23, .null, .int (0 : Int32), .int (0 : Int32), .int (0 : Int32), .int (0 : Int32), .int (0 : Int32)])) := ⟨_, rfl⟩
  have hH : gH E A L26 f32 s.heap H locs := by rw [ef32]; exact hH
  have h33 : f32 q = .inr (7, [.null, .ref q1, .ref q12, .ref q23, .null, .int (0 : Int32), .int (0 : Int32), .int (0 : Int32), .int (0 : Int32), .int (0 : Int32)]) := (congrFun ef32 q).trans (va_up_self _ _ _)
  refine lv_aload_n hx hb dX7_init_28 rfl (lv_at hl 0 rfl) ?_
  refine lv_bipush (v := (20 : Int32)) hx hb dX7_init_29 (by decide) ?_
  refine g_newa C hH hA 1 rfl (fun _ _ h => h) wd156 rfl (N' := 20) (a0 := (20, (.inl (fun _ => 0)))) (avI 20) (by decide) (by decide) (Nat.le_of_ble_eq_true rfl) (Nat.le_of_ble_eq_true rfl) (Nat.le_of_ble_eq_true rfl) dX7_init_31 (fun q34 H n35 hH => ?_)
  obtain ⟨f36, ef36⟩ : ∃ z : gF, z = va_up f32 q34 (.inl (E.2.2 1, 20, .inl (fun _ => 0))) := ⟨_, rfl⟩
  obtain ⟨L37, eL37⟩ : ∃ z : List Nat, z = L26 ++ [q34] := ⟨_, rfl⟩
  have hH := g_re ef36 eL37 hH
  have sb38 : ∀ b ∈ L26, b ∈ L37 := fun b h => by rw [eL37]; exact List.mem_append_left _ h
  have h39 : q34 ∈ L37 := by rw [eL37]; exact List.mem_append_right _ List.mem_cons_self
  have h40 : f36 q34 = .inl (E.2.2 1, 20, .inl (fun _ => 0)) := (congrFun ef36 q34).trans (va_up_self _ _ _)
  have h41 : f36 q = .inr (7, [.null, .ref q1, .ref q12, .ref q23, .null, .int (0 : Int32), .int (0 : Int32), .int (0 : Int32), .int (0 : Int32), .int (0 : Int32)]) := ((congrFun ef36 q).trans (va_up_ne _ _ (g_neL h31 n35))).trans h33
  have h42 : q ∈ L37 := sb38 _ h31
  refine g_putF C hH h42 h41 iX7 tyX7 tyX7_ok nmX7 rfl 4 (by decide) wd166 rfl rfl hnm rfl rfl rfl (Nat.le_of_ble_eq_true rfl) (fs' := [.null, .ref q1, .ref q12, .ref q23, .ref q34, .int (0 : Int32), .int (0 : Int32), .int (0 : Int32), .int (0 : Int32), .int (0 : Int32)]) rfl dX7_init_33 (fun H locs hH => ?_)
  obtain ⟨f43, ef43⟩ : ∃ z : gF, z = va_up f36 q (.inr (7, [.null, .ref q1, .ref q12, .ref q23, .ref q34, .int (0 : Int32), .int (0 : Int32), .int (0 : Int32), .int (0 : Int32), .int (0 : Int32)])) := ⟨_, rfl⟩
  have hH : gH E A L37 f43 s.heap H locs := by rw [ef43]; exact hH
  have h44 : f43 q = .inr (7, [.null, .ref q1, .ref q12, .ref q23, .ref q34, .int (0 : Int32), .int (0 : Int32), .int (0 : Int32), .int (0 : Int32), .int (0 : Int32)]) := (congrFun ef43 q).trans (va_up_self _ _ _)
  refine lv_aload_n hx hb dX7_init_36 rfl (lv_at hl 0 rfl) ?_
  refine lv_aload_n hx hb dX7_init_37 rfl (lv_at hl 1 rfl) ?_
  refine g_putF C hH h42 h44 iX7 tyX7 tyX7_ok nmX7 rfl 0 (by decide) wd167 rfl rfl hnm rfl rfl rfl (Nat.le_of_ble_eq_true rfl) (fs' := [.ref r0, .ref q1, .ref q12, .ref q23, .ref q34, .int (0 : Int32), .int (0 : Int32), .int (0 : Int32), .int (0 : Int32), .int (0 : Int32)]) rfl dX7_init_38 (fun H locs hH => ?_)
  obtain ⟨f45, ef45⟩ : ∃ z : gF, z = va_up f43 q (.inr (7, [.ref r0, .ref q1, .ref q12, .ref q23, .ref q34, .int (0 : Int32), .int (0 : Int32), .int (0 : Int32), .int (0 : Int32), .int (0 : Int32)])) := ⟨_, rfl⟩
  have hH : gH E A L37 f45 s.heap H locs := by rw [ef45]; exact hH
  have h46 : f45 q = .inr (7, [.ref r0, .ref q1, .ref q12, .ref q23, .ref q34, .int (0 : Int32), .int (0 : Int32), .int (0 : Int32), .int (0 : Int32), .int (0 : Int32)]) := (congrFun ef45 q).trans (va_up_self _ _ _)
  refine g_vret C hr hH (Nat.le_of_ble_eq_true rfl) (Nat.le_of_ble_eq_true rfl) dX7_init_41 ?_
  refine ⟨?_, ?_⟩
  · exact fun b hb => (sb38 _ (sb27 _ (sb16 _ (sb5 _ hb))))
  · intro b hb hbq
    have h47 : b ≠ q1 := g_neL hb n2
    have h48 : f3 b = f b := ((congrFun ef3 b).trans (va_up_ne _ _ (g_neL hb n2))).trans rfl
    have h49 : b ∈ L4 := sb5 _ hb
    have h50 : f10 b = f b := ((congrFun ef10 b).trans (va_up_ne _ _ hbq)).trans h48
    have h51 : b ≠ q12 := g_neL h49 n13
    have h52 : f14 b = f b := ((congrFun ef14 b).trans (va_up_ne _ _ (g_neL h49 n13))).trans h50
    have h53 : b ∈ L15 := sb16 _ h49
    have h54 : f21 b = f b := ((congrFun ef21 b).trans (va_up_ne _ _ hbq)).trans h52
    have h55 : b ≠ q23 := g_neL h53 n24
    have h56 : f25 b = f b := ((congrFun ef25 b).trans (va_up_ne _ _ (g_neL h53 n24))).trans h54
    have h57 : b ∈ L26 := sb27 _ h53
    have h58 : f32 b = f b := ((congrFun ef32 b).trans (va_up_ne _ _ hbq)).trans h56
    have h59 : b ≠ q34 := g_neL h57 n35
    have h60 : f36 b = f b := ((congrFun ef36 b).trans (va_up_ne _ _ (g_neL h57 n35))).trans h58
    have h61 : b ∈ L37 := sb38 _ h57
    have h62 : f43 b = f b := ((congrFun ef43 b).trans (va_up_ne _ _ hbq)).trans h60
    have h63 : f45 b = f b := ((congrFun ef45 b).trans (va_up_ne _ _ hbq)).trans h62
    exact h63
set_option maxHeartbeats 4000000 in
set_option maxRecDepth 100000 in
theorem k_Lanterns (l : Launch) (E : gE) (L : List Nat) (f : gF) {q r0 r1 : Nat} (mq : q ∈ L) (fq : f q = .inr (4, [.null, .null, .null, .null, .int (0 : Int32)])) : gMv l E yX4_init cX4_init 3 (gRm 1 2 128) [.ref q, .ref r0, .ref r1] L f (fun L1 f1 => ∃ lf ll : Nat, f1 q = .inr (4, [.ref r0, .ref r1, .ref lf, .ref ll, .int 0]) ∧ (∀ b ∈ L, b ∈ L1) ∧ (∀ b ∈ L, b ≠ q → f1 b = f b)) := by
  refine gMv.intro (by decide) (Nat.le_of_ble_eq_true rfl) ?_
  intro p e s m below meth c A ls C hr hnm hA hH hl
  have C : gC E cX4_init 3 RX4 p s m _ meth c := C
  have hl : lv_has ls 3 [(0, .ref q), (1, .ref r0), (2, .ref r1)] := hl
  have hx := C.1
  have hb := C.2.1
  refine lv_aload_n hx hb dX4_init_0 rfl (lv_at hl 0 rfl) ?_
  refine g_obj C hl.1 wd168 wd154 wd155 dX4_init_1 (Nat.le_of_ble_eq_true rfl) (Nat.le_of_ble_eq_true rfl) ?_
  refine lv_aload_n hx hb dX4_init_4 rfl (lv_at hl 0 rfl) ?_
  refine lv_bipush (v := (64 : Int32)) hx hb dX4_init_5 (by decide) ?_
  refine g_newa C hH hA 1 rfl (fun _ _ h => h) wd156 rfl (N' := 64) (a0 := (64, (.inl (fun _ => 0)))) (avI 64) (by decide) (by decide) (Nat.le_of_ble_eq_true rfl) (Nat.le_of_ble_eq_true rfl) (Nat.le_of_ble_eq_true rfl) dX4_init_7 (fun q1 H n2 hH => ?_)
  obtain ⟨f3, ef3⟩ : ∃ z : gF, z = va_up f q1 (.inl (E.2.2 1, 64, .inl (fun _ => 0))) := ⟨_, rfl⟩
  obtain ⟨L4, eL4⟩ : ∃ z : List Nat, z = L ++ [q1] := ⟨_, rfl⟩
  have hH := g_re ef3 eL4 hH
  have sb5 : ∀ b ∈ L, b ∈ L4 := fun b h => by rw [eL4]; exact List.mem_append_left _ h
  have h6 : q1 ∈ L4 := by rw [eL4]; exact List.mem_append_right _ List.mem_cons_self
  have h7 : f3 q1 = .inl (E.2.2 1, 64, .inl (fun _ => 0)) := (congrFun ef3 q1).trans (va_up_self _ _ _)
  have h8 : f3 q = .inr (4, [.null, .null, .null, .null, .int (0 : Int32)]) := ((congrFun ef3 q).trans (va_up_ne _ _ (g_neL mq n2))).trans fq
  have h9 : q ∈ L4 := sb5 _ mq
  refine g_putF C hH h9 h8 iX4 tyX4 tyX4_ok nmX4 rfl 2 (by decide) wd169 rfl rfl hnm rfl rfl rfl (Nat.le_of_ble_eq_true rfl) (fs' := [.null, .null, .ref q1, .null, .int (0 : Int32)]) rfl dX4_init_9 (fun H locs hH => ?_)
  obtain ⟨f10, ef10⟩ : ∃ z : gF, z = va_up f3 q (.inr (4, [.null, .null, .ref q1, .null, .int (0 : Int32)])) := ⟨_, rfl⟩
  have hH : gH E A L4 f10 s.heap H locs := by rw [ef10]; exact hH
  have h11 : f10 q = .inr (4, [.null, .null, .ref q1, .null, .int (0 : Int32)]) := (congrFun ef10 q).trans (va_up_self _ _ _)
  refine lv_aload_n hx hb dX4_init_12 rfl (lv_at hl 0 rfl) ?_
  refine lv_bipush (v := (64 : Int32)) hx hb dX4_init_13 (by decide) ?_
  refine g_newa C hH hA 1 rfl (fun _ _ h => h) wd156 rfl (N' := 64) (a0 := (64, (.inl (fun _ => 0)))) (avI 64) (by decide) (by decide) (Nat.le_of_ble_eq_true rfl) (Nat.le_of_ble_eq_true rfl) (Nat.le_of_ble_eq_true rfl) dX4_init_15 (fun q12 H n13 hH => ?_)
  obtain ⟨f14, ef14⟩ : ∃ z : gF, z = va_up f10 q12 (.inl (E.2.2 1, 64, .inl (fun _ => 0))) := ⟨_, rfl⟩
  obtain ⟨L15, eL15⟩ : ∃ z : List Nat, z = L4 ++ [q12] := ⟨_, rfl⟩
  have hH := g_re ef14 eL15 hH
  have sb16 : ∀ b ∈ L4, b ∈ L15 := fun b h => by rw [eL15]; exact List.mem_append_left _ h
  have h17 : q12 ∈ L15 := by rw [eL15]; exact List.mem_append_right _ List.mem_cons_self
  have h18 : f14 q12 = .inl (E.2.2 1, 64, .inl (fun _ => 0)) := (congrFun ef14 q12).trans (va_up_self _ _ _)
  have h19 : f14 q = .inr (4, [.null, .null, .ref q1, .null, .int (0 : Int32)]) := ((congrFun ef14 q).trans (va_up_ne _ _ (g_neL h9 n13))).trans h11
  have h20 : q ∈ L15 := sb16 _ h9
  refine g_putF C hH h20 h19 iX4 tyX4 tyX4_ok nmX4 rfl 3 (by decide) wd170 rfl rfl hnm rfl rfl rfl (Nat.le_of_ble_eq_true rfl) (fs' := [.null, .null, .ref q1, .ref q12, .int (0 : Int32)]) rfl dX4_init_17 (fun H locs hH => ?_)
  obtain ⟨f21, ef21⟩ : ∃ z : gF, z = va_up f14 q (.inr (4, [.null, .null, .ref q1, .ref q12, .int (0 : Int32)])) := ⟨_, rfl⟩
  have hH : gH E A L15 f21 s.heap H locs := by rw [ef21]; exact hH
  have h22 : f21 q = .inr (4, [.null, .null, .ref q1, .ref q12, .int (0 : Int32)]) := (congrFun ef21 q).trans (va_up_self _ _ _)
  refine lv_aload_n hx hb dX4_init_20 rfl (lv_at hl 0 rfl) ?_
  refine lv_aload_n hx hb dX4_init_21 rfl (lv_at hl 1 rfl) ?_
  refine g_putF C hH h20 h22 iX4 tyX4 tyX4_ok nmX4 rfl 0 (by decide) wd171 rfl rfl hnm rfl rfl rfl (Nat.le_of_ble_eq_true rfl) (fs' := [.ref r0, .null, .ref q1, .ref q12, .int (0 : Int32)]) rfl dX4_init_22 (fun H locs hH => ?_)
  obtain ⟨f23, ef23⟩ : ∃ z : gF, z = va_up f21 q (.inr (4, [.ref r0, .null, .ref q1, .ref q12, .int (0 : Int32)])) := ⟨_, rfl⟩
  have hH : gH E A L15 f23 s.heap H locs := by rw [ef23]; exact hH
  have h24 : f23 q = .inr (4, [.ref r0, .null, .ref q1, .ref q12, .int (0 : Int32)]) := (congrFun ef23 q).trans (va_up_self _ _ _)
  refine lv_aload_n hx hb dX4_init_25 rfl (lv_at hl 0 rfl) ?_
  refine lv_aload_n hx hb dX4_init_26 rfl (lv_at hl 2 rfl) ?_
  refine g_putF C hH h20 h24 iX4 tyX4 tyX4_ok nmX4 rfl 1 (by decide) wd172 rfl rfl hnm rfl rfl rfl (Nat.le_of_ble_eq_true rfl) (fs' := [.ref r0, .ref r1, .ref q1, .ref q12, .int (0 : Int32)]) rfl dX4_init_27 (fun H locs hH => ?_)
  obtain ⟨f25, ef25⟩ : ∃ z : gF, z = va_up f23 q (.inr (4, [.ref r0, .ref r1, .ref q1, .ref q12, .int (0 : Int32)])) := ⟨_, rfl⟩
  have hH : gH E A L15 f25 s.heap H locs := by rw [ef25]; exact hH
  have h26 : f25 q = .inr (4, [.ref r0, .ref r1, .ref q1, .ref q12, .int (0 : Int32)]) := (congrFun ef25 q).trans (va_up_self _ _ _)
  refine g_vret C hr hH (Nat.le_of_ble_eq_true rfl) (Nat.le_of_ble_eq_true rfl) dX4_init_30 ?_
  refine ⟨_, _, h26, ?_, ?_⟩
  · exact fun b hb => (sb16 _ (sb5 _ hb))
  · intro b hb hbq
    have h27 : b ≠ q1 := g_neL hb n2
    have h28 : f3 b = f b := ((congrFun ef3 b).trans (va_up_ne _ _ (g_neL hb n2))).trans rfl
    have h29 : b ∈ L4 := sb5 _ hb
    have h30 : f10 b = f b := ((congrFun ef10 b).trans (va_up_ne _ _ hbq)).trans h28
    have h31 : b ≠ q12 := g_neL h29 n13
    have h32 : f14 b = f b := ((congrFun ef14 b).trans (va_up_ne _ _ (g_neL h29 n13))).trans h30
    have h33 : b ∈ L15 := sb16 _ h29
    have h34 : f21 b = f b := ((congrFun ef21 b).trans (va_up_ne _ _ hbq)).trans h32
    have h35 : f23 b = f b := ((congrFun ef23 b).trans (va_up_ne _ _ hbq)).trans h34
    have h36 : f25 b = f b := ((congrFun ef25 b).trans (va_up_ne _ _ hbq)).trans h35
    exact h36
set_option maxHeartbeats 4000000 in
set_option maxRecDepth 100000 in
theorem k_Clues (l : Launch) (E : gE) (L : List Nat) (f : gF) {q r0 r1 : Nat} (mq : q ∈ L) (fq : f q = .inr (0, [.null, .null, .null, .null])) : gMv l E yX0_init cX0_init 3 (gRm 1 2 84) [.ref q, .ref r0, .ref r1] L f (fun L1 f1 => (∀ b ∈ L, b ∈ L1) ∧ (∀ b ∈ L, b ≠ q → f1 b = f b)) := by
  refine gMv.intro (by decide) (Nat.le_of_ble_eq_true rfl) ?_
  intro p e s m below meth c A ls C hr hnm hA hH hl
  have C : gC E cX0_init 3 RX0 p s m _ meth c := C
  have hl : lv_has ls 3 [(0, .ref q), (1, .ref r0), (2, .ref r1)] := hl
  have hx := C.1
  have hb := C.2.1
  refine lv_aload_n hx hb dX0_init_0 rfl (lv_at hl 0 rfl) ?_
  refine g_obj C hl.1 wd173 wd154 wd155 dX0_init_1 (Nat.le_of_ble_eq_true rfl) (Nat.le_of_ble_eq_true rfl) ?_
  refine lv_aload_n hx hb dX0_init_4 rfl (lv_at hl 0 rfl) ?_
  refine lv_bipush (v := (80 : Int32)) hx hb dX0_init_5 (by decide) ?_
  refine g_newa C hH hA 1 rfl (fun _ _ h => h) wd156 rfl (N' := 80) (a0 := (80, (.inl (fun _ => 0)))) (avI 80) (by decide) (by decide) (Nat.le_of_ble_eq_true rfl) (Nat.le_of_ble_eq_true rfl) (Nat.le_of_ble_eq_true rfl) dX0_init_7 (fun q1 H n2 hH => ?_)
  obtain ⟨f3, ef3⟩ : ∃ z : gF, z = va_up f q1 (.inl (E.2.2 1, 80, .inl (fun _ => 0))) := ⟨_, rfl⟩
  obtain ⟨L4, eL4⟩ : ∃ z : List Nat, z = L ++ [q1] := ⟨_, rfl⟩
  have hH := g_re ef3 eL4 hH
  have sb5 : ∀ b ∈ L, b ∈ L4 := fun b h => by rw [eL4]; exact List.mem_append_left _ h
  have h6 : q1 ∈ L4 := by rw [eL4]; exact List.mem_append_right _ List.mem_cons_self
  have h7 : f3 q1 = .inl (E.2.2 1, 80, .inl (fun _ => 0)) := (congrFun ef3 q1).trans (va_up_self _ _ _)
  have h8 : f3 q = .inr (0, [.null, .null, .null, .null]) := ((congrFun ef3 q).trans (va_up_ne _ _ (g_neL mq n2))).trans fq
  have h9 : q ∈ L4 := sb5 _ mq
  refine g_putF C hH h9 h8 iX0 tyX0 tyX0_ok nmX0 rfl 2 (by decide) wd174 rfl rfl hnm rfl rfl rfl (Nat.le_of_ble_eq_true rfl) (fs' := [.null, .null, .ref q1, .null]) rfl dX0_init_9 (fun H locs hH => ?_)
  obtain ⟨f10, ef10⟩ : ∃ z : gF, z = va_up f3 q (.inr (0, [.null, .null, .ref q1, .null])) := ⟨_, rfl⟩
  have hH : gH E A L4 f10 s.heap H locs := by rw [ef10]; exact hH
  have h11 : f10 q = .inr (0, [.null, .null, .ref q1, .null]) := (congrFun ef10 q).trans (va_up_self _ _ _)
  refine lv_aload_n hx hb dX0_init_12 rfl (lv_at hl 0 rfl) ?_
  refine lv_iconst (v := (4 : Int32)) hx hb dX0_init_13 (by decide) ?_
  refine g_newa C hH hA 1 rfl (fun _ _ h => h) wd156 rfl (N' := 4) (a0 := (4, (.inl (fun _ => 0)))) (avI 4) (by decide) (by decide) (Nat.le_of_ble_eq_true rfl) (Nat.le_of_ble_eq_true rfl) (Nat.le_of_ble_eq_true rfl) dX0_init_14 (fun q12 H n13 hH => ?_)
  obtain ⟨f14, ef14⟩ : ∃ z : gF, z = va_up f10 q12 (.inl (E.2.2 1, 4, .inl (fun _ => 0))) := ⟨_, rfl⟩
  obtain ⟨L15, eL15⟩ : ∃ z : List Nat, z = L4 ++ [q12] := ⟨_, rfl⟩
  have hH := g_re ef14 eL15 hH
  have sb16 : ∀ b ∈ L4, b ∈ L15 := fun b h => by rw [eL15]; exact List.mem_append_left _ h
  have h17 : q12 ∈ L15 := by rw [eL15]; exact List.mem_append_right _ List.mem_cons_self
  have h18 : f14 q12 = .inl (E.2.2 1, 4, .inl (fun _ => 0)) := (congrFun ef14 q12).trans (va_up_self _ _ _)
  have h19 : f14 q = .inr (0, [.null, .null, .ref q1, .null]) := ((congrFun ef14 q).trans (va_up_ne _ _ (g_neL h9 n13))).trans h11
  have h20 : q ∈ L15 := sb16 _ h9
  refine g_putF C hH h20 h19 iX0 tyX0 tyX0_ok nmX0 rfl 3 (by decide) wd175 rfl rfl hnm rfl rfl rfl (Nat.le_of_ble_eq_true rfl) (fs' := [.null, .null, .ref q1, .ref q12]) rfl dX0_init_16 (fun H locs hH => ?_)
  obtain ⟨f21, ef21⟩ : ∃ z : gF, z = va_up f14 q (.inr (0, [.null, .null, .ref q1, .ref q12])) := ⟨_, rfl⟩
  have hH : gH E A L15 f21 s.heap H locs := by rw [ef21]; exact hH
  have h22 : f21 q = .inr (0, [.null, .null, .ref q1, .ref q12]) := (congrFun ef21 q).trans (va_up_self _ _ _)
  refine lv_aload_n hx hb dX0_init_19 rfl (lv_at hl 0 rfl) ?_
  refine lv_aload_n hx hb dX0_init_20 rfl (lv_at hl 1 rfl) ?_
  refine g_putF C hH h20 h22 iX0 tyX0 tyX0_ok nmX0 rfl 0 (by decide) wd176 rfl rfl hnm rfl rfl rfl (Nat.le_of_ble_eq_true rfl) (fs' := [.ref r0, .null, .ref q1, .ref q12]) rfl dX0_init_21 (fun H locs hH => ?_)
  obtain ⟨f23, ef23⟩ : ∃ z : gF, z = va_up f21 q (.inr (0, [.ref r0, .null, .ref q1, .ref q12])) := ⟨_, rfl⟩
  have hH : gH E A L15 f23 s.heap H locs := by rw [ef23]; exact hH
  have h24 : f23 q = .inr (0, [.ref r0, .null, .ref q1, .ref q12]) := (congrFun ef23 q).trans (va_up_self _ _ _)
  refine lv_aload_n hx hb dX0_init_24 rfl (lv_at hl 0 rfl) ?_
  refine lv_aload_n hx hb dX0_init_25 rfl (lv_at hl 2 rfl) ?_
  refine g_putF C hH h20 h24 iX0 tyX0 tyX0_ok nmX0 rfl 1 (by decide) wd177 rfl rfl hnm rfl rfl rfl (Nat.le_of_ble_eq_true rfl) (fs' := [.ref r0, .ref r1, .ref q1, .ref q12]) rfl dX0_init_26 (fun H locs hH => ?_)
  obtain ⟨f25, ef25⟩ : ∃ z : gF, z = va_up f23 q (.inr (0, [.ref r0, .ref r1, .ref q1, .ref q12])) := ⟨_, rfl⟩
  have hH : gH E A L15 f25 s.heap H locs := by rw [ef25]; exact hH
  have h26 : f25 q = .inr (0, [.ref r0, .ref r1, .ref q1, .ref q12]) := (congrFun ef25 q).trans (va_up_self _ _ _)
  refine g_vret C hr hH (Nat.le_of_ble_eq_true rfl) (Nat.le_of_ble_eq_true rfl) dX0_init_29 ?_
  refine ⟨?_, ?_⟩
  · exact fun b hb => (sb16 _ (sb5 _ hb))
  · intro b hb hbq
    have h27 : b ≠ q1 := g_neL hb n2
    have h28 : f3 b = f b := ((congrFun ef3 b).trans (va_up_ne _ _ (g_neL hb n2))).trans rfl
    have h29 : b ∈ L4 := sb5 _ hb
    have h30 : f10 b = f b := ((congrFun ef10 b).trans (va_up_ne _ _ hbq)).trans h28
    have h31 : b ≠ q12 := g_neL h29 n13
    have h32 : f14 b = f b := ((congrFun ef14 b).trans (va_up_ne _ _ (g_neL h29 n13))).trans h30
    have h33 : b ∈ L15 := sb16 _ h29
    have h34 : f21 b = f b := ((congrFun ef21 b).trans (va_up_ne _ _ hbq)).trans h32
    have h35 : f23 b = f b := ((congrFun ef23 b).trans (va_up_ne _ _ hbq)).trans h34
    have h36 : f25 b = f b := ((congrFun ef25 b).trans (va_up_ne _ _ hbq)).trans h35
    exact h36
set_option maxHeartbeats 4000000 in
set_option maxRecDepth 100000 in
theorem k_Houses (l : Launch) (E : gE) (L : List Nat) (f : gF) {q r0 r1 : Nat} (mq : q ∈ L) (fq : f q = .inr (2, [.null, .null, .null, .null])) : gMv l E yX2_init cX2_init 3 (gRm 1 2 70) [.ref q, .ref r0, .ref r1] L f (fun L1 f1 => (∀ b ∈ L, b ∈ L1) ∧ (∀ b ∈ L, b ≠ q → f1 b = f b)) := by
  refine gMv.intro (by decide) (Nat.le_of_ble_eq_true rfl) ?_
  intro p e s m below meth c A ls C hr hnm hA hH hl
  have C : gC E cX2_init 3 RX2 p s m _ meth c := C
  have hl : lv_has ls 3 [(0, .ref q), (1, .ref r0), (2, .ref r1)] := hl
  have hx := C.1
  have hb := C.2.1
  refine lv_aload_n hx hb dX2_init_0 rfl (lv_at hl 0 rfl) ?_
  refine g_obj C hl.1 wd178 wd154 wd155 dX2_init_1 (Nat.le_of_ble_eq_true rfl) (Nat.le_of_ble_eq_true rfl) ?_
  refine lv_aload_n hx hb dX2_init_4 rfl (lv_at hl 0 rfl) ?_
  refine lv_bipush (v := (6 : Int32)) hx hb dX2_init_5 (by decide) ?_
  refine g_newa C hH hA 1 rfl (fun _ _ h => h) wd156 rfl (N' := 6) (a0 := (6, (.inl (fun _ => 0)))) (avI 6) (by decide) (by decide) (Nat.le_of_ble_eq_true rfl) (Nat.le_of_ble_eq_true rfl) (Nat.le_of_ble_eq_true rfl) dX2_init_7 (fun q1 H n2 hH => ?_)
  obtain ⟨f3, ef3⟩ : ∃ z : gF, z = va_up f q1 (.inl (E.2.2 1, 6, .inl (fun _ => 0))) := ⟨_, rfl⟩
  obtain ⟨L4, eL4⟩ : ∃ z : List Nat, z = L ++ [q1] := ⟨_, rfl⟩
  have hH := g_re ef3 eL4 hH
  have sb5 : ∀ b ∈ L, b ∈ L4 := fun b h => by rw [eL4]; exact List.mem_append_left _ h
  have h6 : q1 ∈ L4 := by rw [eL4]; exact List.mem_append_right _ List.mem_cons_self
  have h7 : f3 q1 = .inl (E.2.2 1, 6, .inl (fun _ => 0)) := (congrFun ef3 q1).trans (va_up_self _ _ _)
  have h8 : f3 q = .inr (2, [.null, .null, .null, .null]) := ((congrFun ef3 q).trans (va_up_ne _ _ (g_neL mq n2))).trans fq
  have h9 : q ∈ L4 := sb5 _ mq
  refine g_putF C hH h9 h8 iX2 tyX2 tyX2_ok nmX2 rfl 2 (by decide) wd179 rfl rfl hnm rfl rfl rfl (Nat.le_of_ble_eq_true rfl) (fs' := [.null, .null, .ref q1, .null]) rfl dX2_init_9 (fun H locs hH => ?_)
  obtain ⟨f10, ef10⟩ : ∃ z : gF, z = va_up f3 q (.inr (2, [.null, .null, .ref q1, .null])) := ⟨_, rfl⟩
  have hH : gH E A L4 f10 s.heap H locs := by rw [ef10]; exact hH
  have h11 : f10 q = .inr (2, [.null, .null, .ref q1, .null]) := (congrFun ef10 q).trans (va_up_self _ _ _)
  refine lv_aload_n hx hb dX2_init_12 rfl (lv_at hl 0 rfl) ?_
  refine lv_bipush (v := (64 : Int32)) hx hb dX2_init_13 (by decide) ?_
  refine g_newa C hH hA 1 rfl (fun _ _ h => h) wd156 rfl (N' := 64) (a0 := (64, (.inl (fun _ => 0)))) (avI 64) (by decide) (by decide) (Nat.le_of_ble_eq_true rfl) (Nat.le_of_ble_eq_true rfl) (Nat.le_of_ble_eq_true rfl) dX2_init_15 (fun q12 H n13 hH => ?_)
  obtain ⟨f14, ef14⟩ : ∃ z : gF, z = va_up f10 q12 (.inl (E.2.2 1, 64, .inl (fun _ => 0))) := ⟨_, rfl⟩
  obtain ⟨L15, eL15⟩ : ∃ z : List Nat, z = L4 ++ [q12] := ⟨_, rfl⟩
  have hH := g_re ef14 eL15 hH
  have sb16 : ∀ b ∈ L4, b ∈ L15 := fun b h => by rw [eL15]; exact List.mem_append_left _ h
  have h17 : q12 ∈ L15 := by rw [eL15]; exact List.mem_append_right _ List.mem_cons_self
  have h18 : f14 q12 = .inl (E.2.2 1, 64, .inl (fun _ => 0)) := (congrFun ef14 q12).trans (va_up_self _ _ _)
  have h19 : f14 q = .inr (2, [.null, .null, .ref q1, .null]) := ((congrFun ef14 q).trans (va_up_ne _ _ (g_neL h9 n13))).trans h11
  have h20 : q ∈ L15 := sb16 _ h9
  refine g_putF C hH h20 h19 iX2 tyX2 tyX2_ok nmX2 rfl 3 (by decide) wd180 rfl rfl hnm rfl rfl rfl (Nat.le_of_ble_eq_true rfl) (fs' := [.null, .null, .ref q1, .ref q12]) rfl dX2_init_17 (fun H locs hH => ?_)
  obtain ⟨f21, ef21⟩ : ∃ z : gF, z = va_up f14 q (.inr (2, [.null, .null, .ref q1, .ref q12])) := ⟨_, rfl⟩
  have hH : gH E A L15 f21 s.heap H locs := by rw [ef21]; exact hH
  have h22 : f21 q = .inr (2, [.null, .null, .ref q1, .ref q12]) := (congrFun ef21 q).trans (va_up_self _ _ _)
  refine lv_aload_n hx hb dX2_init_20 rfl (lv_at hl 0 rfl) ?_
  refine lv_aload_n hx hb dX2_init_21 rfl (lv_at hl 1 rfl) ?_
  refine g_putF C hH h20 h22 iX2 tyX2 tyX2_ok nmX2 rfl 0 (by decide) wd181 rfl rfl hnm rfl rfl rfl (Nat.le_of_ble_eq_true rfl) (fs' := [.ref r0, .null, .ref q1, .ref q12]) rfl dX2_init_22 (fun H locs hH => ?_)
  obtain ⟨f23, ef23⟩ : ∃ z : gF, z = va_up f21 q (.inr (2, [.ref r0, .null, .ref q1, .ref q12])) := ⟨_, rfl⟩
  have hH : gH E A L15 f23 s.heap H locs := by rw [ef23]; exact hH
  have h24 : f23 q = .inr (2, [.ref r0, .null, .ref q1, .ref q12]) := (congrFun ef23 q).trans (va_up_self _ _ _)
  refine lv_aload_n hx hb dX2_init_25 rfl (lv_at hl 0 rfl) ?_
  refine lv_aload_n hx hb dX2_init_26 rfl (lv_at hl 2 rfl) ?_
  refine g_putF C hH h20 h24 iX2 tyX2 tyX2_ok nmX2 rfl 1 (by decide) wd182 rfl rfl hnm rfl rfl rfl (Nat.le_of_ble_eq_true rfl) (fs' := [.ref r0, .ref r1, .ref q1, .ref q12]) rfl dX2_init_27 (fun H locs hH => ?_)
  obtain ⟨f25, ef25⟩ : ∃ z : gF, z = va_up f23 q (.inr (2, [.ref r0, .ref r1, .ref q1, .ref q12])) := ⟨_, rfl⟩
  have hH : gH E A L15 f25 s.heap H locs := by rw [ef25]; exact hH
  have h26 : f25 q = .inr (2, [.ref r0, .ref r1, .ref q1, .ref q12]) := (congrFun ef25 q).trans (va_up_self _ _ _)
  refine g_vret C hr hH (Nat.le_of_ble_eq_true rfl) (Nat.le_of_ble_eq_true rfl) dX2_init_30 ?_
  refine ⟨?_, ?_⟩
  · exact fun b hb => (sb16 _ (sb5 _ hb))
  · intro b hb hbq
    have h27 : b ≠ q1 := g_neL hb n2
    have h28 : f3 b = f b := ((congrFun ef3 b).trans (va_up_ne _ _ (g_neL hb n2))).trans rfl
    have h29 : b ∈ L4 := sb5 _ hb
    have h30 : f10 b = f b := ((congrFun ef10 b).trans (va_up_ne _ _ hbq)).trans h28
    have h31 : b ≠ q12 := g_neL h29 n13
    have h32 : f14 b = f b := ((congrFun ef14 b).trans (va_up_ne _ _ (g_neL h29 n13))).trans h30
    have h33 : b ∈ L15 := sb16 _ h29
    have h34 : f21 b = f b := ((congrFun ef21 b).trans (va_up_ne _ _ hbq)).trans h32
    have h35 : f23 b = f b := ((congrFun ef23 b).trans (va_up_ne _ _ hbq)).trans h34
    have h36 : f25 b = f b := ((congrFun ef25 b).trans (va_up_ne _ _ hbq)).trans h35
    exact h36
set_option maxHeartbeats 4000000 in
set_option maxRecDepth 100000 in
theorem k_Fog (l : Launch) (E : gE) (L : List Nat) (f : gF) {q r0 r1 : Nat} (mq : q ∈ L) (fq : f q = .inr (1, [.null, .null])) : gMv l E yX1_init cX1_init 3 (gRm 1 0 0) [.ref q, .ref r0, .ref r1] L f (fun L1 f1 => (∀ b ∈ L, b ∈ L1) ∧ (∀ b ∈ L, b ≠ q → f1 b = f b)) := by
  refine gMv.intro (by decide) (Nat.le_of_ble_eq_true rfl) ?_
  intro p e s m below meth c A ls C hr hnm hA hH hl
  have C : gC E cX1_init 3 RX1 p s m _ meth c := C
  have hl : lv_has ls 3 [(0, .ref q), (1, .ref r0), (2, .ref r1)] := hl
  have hx := C.1
  have hb := C.2.1
  refine lv_aload_n hx hb dX1_init_0 rfl (lv_at hl 0 rfl) ?_
  refine g_obj C hl.1 wd183 wd154 wd155 dX1_init_1 (Nat.le_of_ble_eq_true rfl) (Nat.le_of_ble_eq_true rfl) ?_
  refine lv_aload_n hx hb dX1_init_4 rfl (lv_at hl 0 rfl) ?_
  refine lv_aload_n hx hb dX1_init_5 rfl (lv_at hl 1 rfl) ?_
  refine g_putF C hH mq fq iX1 tyX1 tyX1_ok nmX1 rfl 0 (by decide) wd184 rfl rfl hnm rfl rfl rfl (Nat.le_of_ble_eq_true rfl) (fs' := [.ref r0, .null]) rfl dX1_init_6 (fun H locs hH => ?_)
  obtain ⟨f1, ef1⟩ : ∃ z : gF, z = va_up f q (.inr (1, [.ref r0, .null])) := ⟨_, rfl⟩
  have hH : gH E A L f1 s.heap H locs := by rw [ef1]; exact hH
  have h2 : f1 q = .inr (1, [.ref r0, .null]) := (congrFun ef1 q).trans (va_up_self _ _ _)
  refine lv_aload_n hx hb dX1_init_9 rfl (lv_at hl 0 rfl) ?_
  refine lv_aload_n hx hb dX1_init_10 rfl (lv_at hl 2 rfl) ?_
  refine g_putF C hH mq h2 iX1 tyX1 tyX1_ok nmX1 rfl 1 (by decide) wd185 rfl rfl hnm rfl rfl rfl (Nat.le_of_ble_eq_true rfl) (fs' := [.ref r0, .ref r1]) rfl dX1_init_11 (fun H locs hH => ?_)
  obtain ⟨f3, ef3⟩ : ∃ z : gF, z = va_up f1 q (.inr (1, [.ref r0, .ref r1])) := ⟨_, rfl⟩
  have hH : gH E A L f3 s.heap H locs := by rw [ef3]; exact hH
  have h4 : f3 q = .inr (1, [.ref r0, .ref r1]) := (congrFun ef3 q).trans (va_up_self _ _ _)
  refine g_vret C hr hH (Nat.le_of_ble_eq_true rfl) (Nat.le_of_ble_eq_true rfl) dX1_init_14 ?_
  refine ⟨?_, ?_⟩
  · exact fun b hb => hb
  · intro b hb hbq
    have h5 : f1 b = f b := ((congrFun ef1 b).trans (va_up_ne _ _ hbq)).trans rfl
    have h6 : f3 b = f b := ((congrFun ef3 b).trans (va_up_ne _ _ hbq)).trans h5
    exact h6
set_option maxHeartbeats 4000000 in
set_option maxRecDepth 100000 in
theorem k_Desk (l : Launch) (E : gE) (L : List Nat) (f : gF) {q : Nat} (mq : q ∈ L) (fq : f q = .inr (9, [.null, .null, .null, .null, .null, .null, .null, .null, .null, .null, .null])) : gMv l E yX9_init cX9_init 2 (gRm 3 84 2671) [.ref q] L f (fun L1 f1 => gFresh E L1 f1 q ∧ (∀ b ∈ L, b ∈ L1) ∧ (∀ b ∈ L, b ≠ q → f1 b = f b)) := by
  refine gMv.intro (by decide) (Nat.le_of_ble_eq_true rfl) ?_
  intro p e s m below meth c A ls C hr hnm hA hH hl
  have C : gC E cX9_init 2 RX9 p s m _ meth c := C
  have hl : lv_has ls 2 [(0, .ref q)] := hl
  have hx := C.1
  have hb := C.2.1
  refine lv_aload_n hx hb dX9_init_0 rfl (lv_at hl 0 rfl) ?_
  refine g_obj C hl.1 wd186 wd154 wd155 dX9_init_1 (Nat.le_of_ble_eq_true rfl) (Nat.le_of_ble_eq_true rfl) ?_
  refine lv_aload_n hx hb dX9_init_4 rfl (lv_at hl 0 rfl) ?_
  refine g_new C hH hA (ci := 8) iX8 tyX8 tyX8_ok wd187 wd188 wd58 rfl (fs := [.null, .int (0 : Int32)]) (dvX8) (Nat.le_of_ble_eq_true rfl) (Nat.le_of_ble_eq_true rfl) dX9_init_5 (fun q1 H n2 hH => ?_)
  obtain ⟨f3, ef3⟩ : ∃ z : gF, z = va_up f q1 (.inr (8, [.null, .int (0 : Int32)])) := ⟨_, rfl⟩
  obtain ⟨L4, eL4⟩ : ∃ z : List Nat, z = L ++ [q1] := ⟨_, rfl⟩
  have hH := g_re ef3 eL4 hH
  have sb5 : ∀ b ∈ L, b ∈ L4 := fun b h => by rw [eL4]; exact List.mem_append_left _ h
  have h6 : q1 ∈ L4 := by rw [eL4]; exact List.mem_append_right _ List.mem_cons_self
  have h7 : f3 q1 = .inr (8, [.null, .int (0 : Int32)]) := (congrFun ef3 q1).trans (va_up_self _ _ _)
  refine lv_dup hx hb dX9_init_8 rfl ?_
  refine g_INv C hl.1 hA hH (As := []) (rest := [.ref q1, .ref q]) (k_Tape l E L4 f3 h6 h7) my_X8_init (host := "GooseShares") (List.mem_of_getElem? (i := 0) rfl) rfl rfl (Nat.le_of_ble_eq_true rfl) ⟨Nat.le_of_ble_eq_true rfl, Nat.le_of_ble_eq_true rfl⟩ ⟨Nat.le_of_ble_eq_true rfl, Nat.le_of_ble_eq_true rfl⟩ dX9_init_9 (fun L9 f8 H locs hp hH => ?_)
  obtain ⟨q10, h11, h12, h13, sb14, k15⟩ := hp
  have h16 := sb14 _ h6
  have h17 : f3 q = .inr (9, [.null, .null, .null, .null, .null, .null, .null, .null, .null, .null, .null]) := ((congrFun ef3 q).trans (va_up_ne _ _ (g_neL mq n2))).trans fq
  have h18 : q ∈ L4 := sb5 _ mq
  have h19 : f8 q = .inr (9, [.null, .null, .null, .null, .null, .null, .null, .null, .null, .null, .null]) := (k15 q h18 (g_neO h17 h7 (by decide))).trans h17
  have h20 : q ∈ L9 := sb14 _ h18
  refine g_putF C hH h20 h19 iX9 tyX9 tyX9_ok nmX9 rfl 0 (by decide) wd54 rfl rfl hnm rfl rfl rfl (Nat.le_of_ble_eq_true rfl) (fs' := [.ref q1, .null, .null, .null, .null, .null, .null, .null, .null, .null, .null]) rfl dX9_init_12 (fun H locs hH => ?_)
  obtain ⟨f21, ef21⟩ : ∃ z : gF, z = va_up f8 q (.inr (9, [.ref q1, .null, .null, .null, .null, .null, .null, .null, .null, .null, .null])) := ⟨_, rfl⟩
  have hH : gH E A L9 f21 s.heap H locs := by rw [ef21]; exact hH
  have h22 : f21 q = .inr (9, [.ref q1, .null, .null, .null, .null, .null, .null, .null, .null, .null, .null]) := (congrFun ef21 q).trans (va_up_self _ _ _)
  refine lv_aload_n hx hb dX9_init_15 rfl (lv_at hl 0 rfl) ?_
  refine g_new C hH hA (ci := 3) iX3 tyX3 tyX3_ok wd191 wd192 wd7 rfl (fs := [.int (0 : Int32), .int (0 : Int32), .int (0 : Int32), .int (0 : Int32), .int (0 : Int32), .int (0 : Int32), .int (0 : Int32), .int (0 : Int32), .int (0 : Int32), .int (0 : Int32), .null, .null, .null, .null, .null, .null, .null, .null, .null, .null]) (dvX3) (Nat.le_of_ble_eq_true rfl) (Nat.le_of_ble_eq_true rfl) dX9_init_16 (fun q23 H n24 hH => ?_)
  obtain ⟨f25, ef25⟩ : ∃ z : gF, z = va_up f21 q23 (.inr (3, [.int (0 : Int32), .int (0 : Int32), .int (0 : Int32), .int (0 : Int32), .int (0 : Int32), .int (0 : Int32), .int (0 : Int32), .int (0 : Int32), .int (0 : Int32), .int (0 : Int32), .null, .null, .null, .null, .null, .null, .null, .null, .null, .null])) := ⟨_, rfl⟩
  obtain ⟨L26, eL26⟩ : ∃ z : List Nat, z = L9 ++ [q23] := ⟨_, rfl⟩
  have hH := g_re ef25 eL26 hH
  have sb27 : ∀ b ∈ L9, b ∈ L26 := fun b h => by rw [eL26]; exact List.mem_append_left _ h
  have h28 : q23 ∈ L26 := by rw [eL26]; exact List.mem_append_right _ List.mem_cons_self
  have h29 : f25 q23 = .inr (3, [.int (0 : Int32), .int (0 : Int32), .int (0 : Int32), .int (0 : Int32), .int (0 : Int32), .int (0 : Int32), .int (0 : Int32), .int (0 : Int32), .int (0 : Int32), .int (0 : Int32), .null, .null, .null, .null, .null, .null, .null, .null, .null, .null]) := (congrFun ef25 q23).trans (va_up_self _ _ _)
  refine lv_dup hx hb dX9_init_19 rfl ?_
  refine g_INv C hl.1 hA hH (As := []) (rest := [.ref q23, .ref q]) (k_Land l E L26 f25 h28 h29) my_X3_init (host := "GooseShares") (List.mem_of_getElem? (i := 1) rfl) rfl rfl (Nat.le_of_ble_eq_true rfl) ⟨Nat.le_of_ble_eq_true rfl, Nat.le_of_ble_eq_true rfl⟩ ⟨Nat.le_of_ble_eq_true rfl, Nat.le_of_ble_eq_true rfl⟩ dX9_init_20 (fun L31 f30 H locs hp hH => ?_)
  obtain ⟨na32, h33, h34, sb35, k36⟩ := hp
  have h37 := sb35 _ h28
  have h38 : f25 q = .inr (9, [.ref q1, .null, .null, .null, .null, .null, .null, .null, .null, .null, .null]) := ((congrFun ef25 q).trans (va_up_ne _ _ (g_neL h20 n24))).trans h22
  have h39 : q ∈ L26 := sb27 _ h20
  have h40 : f30 q = .inr (9, [.ref q1, .null, .null, .null, .null, .null, .null, .null, .null, .null, .null]) := (k36 q h39 (g_neO h38 h29 (by decide))).trans h38
  have h41 : q ∈ L31 := sb35 _ h39
  refine g_putF C hH h41 h40 iX9 tyX9 tyX9_ok nmX9 rfl 1 (by decide) wd18 rfl rfl hnm rfl rfl rfl (Nat.le_of_ble_eq_true rfl) (fs' := [.ref q1, .ref q23, .null, .null, .null, .null, .null, .null, .null, .null, .null]) rfl dX9_init_23 (fun H locs hH => ?_)
  obtain ⟨f42, ef42⟩ : ∃ z : gF, z = va_up f30 q (.inr (9, [.ref q1, .ref q23, .null, .null, .null, .null, .null, .null, .null, .null, .null])) := ⟨_, rfl⟩
  have hH : gH E A L31 f42 s.heap H locs := by rw [ef42]; exact hH
  have h43 : f42 q = .inr (9, [.ref q1, .ref q23, .null, .null, .null, .null, .null, .null, .null, .null, .null]) := (congrFun ef42 q).trans (va_up_self _ _ _)
  refine lv_aload_n hx hb dX9_init_26 rfl (lv_at hl 0 rfl) ?_
  refine g_new C hH hA (ci := 5) iX5 tyX5 tyX5_ok wd195 wd196 wd134 rfl (fs := [.null, .null, .int (0 : Int32), .int (0 : Int32), .int (0 : Int32), .int (0 : Int32), .int (0 : Int32)]) (dvX5) (Nat.le_of_ble_eq_true rfl) (Nat.le_of_ble_eq_true rfl) dX9_init_27 (fun q44 H n45 hH => ?_)
  obtain ⟨f46, ef46⟩ : ∃ z : gF, z = va_up f42 q44 (.inr (5, [.null, .null, .int (0 : Int32), .int (0 : Int32), .int (0 : Int32), .int (0 : Int32), .int (0 : Int32)])) := ⟨_, rfl⟩
  obtain ⟨L47, eL47⟩ : ∃ z : List Nat, z = L31 ++ [q44] := ⟨_, rfl⟩
  have hH := g_re ef46 eL47 hH
  have sb48 : ∀ b ∈ L31, b ∈ L47 := fun b h => by rw [eL47]; exact List.mem_append_left _ h
  have h49 : q44 ∈ L47 := by rw [eL47]; exact List.mem_append_right _ List.mem_cons_self
  have h50 : f46 q44 = .inr (5, [.null, .null, .int (0 : Int32), .int (0 : Int32), .int (0 : Int32), .int (0 : Int32), .int (0 : Int32)]) := (congrFun ef46 q44).trans (va_up_self _ _ _)
  refine lv_dup hx hb dX9_init_30 rfl ?_
  refine lv_aload_n hx hb dX9_init_31 rfl (lv_at hl 0 rfl) ?_
  have h51 : f46 q = .inr (9, [.ref q1, .ref q23, .null, .null, .null, .null, .null, .null, .null, .null, .null]) := ((congrFun ef46 q).trans (va_up_ne _ _ (g_neL h41 n45))).trans h43
  have h52 : q ∈ L47 := sb48 _ h41
  refine g_get C hH h52 h51 iX9 rfl 0 (by decide) wd54 rfl rfl dX9_init_32 ?_
  refine g_new C hH hA (ci := 3) iX3 tyX3 tyX3_ok wd191 wd192 wd7 rfl (fs := [.int (0 : Int32), .int (0 : Int32), .int (0 : Int32), .int (0 : Int32), .int (0 : Int32), .int (0 : Int32), .int (0 : Int32), .int (0 : Int32), .int (0 : Int32), .int (0 : Int32), .null, .null, .null, .null, .null, .null, .null, .null, .null, .null]) (dvX3) (Nat.le_of_ble_eq_true rfl) (Nat.le_of_ble_eq_true rfl) dX9_init_35 (fun q53 H n54 hH => ?_)
  obtain ⟨f55, ef55⟩ : ∃ z : gF, z = va_up f46 q53 (.inr (3, [.int (0 : Int32), .int (0 : Int32), .int (0 : Int32), .int (0 : Int32), .int (0 : Int32), .int (0 : Int32), .int (0 : Int32), .int (0 : Int32), .int (0 : Int32), .int (0 : Int32), .null, .null, .null, .null, .null, .null, .null, .null, .null, .null])) := ⟨_, rfl⟩
  obtain ⟨L56, eL56⟩ : ∃ z : List Nat, z = L47 ++ [q53] := ⟨_, rfl⟩
  have hH := g_re ef55 eL56 hH
  have sb57 : ∀ b ∈ L47, b ∈ L56 := fun b h => by rw [eL56]; exact List.mem_append_left _ h
  have h58 : f42 q23 = .inr (3, [.int (0 : Int32), .int (0 : Int32), .int (0 : Int32), .int (0 : Int32), .int (0 : Int32), .int (0 : Int32), .int (0 : Int32), .int (0 : Int32), .int (0 : Int32), .int (0 : Int32), .ref (na32 0), .ref (na32 1), .ref (na32 2), .ref (na32 3), .ref (na32 4), .ref (na32 5), .ref (na32 6), .ref (na32 7), .ref (na32 8), .ref (na32 9)]) := ((congrFun ef42 q23).trans (va_up_ne _ _ (g_neO h33 h40 (by decide)))).trans h33
  have h59 : f46 q23 = .inr (3, [.int (0 : Int32), .int (0 : Int32), .int (0 : Int32), .int (0 : Int32), .int (0 : Int32), .int (0 : Int32), .int (0 : Int32), .int (0 : Int32), .int (0 : Int32), .int (0 : Int32), .ref (na32 0), .ref (na32 1), .ref (na32 2), .ref (na32 3), .ref (na32 4), .ref (na32 5), .ref (na32 6), .ref (na32 7), .ref (na32 8), .ref (na32 9)]) := ((congrFun ef46 q23).trans (va_up_ne _ _ (g_neL h37 n45))).trans h58
  have h60 : q23 ∈ L47 := sb48 _ h37
  have h61 : q23 ≠ q53 := g_neL h60 n54
  have h62 : q53 ∈ L56 := by rw [eL56]; exact List.mem_append_right _ List.mem_cons_self
  have h63 : f55 q53 = .inr (3, [.int (0 : Int32), .int (0 : Int32), .int (0 : Int32), .int (0 : Int32), .int (0 : Int32), .int (0 : Int32), .int (0 : Int32), .int (0 : Int32), .int (0 : Int32), .int (0 : Int32), .null, .null, .null, .null, .null, .null, .null, .null, .null, .null]) := (congrFun ef55 q53).trans (va_up_self _ _ _)
  refine lv_dup hx hb dX9_init_38 rfl ?_
  refine g_INv C hl.1 hA hH (As := []) (rest := [.ref q53, .ref q1, .ref q44, .ref q44, .ref q]) (k_Land l E L56 f55 h62 h63) my_X3_init (host := "GooseShares") (List.mem_of_getElem? (i := 1) rfl) rfl rfl (Nat.le_of_ble_eq_true rfl) ⟨Nat.le_of_ble_eq_true rfl, Nat.le_of_ble_eq_true rfl⟩ ⟨Nat.le_of_ble_eq_true rfl, Nat.le_of_ble_eq_true rfl⟩ dX9_init_39 (fun L65 f64 H locs hp hH => ?_)
  obtain ⟨na66, h67, h68, sb69, k70⟩ := hp
  have h71 := sb69 _ h62
  have h72 : f55 q44 = .inr (5, [.null, .null, .int (0 : Int32), .int (0 : Int32), .int (0 : Int32), .int (0 : Int32), .int (0 : Int32)]) := ((congrFun ef55 q44).trans (va_up_ne _ _ (g_neL h49 n54))).trans h50
  have h73 : q44 ∈ L56 := sb57 _ h49
  have h74 : f64 q44 = .inr (5, [.null, .null, .int (0 : Int32), .int (0 : Int32), .int (0 : Int32), .int (0 : Int32), .int (0 : Int32)]) := (k70 q44 h73 (g_neO h72 h63 (by decide))).trans h72
  have h75 : q44 ∈ L65 := sb69 _ h73
  refine g_Iv C hl.1 hA hH (As := [.ref q1, .ref q53]) (rest := [.ref q44, .ref q]) (k_Reader l E L65 f64 h75 h74) my_X5_init wd199 rfl rfl (Nat.le_of_ble_eq_true rfl) ⟨Nat.le_of_ble_eq_true rfl, Nat.le_of_ble_eq_true rfl⟩ ⟨Nat.le_of_ble_eq_true rfl, Nat.le_of_ble_eq_true rfl⟩ dX9_init_42 (fun L77 f76 H locs hp hH => ?_)
  obtain ⟨h78, sb79, k80⟩ := hp
  have h81 := sb79 _ h75
  have h82 : f55 q = .inr (9, [.ref q1, .ref q23, .null, .null, .null, .null, .null, .null, .null, .null, .null]) := ((congrFun ef55 q).trans (va_up_ne _ _ (g_neL h52 n54))).trans h51
  have h83 : q ∈ L56 := sb57 _ h52
  have h84 : f64 q = .inr (9, [.ref q1, .ref q23, .null, .null, .null, .null, .null, .null, .null, .null, .null]) := (k70 q h83 (g_neO h82 h63 (by decide))).trans h82
  have h85 : q ∈ L65 := sb69 _ h83
  have h86 : f76 q = .inr (9, [.ref q1, .ref q23, .null, .null, .null, .null, .null, .null, .null, .null, .null]) := (k80 q h85 (g_neO h84 h74 (by decide))).trans h84
  have h87 : q ∈ L77 := sb79 _ h85
  refine g_putF C hH h87 h86 iX9 tyX9 tyX9_ok nmX9 rfl 2 (by decide) wd61 rfl rfl hnm rfl rfl rfl (Nat.le_of_ble_eq_true rfl) (fs' := [.ref q1, .ref q23, .ref q44, .null, .null, .null, .null, .null, .null, .null, .null]) rfl dX9_init_45 (fun H locs hH => ?_)
  obtain ⟨f88, ef88⟩ : ∃ z : gF, z = va_up f76 q (.inr (9, [.ref q1, .ref q23, .ref q44, .null, .null, .null, .null, .null, .null, .null, .null])) := ⟨_, rfl⟩
  have hH : gH E A L77 f88 s.heap H locs := by rw [ef88]; exact hH
  have h89 : f88 q = .inr (9, [.ref q1, .ref q23, .ref q44, .null, .null, .null, .null, .null, .null, .null, .null]) := (congrFun ef88 q).trans (va_up_self _ _ _)
  refine lv_aload_n hx hb dX9_init_48 rfl (lv_at hl 0 rfl) ?_
  refine lv_iconst (v := (3 : Int32)) hx hb dX9_init_49 (by decide) ?_
  refine g_newq C hH hA 4 rfl wd191 (fun h => h.2.2.1) (N' := 3) (by decide) (by decide) (Nat.le_of_ble_eq_true rfl) (Nat.le_of_ble_eq_true rfl) (Nat.le_of_ble_eq_true rfl) dX9_init_50 (fun q90 H n91 hH => ?_)
  obtain ⟨f92, ef92⟩ : ∃ z : gF, z = va_up f88 q90 (.inl (E.2.2 4, 3, .inr (.inr (.inr (.inr (fun _ => none)))))) := ⟨_, rfl⟩
  obtain ⟨L93, eL93⟩ : ∃ z : List Nat, z = L77 ++ [q90] := ⟨_, rfl⟩
  have hH := g_re ef92 eL93 hH
  have sb94 : ∀ b ∈ L77, b ∈ L93 := fun b h => by rw [eL93]; exact List.mem_append_left _ h
  have h95 : q90 ∈ L93 := by rw [eL93]; exact List.mem_append_right _ List.mem_cons_self
  have h96 : f92 q90 = .inl (E.2.2 4, 3, .inr (.inr (.inr (.inr (fun _ => none))))) := (congrFun ef92 q90).trans (va_up_self _ _ _)
  have h97 : f92 q = .inr (9, [.ref q1, .ref q23, .ref q44, .null, .null, .null, .null, .null, .null, .null, .null]) := ((congrFun ef92 q).trans (va_up_ne _ _ (g_neL h87 n91))).trans h89
  have h98 : q ∈ L93 := sb94 _ h87
  refine g_putF C hH h98 h97 iX9 tyX9 tyX9_ok nmX9 rfl 3 (by decide) wd114 rfl rfl hnm rfl rfl rfl (Nat.le_of_ble_eq_true rfl) (fs' := [.ref q1, .ref q23, .ref q44, .ref q90, .null, .null, .null, .null, .null, .null, .null]) rfl dX9_init_53 (fun H locs hH => ?_)
  obtain ⟨f99, ef99⟩ : ∃ z : gF, z = va_up f92 q (.inr (9, [.ref q1, .ref q23, .ref q44, .ref q90, .null, .null, .null, .null, .null, .null, .null])) := ⟨_, rfl⟩
  have hH : gH E A L93 f99 s.heap H locs := by rw [ef99]; exact hH
  have h100 : f99 q = .inr (9, [.ref q1, .ref q23, .ref q44, .ref q90, .null, .null, .null, .null, .null, .null, .null]) := (congrFun ef99 q).trans (va_up_self _ _ _)
  refine lv_aload_n hx hb dX9_init_56 rfl (lv_at hl 0 rfl) ?_
  refine lv_iconst (v := (4 : Int32)) hx hb dX9_init_57 (by decide) ?_
  refine g_newq C hH hA 5 rfl wd200 (fun h => h.2.2.2) (N' := 4) (by decide) (by decide) (Nat.le_of_ble_eq_true rfl) (Nat.le_of_ble_eq_true rfl) (Nat.le_of_ble_eq_true rfl) dX9_init_58 (fun q101 H n102 hH => ?_)
  obtain ⟨f103, ef103⟩ : ∃ z : gF, z = va_up f99 q101 (.inl (E.2.2 5, 4, .inr (.inr (.inr (.inr (fun _ => none)))))) := ⟨_, rfl⟩
  obtain ⟨L104, eL104⟩ : ∃ z : List Nat, z = L93 ++ [q101] := ⟨_, rfl⟩
  have hH := g_re ef103 eL104 hH
  have sb105 : ∀ b ∈ L93, b ∈ L104 := fun b h => by rw [eL104]; exact List.mem_append_left _ h
  have h106 : q101 ∈ L104 := by rw [eL104]; exact List.mem_append_right _ List.mem_cons_self
  have h107 : f103 q101 = .inl (E.2.2 5, 4, .inr (.inr (.inr (.inr (fun _ => none))))) := (congrFun ef103 q101).trans (va_up_self _ _ _)
  have h108 : f103 q = .inr (9, [.ref q1, .ref q23, .ref q44, .ref q90, .null, .null, .null, .null, .null, .null, .null]) := ((congrFun ef103 q).trans (va_up_ne _ _ (g_neL h98 n102))).trans h100
  have h109 : q ∈ L104 := sb105 _ h98
  refine g_putF C hH h109 h108 iX9 tyX9 tyX9_ok nmX9 rfl 4 (by decide) wd65 rfl rfl hnm rfl rfl rfl (Nat.le_of_ble_eq_true rfl) (fs' := [.ref q1, .ref q23, .ref q44, .ref q90, .ref q101, .null, .null, .null, .null, .null, .null]) rfl dX9_init_61 (fun H locs hH => ?_)
  obtain ⟨f110, ef110⟩ : ∃ z : gF, z = va_up f103 q (.inr (9, [.ref q1, .ref q23, .ref q44, .ref q90, .ref q101, .null, .null, .null, .null, .null, .null])) := ⟨_, rfl⟩
  have hH : gH E A L104 f110 s.heap H locs := by rw [ef110]; exact hH
  have h111 : f110 q = .inr (9, [.ref q1, .ref q23, .ref q44, .ref q90, .ref q101, .null, .null, .null, .null, .null, .null]) := (congrFun ef110 q).trans (va_up_self _ _ _)
  refine lv_aload_n hx hb dX9_init_64 rfl (lv_at hl 0 rfl) ?_
  refine g_new C hH hA (ci := 7) iX7 tyX7 tyX7_ok wd201 wd202 wd203 rfl (fs := [.null, .null, .null, .null, .null, .int (0 : Int32), .int (0 : Int32), .int (0 : Int32), .int (0 : Int32), .int (0 : Int32)]) (dvX7) (Nat.le_of_ble_eq_true rfl) (Nat.le_of_ble_eq_true rfl) dX9_init_65 (fun q112 H n113 hH => ?_)
  obtain ⟨f114, ef114⟩ : ∃ z : gF, z = va_up f110 q112 (.inr (7, [.null, .null, .null, .null, .null, .int (0 : Int32), .int (0 : Int32), .int (0 : Int32), .int (0 : Int32), .int (0 : Int32)])) := ⟨_, rfl⟩
  obtain ⟨L115, eL115⟩ : ∃ z : List Nat, z = L104 ++ [q112] := ⟨_, rfl⟩
  have hH := g_re ef114 eL115 hH
  have sb116 : ∀ b ∈ L104, b ∈ L115 := fun b h => by rw [eL115]; exact List.mem_append_left _ h
  have h117 : q112 ∈ L115 := by rw [eL115]; exact List.mem_append_right _ List.mem_cons_self
  have h118 : f114 q112 = .inr (7, [.null, .null, .null, .null, .null, .int (0 : Int32), .int (0 : Int32), .int (0 : Int32), .int (0 : Int32), .int (0 : Int32)]) := (congrFun ef114 q112).trans (va_up_self _ _ _)
  refine lv_dup hx hb dX9_init_68 rfl ?_
  refine lv_aload_n hx hb dX9_init_69 rfl (lv_at hl 0 rfl) ?_
  have h119 : f114 q = .inr (9, [.ref q1, .ref q23, .ref q44, .ref q90, .ref q101, .null, .null, .null, .null, .null, .null]) := ((congrFun ef114 q).trans (va_up_ne _ _ (g_neL h109 n113))).trans h111
  have h120 : q ∈ L115 := sb116 _ h109
  refine g_get C hH h120 h119 iX9 rfl 1 (by decide) wd18 rfl rfl dX9_init_70 ?_
  refine g_Iv C hl.1 hA hH (As := [.ref q23]) (rest := [.ref q112, .ref q]) (k_Sky l E L115 f114 h117 h118) my_X7_init wd206 rfl rfl (Nat.le_of_ble_eq_true rfl) ⟨Nat.le_of_ble_eq_true rfl, Nat.le_of_ble_eq_true rfl⟩ ⟨Nat.le_of_ble_eq_true rfl, Nat.le_of_ble_eq_true rfl⟩ dX9_init_73 (fun L122 f121 H locs hp hH => ?_)
  obtain ⟨sb124, k125⟩ := hp
  have h126 : f121 q = .inr (9, [.ref q1, .ref q23, .ref q44, .ref q90, .ref q101, .null, .null, .null, .null, .null, .null]) := (k125 q h120 (g_neO h119 h118 (by decide))).trans h119
  have h127 : q ∈ L122 := sb124 _ h120
  refine g_putF C hH h127 h126 iX9 tyX9 tyX9_ok nmX9 rfl 5 (by decide) wd207 rfl rfl hnm rfl rfl rfl (Nat.le_of_ble_eq_true rfl) (fs' := [.ref q1, .ref q23, .ref q44, .ref q90, .ref q101, .ref q112, .null, .null, .null, .null, .null]) rfl dX9_init_76 (fun H locs hH => ?_)
  obtain ⟨f128, ef128⟩ : ∃ z : gF, z = va_up f121 q (.inr (9, [.ref q1, .ref q23, .ref q44, .ref q90, .ref q101, .ref q112, .null, .null, .null, .null, .null])) := ⟨_, rfl⟩
  have hH : gH E A L122 f128 s.heap H locs := by rw [ef128]; exact hH
  have h129 : f128 q = .inr (9, [.ref q1, .ref q23, .ref q44, .ref q90, .ref q101, .ref q112, .null, .null, .null, .null, .null]) := (congrFun ef128 q).trans (va_up_self _ _ _)
  refine lv_aload_n hx hb dX9_init_79 rfl (lv_at hl 0 rfl) ?_
  refine g_new C hH hA (ci := 4) iX4 tyX4 tyX4_ok wd208 wd209 wd150 rfl (fs := [.null, .null, .null, .null, .int (0 : Int32)]) (dvX4) (Nat.le_of_ble_eq_true rfl) (Nat.le_of_ble_eq_true rfl) dX9_init_80 (fun q130 H n131 hH => ?_)
  obtain ⟨f132, ef132⟩ : ∃ z : gF, z = va_up f128 q130 (.inr (4, [.null, .null, .null, .null, .int (0 : Int32)])) := ⟨_, rfl⟩
  obtain ⟨L133, eL133⟩ : ∃ z : List Nat, z = L122 ++ [q130] := ⟨_, rfl⟩
  have hH := g_re ef132 eL133 hH
  have sb134 : ∀ b ∈ L122, b ∈ L133 := fun b h => by rw [eL133]; exact List.mem_append_left _ h
  have h135 : q130 ∈ L133 := by rw [eL133]; exact List.mem_append_right _ List.mem_cons_self
  have h136 : f132 q130 = .inr (4, [.null, .null, .null, .null, .int (0 : Int32)]) := (congrFun ef132 q130).trans (va_up_self _ _ _)
  refine lv_dup hx hb dX9_init_83 rfl ?_
  refine lv_aload_n hx hb dX9_init_84 rfl (lv_at hl 0 rfl) ?_
  have h137 : f132 q = .inr (9, [.ref q1, .ref q23, .ref q44, .ref q90, .ref q101, .ref q112, .null, .null, .null, .null, .null]) := ((congrFun ef132 q).trans (va_up_ne _ _ (g_neL h127 n131))).trans h129
  have h138 : q ∈ L133 := sb134 _ h127
  refine g_get C hH h138 h137 iX9 rfl 1 (by decide) wd18 rfl rfl dX9_init_85 ?_
  refine lv_aload_n hx hb dX9_init_88 rfl (lv_at hl 0 rfl) ?_
  refine g_get C hH h138 h137 iX9 rfl 5 (by decide) wd207 rfl rfl dX9_init_89 ?_
  refine g_Iv C hl.1 hA hH (As := [.ref q23, .ref q112]) (rest := [.ref q130, .ref q]) (k_Lanterns l E L133 f132 h135 h136) my_X4_init wd212 rfl rfl (Nat.le_of_ble_eq_true rfl) ⟨Nat.le_of_ble_eq_true rfl, Nat.le_of_ble_eq_true rfl⟩ ⟨Nat.le_of_ble_eq_true rfl, Nat.le_of_ble_eq_true rfl⟩ dX9_init_92 (fun L140 f139 H locs hp hH => ?_)
  obtain ⟨q141, q142, h143, sb144, k145⟩ := hp
  have h146 := sb144 _ h135
  have h147 : f139 q = .inr (9, [.ref q1, .ref q23, .ref q44, .ref q90, .ref q101, .ref q112, .null, .null, .null, .null, .null]) := (k145 q h138 (g_neO h137 h136 (by decide))).trans h137
  have h148 : q ∈ L140 := sb144 _ h138
  refine g_putF C hH h148 h147 iX9 tyX9 tyX9_ok nmX9 rfl 6 (by decide) wd147 rfl rfl hnm rfl rfl rfl (Nat.le_of_ble_eq_true rfl) (fs' := [.ref q1, .ref q23, .ref q44, .ref q90, .ref q101, .ref q112, .ref q130, .null, .null, .null, .null]) rfl dX9_init_95 (fun H locs hH => ?_)
  obtain ⟨f149, ef149⟩ : ∃ z : gF, z = va_up f139 q (.inr (9, [.ref q1, .ref q23, .ref q44, .ref q90, .ref q101, .ref q112, .ref q130, .null, .null, .null, .null])) := ⟨_, rfl⟩
  have hH : gH E A L140 f149 s.heap H locs := by rw [ef149]; exact hH
  have h150 : f149 q = .inr (9, [.ref q1, .ref q23, .ref q44, .ref q90, .ref q101, .ref q112, .ref q130, .null, .null, .null, .null]) := (congrFun ef149 q).trans (va_up_self _ _ _)
  refine lv_aload_n hx hb dX9_init_98 rfl (lv_at hl 0 rfl) ?_
  refine g_new C hH hA (ci := 0) iX0 tyX0 tyX0_ok wd213 wd214 wd215 rfl (fs := [.null, .null, .null, .null]) (dvX0) (Nat.le_of_ble_eq_true rfl) (Nat.le_of_ble_eq_true rfl) dX9_init_99 (fun q151 H n152 hH => ?_)
  obtain ⟨f153, ef153⟩ : ∃ z : gF, z = va_up f149 q151 (.inr (0, [.null, .null, .null, .null])) := ⟨_, rfl⟩
  obtain ⟨L154, eL154⟩ : ∃ z : List Nat, z = L140 ++ [q151] := ⟨_, rfl⟩
  have hH := g_re ef153 eL154 hH
  have sb155 : ∀ b ∈ L140, b ∈ L154 := fun b h => by rw [eL154]; exact List.mem_append_left _ h
  have h156 : q151 ∈ L154 := by rw [eL154]; exact List.mem_append_right _ List.mem_cons_self
  have h157 : f153 q151 = .inr (0, [.null, .null, .null, .null]) := (congrFun ef153 q151).trans (va_up_self _ _ _)
  refine lv_dup hx hb dX9_init_102 rfl ?_
  refine lv_aload_n hx hb dX9_init_103 rfl (lv_at hl 0 rfl) ?_
  have h158 : f153 q = .inr (9, [.ref q1, .ref q23, .ref q44, .ref q90, .ref q101, .ref q112, .ref q130, .null, .null, .null, .null]) := ((congrFun ef153 q).trans (va_up_ne _ _ (g_neL h148 n152))).trans h150
  have h159 : q ∈ L154 := sb155 _ h148
  refine g_get C hH h159 h158 iX9 rfl 1 (by decide) wd18 rfl rfl dX9_init_104 ?_
  refine lv_aload_n hx hb dX9_init_107 rfl (lv_at hl 0 rfl) ?_
  refine g_get C hH h159 h158 iX9 rfl 5 (by decide) wd207 rfl rfl dX9_init_108 ?_
  refine g_Iv C hl.1 hA hH (As := [.ref q23, .ref q112]) (rest := [.ref q151, .ref q]) (k_Clues l E L154 f153 h156 h157) my_X0_init wd218 rfl rfl (Nat.le_of_ble_eq_true rfl) ⟨Nat.le_of_ble_eq_true rfl, Nat.le_of_ble_eq_true rfl⟩ ⟨Nat.le_of_ble_eq_true rfl, Nat.le_of_ble_eq_true rfl⟩ dX9_init_111 (fun L161 f160 H locs hp hH => ?_)
  obtain ⟨sb163, k164⟩ := hp
  have h165 : f160 q = .inr (9, [.ref q1, .ref q23, .ref q44, .ref q90, .ref q101, .ref q112, .ref q130, .null, .null, .null, .null]) := (k164 q h159 (g_neO h158 h157 (by decide))).trans h158
  have h166 : q ∈ L161 := sb163 _ h159
  refine g_putF C hH h166 h165 iX9 tyX9 tyX9_ok nmX9 rfl 7 (by decide) wd219 rfl rfl hnm rfl rfl rfl (Nat.le_of_ble_eq_true rfl) (fs' := [.ref q1, .ref q23, .ref q44, .ref q90, .ref q101, .ref q112, .ref q130, .ref q151, .null, .null, .null]) rfl dX9_init_114 (fun H locs hH => ?_)
  obtain ⟨f167, ef167⟩ : ∃ z : gF, z = va_up f160 q (.inr (9, [.ref q1, .ref q23, .ref q44, .ref q90, .ref q101, .ref q112, .ref q130, .ref q151, .null, .null, .null])) := ⟨_, rfl⟩
  have hH : gH E A L161 f167 s.heap H locs := by rw [ef167]; exact hH
  have h168 : f167 q = .inr (9, [.ref q1, .ref q23, .ref q44, .ref q90, .ref q101, .ref q112, .ref q130, .ref q151, .null, .null, .null]) := (congrFun ef167 q).trans (va_up_self _ _ _)
  refine lv_aload_n hx hb dX9_init_117 rfl (lv_at hl 0 rfl) ?_
  refine g_new C hH hA (ci := 2) iX2 tyX2 tyX2_ok wd220 wd221 wd222 rfl (fs := [.null, .null, .null, .null]) (dvX2) (Nat.le_of_ble_eq_true rfl) (Nat.le_of_ble_eq_true rfl) dX9_init_118 (fun q169 H n170 hH => ?_)
  obtain ⟨f171, ef171⟩ : ∃ z : gF, z = va_up f167 q169 (.inr (2, [.null, .null, .null, .null])) := ⟨_, rfl⟩
  obtain ⟨L172, eL172⟩ : ∃ z : List Nat, z = L161 ++ [q169] := ⟨_, rfl⟩
  have hH := g_re ef171 eL172 hH
  have sb173 : ∀ b ∈ L161, b ∈ L172 := fun b h => by rw [eL172]; exact List.mem_append_left _ h
  have h174 : q169 ∈ L172 := by rw [eL172]; exact List.mem_append_right _ List.mem_cons_self
  have h175 : f171 q169 = .inr (2, [.null, .null, .null, .null]) := (congrFun ef171 q169).trans (va_up_self _ _ _)
  refine lv_dup hx hb dX9_init_121 rfl ?_
  refine lv_aload_n hx hb dX9_init_122 rfl (lv_at hl 0 rfl) ?_
  have h176 : f171 q = .inr (9, [.ref q1, .ref q23, .ref q44, .ref q90, .ref q101, .ref q112, .ref q130, .ref q151, .null, .null, .null]) := ((congrFun ef171 q).trans (va_up_ne _ _ (g_neL h166 n170))).trans h168
  have h177 : q ∈ L172 := sb173 _ h166
  refine g_get C hH h177 h176 iX9 rfl 1 (by decide) wd18 rfl rfl dX9_init_123 ?_
  refine lv_aload_n hx hb dX9_init_126 rfl (lv_at hl 0 rfl) ?_
  refine g_get C hH h177 h176 iX9 rfl 5 (by decide) wd207 rfl rfl dX9_init_127 ?_
  refine g_Iv C hl.1 hA hH (As := [.ref q23, .ref q112]) (rest := [.ref q169, .ref q]) (k_Houses l E L172 f171 h174 h175) my_X2_init wd225 rfl rfl (Nat.le_of_ble_eq_true rfl) ⟨Nat.le_of_ble_eq_true rfl, Nat.le_of_ble_eq_true rfl⟩ ⟨Nat.le_of_ble_eq_true rfl, Nat.le_of_ble_eq_true rfl⟩ dX9_init_130 (fun L179 f178 H locs hp hH => ?_)
  obtain ⟨sb181, k182⟩ := hp
  have h183 : f178 q = .inr (9, [.ref q1, .ref q23, .ref q44, .ref q90, .ref q101, .ref q112, .ref q130, .ref q151, .null, .null, .null]) := (k182 q h177 (g_neO h176 h175 (by decide))).trans h176
  have h184 : q ∈ L179 := sb181 _ h177
  refine g_putF C hH h184 h183 iX9 tyX9 tyX9_ok nmX9 rfl 8 (by decide) wd226 rfl rfl hnm rfl rfl rfl (Nat.le_of_ble_eq_true rfl) (fs' := [.ref q1, .ref q23, .ref q44, .ref q90, .ref q101, .ref q112, .ref q130, .ref q151, .ref q169, .null, .null]) rfl dX9_init_133 (fun H locs hH => ?_)
  obtain ⟨f185, ef185⟩ : ∃ z : gF, z = va_up f178 q (.inr (9, [.ref q1, .ref q23, .ref q44, .ref q90, .ref q101, .ref q112, .ref q130, .ref q151, .ref q169, .null, .null])) := ⟨_, rfl⟩
  have hH : gH E A L179 f185 s.heap H locs := by rw [ef185]; exact hH
  have h186 : f185 q = .inr (9, [.ref q1, .ref q23, .ref q44, .ref q90, .ref q101, .ref q112, .ref q130, .ref q151, .ref q169, .null, .null]) := (congrFun ef185 q).trans (va_up_self _ _ _)
  refine lv_aload_n hx hb dX9_init_136 rfl (lv_at hl 0 rfl) ?_
  refine g_new C hH hA (ci := 1) iX1 tyX1 tyX1_ok wd227 wd228 wd229 rfl (fs := [.null, .null]) (dvX1) (Nat.le_of_ble_eq_true rfl) (Nat.le_of_ble_eq_true rfl) dX9_init_137 (fun q187 H n188 hH => ?_)
  obtain ⟨f189, ef189⟩ : ∃ z : gF, z = va_up f185 q187 (.inr (1, [.null, .null])) := ⟨_, rfl⟩
  obtain ⟨L190, eL190⟩ : ∃ z : List Nat, z = L179 ++ [q187] := ⟨_, rfl⟩
  have hH := g_re ef189 eL190 hH
  have sb191 : ∀ b ∈ L179, b ∈ L190 := fun b h => by rw [eL190]; exact List.mem_append_left _ h
  have h192 : q187 ∈ L190 := by rw [eL190]; exact List.mem_append_right _ List.mem_cons_self
  have h193 : f189 q187 = .inr (1, [.null, .null]) := (congrFun ef189 q187).trans (va_up_self _ _ _)
  refine lv_dup hx hb dX9_init_140 rfl ?_
  refine lv_aload_n hx hb dX9_init_141 rfl (lv_at hl 0 rfl) ?_
  have h194 : f189 q = .inr (9, [.ref q1, .ref q23, .ref q44, .ref q90, .ref q101, .ref q112, .ref q130, .ref q151, .ref q169, .null, .null]) := ((congrFun ef189 q).trans (va_up_ne _ _ (g_neL h184 n188))).trans h186
  have h195 : q ∈ L190 := sb191 _ h184
  refine g_get C hH h195 h194 iX9 rfl 1 (by decide) wd18 rfl rfl dX9_init_142 ?_
  refine lv_aload_n hx hb dX9_init_145 rfl (lv_at hl 0 rfl) ?_
  refine g_get C hH h195 h194 iX9 rfl 5 (by decide) wd207 rfl rfl dX9_init_146 ?_
  refine g_Iv C hl.1 hA hH (As := [.ref q23, .ref q112]) (rest := [.ref q187, .ref q]) (k_Fog l E L190 f189 h192 h193) my_X1_init wd232 rfl rfl (Nat.le_of_ble_eq_true rfl) ⟨Nat.le_of_ble_eq_true rfl, Nat.le_of_ble_eq_true rfl⟩ ⟨Nat.le_of_ble_eq_true rfl, Nat.le_of_ble_eq_true rfl⟩ dX9_init_149 (fun L197 f196 H locs hp hH => ?_)
  obtain ⟨sb199, k200⟩ := hp
  have h201 : f196 q = .inr (9, [.ref q1, .ref q23, .ref q44, .ref q90, .ref q101, .ref q112, .ref q130, .ref q151, .ref q169, .null, .null]) := (k200 q h195 (g_neO h194 h193 (by decide))).trans h194
  have h202 : q ∈ L197 := sb199 _ h195
  refine g_putF C hH h202 h201 iX9 tyX9 tyX9_ok nmX9 rfl 9 (by decide) wd233 rfl rfl hnm rfl rfl rfl (Nat.le_of_ble_eq_true rfl) (fs' := [.ref q1, .ref q23, .ref q44, .ref q90, .ref q101, .ref q112, .ref q130, .ref q151, .ref q169, .ref q187, .null]) rfl dX9_init_152 (fun H locs hH => ?_)
  obtain ⟨f203, ef203⟩ : ∃ z : gF, z = va_up f196 q (.inr (9, [.ref q1, .ref q23, .ref q44, .ref q90, .ref q101, .ref q112, .ref q130, .ref q151, .ref q169, .ref q187, .null])) := ⟨_, rfl⟩
  have hH : gH E A L197 f203 s.heap H locs := by rw [ef203]; exact hH
  have h204 : f203 q = .inr (9, [.ref q1, .ref q23, .ref q44, .ref q90, .ref q101, .ref q112, .ref q130, .ref q151, .ref q169, .ref q187, .null]) := (congrFun ef203 q).trans (va_up_self _ _ _)
  refine lv_aload_n hx hb dX9_init_155 rfl (lv_at hl 0 rfl) ?_
  refine lv_iconst (v := (3 : Int32)) hx hb dX9_init_156 (by decide) ?_
  refine g_newa C hH hA 3 rfl (fun _ _ h => h) wd234 rfl (N' := 3) (a0 := (3, (.inl (fun _ => 0)))) (avZ 3) (by decide) (by decide) (Nat.le_of_ble_eq_true rfl) (Nat.le_of_ble_eq_true rfl) (Nat.le_of_ble_eq_true rfl) dX9_init_157 (fun q205 H n206 hH => ?_)
  obtain ⟨f207, ef207⟩ : ∃ z : gF, z = va_up f203 q205 (.inl (E.2.2 3, 3, .inl (fun _ => 0))) := ⟨_, rfl⟩
  obtain ⟨L208, eL208⟩ : ∃ z : List Nat, z = L197 ++ [q205] := ⟨_, rfl⟩
  have hH := g_re ef207 eL208 hH
  have sb209 : ∀ b ∈ L197, b ∈ L208 := fun b h => by rw [eL208]; exact List.mem_append_left _ h
  have h210 : q205 ∈ L208 := by rw [eL208]; exact List.mem_append_right _ List.mem_cons_self
  have h211 : f207 q205 = .inl (E.2.2 3, 3, .inl (fun _ => 0)) := (congrFun ef207 q205).trans (va_up_self _ _ _)
  have h212 : f207 q = .inr (9, [.ref q1, .ref q23, .ref q44, .ref q90, .ref q101, .ref q112, .ref q130, .ref q151, .ref q169, .ref q187, .null]) := ((congrFun ef207 q).trans (va_up_ne _ _ (g_neL h202 n206))).trans h204
  have h213 : q ∈ L208 := sb209 _ h202
  refine g_putF C hH h213 h212 iX9 tyX9 tyX9_ok nmX9 rfl 10 (by decide) wd119 rfl rfl hnm rfl rfl rfl (Nat.le_of_ble_eq_true rfl) (fs' := [.ref q1, .ref q23, .ref q44, .ref q90, .ref q101, .ref q112, .ref q130, .ref q151, .ref q169, .ref q187, .ref q205]) rfl dX9_init_159 (fun H locs hH => ?_)
  obtain ⟨f214, ef214⟩ : ∃ z : gF, z = va_up f207 q (.inr (9, [.ref q1, .ref q23, .ref q44, .ref q90, .ref q101, .ref q112, .ref q130, .ref q151, .ref q169, .ref q187, .ref q205])) := ⟨_, rfl⟩
  have hH : gH E A L208 f214 s.heap H locs := by rw [ef214]; exact hH
  have h215 : f214 q = .inr (9, [.ref q1, .ref q23, .ref q44, .ref q90, .ref q101, .ref q112, .ref q130, .ref q151, .ref q169, .ref q187, .ref q205]) := (congrFun ef214 q).trans (va_up_self _ _ _)
  refine lv_iconst (v := (0 : Int32)) hx hb dX9_init_162 (by decide) ?_
  refine lv_istore_n (lv' := [(1, .int (0 : Int32)), (0, .ref q)]) hx hb dX9_init_163 rfl hl (by decide) rfl (fun ls hl => ?_)
  refine lv_iload_n hx hb dX9_init_164 rfl (lv_at hl 0 rfl) ?_
  refine lv_iconst (v := (3 : Int32)) hx hb dX9_init_165 (by decide) ?_
  refine lv_icmp_ge (tgt := 188) hx hb dX9_init_166 (by decide) (fun h => absurd h (by decide)) (fun _ => ?_)
  refine lv_aload_n hx hb dX9_init_169 rfl (lv_at hl 1 rfl) ?_
  refine g_get C hH h213 h215 iX9 rfl 3 (by decide) wd114 rfl rfl dX9_init_170 ?_
  refine lv_iload_n hx hb dX9_init_173 rfl (lv_at hl 0 rfl) ?_
  refine g_new C hH hA (ci := 3) iX3 tyX3 tyX3_ok wd191 wd192 wd7 rfl (fs := [.int (0 : Int32), .int (0 : Int32), .int (0 : Int32), .int (0 : Int32), .int (0 : Int32), .int (0 : Int32), .int (0 : Int32), .int (0 : Int32), .int (0 : Int32), .int (0 : Int32), .null, .null, .null, .null, .null, .null, .null, .null, .null, .null]) (dvX3) (Nat.le_of_ble_eq_true rfl) (Nat.le_of_ble_eq_true rfl) dX9_init_174 (fun q216 H n217 hH => ?_)
  obtain ⟨f218, ef218⟩ : ∃ z : gF, z = va_up f214 q216 (.inr (3, [.int (0 : Int32), .int (0 : Int32), .int (0 : Int32), .int (0 : Int32), .int (0 : Int32), .int (0 : Int32), .int (0 : Int32), .int (0 : Int32), .int (0 : Int32), .int (0 : Int32), .null, .null, .null, .null, .null, .null, .null, .null, .null, .null])) := ⟨_, rfl⟩
  obtain ⟨L219, eL219⟩ : ∃ z : List Nat, z = L208 ++ [q216] := ⟨_, rfl⟩
  have hH := g_re ef218 eL219 hH
  have sb220 : ∀ b ∈ L208, b ∈ L219 := fun b h => by rw [eL219]; exact List.mem_append_left _ h
  have h221 : f55 q23 = .inr (3, [.int (0 : Int32), .int (0 : Int32), .int (0 : Int32), .int (0 : Int32), .int (0 : Int32), .int (0 : Int32), .int (0 : Int32), .int (0 : Int32), .int (0 : Int32), .int (0 : Int32), .ref (na32 0), .ref (na32 1), .ref (na32 2), .ref (na32 3), .ref (na32 4), .ref (na32 5), .ref (na32 6), .ref (na32 7), .ref (na32 8), .ref (na32 9)]) := ((congrFun ef55 q23).trans (va_up_ne _ _ (g_neL h60 n54))).trans h59
  have h222 : q23 ∈ L56 := sb57 _ h60
  have h223 : f64 q23 = .inr (3, [.int (0 : Int32), .int (0 : Int32), .int (0 : Int32), .int (0 : Int32), .int (0 : Int32), .int (0 : Int32), .int (0 : Int32), .int (0 : Int32), .int (0 : Int32), .int (0 : Int32), .ref (na32 0), .ref (na32 1), .ref (na32 2), .ref (na32 3), .ref (na32 4), .ref (na32 5), .ref (na32 6), .ref (na32 7), .ref (na32 8), .ref (na32 9)]) := (k70 q23 h222 h61).trans h221
  have h224 : q23 ∈ L65 := sb69 _ h222
  have h225 : f76 q23 = .inr (3, [.int (0 : Int32), .int (0 : Int32), .int (0 : Int32), .int (0 : Int32), .int (0 : Int32), .int (0 : Int32), .int (0 : Int32), .int (0 : Int32), .int (0 : Int32), .int (0 : Int32), .ref (na32 0), .ref (na32 1), .ref (na32 2), .ref (na32 3), .ref (na32 4), .ref (na32 5), .ref (na32 6), .ref (na32 7), .ref (na32 8), .ref (na32 9)]) := (k80 q23 h224 (g_neO h223 h74 (by decide))).trans h223
  have h226 : q23 ∈ L77 := sb79 _ h224
  have h227 : f88 q23 = .inr (3, [.int (0 : Int32), .int (0 : Int32), .int (0 : Int32), .int (0 : Int32), .int (0 : Int32), .int (0 : Int32), .int (0 : Int32), .int (0 : Int32), .int (0 : Int32), .int (0 : Int32), .ref (na32 0), .ref (na32 1), .ref (na32 2), .ref (na32 3), .ref (na32 4), .ref (na32 5), .ref (na32 6), .ref (na32 7), .ref (na32 8), .ref (na32 9)]) := ((congrFun ef88 q23).trans (va_up_ne _ _ (g_neO h225 h86 (by decide)))).trans h225
  have h228 : f92 q23 = .inr (3, [.int (0 : Int32), .int (0 : Int32), .int (0 : Int32), .int (0 : Int32), .int (0 : Int32), .int (0 : Int32), .int (0 : Int32), .int (0 : Int32), .int (0 : Int32), .int (0 : Int32), .ref (na32 0), .ref (na32 1), .ref (na32 2), .ref (na32 3), .ref (na32 4), .ref (na32 5), .ref (na32 6), .ref (na32 7), .ref (na32 8), .ref (na32 9)]) := ((congrFun ef92 q23).trans (va_up_ne _ _ (g_neL h226 n91))).trans h227
  have h229 : q23 ∈ L93 := sb94 _ h226
  have h230 : f99 q23 = .inr (3, [.int (0 : Int32), .int (0 : Int32), .int (0 : Int32), .int (0 : Int32), .int (0 : Int32), .int (0 : Int32), .int (0 : Int32), .int (0 : Int32), .int (0 : Int32), .int (0 : Int32), .ref (na32 0), .ref (na32 1), .ref (na32 2), .ref (na32 3), .ref (na32 4), .ref (na32 5), .ref (na32 6), .ref (na32 7), .ref (na32 8), .ref (na32 9)]) := ((congrFun ef99 q23).trans (va_up_ne _ _ (g_neO h228 h97 (by decide)))).trans h228
  have h231 : f103 q23 = .inr (3, [.int (0 : Int32), .int (0 : Int32), .int (0 : Int32), .int (0 : Int32), .int (0 : Int32), .int (0 : Int32), .int (0 : Int32), .int (0 : Int32), .int (0 : Int32), .int (0 : Int32), .ref (na32 0), .ref (na32 1), .ref (na32 2), .ref (na32 3), .ref (na32 4), .ref (na32 5), .ref (na32 6), .ref (na32 7), .ref (na32 8), .ref (na32 9)]) := ((congrFun ef103 q23).trans (va_up_ne _ _ (g_neL h229 n102))).trans h230
  have h232 : q23 ∈ L104 := sb105 _ h229
  have h233 : f110 q23 = .inr (3, [.int (0 : Int32), .int (0 : Int32), .int (0 : Int32), .int (0 : Int32), .int (0 : Int32), .int (0 : Int32), .int (0 : Int32), .int (0 : Int32), .int (0 : Int32), .int (0 : Int32), .ref (na32 0), .ref (na32 1), .ref (na32 2), .ref (na32 3), .ref (na32 4), .ref (na32 5), .ref (na32 6), .ref (na32 7), .ref (na32 8), .ref (na32 9)]) := ((congrFun ef110 q23).trans (va_up_ne _ _ (g_neO h231 h108 (by decide)))).trans h231
  have h234 : f114 q23 = .inr (3, [.int (0 : Int32), .int (0 : Int32), .int (0 : Int32), .int (0 : Int32), .int (0 : Int32), .int (0 : Int32), .int (0 : Int32), .int (0 : Int32), .int (0 : Int32), .int (0 : Int32), .ref (na32 0), .ref (na32 1), .ref (na32 2), .ref (na32 3), .ref (na32 4), .ref (na32 5), .ref (na32 6), .ref (na32 7), .ref (na32 8), .ref (na32 9)]) := ((congrFun ef114 q23).trans (va_up_ne _ _ (g_neL h232 n113))).trans h233
  have h235 : q23 ∈ L115 := sb116 _ h232
  have h236 : f121 q23 = .inr (3, [.int (0 : Int32), .int (0 : Int32), .int (0 : Int32), .int (0 : Int32), .int (0 : Int32), .int (0 : Int32), .int (0 : Int32), .int (0 : Int32), .int (0 : Int32), .int (0 : Int32), .ref (na32 0), .ref (na32 1), .ref (na32 2), .ref (na32 3), .ref (na32 4), .ref (na32 5), .ref (na32 6), .ref (na32 7), .ref (na32 8), .ref (na32 9)]) := (k125 q23 h235 (g_neO h234 h118 (by decide))).trans h234
  have h237 : q23 ∈ L122 := sb124 _ h235
  have h238 : f128 q23 = .inr (3, [.int (0 : Int32), .int (0 : Int32), .int (0 : Int32), .int (0 : Int32), .int (0 : Int32), .int (0 : Int32), .int (0 : Int32), .int (0 : Int32), .int (0 : Int32), .int (0 : Int32), .ref (na32 0), .ref (na32 1), .ref (na32 2), .ref (na32 3), .ref (na32 4), .ref (na32 5), .ref (na32 6), .ref (na32 7), .ref (na32 8), .ref (na32 9)]) := ((congrFun ef128 q23).trans (va_up_ne _ _ (g_neO h236 h126 (by decide)))).trans h236
  have h239 : f132 q23 = .inr (3, [.int (0 : Int32), .int (0 : Int32), .int (0 : Int32), .int (0 : Int32), .int (0 : Int32), .int (0 : Int32), .int (0 : Int32), .int (0 : Int32), .int (0 : Int32), .int (0 : Int32), .ref (na32 0), .ref (na32 1), .ref (na32 2), .ref (na32 3), .ref (na32 4), .ref (na32 5), .ref (na32 6), .ref (na32 7), .ref (na32 8), .ref (na32 9)]) := ((congrFun ef132 q23).trans (va_up_ne _ _ (g_neL h237 n131))).trans h238
  have h240 : q23 ∈ L133 := sb134 _ h237
  have h241 : f139 q23 = .inr (3, [.int (0 : Int32), .int (0 : Int32), .int (0 : Int32), .int (0 : Int32), .int (0 : Int32), .int (0 : Int32), .int (0 : Int32), .int (0 : Int32), .int (0 : Int32), .int (0 : Int32), .ref (na32 0), .ref (na32 1), .ref (na32 2), .ref (na32 3), .ref (na32 4), .ref (na32 5), .ref (na32 6), .ref (na32 7), .ref (na32 8), .ref (na32 9)]) := (k145 q23 h240 (g_neO h239 h136 (by decide))).trans h239
  have h242 : q23 ∈ L140 := sb144 _ h240
  have h243 : f149 q23 = .inr (3, [.int (0 : Int32), .int (0 : Int32), .int (0 : Int32), .int (0 : Int32), .int (0 : Int32), .int (0 : Int32), .int (0 : Int32), .int (0 : Int32), .int (0 : Int32), .int (0 : Int32), .ref (na32 0), .ref (na32 1), .ref (na32 2), .ref (na32 3), .ref (na32 4), .ref (na32 5), .ref (na32 6), .ref (na32 7), .ref (na32 8), .ref (na32 9)]) := ((congrFun ef149 q23).trans (va_up_ne _ _ (g_neO h241 h147 (by decide)))).trans h241
  have h244 : f153 q23 = .inr (3, [.int (0 : Int32), .int (0 : Int32), .int (0 : Int32), .int (0 : Int32), .int (0 : Int32), .int (0 : Int32), .int (0 : Int32), .int (0 : Int32), .int (0 : Int32), .int (0 : Int32), .ref (na32 0), .ref (na32 1), .ref (na32 2), .ref (na32 3), .ref (na32 4), .ref (na32 5), .ref (na32 6), .ref (na32 7), .ref (na32 8), .ref (na32 9)]) := ((congrFun ef153 q23).trans (va_up_ne _ _ (g_neL h242 n152))).trans h243
  have h245 : q23 ∈ L154 := sb155 _ h242
  have h246 : f160 q23 = .inr (3, [.int (0 : Int32), .int (0 : Int32), .int (0 : Int32), .int (0 : Int32), .int (0 : Int32), .int (0 : Int32), .int (0 : Int32), .int (0 : Int32), .int (0 : Int32), .int (0 : Int32), .ref (na32 0), .ref (na32 1), .ref (na32 2), .ref (na32 3), .ref (na32 4), .ref (na32 5), .ref (na32 6), .ref (na32 7), .ref (na32 8), .ref (na32 9)]) := (k164 q23 h245 (g_neO h244 h157 (by decide))).trans h244
  have h247 : q23 ∈ L161 := sb163 _ h245
  have h248 : f167 q23 = .inr (3, [.int (0 : Int32), .int (0 : Int32), .int (0 : Int32), .int (0 : Int32), .int (0 : Int32), .int (0 : Int32), .int (0 : Int32), .int (0 : Int32), .int (0 : Int32), .int (0 : Int32), .ref (na32 0), .ref (na32 1), .ref (na32 2), .ref (na32 3), .ref (na32 4), .ref (na32 5), .ref (na32 6), .ref (na32 7), .ref (na32 8), .ref (na32 9)]) := ((congrFun ef167 q23).trans (va_up_ne _ _ (g_neO h246 h165 (by decide)))).trans h246
  have h249 : f171 q23 = .inr (3, [.int (0 : Int32), .int (0 : Int32), .int (0 : Int32), .int (0 : Int32), .int (0 : Int32), .int (0 : Int32), .int (0 : Int32), .int (0 : Int32), .int (0 : Int32), .int (0 : Int32), .ref (na32 0), .ref (na32 1), .ref (na32 2), .ref (na32 3), .ref (na32 4), .ref (na32 5), .ref (na32 6), .ref (na32 7), .ref (na32 8), .ref (na32 9)]) := ((congrFun ef171 q23).trans (va_up_ne _ _ (g_neL h247 n170))).trans h248
  have h250 : q23 ∈ L172 := sb173 _ h247
  have h251 : f178 q23 = .inr (3, [.int (0 : Int32), .int (0 : Int32), .int (0 : Int32), .int (0 : Int32), .int (0 : Int32), .int (0 : Int32), .int (0 : Int32), .int (0 : Int32), .int (0 : Int32), .int (0 : Int32), .ref (na32 0), .ref (na32 1), .ref (na32 2), .ref (na32 3), .ref (na32 4), .ref (na32 5), .ref (na32 6), .ref (na32 7), .ref (na32 8), .ref (na32 9)]) := (k182 q23 h250 (g_neO h249 h175 (by decide))).trans h249
  have h252 : q23 ∈ L179 := sb181 _ h250
  have h253 : f185 q23 = .inr (3, [.int (0 : Int32), .int (0 : Int32), .int (0 : Int32), .int (0 : Int32), .int (0 : Int32), .int (0 : Int32), .int (0 : Int32), .int (0 : Int32), .int (0 : Int32), .int (0 : Int32), .ref (na32 0), .ref (na32 1), .ref (na32 2), .ref (na32 3), .ref (na32 4), .ref (na32 5), .ref (na32 6), .ref (na32 7), .ref (na32 8), .ref (na32 9)]) := ((congrFun ef185 q23).trans (va_up_ne _ _ (g_neO h251 h183 (by decide)))).trans h251
  have h254 : f189 q23 = .inr (3, [.int (0 : Int32), .int (0 : Int32), .int (0 : Int32), .int (0 : Int32), .int (0 : Int32), .int (0 : Int32), .int (0 : Int32), .int (0 : Int32), .int (0 : Int32), .int (0 : Int32), .ref (na32 0), .ref (na32 1), .ref (na32 2), .ref (na32 3), .ref (na32 4), .ref (na32 5), .ref (na32 6), .ref (na32 7), .ref (na32 8), .ref (na32 9)]) := ((congrFun ef189 q23).trans (va_up_ne _ _ (g_neL h252 n188))).trans h253
  have h255 : q23 ∈ L190 := sb191 _ h252
  have h256 : f196 q23 = .inr (3, [.int (0 : Int32), .int (0 : Int32), .int (0 : Int32), .int (0 : Int32), .int (0 : Int32), .int (0 : Int32), .int (0 : Int32), .int (0 : Int32), .int (0 : Int32), .int (0 : Int32), .ref (na32 0), .ref (na32 1), .ref (na32 2), .ref (na32 3), .ref (na32 4), .ref (na32 5), .ref (na32 6), .ref (na32 7), .ref (na32 8), .ref (na32 9)]) := (k200 q23 h255 (g_neO h254 h193 (by decide))).trans h254
  have h257 : q23 ∈ L197 := sb199 _ h255
  have h258 : f203 q23 = .inr (3, [.int (0 : Int32), .int (0 : Int32), .int (0 : Int32), .int (0 : Int32), .int (0 : Int32), .int (0 : Int32), .int (0 : Int32), .int (0 : Int32), .int (0 : Int32), .int (0 : Int32), .ref (na32 0), .ref (na32 1), .ref (na32 2), .ref (na32 3), .ref (na32 4), .ref (na32 5), .ref (na32 6), .ref (na32 7), .ref (na32 8), .ref (na32 9)]) := ((congrFun ef203 q23).trans (va_up_ne _ _ (g_neO h256 h201 (by decide)))).trans h256
  have h259 : f207 q23 = .inr (3, [.int (0 : Int32), .int (0 : Int32), .int (0 : Int32), .int (0 : Int32), .int (0 : Int32), .int (0 : Int32), .int (0 : Int32), .int (0 : Int32), .int (0 : Int32), .int (0 : Int32), .ref (na32 0), .ref (na32 1), .ref (na32 2), .ref (na32 3), .ref (na32 4), .ref (na32 5), .ref (na32 6), .ref (na32 7), .ref (na32 8), .ref (na32 9)]) := ((congrFun ef207 q23).trans (va_up_ne _ _ (g_neL h257 n206))).trans h258
  have h260 : q23 ∈ L208 := sb209 _ h257
  have h261 : f214 q23 = .inr (3, [.int (0 : Int32), .int (0 : Int32), .int (0 : Int32), .int (0 : Int32), .int (0 : Int32), .int (0 : Int32), .int (0 : Int32), .int (0 : Int32), .int (0 : Int32), .int (0 : Int32), .ref (na32 0), .ref (na32 1), .ref (na32 2), .ref (na32 3), .ref (na32 4), .ref (na32 5), .ref (na32 6), .ref (na32 7), .ref (na32 8), .ref (na32 9)]) := ((congrFun ef214 q23).trans (va_up_ne _ _ (g_neO h259 h212 (by decide)))).trans h259
  have h262 : q23 ≠ q216 := g_neL h260 n217
  have h263 : f76 q53 = .inr (3, [.int (0 : Int32), .int (0 : Int32), .int (0 : Int32), .int (0 : Int32), .int (0 : Int32), .int (0 : Int32), .int (0 : Int32), .int (0 : Int32), .int (0 : Int32), .int (0 : Int32), .ref (na66 0), .ref (na66 1), .ref (na66 2), .ref (na66 3), .ref (na66 4), .ref (na66 5), .ref (na66 6), .ref (na66 7), .ref (na66 8), .ref (na66 9)]) := (k80 q53 h71 (g_neO h67 h74 (by decide))).trans h67
  have h264 : q53 ∈ L77 := sb79 _ h71
  have h265 : f88 q53 = .inr (3, [.int (0 : Int32), .int (0 : Int32), .int (0 : Int32), .int (0 : Int32), .int (0 : Int32), .int (0 : Int32), .int (0 : Int32), .int (0 : Int32), .int (0 : Int32), .int (0 : Int32), .ref (na66 0), .ref (na66 1), .ref (na66 2), .ref (na66 3), .ref (na66 4), .ref (na66 5), .ref (na66 6), .ref (na66 7), .ref (na66 8), .ref (na66 9)]) := ((congrFun ef88 q53).trans (va_up_ne _ _ (g_neO h263 h86 (by decide)))).trans h263
  have h266 : f92 q53 = .inr (3, [.int (0 : Int32), .int (0 : Int32), .int (0 : Int32), .int (0 : Int32), .int (0 : Int32), .int (0 : Int32), .int (0 : Int32), .int (0 : Int32), .int (0 : Int32), .int (0 : Int32), .ref (na66 0), .ref (na66 1), .ref (na66 2), .ref (na66 3), .ref (na66 4), .ref (na66 5), .ref (na66 6), .ref (na66 7), .ref (na66 8), .ref (na66 9)]) := ((congrFun ef92 q53).trans (va_up_ne _ _ (g_neL h264 n91))).trans h265
  have h267 : q53 ∈ L93 := sb94 _ h264
  have h268 : f99 q53 = .inr (3, [.int (0 : Int32), .int (0 : Int32), .int (0 : Int32), .int (0 : Int32), .int (0 : Int32), .int (0 : Int32), .int (0 : Int32), .int (0 : Int32), .int (0 : Int32), .int (0 : Int32), .ref (na66 0), .ref (na66 1), .ref (na66 2), .ref (na66 3), .ref (na66 4), .ref (na66 5), .ref (na66 6), .ref (na66 7), .ref (na66 8), .ref (na66 9)]) := ((congrFun ef99 q53).trans (va_up_ne _ _ (g_neO h266 h97 (by decide)))).trans h266
  have h269 : f103 q53 = .inr (3, [.int (0 : Int32), .int (0 : Int32), .int (0 : Int32), .int (0 : Int32), .int (0 : Int32), .int (0 : Int32), .int (0 : Int32), .int (0 : Int32), .int (0 : Int32), .int (0 : Int32), .ref (na66 0), .ref (na66 1), .ref (na66 2), .ref (na66 3), .ref (na66 4), .ref (na66 5), .ref (na66 6), .ref (na66 7), .ref (na66 8), .ref (na66 9)]) := ((congrFun ef103 q53).trans (va_up_ne _ _ (g_neL h267 n102))).trans h268
  have h270 : q53 ∈ L104 := sb105 _ h267
  have h271 : f110 q53 = .inr (3, [.int (0 : Int32), .int (0 : Int32), .int (0 : Int32), .int (0 : Int32), .int (0 : Int32), .int (0 : Int32), .int (0 : Int32), .int (0 : Int32), .int (0 : Int32), .int (0 : Int32), .ref (na66 0), .ref (na66 1), .ref (na66 2), .ref (na66 3), .ref (na66 4), .ref (na66 5), .ref (na66 6), .ref (na66 7), .ref (na66 8), .ref (na66 9)]) := ((congrFun ef110 q53).trans (va_up_ne _ _ (g_neO h269 h108 (by decide)))).trans h269
  have h272 : f114 q53 = .inr (3, [.int (0 : Int32), .int (0 : Int32), .int (0 : Int32), .int (0 : Int32), .int (0 : Int32), .int (0 : Int32), .int (0 : Int32), .int (0 : Int32), .int (0 : Int32), .int (0 : Int32), .ref (na66 0), .ref (na66 1), .ref (na66 2), .ref (na66 3), .ref (na66 4), .ref (na66 5), .ref (na66 6), .ref (na66 7), .ref (na66 8), .ref (na66 9)]) := ((congrFun ef114 q53).trans (va_up_ne _ _ (g_neL h270 n113))).trans h271
  have h273 : q53 ∈ L115 := sb116 _ h270
  have h274 : f121 q53 = .inr (3, [.int (0 : Int32), .int (0 : Int32), .int (0 : Int32), .int (0 : Int32), .int (0 : Int32), .int (0 : Int32), .int (0 : Int32), .int (0 : Int32), .int (0 : Int32), .int (0 : Int32), .ref (na66 0), .ref (na66 1), .ref (na66 2), .ref (na66 3), .ref (na66 4), .ref (na66 5), .ref (na66 6), .ref (na66 7), .ref (na66 8), .ref (na66 9)]) := (k125 q53 h273 (g_neO h272 h118 (by decide))).trans h272
  have h275 : q53 ∈ L122 := sb124 _ h273
  have h276 : f128 q53 = .inr (3, [.int (0 : Int32), .int (0 : Int32), .int (0 : Int32), .int (0 : Int32), .int (0 : Int32), .int (0 : Int32), .int (0 : Int32), .int (0 : Int32), .int (0 : Int32), .int (0 : Int32), .ref (na66 0), .ref (na66 1), .ref (na66 2), .ref (na66 3), .ref (na66 4), .ref (na66 5), .ref (na66 6), .ref (na66 7), .ref (na66 8), .ref (na66 9)]) := ((congrFun ef128 q53).trans (va_up_ne _ _ (g_neO h274 h126 (by decide)))).trans h274
  have h277 : f132 q53 = .inr (3, [.int (0 : Int32), .int (0 : Int32), .int (0 : Int32), .int (0 : Int32), .int (0 : Int32), .int (0 : Int32), .int (0 : Int32), .int (0 : Int32), .int (0 : Int32), .int (0 : Int32), .ref (na66 0), .ref (na66 1), .ref (na66 2), .ref (na66 3), .ref (na66 4), .ref (na66 5), .ref (na66 6), .ref (na66 7), .ref (na66 8), .ref (na66 9)]) := ((congrFun ef132 q53).trans (va_up_ne _ _ (g_neL h275 n131))).trans h276
  have h278 : q53 ∈ L133 := sb134 _ h275
  have h279 : f139 q53 = .inr (3, [.int (0 : Int32), .int (0 : Int32), .int (0 : Int32), .int (0 : Int32), .int (0 : Int32), .int (0 : Int32), .int (0 : Int32), .int (0 : Int32), .int (0 : Int32), .int (0 : Int32), .ref (na66 0), .ref (na66 1), .ref (na66 2), .ref (na66 3), .ref (na66 4), .ref (na66 5), .ref (na66 6), .ref (na66 7), .ref (na66 8), .ref (na66 9)]) := (k145 q53 h278 (g_neO h277 h136 (by decide))).trans h277
  have h280 : q53 ∈ L140 := sb144 _ h278
  have h281 : f149 q53 = .inr (3, [.int (0 : Int32), .int (0 : Int32), .int (0 : Int32), .int (0 : Int32), .int (0 : Int32), .int (0 : Int32), .int (0 : Int32), .int (0 : Int32), .int (0 : Int32), .int (0 : Int32), .ref (na66 0), .ref (na66 1), .ref (na66 2), .ref (na66 3), .ref (na66 4), .ref (na66 5), .ref (na66 6), .ref (na66 7), .ref (na66 8), .ref (na66 9)]) := ((congrFun ef149 q53).trans (va_up_ne _ _ (g_neO h279 h147 (by decide)))).trans h279
  have h282 : f153 q53 = .inr (3, [.int (0 : Int32), .int (0 : Int32), .int (0 : Int32), .int (0 : Int32), .int (0 : Int32), .int (0 : Int32), .int (0 : Int32), .int (0 : Int32), .int (0 : Int32), .int (0 : Int32), .ref (na66 0), .ref (na66 1), .ref (na66 2), .ref (na66 3), .ref (na66 4), .ref (na66 5), .ref (na66 6), .ref (na66 7), .ref (na66 8), .ref (na66 9)]) := ((congrFun ef153 q53).trans (va_up_ne _ _ (g_neL h280 n152))).trans h281
  have h283 : q53 ∈ L154 := sb155 _ h280
  have h284 : f160 q53 = .inr (3, [.int (0 : Int32), .int (0 : Int32), .int (0 : Int32), .int (0 : Int32), .int (0 : Int32), .int (0 : Int32), .int (0 : Int32), .int (0 : Int32), .int (0 : Int32), .int (0 : Int32), .ref (na66 0), .ref (na66 1), .ref (na66 2), .ref (na66 3), .ref (na66 4), .ref (na66 5), .ref (na66 6), .ref (na66 7), .ref (na66 8), .ref (na66 9)]) := (k164 q53 h283 (g_neO h282 h157 (by decide))).trans h282
  have h285 : q53 ∈ L161 := sb163 _ h283
  have h286 : f167 q53 = .inr (3, [.int (0 : Int32), .int (0 : Int32), .int (0 : Int32), .int (0 : Int32), .int (0 : Int32), .int (0 : Int32), .int (0 : Int32), .int (0 : Int32), .int (0 : Int32), .int (0 : Int32), .ref (na66 0), .ref (na66 1), .ref (na66 2), .ref (na66 3), .ref (na66 4), .ref (na66 5), .ref (na66 6), .ref (na66 7), .ref (na66 8), .ref (na66 9)]) := ((congrFun ef167 q53).trans (va_up_ne _ _ (g_neO h284 h165 (by decide)))).trans h284
  have h287 : f171 q53 = .inr (3, [.int (0 : Int32), .int (0 : Int32), .int (0 : Int32), .int (0 : Int32), .int (0 : Int32), .int (0 : Int32), .int (0 : Int32), .int (0 : Int32), .int (0 : Int32), .int (0 : Int32), .ref (na66 0), .ref (na66 1), .ref (na66 2), .ref (na66 3), .ref (na66 4), .ref (na66 5), .ref (na66 6), .ref (na66 7), .ref (na66 8), .ref (na66 9)]) := ((congrFun ef171 q53).trans (va_up_ne _ _ (g_neL h285 n170))).trans h286
  have h288 : q53 ∈ L172 := sb173 _ h285
  have h289 : f178 q53 = .inr (3, [.int (0 : Int32), .int (0 : Int32), .int (0 : Int32), .int (0 : Int32), .int (0 : Int32), .int (0 : Int32), .int (0 : Int32), .int (0 : Int32), .int (0 : Int32), .int (0 : Int32), .ref (na66 0), .ref (na66 1), .ref (na66 2), .ref (na66 3), .ref (na66 4), .ref (na66 5), .ref (na66 6), .ref (na66 7), .ref (na66 8), .ref (na66 9)]) := (k182 q53 h288 (g_neO h287 h175 (by decide))).trans h287
  have h290 : q53 ∈ L179 := sb181 _ h288
  have h291 : f185 q53 = .inr (3, [.int (0 : Int32), .int (0 : Int32), .int (0 : Int32), .int (0 : Int32), .int (0 : Int32), .int (0 : Int32), .int (0 : Int32), .int (0 : Int32), .int (0 : Int32), .int (0 : Int32), .ref (na66 0), .ref (na66 1), .ref (na66 2), .ref (na66 3), .ref (na66 4), .ref (na66 5), .ref (na66 6), .ref (na66 7), .ref (na66 8), .ref (na66 9)]) := ((congrFun ef185 q53).trans (va_up_ne _ _ (g_neO h289 h183 (by decide)))).trans h289
  have h292 : f189 q53 = .inr (3, [.int (0 : Int32), .int (0 : Int32), .int (0 : Int32), .int (0 : Int32), .int (0 : Int32), .int (0 : Int32), .int (0 : Int32), .int (0 : Int32), .int (0 : Int32), .int (0 : Int32), .ref (na66 0), .ref (na66 1), .ref (na66 2), .ref (na66 3), .ref (na66 4), .ref (na66 5), .ref (na66 6), .ref (na66 7), .ref (na66 8), .ref (na66 9)]) := ((congrFun ef189 q53).trans (va_up_ne _ _ (g_neL h290 n188))).trans h291
  have h293 : q53 ∈ L190 := sb191 _ h290
  have h294 : f196 q53 = .inr (3, [.int (0 : Int32), .int (0 : Int32), .int (0 : Int32), .int (0 : Int32), .int (0 : Int32), .int (0 : Int32), .int (0 : Int32), .int (0 : Int32), .int (0 : Int32), .int (0 : Int32), .ref (na66 0), .ref (na66 1), .ref (na66 2), .ref (na66 3), .ref (na66 4), .ref (na66 5), .ref (na66 6), .ref (na66 7), .ref (na66 8), .ref (na66 9)]) := (k200 q53 h293 (g_neO h292 h193 (by decide))).trans h292
  have h295 : q53 ∈ L197 := sb199 _ h293
  have h296 : f203 q53 = .inr (3, [.int (0 : Int32), .int (0 : Int32), .int (0 : Int32), .int (0 : Int32), .int (0 : Int32), .int (0 : Int32), .int (0 : Int32), .int (0 : Int32), .int (0 : Int32), .int (0 : Int32), .ref (na66 0), .ref (na66 1), .ref (na66 2), .ref (na66 3), .ref (na66 4), .ref (na66 5), .ref (na66 6), .ref (na66 7), .ref (na66 8), .ref (na66 9)]) := ((congrFun ef203 q53).trans (va_up_ne _ _ (g_neO h294 h201 (by decide)))).trans h294
  have h297 : f207 q53 = .inr (3, [.int (0 : Int32), .int (0 : Int32), .int (0 : Int32), .int (0 : Int32), .int (0 : Int32), .int (0 : Int32), .int (0 : Int32), .int (0 : Int32), .int (0 : Int32), .int (0 : Int32), .ref (na66 0), .ref (na66 1), .ref (na66 2), .ref (na66 3), .ref (na66 4), .ref (na66 5), .ref (na66 6), .ref (na66 7), .ref (na66 8), .ref (na66 9)]) := ((congrFun ef207 q53).trans (va_up_ne _ _ (g_neL h295 n206))).trans h296
  have h298 : q53 ∈ L208 := sb209 _ h295
  have h299 : f214 q53 = .inr (3, [.int (0 : Int32), .int (0 : Int32), .int (0 : Int32), .int (0 : Int32), .int (0 : Int32), .int (0 : Int32), .int (0 : Int32), .int (0 : Int32), .int (0 : Int32), .int (0 : Int32), .ref (na66 0), .ref (na66 1), .ref (na66 2), .ref (na66 3), .ref (na66 4), .ref (na66 5), .ref (na66 6), .ref (na66 7), .ref (na66 8), .ref (na66 9)]) := ((congrFun ef214 q53).trans (va_up_ne _ _ (g_neO h297 h212 (by decide)))).trans h297
  have h300 : q53 ≠ q216 := g_neL h298 n217
  have h301 : q216 ∈ L219 := by rw [eL219]; exact List.mem_append_right _ List.mem_cons_self
  have h302 : f218 q216 = .inr (3, [.int (0 : Int32), .int (0 : Int32), .int (0 : Int32), .int (0 : Int32), .int (0 : Int32), .int (0 : Int32), .int (0 : Int32), .int (0 : Int32), .int (0 : Int32), .int (0 : Int32), .null, .null, .null, .null, .null, .null, .null, .null, .null, .null]) := (congrFun ef218 q216).trans (va_up_self _ _ _)
  refine lv_dup hx hb dX9_init_177 rfl ?_
  refine g_INv C hl.1 hA hH (As := []) (rest := [.ref q216, .int (0 : Int32), .ref q90]) (k_Land l E L219 f218 h301 h302) my_X3_init (host := "GooseShares") (List.mem_of_getElem? (i := 1) rfl) rfl rfl (Nat.le_of_ble_eq_true rfl) ⟨Nat.le_of_ble_eq_true rfl, Nat.le_of_ble_eq_true rfl⟩ ⟨Nat.le_of_ble_eq_true rfl, Nat.le_of_ble_eq_true rfl⟩ dX9_init_178 (fun L304 f303 H locs hp hH => ?_)
  obtain ⟨na305, h306, h307, sb308, k309⟩ := hp
  have h310 := sb308 _ h301
  have h311 : f99 q90 = .inl (E.2.2 4, 3, .inr (.inr (.inr (.inr (fun _ => none))))) := ((congrFun ef99 q90).trans (va_up_ne _ _ (g_neAO h96 h97))).trans h96
  have h312 : f103 q90 = .inl (E.2.2 4, 3, .inr (.inr (.inr (.inr (fun _ => none))))) := ((congrFun ef103 q90).trans (va_up_ne _ _ (g_neL h95 n102))).trans h311
  have h313 : q90 ∈ L104 := sb105 _ h95
  have h314 : f110 q90 = .inl (E.2.2 4, 3, .inr (.inr (.inr (.inr (fun _ => none))))) := ((congrFun ef110 q90).trans (va_up_ne _ _ (g_neAO h312 h108))).trans h312
  have h315 : f114 q90 = .inl (E.2.2 4, 3, .inr (.inr (.inr (.inr (fun _ => none))))) := ((congrFun ef114 q90).trans (va_up_ne _ _ (g_neL h313 n113))).trans h314
  have h316 : q90 ∈ L115 := sb116 _ h313
  have h317 : f121 q90 = .inl (E.2.2 4, 3, .inr (.inr (.inr (.inr (fun _ => none))))) := (k125 q90 h316 (g_neAO h315 h118)).trans h315
  have h318 : q90 ∈ L122 := sb124 _ h316
  have h319 : f128 q90 = .inl (E.2.2 4, 3, .inr (.inr (.inr (.inr (fun _ => none))))) := ((congrFun ef128 q90).trans (va_up_ne _ _ (g_neAO h317 h126))).trans h317
  have h320 : f132 q90 = .inl (E.2.2 4, 3, .inr (.inr (.inr (.inr (fun _ => none))))) := ((congrFun ef132 q90).trans (va_up_ne _ _ (g_neL h318 n131))).trans h319
  have h321 : q90 ∈ L133 := sb134 _ h318
  have h322 : f139 q90 = .inl (E.2.2 4, 3, .inr (.inr (.inr (.inr (fun _ => none))))) := (k145 q90 h321 (g_neAO h320 h136)).trans h320
  have h323 : q90 ∈ L140 := sb144 _ h321
  have h324 : f149 q90 = .inl (E.2.2 4, 3, .inr (.inr (.inr (.inr (fun _ => none))))) := ((congrFun ef149 q90).trans (va_up_ne _ _ (g_neAO h322 h147))).trans h322
  have h325 : f153 q90 = .inl (E.2.2 4, 3, .inr (.inr (.inr (.inr (fun _ => none))))) := ((congrFun ef153 q90).trans (va_up_ne _ _ (g_neL h323 n152))).trans h324
  have h326 : q90 ∈ L154 := sb155 _ h323
  have h327 : f160 q90 = .inl (E.2.2 4, 3, .inr (.inr (.inr (.inr (fun _ => none))))) := (k164 q90 h326 (g_neAO h325 h157)).trans h325
  have h328 : q90 ∈ L161 := sb163 _ h326
  have h329 : f167 q90 = .inl (E.2.2 4, 3, .inr (.inr (.inr (.inr (fun _ => none))))) := ((congrFun ef167 q90).trans (va_up_ne _ _ (g_neAO h327 h165))).trans h327
  have h330 : f171 q90 = .inl (E.2.2 4, 3, .inr (.inr (.inr (.inr (fun _ => none))))) := ((congrFun ef171 q90).trans (va_up_ne _ _ (g_neL h328 n170))).trans h329
  have h331 : q90 ∈ L172 := sb173 _ h328
  have h332 : f178 q90 = .inl (E.2.2 4, 3, .inr (.inr (.inr (.inr (fun _ => none))))) := (k182 q90 h331 (g_neAO h330 h175)).trans h330
  have h333 : q90 ∈ L179 := sb181 _ h331
  have h334 : f185 q90 = .inl (E.2.2 4, 3, .inr (.inr (.inr (.inr (fun _ => none))))) := ((congrFun ef185 q90).trans (va_up_ne _ _ (g_neAO h332 h183))).trans h332
  have h335 : f189 q90 = .inl (E.2.2 4, 3, .inr (.inr (.inr (.inr (fun _ => none))))) := ((congrFun ef189 q90).trans (va_up_ne _ _ (g_neL h333 n188))).trans h334
  have h336 : q90 ∈ L190 := sb191 _ h333
  have h337 : f196 q90 = .inl (E.2.2 4, 3, .inr (.inr (.inr (.inr (fun _ => none))))) := (k200 q90 h336 (g_neAO h335 h193)).trans h335
  have h338 : q90 ∈ L197 := sb199 _ h336
  have h339 : f203 q90 = .inl (E.2.2 4, 3, .inr (.inr (.inr (.inr (fun _ => none))))) := ((congrFun ef203 q90).trans (va_up_ne _ _ (g_neAO h337 h201))).trans h337
  have h340 : f207 q90 = .inl (E.2.2 4, 3, .inr (.inr (.inr (.inr (fun _ => none))))) := ((congrFun ef207 q90).trans (va_up_ne _ _ (g_neL h338 n206))).trans h339
  have h341 : q90 ∈ L208 := sb209 _ h338
  have h342 : f214 q90 = .inl (E.2.2 4, 3, .inr (.inr (.inr (.inr (fun _ => none))))) := ((congrFun ef214 q90).trans (va_up_ne _ _ (g_neAO h340 h212))).trans h340
  have h343 : f218 q90 = .inl (E.2.2 4, 3, .inr (.inr (.inr (.inr (fun _ => none))))) := ((congrFun ef218 q90).trans (va_up_ne _ _ (g_neL h341 n217))).trans h342
  have h344 : q90 ∈ L219 := sb220 _ h341
  have h345 : f303 q90 = .inl (E.2.2 4, 3, .inr (.inr (.inr (.inr (fun _ => none))))) := (k309 q90 h344 (g_neAO h343 h302)).trans h343
  have h346 : q90 ∈ L304 := sb308 _ h344
  refine g_aast C hH h346 4 rfl h345 h310 h306 rfl (vp_inL (by decide)) dX9_init_181 (fun H locs hH => ?_)
  obtain ⟨f347, ef347⟩ : ∃ z : gF, z = va_up f303 q90 (.inl (E.2.2 4, 3, .inr (.inr (.inr (.inr (va_up (fun _ => none) 0 (some q216))))))) := ⟨_, rfl⟩
  have hH : gH E A L304 f347 s.heap H locs := by rw [ef347]; exact hH
  have h348 : f347 q90 = .inl (E.2.2 4, 3, .inr (.inr (.inr (.inr (va_up (fun _ => none) 0 (some q216)))))) := (congrFun ef347 q90).trans (va_up_self _ _ _)
  refine lv_iinc (v := (1 : Int32)) (lv' := [(1, .int (1 : Int32)), (0, .ref q)]) hx hb dX9_init_182 hl (k := 0) rfl (by decide) (by decide) rfl (fun ls hl => ?_)
  refine lv_goto (tgt := 164) hx hb dX9_init_185 (by decide) ?_
  refine lv_iload_n hx hb dX9_init_164 rfl (lv_at hl 0 rfl) ?_
  refine lv_iconst (v := (3 : Int32)) hx hb dX9_init_165 (by decide) ?_
  refine lv_icmp_ge (tgt := 188) hx hb dX9_init_166 (by decide) (fun h => absurd h (by decide)) (fun _ => ?_)
  refine lv_aload_n hx hb dX9_init_169 rfl (lv_at hl 1 rfl) ?_
  have h349 : f218 q = .inr (9, [.ref q1, .ref q23, .ref q44, .ref q90, .ref q101, .ref q112, .ref q130, .ref q151, .ref q169, .ref q187, .ref q205]) := ((congrFun ef218 q).trans (va_up_ne _ _ (g_neL h213 n217))).trans h215
  have h350 : q ∈ L219 := sb220 _ h213
  have h351 : f303 q = .inr (9, [.ref q1, .ref q23, .ref q44, .ref q90, .ref q101, .ref q112, .ref q130, .ref q151, .ref q169, .ref q187, .ref q205]) := (k309 q h350 (g_neO h349 h302 (by decide))).trans h349
  have h352 : q ∈ L304 := sb308 _ h350
  have h353 : f347 q = .inr (9, [.ref q1, .ref q23, .ref q44, .ref q90, .ref q101, .ref q112, .ref q130, .ref q151, .ref q169, .ref q187, .ref q205]) := ((congrFun ef347 q).trans (va_up_ne _ _ (g_neOA h351 h345))).trans h351
  refine g_get C hH h352 h353 iX9 rfl 3 (by decide) wd114 rfl rfl dX9_init_170 ?_
  refine lv_iload_n hx hb dX9_init_173 rfl (lv_at hl 0 rfl) ?_
  refine g_new C hH hA (ci := 3) iX3 tyX3 tyX3_ok wd191 wd192 wd7 rfl (fs := [.int (0 : Int32), .int (0 : Int32), .int (0 : Int32), .int (0 : Int32), .int (0 : Int32), .int (0 : Int32), .int (0 : Int32), .int (0 : Int32), .int (0 : Int32), .int (0 : Int32), .null, .null, .null, .null, .null, .null, .null, .null, .null, .null]) (dvX3) (Nat.le_of_ble_eq_true rfl) (Nat.le_of_ble_eq_true rfl) dX9_init_174 (fun q354 H n355 hH => ?_)
  obtain ⟨f356, ef356⟩ : ∃ z : gF, z = va_up f347 q354 (.inr (3, [.int (0 : Int32), .int (0 : Int32), .int (0 : Int32), .int (0 : Int32), .int (0 : Int32), .int (0 : Int32), .int (0 : Int32), .int (0 : Int32), .int (0 : Int32), .int (0 : Int32), .null, .null, .null, .null, .null, .null, .null, .null, .null, .null])) := ⟨_, rfl⟩
  obtain ⟨L357, eL357⟩ : ∃ z : List Nat, z = L304 ++ [q354] := ⟨_, rfl⟩
  have hH := g_re ef356 eL357 hH
  have sb358 : ∀ b ∈ L304, b ∈ L357 := fun b h => by rw [eL357]; exact List.mem_append_left _ h
  have h359 : f218 q23 = .inr (3, [.int (0 : Int32), .int (0 : Int32), .int (0 : Int32), .int (0 : Int32), .int (0 : Int32), .int (0 : Int32), .int (0 : Int32), .int (0 : Int32), .int (0 : Int32), .int (0 : Int32), .ref (na32 0), .ref (na32 1), .ref (na32 2), .ref (na32 3), .ref (na32 4), .ref (na32 5), .ref (na32 6), .ref (na32 7), .ref (na32 8), .ref (na32 9)]) := ((congrFun ef218 q23).trans (va_up_ne _ _ (g_neL h260 n217))).trans h261
  have h360 : q23 ∈ L219 := sb220 _ h260
  have h361 : f303 q23 = .inr (3, [.int (0 : Int32), .int (0 : Int32), .int (0 : Int32), .int (0 : Int32), .int (0 : Int32), .int (0 : Int32), .int (0 : Int32), .int (0 : Int32), .int (0 : Int32), .int (0 : Int32), .ref (na32 0), .ref (na32 1), .ref (na32 2), .ref (na32 3), .ref (na32 4), .ref (na32 5), .ref (na32 6), .ref (na32 7), .ref (na32 8), .ref (na32 9)]) := (k309 q23 h360 h262).trans h359
  have h362 : q23 ∈ L304 := sb308 _ h360
  have h363 : f347 q23 = .inr (3, [.int (0 : Int32), .int (0 : Int32), .int (0 : Int32), .int (0 : Int32), .int (0 : Int32), .int (0 : Int32), .int (0 : Int32), .int (0 : Int32), .int (0 : Int32), .int (0 : Int32), .ref (na32 0), .ref (na32 1), .ref (na32 2), .ref (na32 3), .ref (na32 4), .ref (na32 5), .ref (na32 6), .ref (na32 7), .ref (na32 8), .ref (na32 9)]) := ((congrFun ef347 q23).trans (va_up_ne _ _ (g_neOA h361 h345))).trans h361
  have h364 : q23 ≠ q354 := g_neL h362 n355
  have h365 : f218 q53 = .inr (3, [.int (0 : Int32), .int (0 : Int32), .int (0 : Int32), .int (0 : Int32), .int (0 : Int32), .int (0 : Int32), .int (0 : Int32), .int (0 : Int32), .int (0 : Int32), .int (0 : Int32), .ref (na66 0), .ref (na66 1), .ref (na66 2), .ref (na66 3), .ref (na66 4), .ref (na66 5), .ref (na66 6), .ref (na66 7), .ref (na66 8), .ref (na66 9)]) := ((congrFun ef218 q53).trans (va_up_ne _ _ (g_neL h298 n217))).trans h299
  have h366 : q53 ∈ L219 := sb220 _ h298
  have h367 : f303 q53 = .inr (3, [.int (0 : Int32), .int (0 : Int32), .int (0 : Int32), .int (0 : Int32), .int (0 : Int32), .int (0 : Int32), .int (0 : Int32), .int (0 : Int32), .int (0 : Int32), .int (0 : Int32), .ref (na66 0), .ref (na66 1), .ref (na66 2), .ref (na66 3), .ref (na66 4), .ref (na66 5), .ref (na66 6), .ref (na66 7), .ref (na66 8), .ref (na66 9)]) := (k309 q53 h366 h300).trans h365
  have h368 : q53 ∈ L304 := sb308 _ h366
  have h369 : f347 q53 = .inr (3, [.int (0 : Int32), .int (0 : Int32), .int (0 : Int32), .int (0 : Int32), .int (0 : Int32), .int (0 : Int32), .int (0 : Int32), .int (0 : Int32), .int (0 : Int32), .int (0 : Int32), .ref (na66 0), .ref (na66 1), .ref (na66 2), .ref (na66 3), .ref (na66 4), .ref (na66 5), .ref (na66 6), .ref (na66 7), .ref (na66 8), .ref (na66 9)]) := ((congrFun ef347 q53).trans (va_up_ne _ _ (g_neOA h367 h345))).trans h367
  have h370 : q53 ≠ q354 := g_neL h368 n355
  have h371 : f347 q216 = .inr (3, [.int (0 : Int32), .int (0 : Int32), .int (0 : Int32), .int (0 : Int32), .int (0 : Int32), .int (0 : Int32), .int (0 : Int32), .int (0 : Int32), .int (0 : Int32), .int (0 : Int32), .ref (na305 0), .ref (na305 1), .ref (na305 2), .ref (na305 3), .ref (na305 4), .ref (na305 5), .ref (na305 6), .ref (na305 7), .ref (na305 8), .ref (na305 9)]) := ((congrFun ef347 q216).trans (va_up_ne _ _ (g_neOA h306 h345))).trans h306
  have h372 : q216 ≠ q354 := g_neL h310 n355
  have h373 : q354 ∈ L357 := by rw [eL357]; exact List.mem_append_right _ List.mem_cons_self
  have h374 : f356 q354 = .inr (3, [.int (0 : Int32), .int (0 : Int32), .int (0 : Int32), .int (0 : Int32), .int (0 : Int32), .int (0 : Int32), .int (0 : Int32), .int (0 : Int32), .int (0 : Int32), .int (0 : Int32), .null, .null, .null, .null, .null, .null, .null, .null, .null, .null]) := (congrFun ef356 q354).trans (va_up_self _ _ _)
  refine lv_dup hx hb dX9_init_177 rfl ?_
  refine g_INv C hl.1 hA hH (As := []) (rest := [.ref q354, .int (1 : Int32), .ref q90]) (k_Land l E L357 f356 h373 h374) my_X3_init (host := "GooseShares") (List.mem_of_getElem? (i := 1) rfl) rfl rfl (Nat.le_of_ble_eq_true rfl) ⟨Nat.le_of_ble_eq_true rfl, Nat.le_of_ble_eq_true rfl⟩ ⟨Nat.le_of_ble_eq_true rfl, Nat.le_of_ble_eq_true rfl⟩ dX9_init_178 (fun L376 f375 H locs hp hH => ?_)
  obtain ⟨na377, h378, h379, sb380, k381⟩ := hp
  have h382 := sb380 _ h373
  have h383 : f356 q90 = .inl (E.2.2 4, 3, .inr (.inr (.inr (.inr (va_up (fun _ => none) 0 (some q216)))))) := ((congrFun ef356 q90).trans (va_up_ne _ _ (g_neL h346 n355))).trans h348
  have h384 : q90 ∈ L357 := sb358 _ h346
  have h385 : f375 q90 = .inl (E.2.2 4, 3, .inr (.inr (.inr (.inr (va_up (fun _ => none) 0 (some q216)))))) := (k381 q90 h384 (g_neAO h383 h374)).trans h383
  have h386 : q90 ∈ L376 := sb380 _ h384
  refine g_aast C hH h386 4 rfl h385 h382 h378 rfl (vp_inL (by decide)) dX9_init_181 (fun H locs hH => ?_)
  obtain ⟨f387, ef387⟩ : ∃ z : gF, z = va_up f375 q90 (.inl (E.2.2 4, 3, .inr (.inr (.inr (.inr (va_up (va_up (fun _ => none) 0 (some q216)) 1 (some q354))))))) := ⟨_, rfl⟩
  have hH : gH E A L376 f387 s.heap H locs := by rw [ef387]; exact hH
  have h388 : f387 q90 = .inl (E.2.2 4, 3, .inr (.inr (.inr (.inr (va_up (va_up (fun _ => none) 0 (some q216)) 1 (some q354)))))) := (congrFun ef387 q90).trans (va_up_self _ _ _)
  refine lv_iinc (v := (2 : Int32)) (lv' := [(1, .int (2 : Int32)), (0, .ref q)]) hx hb dX9_init_182 hl (k := 0) rfl (by decide) (by decide) rfl (fun ls hl => ?_)
  refine lv_goto (tgt := 164) hx hb dX9_init_185 (by decide) ?_
  refine lv_iload_n hx hb dX9_init_164 rfl (lv_at hl 0 rfl) ?_
  refine lv_iconst (v := (3 : Int32)) hx hb dX9_init_165 (by decide) ?_
  refine lv_icmp_ge (tgt := 188) hx hb dX9_init_166 (by decide) (fun h => absurd h (by decide)) (fun _ => ?_)
  refine lv_aload_n hx hb dX9_init_169 rfl (lv_at hl 1 rfl) ?_
  have h389 : f356 q = .inr (9, [.ref q1, .ref q23, .ref q44, .ref q90, .ref q101, .ref q112, .ref q130, .ref q151, .ref q169, .ref q187, .ref q205]) := ((congrFun ef356 q).trans (va_up_ne _ _ (g_neL h352 n355))).trans h353
  have h390 : q ∈ L357 := sb358 _ h352
  have h391 : f375 q = .inr (9, [.ref q1, .ref q23, .ref q44, .ref q90, .ref q101, .ref q112, .ref q130, .ref q151, .ref q169, .ref q187, .ref q205]) := (k381 q h390 (g_neO h389 h374 (by decide))).trans h389
  have h392 : q ∈ L376 := sb380 _ h390
  have h393 : f387 q = .inr (9, [.ref q1, .ref q23, .ref q44, .ref q90, .ref q101, .ref q112, .ref q130, .ref q151, .ref q169, .ref q187, .ref q205]) := ((congrFun ef387 q).trans (va_up_ne _ _ (g_neOA h391 h385))).trans h391
  refine g_get C hH h392 h393 iX9 rfl 3 (by decide) wd114 rfl rfl dX9_init_170 ?_
  refine lv_iload_n hx hb dX9_init_173 rfl (lv_at hl 0 rfl) ?_
  refine g_new C hH hA (ci := 3) iX3 tyX3 tyX3_ok wd191 wd192 wd7 rfl (fs := [.int (0 : Int32), .int (0 : Int32), .int (0 : Int32), .int (0 : Int32), .int (0 : Int32), .int (0 : Int32), .int (0 : Int32), .int (0 : Int32), .int (0 : Int32), .int (0 : Int32), .null, .null, .null, .null, .null, .null, .null, .null, .null, .null]) (dvX3) (Nat.le_of_ble_eq_true rfl) (Nat.le_of_ble_eq_true rfl) dX9_init_174 (fun q394 H n395 hH => ?_)
  obtain ⟨f396, ef396⟩ : ∃ z : gF, z = va_up f387 q394 (.inr (3, [.int (0 : Int32), .int (0 : Int32), .int (0 : Int32), .int (0 : Int32), .int (0 : Int32), .int (0 : Int32), .int (0 : Int32), .int (0 : Int32), .int (0 : Int32), .int (0 : Int32), .null, .null, .null, .null, .null, .null, .null, .null, .null, .null])) := ⟨_, rfl⟩
  obtain ⟨L397, eL397⟩ : ∃ z : List Nat, z = L376 ++ [q394] := ⟨_, rfl⟩
  have hH := g_re ef396 eL397 hH
  have sb398 : ∀ b ∈ L376, b ∈ L397 := fun b h => by rw [eL397]; exact List.mem_append_left _ h
  have h399 : f356 q23 = .inr (3, [.int (0 : Int32), .int (0 : Int32), .int (0 : Int32), .int (0 : Int32), .int (0 : Int32), .int (0 : Int32), .int (0 : Int32), .int (0 : Int32), .int (0 : Int32), .int (0 : Int32), .ref (na32 0), .ref (na32 1), .ref (na32 2), .ref (na32 3), .ref (na32 4), .ref (na32 5), .ref (na32 6), .ref (na32 7), .ref (na32 8), .ref (na32 9)]) := ((congrFun ef356 q23).trans (va_up_ne _ _ (g_neL h362 n355))).trans h363
  have h400 : q23 ∈ L357 := sb358 _ h362
  have h401 : f375 q23 = .inr (3, [.int (0 : Int32), .int (0 : Int32), .int (0 : Int32), .int (0 : Int32), .int (0 : Int32), .int (0 : Int32), .int (0 : Int32), .int (0 : Int32), .int (0 : Int32), .int (0 : Int32), .ref (na32 0), .ref (na32 1), .ref (na32 2), .ref (na32 3), .ref (na32 4), .ref (na32 5), .ref (na32 6), .ref (na32 7), .ref (na32 8), .ref (na32 9)]) := (k381 q23 h400 h364).trans h399
  have h402 : q23 ∈ L376 := sb380 _ h400
  have h403 : f387 q23 = .inr (3, [.int (0 : Int32), .int (0 : Int32), .int (0 : Int32), .int (0 : Int32), .int (0 : Int32), .int (0 : Int32), .int (0 : Int32), .int (0 : Int32), .int (0 : Int32), .int (0 : Int32), .ref (na32 0), .ref (na32 1), .ref (na32 2), .ref (na32 3), .ref (na32 4), .ref (na32 5), .ref (na32 6), .ref (na32 7), .ref (na32 8), .ref (na32 9)]) := ((congrFun ef387 q23).trans (va_up_ne _ _ (g_neOA h401 h385))).trans h401
  have h404 : q23 ≠ q394 := g_neL h402 n395
  have h405 : f356 q53 = .inr (3, [.int (0 : Int32), .int (0 : Int32), .int (0 : Int32), .int (0 : Int32), .int (0 : Int32), .int (0 : Int32), .int (0 : Int32), .int (0 : Int32), .int (0 : Int32), .int (0 : Int32), .ref (na66 0), .ref (na66 1), .ref (na66 2), .ref (na66 3), .ref (na66 4), .ref (na66 5), .ref (na66 6), .ref (na66 7), .ref (na66 8), .ref (na66 9)]) := ((congrFun ef356 q53).trans (va_up_ne _ _ (g_neL h368 n355))).trans h369
  have h406 : q53 ∈ L357 := sb358 _ h368
  have h407 : f375 q53 = .inr (3, [.int (0 : Int32), .int (0 : Int32), .int (0 : Int32), .int (0 : Int32), .int (0 : Int32), .int (0 : Int32), .int (0 : Int32), .int (0 : Int32), .int (0 : Int32), .int (0 : Int32), .ref (na66 0), .ref (na66 1), .ref (na66 2), .ref (na66 3), .ref (na66 4), .ref (na66 5), .ref (na66 6), .ref (na66 7), .ref (na66 8), .ref (na66 9)]) := (k381 q53 h406 h370).trans h405
  have h408 : q53 ∈ L376 := sb380 _ h406
  have h409 : f387 q53 = .inr (3, [.int (0 : Int32), .int (0 : Int32), .int (0 : Int32), .int (0 : Int32), .int (0 : Int32), .int (0 : Int32), .int (0 : Int32), .int (0 : Int32), .int (0 : Int32), .int (0 : Int32), .ref (na66 0), .ref (na66 1), .ref (na66 2), .ref (na66 3), .ref (na66 4), .ref (na66 5), .ref (na66 6), .ref (na66 7), .ref (na66 8), .ref (na66 9)]) := ((congrFun ef387 q53).trans (va_up_ne _ _ (g_neOA h407 h385))).trans h407
  have h410 : q53 ≠ q394 := g_neL h408 n395
  have h411 : f356 q216 = .inr (3, [.int (0 : Int32), .int (0 : Int32), .int (0 : Int32), .int (0 : Int32), .int (0 : Int32), .int (0 : Int32), .int (0 : Int32), .int (0 : Int32), .int (0 : Int32), .int (0 : Int32), .ref (na305 0), .ref (na305 1), .ref (na305 2), .ref (na305 3), .ref (na305 4), .ref (na305 5), .ref (na305 6), .ref (na305 7), .ref (na305 8), .ref (na305 9)]) := ((congrFun ef356 q216).trans (va_up_ne _ _ (g_neL h310 n355))).trans h371
  have h412 : q216 ∈ L357 := sb358 _ h310
  have h413 : f375 q216 = .inr (3, [.int (0 : Int32), .int (0 : Int32), .int (0 : Int32), .int (0 : Int32), .int (0 : Int32), .int (0 : Int32), .int (0 : Int32), .int (0 : Int32), .int (0 : Int32), .int (0 : Int32), .ref (na305 0), .ref (na305 1), .ref (na305 2), .ref (na305 3), .ref (na305 4), .ref (na305 5), .ref (na305 6), .ref (na305 7), .ref (na305 8), .ref (na305 9)]) := (k381 q216 h412 h372).trans h411
  have h414 : q216 ∈ L376 := sb380 _ h412
  have h415 : f387 q216 = .inr (3, [.int (0 : Int32), .int (0 : Int32), .int (0 : Int32), .int (0 : Int32), .int (0 : Int32), .int (0 : Int32), .int (0 : Int32), .int (0 : Int32), .int (0 : Int32), .int (0 : Int32), .ref (na305 0), .ref (na305 1), .ref (na305 2), .ref (na305 3), .ref (na305 4), .ref (na305 5), .ref (na305 6), .ref (na305 7), .ref (na305 8), .ref (na305 9)]) := ((congrFun ef387 q216).trans (va_up_ne _ _ (g_neOA h413 h385))).trans h413
  have h416 : q216 ≠ q394 := g_neL h414 n395
  have h417 : f387 q354 = .inr (3, [.int (0 : Int32), .int (0 : Int32), .int (0 : Int32), .int (0 : Int32), .int (0 : Int32), .int (0 : Int32), .int (0 : Int32), .int (0 : Int32), .int (0 : Int32), .int (0 : Int32), .ref (na377 0), .ref (na377 1), .ref (na377 2), .ref (na377 3), .ref (na377 4), .ref (na377 5), .ref (na377 6), .ref (na377 7), .ref (na377 8), .ref (na377 9)]) := ((congrFun ef387 q354).trans (va_up_ne _ _ (g_neOA h378 h385))).trans h378
  have h418 : q354 ≠ q394 := g_neL h382 n395
  have h419 : q394 ∈ L397 := by rw [eL397]; exact List.mem_append_right _ List.mem_cons_self
  have h420 : f396 q394 = .inr (3, [.int (0 : Int32), .int (0 : Int32), .int (0 : Int32), .int (0 : Int32), .int (0 : Int32), .int (0 : Int32), .int (0 : Int32), .int (0 : Int32), .int (0 : Int32), .int (0 : Int32), .null, .null, .null, .null, .null, .null, .null, .null, .null, .null]) := (congrFun ef396 q394).trans (va_up_self _ _ _)
  refine lv_dup hx hb dX9_init_177 rfl ?_
  refine g_INv C hl.1 hA hH (As := []) (rest := [.ref q394, .int (2 : Int32), .ref q90]) (k_Land l E L397 f396 h419 h420) my_X3_init (host := "GooseShares") (List.mem_of_getElem? (i := 1) rfl) rfl rfl (Nat.le_of_ble_eq_true rfl) ⟨Nat.le_of_ble_eq_true rfl, Nat.le_of_ble_eq_true rfl⟩ ⟨Nat.le_of_ble_eq_true rfl, Nat.le_of_ble_eq_true rfl⟩ dX9_init_178 (fun L422 f421 H locs hp hH => ?_)
  obtain ⟨na423, h424, h425, sb426, k427⟩ := hp
  have h428 := sb426 _ h419
  have h429 : f396 q90 = .inl (E.2.2 4, 3, .inr (.inr (.inr (.inr (va_up (va_up (fun _ => none) 0 (some q216)) 1 (some q354)))))) := ((congrFun ef396 q90).trans (va_up_ne _ _ (g_neL h386 n395))).trans h388
  have h430 : q90 ∈ L397 := sb398 _ h386
  have h431 : f421 q90 = .inl (E.2.2 4, 3, .inr (.inr (.inr (.inr (va_up (va_up (fun _ => none) 0 (some q216)) 1 (some q354)))))) := (k427 q90 h430 (g_neAO h429 h420)).trans h429
  have h432 : q90 ∈ L422 := sb426 _ h430
  refine g_aast C hH h432 4 rfl h431 h428 h424 rfl (vp_inL (by decide)) dX9_init_181 (fun H locs hH => ?_)
  obtain ⟨f433, ef433⟩ : ∃ z : gF, z = va_up f421 q90 (.inl (E.2.2 4, 3, .inr (.inr (.inr (.inr (va_up (va_up (va_up (fun _ => none) 0 (some q216)) 1 (some q354)) 2 (some q394))))))) := ⟨_, rfl⟩
  have hH : gH E A L422 f433 s.heap H locs := by rw [ef433]; exact hH
  have h434 : f433 q90 = .inl (E.2.2 4, 3, .inr (.inr (.inr (.inr (va_up (va_up (va_up (fun _ => none) 0 (some q216)) 1 (some q354)) 2 (some q394)))))) := (congrFun ef433 q90).trans (va_up_self _ _ _)
  refine lv_iinc (v := (3 : Int32)) (lv' := [(1, .int (3 : Int32)), (0, .ref q)]) hx hb dX9_init_182 hl (k := 0) rfl (by decide) (by decide) rfl (fun ls hl => ?_)
  refine lv_goto (tgt := 164) hx hb dX9_init_185 (by decide) ?_
  refine lv_iload_n hx hb dX9_init_164 rfl (lv_at hl 0 rfl) ?_
  refine lv_iconst (v := (3 : Int32)) hx hb dX9_init_165 (by decide) ?_
  refine lv_icmp_ge (tgt := 188) hx hb dX9_init_166 (by decide) (fun _ => ?_) (fun h => absurd (by decide) h)
  refine lv_iconst (v := (0 : Int32)) hx hb dX9_init_188 (by decide) ?_
  refine lv_istore_n (lv' := [(1, .int (0 : Int32)), (0, .ref q)]) hx hb dX9_init_189 rfl hl (by decide) rfl (fun ls hl => ?_)
  refine lv_iload_n hx hb dX9_init_190 rfl (lv_at hl 0 rfl) ?_
  refine lv_iconst (v := (4 : Int32)) hx hb dX9_init_191 (by decide) ?_
  refine lv_icmp_ge (tgt := 214) hx hb dX9_init_192 (by decide) (fun h => absurd h (by decide)) (fun _ => ?_)
  refine lv_aload_n hx hb dX9_init_195 rfl (lv_at hl 1 rfl) ?_
  have h435 : f396 q = .inr (9, [.ref q1, .ref q23, .ref q44, .ref q90, .ref q101, .ref q112, .ref q130, .ref q151, .ref q169, .ref q187, .ref q205]) := ((congrFun ef396 q).trans (va_up_ne _ _ (g_neL h392 n395))).trans h393
  have h436 : q ∈ L397 := sb398 _ h392
  have h437 : f421 q = .inr (9, [.ref q1, .ref q23, .ref q44, .ref q90, .ref q101, .ref q112, .ref q130, .ref q151, .ref q169, .ref q187, .ref q205]) := (k427 q h436 (g_neO h435 h420 (by decide))).trans h435
  have h438 : q ∈ L422 := sb426 _ h436
  have h439 : f433 q = .inr (9, [.ref q1, .ref q23, .ref q44, .ref q90, .ref q101, .ref q112, .ref q130, .ref q151, .ref q169, .ref q187, .ref q205]) := ((congrFun ef433 q).trans (va_up_ne _ _ (g_neOA h437 h431))).trans h437
  refine g_get C hH h438 h439 iX9 rfl 4 (by decide) wd65 rfl rfl dX9_init_196 ?_
  refine lv_iload_n hx hb dX9_init_199 rfl (lv_at hl 0 rfl) ?_
  refine g_new C hH hA (ci := 6) iX6 tyX6 tyX6_ok wd200 wd235 wd68 rfl (fs := [.null, .int (0 : Int32), .int (0 : Int32)]) (dvX6) (Nat.le_of_ble_eq_true rfl) (Nat.le_of_ble_eq_true rfl) dX9_init_200 (fun q440 H n441 hH => ?_)
  obtain ⟨f442, ef442⟩ : ∃ z : gF, z = va_up f433 q440 (.inr (6, [.null, .int (0 : Int32), .int (0 : Int32)])) := ⟨_, rfl⟩
  obtain ⟨L443, eL443⟩ : ∃ z : List Nat, z = L422 ++ [q440] := ⟨_, rfl⟩
  have hH := g_re ef442 eL443 hH
  have sb444 : ∀ b ∈ L422, b ∈ L443 := fun b h => by rw [eL443]; exact List.mem_append_left _ h
  have h445 : q440 ∈ L443 := by rw [eL443]; exact List.mem_append_right _ List.mem_cons_self
  have h446 : f442 q440 = .inr (6, [.null, .int (0 : Int32), .int (0 : Int32)]) := (congrFun ef442 q440).trans (va_up_self _ _ _)
  refine lv_dup hx hb dX9_init_203 rfl ?_
  refine g_INv C hl.1 hA hH (As := []) (rest := [.ref q440, .int (0 : Int32), .ref q101]) (k_Row l E L443 f442 h445 h446) my_X6_init (host := "GooseShares") (List.mem_of_getElem? (i := 2) rfl) rfl rfl (Nat.le_of_ble_eq_true rfl) ⟨Nat.le_of_ble_eq_true rfl, Nat.le_of_ble_eq_true rfl⟩ ⟨Nat.le_of_ble_eq_true rfl, Nat.le_of_ble_eq_true rfl⟩ dX9_init_204 (fun L448 f447 H locs hp hH => ?_)
  obtain ⟨q449, h450, h451, h452, sb453, k454⟩ := hp
  have h455 := sb453 _ h445
  have h456 : f110 q101 = .inl (E.2.2 5, 4, .inr (.inr (.inr (.inr (fun _ => none))))) := ((congrFun ef110 q101).trans (va_up_ne _ _ (g_neAO h107 h108))).trans h107
  have h457 : f114 q101 = .inl (E.2.2 5, 4, .inr (.inr (.inr (.inr (fun _ => none))))) := ((congrFun ef114 q101).trans (va_up_ne _ _ (g_neL h106 n113))).trans h456
  have h458 : q101 ∈ L115 := sb116 _ h106
  have h459 : f121 q101 = .inl (E.2.2 5, 4, .inr (.inr (.inr (.inr (fun _ => none))))) := (k125 q101 h458 (g_neAO h457 h118)).trans h457
  have h460 : q101 ∈ L122 := sb124 _ h458
  have h461 : f128 q101 = .inl (E.2.2 5, 4, .inr (.inr (.inr (.inr (fun _ => none))))) := ((congrFun ef128 q101).trans (va_up_ne _ _ (g_neAO h459 h126))).trans h459
  have h462 : f132 q101 = .inl (E.2.2 5, 4, .inr (.inr (.inr (.inr (fun _ => none))))) := ((congrFun ef132 q101).trans (va_up_ne _ _ (g_neL h460 n131))).trans h461
  have h463 : q101 ∈ L133 := sb134 _ h460
  have h464 : f139 q101 = .inl (E.2.2 5, 4, .inr (.inr (.inr (.inr (fun _ => none))))) := (k145 q101 h463 (g_neAO h462 h136)).trans h462
  have h465 : q101 ∈ L140 := sb144 _ h463
  have h466 : f149 q101 = .inl (E.2.2 5, 4, .inr (.inr (.inr (.inr (fun _ => none))))) := ((congrFun ef149 q101).trans (va_up_ne _ _ (g_neAO h464 h147))).trans h464
  have h467 : f153 q101 = .inl (E.2.2 5, 4, .inr (.inr (.inr (.inr (fun _ => none))))) := ((congrFun ef153 q101).trans (va_up_ne _ _ (g_neL h465 n152))).trans h466
  have h468 : q101 ∈ L154 := sb155 _ h465
  have h469 : f160 q101 = .inl (E.2.2 5, 4, .inr (.inr (.inr (.inr (fun _ => none))))) := (k164 q101 h468 (g_neAO h467 h157)).trans h467
  have h470 : q101 ∈ L161 := sb163 _ h468
  have h471 : f167 q101 = .inl (E.2.2 5, 4, .inr (.inr (.inr (.inr (fun _ => none))))) := ((congrFun ef167 q101).trans (va_up_ne _ _ (g_neAO h469 h165))).trans h469
  have h472 : f171 q101 = .inl (E.2.2 5, 4, .inr (.inr (.inr (.inr (fun _ => none))))) := ((congrFun ef171 q101).trans (va_up_ne _ _ (g_neL h470 n170))).trans h471
  have h473 : q101 ∈ L172 := sb173 _ h470
  have h474 : f178 q101 = .inl (E.2.2 5, 4, .inr (.inr (.inr (.inr (fun _ => none))))) := (k182 q101 h473 (g_neAO h472 h175)).trans h472
  have h475 : q101 ∈ L179 := sb181 _ h473
  have h476 : f185 q101 = .inl (E.2.2 5, 4, .inr (.inr (.inr (.inr (fun _ => none))))) := ((congrFun ef185 q101).trans (va_up_ne _ _ (g_neAO h474 h183))).trans h474
  have h477 : f189 q101 = .inl (E.2.2 5, 4, .inr (.inr (.inr (.inr (fun _ => none))))) := ((congrFun ef189 q101).trans (va_up_ne _ _ (g_neL h475 n188))).trans h476
  have h478 : q101 ∈ L190 := sb191 _ h475
  have h479 : f196 q101 = .inl (E.2.2 5, 4, .inr (.inr (.inr (.inr (fun _ => none))))) := (k200 q101 h478 (g_neAO h477 h193)).trans h477
  have h480 : q101 ∈ L197 := sb199 _ h478
  have h481 : f203 q101 = .inl (E.2.2 5, 4, .inr (.inr (.inr (.inr (fun _ => none))))) := ((congrFun ef203 q101).trans (va_up_ne _ _ (g_neAO h479 h201))).trans h479
  have h482 : f207 q101 = .inl (E.2.2 5, 4, .inr (.inr (.inr (.inr (fun _ => none))))) := ((congrFun ef207 q101).trans (va_up_ne _ _ (g_neL h480 n206))).trans h481
  have h483 : q101 ∈ L208 := sb209 _ h480
  have h484 : f214 q101 = .inl (E.2.2 5, 4, .inr (.inr (.inr (.inr (fun _ => none))))) := ((congrFun ef214 q101).trans (va_up_ne _ _ (g_neAO h482 h212))).trans h482
  have h485 : f218 q101 = .inl (E.2.2 5, 4, .inr (.inr (.inr (.inr (fun _ => none))))) := ((congrFun ef218 q101).trans (va_up_ne _ _ (g_neL h483 n217))).trans h484
  have h486 : q101 ∈ L219 := sb220 _ h483
  have h487 : f303 q101 = .inl (E.2.2 5, 4, .inr (.inr (.inr (.inr (fun _ => none))))) := (k309 q101 h486 (g_neAO h485 h302)).trans h485
  have h488 : q101 ∈ L304 := sb308 _ h486
  have h489 : f347 q101 = .inl (E.2.2 5, 4, .inr (.inr (.inr (.inr (fun _ => none))))) := ((congrFun ef347 q101).trans (va_up_ne _ _ (g_neN h487 h345 (by decide)))).trans h487
  have h490 : f356 q101 = .inl (E.2.2 5, 4, .inr (.inr (.inr (.inr (fun _ => none))))) := ((congrFun ef356 q101).trans (va_up_ne _ _ (g_neL h488 n355))).trans h489
  have h491 : q101 ∈ L357 := sb358 _ h488
  have h492 : f375 q101 = .inl (E.2.2 5, 4, .inr (.inr (.inr (.inr (fun _ => none))))) := (k381 q101 h491 (g_neAO h490 h374)).trans h490
  have h493 : q101 ∈ L376 := sb380 _ h491
  have h494 : f387 q101 = .inl (E.2.2 5, 4, .inr (.inr (.inr (.inr (fun _ => none))))) := ((congrFun ef387 q101).trans (va_up_ne _ _ (g_neN h492 h385 (by decide)))).trans h492
  have h495 : f396 q101 = .inl (E.2.2 5, 4, .inr (.inr (.inr (.inr (fun _ => none))))) := ((congrFun ef396 q101).trans (va_up_ne _ _ (g_neL h493 n395))).trans h494
  have h496 : q101 ∈ L397 := sb398 _ h493
  have h497 : f421 q101 = .inl (E.2.2 5, 4, .inr (.inr (.inr (.inr (fun _ => none))))) := (k427 q101 h496 (g_neAO h495 h420)).trans h495
  have h498 : q101 ∈ L422 := sb426 _ h496
  have h499 : f433 q101 = .inl (E.2.2 5, 4, .inr (.inr (.inr (.inr (fun _ => none))))) := ((congrFun ef433 q101).trans (va_up_ne _ _ (g_neN h497 h431 (by decide)))).trans h497
  have h500 : f442 q101 = .inl (E.2.2 5, 4, .inr (.inr (.inr (.inr (fun _ => none))))) := ((congrFun ef442 q101).trans (va_up_ne _ _ (g_neL h498 n441))).trans h499
  have h501 : q101 ∈ L443 := sb444 _ h498
  have h502 : f447 q101 = .inl (E.2.2 5, 4, .inr (.inr (.inr (.inr (fun _ => none))))) := (k454 q101 h501 (g_neAO h500 h446)).trans h500
  have h503 : q101 ∈ L448 := sb453 _ h501
  refine g_aast C hH h503 5 rfl h502 h455 h450 rfl (vp_inL (by decide)) dX9_init_207 (fun H locs hH => ?_)
  obtain ⟨f504, ef504⟩ : ∃ z : gF, z = va_up f447 q101 (.inl (E.2.2 5, 4, .inr (.inr (.inr (.inr (va_up (fun _ => none) 0 (some q440))))))) := ⟨_, rfl⟩
  have hH : gH E A L448 f504 s.heap H locs := by rw [ef504]; exact hH
  have h505 : f504 q101 = .inl (E.2.2 5, 4, .inr (.inr (.inr (.inr (va_up (fun _ => none) 0 (some q440)))))) := (congrFun ef504 q101).trans (va_up_self _ _ _)
  refine lv_iinc (v := (1 : Int32)) (lv' := [(1, .int (1 : Int32)), (0, .ref q)]) hx hb dX9_init_208 hl (k := 0) rfl (by decide) (by decide) rfl (fun ls hl => ?_)
  refine lv_goto (tgt := 190) hx hb dX9_init_211 (by decide) ?_
  refine lv_iload_n hx hb dX9_init_190 rfl (lv_at hl 0 rfl) ?_
  refine lv_iconst (v := (4 : Int32)) hx hb dX9_init_191 (by decide) ?_
  refine lv_icmp_ge (tgt := 214) hx hb dX9_init_192 (by decide) (fun h => absurd h (by decide)) (fun _ => ?_)
  refine lv_aload_n hx hb dX9_init_195 rfl (lv_at hl 1 rfl) ?_
  have h506 : f442 q = .inr (9, [.ref q1, .ref q23, .ref q44, .ref q90, .ref q101, .ref q112, .ref q130, .ref q151, .ref q169, .ref q187, .ref q205]) := ((congrFun ef442 q).trans (va_up_ne _ _ (g_neL h438 n441))).trans h439
  have h507 : q ∈ L443 := sb444 _ h438
  have h508 : f447 q = .inr (9, [.ref q1, .ref q23, .ref q44, .ref q90, .ref q101, .ref q112, .ref q130, .ref q151, .ref q169, .ref q187, .ref q205]) := (k454 q h507 (g_neO h506 h446 (by decide))).trans h506
  have h509 : q ∈ L448 := sb453 _ h507
  have h510 : f504 q = .inr (9, [.ref q1, .ref q23, .ref q44, .ref q90, .ref q101, .ref q112, .ref q130, .ref q151, .ref q169, .ref q187, .ref q205]) := ((congrFun ef504 q).trans (va_up_ne _ _ (g_neOA h508 h502))).trans h508
  refine g_get C hH h509 h510 iX9 rfl 4 (by decide) wd65 rfl rfl dX9_init_196 ?_
  refine lv_iload_n hx hb dX9_init_199 rfl (lv_at hl 0 rfl) ?_
  refine g_new C hH hA (ci := 6) iX6 tyX6 tyX6_ok wd200 wd235 wd68 rfl (fs := [.null, .int (0 : Int32), .int (0 : Int32)]) (dvX6) (Nat.le_of_ble_eq_true rfl) (Nat.le_of_ble_eq_true rfl) dX9_init_200 (fun q511 H n512 hH => ?_)
  obtain ⟨f513, ef513⟩ : ∃ z : gF, z = va_up f504 q511 (.inr (6, [.null, .int (0 : Int32), .int (0 : Int32)])) := ⟨_, rfl⟩
  obtain ⟨L514, eL514⟩ : ∃ z : List Nat, z = L448 ++ [q511] := ⟨_, rfl⟩
  have hH := g_re ef513 eL514 hH
  have sb515 : ∀ b ∈ L448, b ∈ L514 := fun b h => by rw [eL514]; exact List.mem_append_left _ h
  have h516 : f504 q440 = .inr (6, [.ref q449, .int (-1 : Int32), .int (0 : Int32)]) := ((congrFun ef504 q440).trans (va_up_ne _ _ (g_neOA h450 h502))).trans h450
  have h517 : q440 ≠ q511 := g_neL h455 n512
  have h518 : q511 ∈ L514 := by rw [eL514]; exact List.mem_append_right _ List.mem_cons_self
  have h519 : f513 q511 = .inr (6, [.null, .int (0 : Int32), .int (0 : Int32)]) := (congrFun ef513 q511).trans (va_up_self _ _ _)
  refine lv_dup hx hb dX9_init_203 rfl ?_
  refine g_INv C hl.1 hA hH (As := []) (rest := [.ref q511, .int (1 : Int32), .ref q101]) (k_Row l E L514 f513 h518 h519) my_X6_init (host := "GooseShares") (List.mem_of_getElem? (i := 2) rfl) rfl rfl (Nat.le_of_ble_eq_true rfl) ⟨Nat.le_of_ble_eq_true rfl, Nat.le_of_ble_eq_true rfl⟩ ⟨Nat.le_of_ble_eq_true rfl, Nat.le_of_ble_eq_true rfl⟩ dX9_init_204 (fun L521 f520 H locs hp hH => ?_)
  obtain ⟨q522, h523, h524, h525, sb526, k527⟩ := hp
  have h528 := sb526 _ h518
  have h529 : f513 q101 = .inl (E.2.2 5, 4, .inr (.inr (.inr (.inr (va_up (fun _ => none) 0 (some q440)))))) := ((congrFun ef513 q101).trans (va_up_ne _ _ (g_neL h503 n512))).trans h505
  have h530 : q101 ∈ L514 := sb515 _ h503
  have h531 : f520 q101 = .inl (E.2.2 5, 4, .inr (.inr (.inr (.inr (va_up (fun _ => none) 0 (some q440)))))) := (k527 q101 h530 (g_neAO h529 h519)).trans h529
  have h532 : q101 ∈ L521 := sb526 _ h530
  refine g_aast C hH h532 5 rfl h531 h528 h523 rfl (vp_inL (by decide)) dX9_init_207 (fun H locs hH => ?_)
  obtain ⟨f533, ef533⟩ : ∃ z : gF, z = va_up f520 q101 (.inl (E.2.2 5, 4, .inr (.inr (.inr (.inr (va_up (va_up (fun _ => none) 0 (some q440)) 1 (some q511))))))) := ⟨_, rfl⟩
  have hH : gH E A L521 f533 s.heap H locs := by rw [ef533]; exact hH
  have h534 : f533 q101 = .inl (E.2.2 5, 4, .inr (.inr (.inr (.inr (va_up (va_up (fun _ => none) 0 (some q440)) 1 (some q511)))))) := (congrFun ef533 q101).trans (va_up_self _ _ _)
  refine lv_iinc (v := (2 : Int32)) (lv' := [(1, .int (2 : Int32)), (0, .ref q)]) hx hb dX9_init_208 hl (k := 0) rfl (by decide) (by decide) rfl (fun ls hl => ?_)
  refine lv_goto (tgt := 190) hx hb dX9_init_211 (by decide) ?_
  refine lv_iload_n hx hb dX9_init_190 rfl (lv_at hl 0 rfl) ?_
  refine lv_iconst (v := (4 : Int32)) hx hb dX9_init_191 (by decide) ?_
  refine lv_icmp_ge (tgt := 214) hx hb dX9_init_192 (by decide) (fun h => absurd h (by decide)) (fun _ => ?_)
  refine lv_aload_n hx hb dX9_init_195 rfl (lv_at hl 1 rfl) ?_
  have h535 : f513 q = .inr (9, [.ref q1, .ref q23, .ref q44, .ref q90, .ref q101, .ref q112, .ref q130, .ref q151, .ref q169, .ref q187, .ref q205]) := ((congrFun ef513 q).trans (va_up_ne _ _ (g_neL h509 n512))).trans h510
  have h536 : q ∈ L514 := sb515 _ h509
  have h537 : f520 q = .inr (9, [.ref q1, .ref q23, .ref q44, .ref q90, .ref q101, .ref q112, .ref q130, .ref q151, .ref q169, .ref q187, .ref q205]) := (k527 q h536 (g_neO h535 h519 (by decide))).trans h535
  have h538 : q ∈ L521 := sb526 _ h536
  have h539 : f533 q = .inr (9, [.ref q1, .ref q23, .ref q44, .ref q90, .ref q101, .ref q112, .ref q130, .ref q151, .ref q169, .ref q187, .ref q205]) := ((congrFun ef533 q).trans (va_up_ne _ _ (g_neOA h537 h531))).trans h537
  refine g_get C hH h538 h539 iX9 rfl 4 (by decide) wd65 rfl rfl dX9_init_196 ?_
  refine lv_iload_n hx hb dX9_init_199 rfl (lv_at hl 0 rfl) ?_
  refine g_new C hH hA (ci := 6) iX6 tyX6 tyX6_ok wd200 wd235 wd68 rfl (fs := [.null, .int (0 : Int32), .int (0 : Int32)]) (dvX6) (Nat.le_of_ble_eq_true rfl) (Nat.le_of_ble_eq_true rfl) dX9_init_200 (fun q540 H n541 hH => ?_)
  obtain ⟨f542, ef542⟩ : ∃ z : gF, z = va_up f533 q540 (.inr (6, [.null, .int (0 : Int32), .int (0 : Int32)])) := ⟨_, rfl⟩
  obtain ⟨L543, eL543⟩ : ∃ z : List Nat, z = L521 ++ [q540] := ⟨_, rfl⟩
  have hH := g_re ef542 eL543 hH
  have sb544 : ∀ b ∈ L521, b ∈ L543 := fun b h => by rw [eL543]; exact List.mem_append_left _ h
  have h545 : f513 q440 = .inr (6, [.ref q449, .int (-1 : Int32), .int (0 : Int32)]) := ((congrFun ef513 q440).trans (va_up_ne _ _ (g_neL h455 n512))).trans h516
  have h546 : q440 ∈ L514 := sb515 _ h455
  have h547 : f520 q440 = .inr (6, [.ref q449, .int (-1 : Int32), .int (0 : Int32)]) := (k527 q440 h546 h517).trans h545
  have h548 : q440 ∈ L521 := sb526 _ h546
  have h549 : f533 q440 = .inr (6, [.ref q449, .int (-1 : Int32), .int (0 : Int32)]) := ((congrFun ef533 q440).trans (va_up_ne _ _ (g_neOA h547 h531))).trans h547
  have h550 : q440 ≠ q540 := g_neL h548 n541
  have h551 : f533 q511 = .inr (6, [.ref q522, .int (-1 : Int32), .int (0 : Int32)]) := ((congrFun ef533 q511).trans (va_up_ne _ _ (g_neOA h523 h531))).trans h523
  have h552 : q511 ≠ q540 := g_neL h528 n541
  have h553 : q540 ∈ L543 := by rw [eL543]; exact List.mem_append_right _ List.mem_cons_self
  have h554 : f542 q540 = .inr (6, [.null, .int (0 : Int32), .int (0 : Int32)]) := (congrFun ef542 q540).trans (va_up_self _ _ _)
  refine lv_dup hx hb dX9_init_203 rfl ?_
  refine g_INv C hl.1 hA hH (As := []) (rest := [.ref q540, .int (2 : Int32), .ref q101]) (k_Row l E L543 f542 h553 h554) my_X6_init (host := "GooseShares") (List.mem_of_getElem? (i := 2) rfl) rfl rfl (Nat.le_of_ble_eq_true rfl) ⟨Nat.le_of_ble_eq_true rfl, Nat.le_of_ble_eq_true rfl⟩ ⟨Nat.le_of_ble_eq_true rfl, Nat.le_of_ble_eq_true rfl⟩ dX9_init_204 (fun L556 f555 H locs hp hH => ?_)
  obtain ⟨q557, h558, h559, h560, sb561, k562⟩ := hp
  have h563 := sb561 _ h553
  have h564 : f542 q101 = .inl (E.2.2 5, 4, .inr (.inr (.inr (.inr (va_up (va_up (fun _ => none) 0 (some q440)) 1 (some q511)))))) := ((congrFun ef542 q101).trans (va_up_ne _ _ (g_neL h532 n541))).trans h534
  have h565 : q101 ∈ L543 := sb544 _ h532
  have h566 : f555 q101 = .inl (E.2.2 5, 4, .inr (.inr (.inr (.inr (va_up (va_up (fun _ => none) 0 (some q440)) 1 (some q511)))))) := (k562 q101 h565 (g_neAO h564 h554)).trans h564
  have h567 : q101 ∈ L556 := sb561 _ h565
  refine g_aast C hH h567 5 rfl h566 h563 h558 rfl (vp_inL (by decide)) dX9_init_207 (fun H locs hH => ?_)
  obtain ⟨f568, ef568⟩ : ∃ z : gF, z = va_up f555 q101 (.inl (E.2.2 5, 4, .inr (.inr (.inr (.inr (va_up (va_up (va_up (fun _ => none) 0 (some q440)) 1 (some q511)) 2 (some q540))))))) := ⟨_, rfl⟩
  have hH : gH E A L556 f568 s.heap H locs := by rw [ef568]; exact hH
  have h569 : f568 q101 = .inl (E.2.2 5, 4, .inr (.inr (.inr (.inr (va_up (va_up (va_up (fun _ => none) 0 (some q440)) 1 (some q511)) 2 (some q540)))))) := (congrFun ef568 q101).trans (va_up_self _ _ _)
  refine lv_iinc (v := (3 : Int32)) (lv' := [(1, .int (3 : Int32)), (0, .ref q)]) hx hb dX9_init_208 hl (k := 0) rfl (by decide) (by decide) rfl (fun ls hl => ?_)
  refine lv_goto (tgt := 190) hx hb dX9_init_211 (by decide) ?_
  refine lv_iload_n hx hb dX9_init_190 rfl (lv_at hl 0 rfl) ?_
  refine lv_iconst (v := (4 : Int32)) hx hb dX9_init_191 (by decide) ?_
  refine lv_icmp_ge (tgt := 214) hx hb dX9_init_192 (by decide) (fun h => absurd h (by decide)) (fun _ => ?_)
  refine lv_aload_n hx hb dX9_init_195 rfl (lv_at hl 1 rfl) ?_
  have h570 : f542 q = .inr (9, [.ref q1, .ref q23, .ref q44, .ref q90, .ref q101, .ref q112, .ref q130, .ref q151, .ref q169, .ref q187, .ref q205]) := ((congrFun ef542 q).trans (va_up_ne _ _ (g_neL h538 n541))).trans h539
  have h571 : q ∈ L543 := sb544 _ h538
  have h572 : f555 q = .inr (9, [.ref q1, .ref q23, .ref q44, .ref q90, .ref q101, .ref q112, .ref q130, .ref q151, .ref q169, .ref q187, .ref q205]) := (k562 q h571 (g_neO h570 h554 (by decide))).trans h570
  have h573 : q ∈ L556 := sb561 _ h571
  have h574 : f568 q = .inr (9, [.ref q1, .ref q23, .ref q44, .ref q90, .ref q101, .ref q112, .ref q130, .ref q151, .ref q169, .ref q187, .ref q205]) := ((congrFun ef568 q).trans (va_up_ne _ _ (g_neOA h572 h566))).trans h572
  refine g_get C hH h573 h574 iX9 rfl 4 (by decide) wd65 rfl rfl dX9_init_196 ?_
  refine lv_iload_n hx hb dX9_init_199 rfl (lv_at hl 0 rfl) ?_
  refine g_new C hH hA (ci := 6) iX6 tyX6 tyX6_ok wd200 wd235 wd68 rfl (fs := [.null, .int (0 : Int32), .int (0 : Int32)]) (dvX6) (Nat.le_of_ble_eq_true rfl) (Nat.le_of_ble_eq_true rfl) dX9_init_200 (fun q575 H n576 hH => ?_)
  obtain ⟨f577, ef577⟩ : ∃ z : gF, z = va_up f568 q575 (.inr (6, [.null, .int (0 : Int32), .int (0 : Int32)])) := ⟨_, rfl⟩
  obtain ⟨L578, eL578⟩ : ∃ z : List Nat, z = L556 ++ [q575] := ⟨_, rfl⟩
  have hH := g_re ef577 eL578 hH
  have sb579 : ∀ b ∈ L556, b ∈ L578 := fun b h => by rw [eL578]; exact List.mem_append_left _ h
  have h580 : f542 q440 = .inr (6, [.ref q449, .int (-1 : Int32), .int (0 : Int32)]) := ((congrFun ef542 q440).trans (va_up_ne _ _ (g_neL h548 n541))).trans h549
  have h581 : q440 ∈ L543 := sb544 _ h548
  have h582 : f555 q440 = .inr (6, [.ref q449, .int (-1 : Int32), .int (0 : Int32)]) := (k562 q440 h581 h550).trans h580
  have h583 : q440 ∈ L556 := sb561 _ h581
  have h584 : f568 q440 = .inr (6, [.ref q449, .int (-1 : Int32), .int (0 : Int32)]) := ((congrFun ef568 q440).trans (va_up_ne _ _ (g_neOA h582 h566))).trans h582
  have h585 : q440 ≠ q575 := g_neL h583 n576
  have h586 : f542 q511 = .inr (6, [.ref q522, .int (-1 : Int32), .int (0 : Int32)]) := ((congrFun ef542 q511).trans (va_up_ne _ _ (g_neL h528 n541))).trans h551
  have h587 : q511 ∈ L543 := sb544 _ h528
  have h588 : f555 q511 = .inr (6, [.ref q522, .int (-1 : Int32), .int (0 : Int32)]) := (k562 q511 h587 h552).trans h586
  have h589 : q511 ∈ L556 := sb561 _ h587
  have h590 : f568 q511 = .inr (6, [.ref q522, .int (-1 : Int32), .int (0 : Int32)]) := ((congrFun ef568 q511).trans (va_up_ne _ _ (g_neOA h588 h566))).trans h588
  have h591 : q511 ≠ q575 := g_neL h589 n576
  have h592 : f568 q540 = .inr (6, [.ref q557, .int (-1 : Int32), .int (0 : Int32)]) := ((congrFun ef568 q540).trans (va_up_ne _ _ (g_neOA h558 h566))).trans h558
  have h593 : q540 ≠ q575 := g_neL h563 n576
  have h594 : q575 ∈ L578 := by rw [eL578]; exact List.mem_append_right _ List.mem_cons_self
  have h595 : f577 q575 = .inr (6, [.null, .int (0 : Int32), .int (0 : Int32)]) := (congrFun ef577 q575).trans (va_up_self _ _ _)
  refine lv_dup hx hb dX9_init_203 rfl ?_
  refine g_INv C hl.1 hA hH (As := []) (rest := [.ref q575, .int (3 : Int32), .ref q101]) (k_Row l E L578 f577 h594 h595) my_X6_init (host := "GooseShares") (List.mem_of_getElem? (i := 2) rfl) rfl rfl (Nat.le_of_ble_eq_true rfl) ⟨Nat.le_of_ble_eq_true rfl, Nat.le_of_ble_eq_true rfl⟩ ⟨Nat.le_of_ble_eq_true rfl, Nat.le_of_ble_eq_true rfl⟩ dX9_init_204 (fun L597 f596 H locs hp hH => ?_)
  obtain ⟨q598, h599, h600, h601, sb602, k603⟩ := hp
  have h604 := sb602 _ h594
  have h605 : f577 q101 = .inl (E.2.2 5, 4, .inr (.inr (.inr (.inr (va_up (va_up (va_up (fun _ => none) 0 (some q440)) 1 (some q511)) 2 (some q540)))))) := ((congrFun ef577 q101).trans (va_up_ne _ _ (g_neL h567 n576))).trans h569
  have h606 : q101 ∈ L578 := sb579 _ h567
  have h607 : f596 q101 = .inl (E.2.2 5, 4, .inr (.inr (.inr (.inr (va_up (va_up (va_up (fun _ => none) 0 (some q440)) 1 (some q511)) 2 (some q540)))))) := (k603 q101 h606 (g_neAO h605 h595)).trans h605
  have h608 : q101 ∈ L597 := sb602 _ h606
  refine g_aast C hH h608 5 rfl h607 h604 h599 rfl (vp_inL (by decide)) dX9_init_207 (fun H locs hH => ?_)
  obtain ⟨f609, ef609⟩ : ∃ z : gF, z = va_up f596 q101 (.inl (E.2.2 5, 4, .inr (.inr (.inr (.inr (va_up (va_up (va_up (va_up (fun _ => none) 0 (some q440)) 1 (some q511)) 2 (some q540)) 3 (some q575))))))) := ⟨_, rfl⟩
  have hH : gH E A L597 f609 s.heap H locs := by rw [ef609]; exact hH
  have h610 : f609 q101 = .inl (E.2.2 5, 4, .inr (.inr (.inr (.inr (va_up (va_up (va_up (va_up (fun _ => none) 0 (some q440)) 1 (some q511)) 2 (some q540)) 3 (some q575)))))) := (congrFun ef609 q101).trans (va_up_self _ _ _)
  refine lv_iinc (v := (4 : Int32)) (lv' := [(1, .int (4 : Int32)), (0, .ref q)]) hx hb dX9_init_208 hl (k := 0) rfl (by decide) (by decide) rfl (fun ls hl => ?_)
  refine lv_goto (tgt := 190) hx hb dX9_init_211 (by decide) ?_
  refine lv_iload_n hx hb dX9_init_190 rfl (lv_at hl 0 rfl) ?_
  refine lv_iconst (v := (4 : Int32)) hx hb dX9_init_191 (by decide) ?_
  refine lv_icmp_ge (tgt := 214) hx hb dX9_init_192 (by decide) (fun _ => ?_) (fun h => absurd (by decide) h)
  refine g_vret C hr hH (Nat.le_of_ble_eq_true rfl) (Nat.le_of_ble_eq_true rfl) dX9_init_214 ?_
  have h611 : f577 q = .inr (9, [.ref q1, .ref q23, .ref q44, .ref q90, .ref q101, .ref q112, .ref q130, .ref q151, .ref q169, .ref q187, .ref q205]) := ((congrFun ef577 q).trans (va_up_ne _ _ (g_neL h573 n576))).trans h574
  have h612 : q ∈ L578 := sb579 _ h573
  have h613 : f596 q = .inr (9, [.ref q1, .ref q23, .ref q44, .ref q90, .ref q101, .ref q112, .ref q130, .ref q151, .ref q169, .ref q187, .ref q205]) := (k603 q h612 (g_neO h611 h595 (by decide))).trans h611
  have h614 : q ∈ L597 := sb602 _ h612
  have h615 : f609 q = .inr (9, [.ref q1, .ref q23, .ref q44, .ref q90, .ref q101, .ref q112, .ref q130, .ref q151, .ref q169, .ref q187, .ref q205]) := ((congrFun ef609 q).trans (va_up_ne _ _ (g_neOA h613 h607))).trans h613
  have h616 : f21 q1 = .inr (8, [.ref q10, .int (0 : Int32)]) := ((congrFun ef21 q1).trans (va_up_ne _ _ (g_neO h11 h19 (by decide)))).trans h11
  have h617 : f25 q1 = .inr (8, [.ref q10, .int (0 : Int32)]) := ((congrFun ef25 q1).trans (va_up_ne _ _ (g_neL h16 n24))).trans h616
  have h618 : q1 ∈ L26 := sb27 _ h16
  have h619 : f30 q1 = .inr (8, [.ref q10, .int (0 : Int32)]) := (k36 q1 h618 (g_neO h617 h29 (by decide))).trans h617
  have h620 : q1 ∈ L31 := sb35 _ h618
  have h621 : f42 q1 = .inr (8, [.ref q10, .int (0 : Int32)]) := ((congrFun ef42 q1).trans (va_up_ne _ _ (g_neO h619 h40 (by decide)))).trans h619
  have h622 : f46 q1 = .inr (8, [.ref q10, .int (0 : Int32)]) := ((congrFun ef46 q1).trans (va_up_ne _ _ (g_neL h620 n45))).trans h621
  have h623 : q1 ∈ L47 := sb48 _ h620
  have h624 : f55 q1 = .inr (8, [.ref q10, .int (0 : Int32)]) := ((congrFun ef55 q1).trans (va_up_ne _ _ (g_neL h623 n54))).trans h622
  have h625 : q1 ∈ L56 := sb57 _ h623
  have h626 : f64 q1 = .inr (8, [.ref q10, .int (0 : Int32)]) := (k70 q1 h625 (g_neO h624 h63 (by decide))).trans h624
  have h627 : q1 ∈ L65 := sb69 _ h625
  have h628 : f76 q1 = .inr (8, [.ref q10, .int (0 : Int32)]) := (k80 q1 h627 (g_neO h626 h74 (by decide))).trans h626
  have h629 : q1 ∈ L77 := sb79 _ h627
  have h630 : f88 q1 = .inr (8, [.ref q10, .int (0 : Int32)]) := ((congrFun ef88 q1).trans (va_up_ne _ _ (g_neO h628 h86 (by decide)))).trans h628
  have h631 : f92 q1 = .inr (8, [.ref q10, .int (0 : Int32)]) := ((congrFun ef92 q1).trans (va_up_ne _ _ (g_neL h629 n91))).trans h630
  have h632 : q1 ∈ L93 := sb94 _ h629
  have h633 : f99 q1 = .inr (8, [.ref q10, .int (0 : Int32)]) := ((congrFun ef99 q1).trans (va_up_ne _ _ (g_neO h631 h97 (by decide)))).trans h631
  have h634 : f103 q1 = .inr (8, [.ref q10, .int (0 : Int32)]) := ((congrFun ef103 q1).trans (va_up_ne _ _ (g_neL h632 n102))).trans h633
  have h635 : q1 ∈ L104 := sb105 _ h632
  have h636 : f110 q1 = .inr (8, [.ref q10, .int (0 : Int32)]) := ((congrFun ef110 q1).trans (va_up_ne _ _ (g_neO h634 h108 (by decide)))).trans h634
  have h637 : f114 q1 = .inr (8, [.ref q10, .int (0 : Int32)]) := ((congrFun ef114 q1).trans (va_up_ne _ _ (g_neL h635 n113))).trans h636
  have h638 : q1 ∈ L115 := sb116 _ h635
  have h639 : f121 q1 = .inr (8, [.ref q10, .int (0 : Int32)]) := (k125 q1 h638 (g_neO h637 h118 (by decide))).trans h637
  have h640 : q1 ∈ L122 := sb124 _ h638
  have h641 : f128 q1 = .inr (8, [.ref q10, .int (0 : Int32)]) := ((congrFun ef128 q1).trans (va_up_ne _ _ (g_neO h639 h126 (by decide)))).trans h639
  have h642 : f132 q1 = .inr (8, [.ref q10, .int (0 : Int32)]) := ((congrFun ef132 q1).trans (va_up_ne _ _ (g_neL h640 n131))).trans h641
  have h643 : q1 ∈ L133 := sb134 _ h640
  have h644 : f139 q1 = .inr (8, [.ref q10, .int (0 : Int32)]) := (k145 q1 h643 (g_neO h642 h136 (by decide))).trans h642
  have h645 : q1 ∈ L140 := sb144 _ h643
  have h646 : f149 q1 = .inr (8, [.ref q10, .int (0 : Int32)]) := ((congrFun ef149 q1).trans (va_up_ne _ _ (g_neO h644 h147 (by decide)))).trans h644
  have h647 : f153 q1 = .inr (8, [.ref q10, .int (0 : Int32)]) := ((congrFun ef153 q1).trans (va_up_ne _ _ (g_neL h645 n152))).trans h646
  have h648 : q1 ∈ L154 := sb155 _ h645
  have h649 : f160 q1 = .inr (8, [.ref q10, .int (0 : Int32)]) := (k164 q1 h648 (g_neO h647 h157 (by decide))).trans h647
  have h650 : q1 ∈ L161 := sb163 _ h648
  have h651 : f167 q1 = .inr (8, [.ref q10, .int (0 : Int32)]) := ((congrFun ef167 q1).trans (va_up_ne _ _ (g_neO h649 h165 (by decide)))).trans h649
  have h652 : f171 q1 = .inr (8, [.ref q10, .int (0 : Int32)]) := ((congrFun ef171 q1).trans (va_up_ne _ _ (g_neL h650 n170))).trans h651
  have h653 : q1 ∈ L172 := sb173 _ h650
  have h654 : f178 q1 = .inr (8, [.ref q10, .int (0 : Int32)]) := (k182 q1 h653 (g_neO h652 h175 (by decide))).trans h652
  have h655 : q1 ∈ L179 := sb181 _ h653
  have h656 : f185 q1 = .inr (8, [.ref q10, .int (0 : Int32)]) := ((congrFun ef185 q1).trans (va_up_ne _ _ (g_neO h654 h183 (by decide)))).trans h654
  have h657 : f189 q1 = .inr (8, [.ref q10, .int (0 : Int32)]) := ((congrFun ef189 q1).trans (va_up_ne _ _ (g_neL h655 n188))).trans h656
  have h658 : q1 ∈ L190 := sb191 _ h655
  have h659 : f196 q1 = .inr (8, [.ref q10, .int (0 : Int32)]) := (k200 q1 h658 (g_neO h657 h193 (by decide))).trans h657
  have h660 : q1 ∈ L197 := sb199 _ h658
  have h661 : f203 q1 = .inr (8, [.ref q10, .int (0 : Int32)]) := ((congrFun ef203 q1).trans (va_up_ne _ _ (g_neO h659 h201 (by decide)))).trans h659
  have h662 : f207 q1 = .inr (8, [.ref q10, .int (0 : Int32)]) := ((congrFun ef207 q1).trans (va_up_ne _ _ (g_neL h660 n206))).trans h661
  have h663 : q1 ∈ L208 := sb209 _ h660
  have h664 : f214 q1 = .inr (8, [.ref q10, .int (0 : Int32)]) := ((congrFun ef214 q1).trans (va_up_ne _ _ (g_neO h662 h212 (by decide)))).trans h662
  have h665 : f218 q1 = .inr (8, [.ref q10, .int (0 : Int32)]) := ((congrFun ef218 q1).trans (va_up_ne _ _ (g_neL h663 n217))).trans h664
  have h666 : q1 ∈ L219 := sb220 _ h663
  have h667 : f303 q1 = .inr (8, [.ref q10, .int (0 : Int32)]) := (k309 q1 h666 (g_neO h665 h302 (by decide))).trans h665
  have h668 : q1 ∈ L304 := sb308 _ h666
  have h669 : f347 q1 = .inr (8, [.ref q10, .int (0 : Int32)]) := ((congrFun ef347 q1).trans (va_up_ne _ _ (g_neOA h667 h345))).trans h667
  have h670 : f356 q1 = .inr (8, [.ref q10, .int (0 : Int32)]) := ((congrFun ef356 q1).trans (va_up_ne _ _ (g_neL h668 n355))).trans h669
  have h671 : q1 ∈ L357 := sb358 _ h668
  have h672 : f375 q1 = .inr (8, [.ref q10, .int (0 : Int32)]) := (k381 q1 h671 (g_neO h670 h374 (by decide))).trans h670
  have h673 : q1 ∈ L376 := sb380 _ h671
  have h674 : f387 q1 = .inr (8, [.ref q10, .int (0 : Int32)]) := ((congrFun ef387 q1).trans (va_up_ne _ _ (g_neOA h672 h385))).trans h672
  have h675 : f396 q1 = .inr (8, [.ref q10, .int (0 : Int32)]) := ((congrFun ef396 q1).trans (va_up_ne _ _ (g_neL h673 n395))).trans h674
  have h676 : q1 ∈ L397 := sb398 _ h673
  have h677 : f421 q1 = .inr (8, [.ref q10, .int (0 : Int32)]) := (k427 q1 h676 (g_neO h675 h420 (by decide))).trans h675
  have h678 : q1 ∈ L422 := sb426 _ h676
  have h679 : f433 q1 = .inr (8, [.ref q10, .int (0 : Int32)]) := ((congrFun ef433 q1).trans (va_up_ne _ _ (g_neOA h677 h431))).trans h677
  have h680 : f442 q1 = .inr (8, [.ref q10, .int (0 : Int32)]) := ((congrFun ef442 q1).trans (va_up_ne _ _ (g_neL h678 n441))).trans h679
  have h681 : q1 ∈ L443 := sb444 _ h678
  have h682 : f447 q1 = .inr (8, [.ref q10, .int (0 : Int32)]) := (k454 q1 h681 (g_neO h680 h446 (by decide))).trans h680
  have h683 : q1 ∈ L448 := sb453 _ h681
  have h684 : f504 q1 = .inr (8, [.ref q10, .int (0 : Int32)]) := ((congrFun ef504 q1).trans (va_up_ne _ _ (g_neOA h682 h502))).trans h682
  have h685 : f513 q1 = .inr (8, [.ref q10, .int (0 : Int32)]) := ((congrFun ef513 q1).trans (va_up_ne _ _ (g_neL h683 n512))).trans h684
  have h686 : q1 ∈ L514 := sb515 _ h683
  have h687 : f520 q1 = .inr (8, [.ref q10, .int (0 : Int32)]) := (k527 q1 h686 (g_neO h685 h519 (by decide))).trans h685
  have h688 : q1 ∈ L521 := sb526 _ h686
  have h689 : f533 q1 = .inr (8, [.ref q10, .int (0 : Int32)]) := ((congrFun ef533 q1).trans (va_up_ne _ _ (g_neOA h687 h531))).trans h687
  have h690 : f542 q1 = .inr (8, [.ref q10, .int (0 : Int32)]) := ((congrFun ef542 q1).trans (va_up_ne _ _ (g_neL h688 n541))).trans h689
  have h691 : q1 ∈ L543 := sb544 _ h688
  have h692 : f555 q1 = .inr (8, [.ref q10, .int (0 : Int32)]) := (k562 q1 h691 (g_neO h690 h554 (by decide))).trans h690
  have h693 : q1 ∈ L556 := sb561 _ h691
  have h694 : f568 q1 = .inr (8, [.ref q10, .int (0 : Int32)]) := ((congrFun ef568 q1).trans (va_up_ne _ _ (g_neOA h692 h566))).trans h692
  have h695 : f577 q1 = .inr (8, [.ref q10, .int (0 : Int32)]) := ((congrFun ef577 q1).trans (va_up_ne _ _ (g_neL h693 n576))).trans h694
  have h696 : q1 ∈ L578 := sb579 _ h693
  have h697 : f596 q1 = .inr (8, [.ref q10, .int (0 : Int32)]) := (k603 q1 h696 (g_neO h695 h595 (by decide))).trans h695
  have h698 : q1 ∈ L597 := sb602 _ h696
  have h699 : f609 q1 = .inr (8, [.ref q10, .int (0 : Int32)]) := ((congrFun ef609 q1).trans (va_up_ne _ _ (g_neOA h697 h607))).trans h697
  have h700 : f21 q10 = .inl (E.2.2 0, 800, .inl (fun _ => 0)) := ((congrFun ef21 q10).trans (va_up_ne _ _ (g_neAO h13 h19))).trans h13
  have h701 : f25 q10 = .inl (E.2.2 0, 800, .inl (fun _ => 0)) := ((congrFun ef25 q10).trans (va_up_ne _ _ (g_neL h12 n24))).trans h700
  have h702 : q10 ∈ L26 := sb27 _ h12
  have h703 : f30 q10 = .inl (E.2.2 0, 800, .inl (fun _ => 0)) := (k36 q10 h702 (g_neAO h701 h29)).trans h701
  have h704 : q10 ∈ L31 := sb35 _ h702
  have h705 : f42 q10 = .inl (E.2.2 0, 800, .inl (fun _ => 0)) := ((congrFun ef42 q10).trans (va_up_ne _ _ (g_neAO h703 h40))).trans h703
  have h706 : f46 q10 = .inl (E.2.2 0, 800, .inl (fun _ => 0)) := ((congrFun ef46 q10).trans (va_up_ne _ _ (g_neL h704 n45))).trans h705
  have h707 : q10 ∈ L47 := sb48 _ h704
  have h708 : f55 q10 = .inl (E.2.2 0, 800, .inl (fun _ => 0)) := ((congrFun ef55 q10).trans (va_up_ne _ _ (g_neL h707 n54))).trans h706
  have h709 : q10 ∈ L56 := sb57 _ h707
  have h710 : f64 q10 = .inl (E.2.2 0, 800, .inl (fun _ => 0)) := (k70 q10 h709 (g_neAO h708 h63)).trans h708
  have h711 : q10 ∈ L65 := sb69 _ h709
  have h712 : f76 q10 = .inl (E.2.2 0, 800, .inl (fun _ => 0)) := (k80 q10 h711 (g_neAO h710 h74)).trans h710
  have h713 : q10 ∈ L77 := sb79 _ h711
  have h714 : f88 q10 = .inl (E.2.2 0, 800, .inl (fun _ => 0)) := ((congrFun ef88 q10).trans (va_up_ne _ _ (g_neAO h712 h86))).trans h712
  have h715 : f92 q10 = .inl (E.2.2 0, 800, .inl (fun _ => 0)) := ((congrFun ef92 q10).trans (va_up_ne _ _ (g_neL h713 n91))).trans h714
  have h716 : q10 ∈ L93 := sb94 _ h713
  have h717 : f99 q10 = .inl (E.2.2 0, 800, .inl (fun _ => 0)) := ((congrFun ef99 q10).trans (va_up_ne _ _ (g_neAO h715 h97))).trans h715
  have h718 : f103 q10 = .inl (E.2.2 0, 800, .inl (fun _ => 0)) := ((congrFun ef103 q10).trans (va_up_ne _ _ (g_neL h716 n102))).trans h717
  have h719 : q10 ∈ L104 := sb105 _ h716
  have h720 : f110 q10 = .inl (E.2.2 0, 800, .inl (fun _ => 0)) := ((congrFun ef110 q10).trans (va_up_ne _ _ (g_neAO h718 h108))).trans h718
  have h721 : f114 q10 = .inl (E.2.2 0, 800, .inl (fun _ => 0)) := ((congrFun ef114 q10).trans (va_up_ne _ _ (g_neL h719 n113))).trans h720
  have h722 : q10 ∈ L115 := sb116 _ h719
  have h723 : f121 q10 = .inl (E.2.2 0, 800, .inl (fun _ => 0)) := (k125 q10 h722 (g_neAO h721 h118)).trans h721
  have h724 : q10 ∈ L122 := sb124 _ h722
  have h725 : f128 q10 = .inl (E.2.2 0, 800, .inl (fun _ => 0)) := ((congrFun ef128 q10).trans (va_up_ne _ _ (g_neAO h723 h126))).trans h723
  have h726 : f132 q10 = .inl (E.2.2 0, 800, .inl (fun _ => 0)) := ((congrFun ef132 q10).trans (va_up_ne _ _ (g_neL h724 n131))).trans h725
  have h727 : q10 ∈ L133 := sb134 _ h724
  have h728 : f139 q10 = .inl (E.2.2 0, 800, .inl (fun _ => 0)) := (k145 q10 h727 (g_neAO h726 h136)).trans h726
  have h729 : q10 ∈ L140 := sb144 _ h727
  have h730 : f149 q10 = .inl (E.2.2 0, 800, .inl (fun _ => 0)) := ((congrFun ef149 q10).trans (va_up_ne _ _ (g_neAO h728 h147))).trans h728
  have h731 : f153 q10 = .inl (E.2.2 0, 800, .inl (fun _ => 0)) := ((congrFun ef153 q10).trans (va_up_ne _ _ (g_neL h729 n152))).trans h730
  have h732 : q10 ∈ L154 := sb155 _ h729
  have h733 : f160 q10 = .inl (E.2.2 0, 800, .inl (fun _ => 0)) := (k164 q10 h732 (g_neAO h731 h157)).trans h731
  have h734 : q10 ∈ L161 := sb163 _ h732
  have h735 : f167 q10 = .inl (E.2.2 0, 800, .inl (fun _ => 0)) := ((congrFun ef167 q10).trans (va_up_ne _ _ (g_neAO h733 h165))).trans h733
  have h736 : f171 q10 = .inl (E.2.2 0, 800, .inl (fun _ => 0)) := ((congrFun ef171 q10).trans (va_up_ne _ _ (g_neL h734 n170))).trans h735
  have h737 : q10 ∈ L172 := sb173 _ h734
  have h738 : f178 q10 = .inl (E.2.2 0, 800, .inl (fun _ => 0)) := (k182 q10 h737 (g_neAO h736 h175)).trans h736
  have h739 : q10 ∈ L179 := sb181 _ h737
  have h740 : f185 q10 = .inl (E.2.2 0, 800, .inl (fun _ => 0)) := ((congrFun ef185 q10).trans (va_up_ne _ _ (g_neAO h738 h183))).trans h738
  have h741 : f189 q10 = .inl (E.2.2 0, 800, .inl (fun _ => 0)) := ((congrFun ef189 q10).trans (va_up_ne _ _ (g_neL h739 n188))).trans h740
  have h742 : q10 ∈ L190 := sb191 _ h739
  have h743 : f196 q10 = .inl (E.2.2 0, 800, .inl (fun _ => 0)) := (k200 q10 h742 (g_neAO h741 h193)).trans h741
  have h744 : q10 ∈ L197 := sb199 _ h742
  have h745 : f203 q10 = .inl (E.2.2 0, 800, .inl (fun _ => 0)) := ((congrFun ef203 q10).trans (va_up_ne _ _ (g_neAO h743 h201))).trans h743
  have h746 : f207 q10 = .inl (E.2.2 0, 800, .inl (fun _ => 0)) := ((congrFun ef207 q10).trans (va_up_ne _ _ (g_neL h744 n206))).trans h745
  have h747 : q10 ∈ L208 := sb209 _ h744
  have h748 : f214 q10 = .inl (E.2.2 0, 800, .inl (fun _ => 0)) := ((congrFun ef214 q10).trans (va_up_ne _ _ (g_neAO h746 h212))).trans h746
  have h749 : f218 q10 = .inl (E.2.2 0, 800, .inl (fun _ => 0)) := ((congrFun ef218 q10).trans (va_up_ne _ _ (g_neL h747 n217))).trans h748
  have h750 : q10 ∈ L219 := sb220 _ h747
  have h751 : f303 q10 = .inl (E.2.2 0, 800, .inl (fun _ => 0)) := (k309 q10 h750 (g_neAO h749 h302)).trans h749
  have h752 : q10 ∈ L304 := sb308 _ h750
  have h753 : f347 q10 = .inl (E.2.2 0, 800, .inl (fun _ => 0)) := ((congrFun ef347 q10).trans (va_up_ne _ _ (g_neP h751 h345))).trans h751
  have h754 : f356 q10 = .inl (E.2.2 0, 800, .inl (fun _ => 0)) := ((congrFun ef356 q10).trans (va_up_ne _ _ (g_neL h752 n355))).trans h753
  have h755 : q10 ∈ L357 := sb358 _ h752
  have h756 : f375 q10 = .inl (E.2.2 0, 800, .inl (fun _ => 0)) := (k381 q10 h755 (g_neAO h754 h374)).trans h754
  have h757 : q10 ∈ L376 := sb380 _ h755
  have h758 : f387 q10 = .inl (E.2.2 0, 800, .inl (fun _ => 0)) := ((congrFun ef387 q10).trans (va_up_ne _ _ (g_neP h756 h385))).trans h756
  have h759 : f396 q10 = .inl (E.2.2 0, 800, .inl (fun _ => 0)) := ((congrFun ef396 q10).trans (va_up_ne _ _ (g_neL h757 n395))).trans h758
  have h760 : q10 ∈ L397 := sb398 _ h757
  have h761 : f421 q10 = .inl (E.2.2 0, 800, .inl (fun _ => 0)) := (k427 q10 h760 (g_neAO h759 h420)).trans h759
  have h762 : q10 ∈ L422 := sb426 _ h760
  have h763 : f433 q10 = .inl (E.2.2 0, 800, .inl (fun _ => 0)) := ((congrFun ef433 q10).trans (va_up_ne _ _ (g_neP h761 h431))).trans h761
  have h764 : f442 q10 = .inl (E.2.2 0, 800, .inl (fun _ => 0)) := ((congrFun ef442 q10).trans (va_up_ne _ _ (g_neL h762 n441))).trans h763
  have h765 : q10 ∈ L443 := sb444 _ h762
  have h766 : f447 q10 = .inl (E.2.2 0, 800, .inl (fun _ => 0)) := (k454 q10 h765 (g_neAO h764 h446)).trans h764
  have h767 : q10 ∈ L448 := sb453 _ h765
  have h768 : f504 q10 = .inl (E.2.2 0, 800, .inl (fun _ => 0)) := ((congrFun ef504 q10).trans (va_up_ne _ _ (g_neP h766 h502))).trans h766
  have h769 : f513 q10 = .inl (E.2.2 0, 800, .inl (fun _ => 0)) := ((congrFun ef513 q10).trans (va_up_ne _ _ (g_neL h767 n512))).trans h768
  have h770 : q10 ∈ L514 := sb515 _ h767
  have h771 : f520 q10 = .inl (E.2.2 0, 800, .inl (fun _ => 0)) := (k527 q10 h770 (g_neAO h769 h519)).trans h769
  have h772 : q10 ∈ L521 := sb526 _ h770
  have h773 : f533 q10 = .inl (E.2.2 0, 800, .inl (fun _ => 0)) := ((congrFun ef533 q10).trans (va_up_ne _ _ (g_neP h771 h531))).trans h771
  have h774 : f542 q10 = .inl (E.2.2 0, 800, .inl (fun _ => 0)) := ((congrFun ef542 q10).trans (va_up_ne _ _ (g_neL h772 n541))).trans h773
  have h775 : q10 ∈ L543 := sb544 _ h772
  have h776 : f555 q10 = .inl (E.2.2 0, 800, .inl (fun _ => 0)) := (k562 q10 h775 (g_neAO h774 h554)).trans h774
  have h777 : q10 ∈ L556 := sb561 _ h775
  have h778 : f568 q10 = .inl (E.2.2 0, 800, .inl (fun _ => 0)) := ((congrFun ef568 q10).trans (va_up_ne _ _ (g_neP h776 h566))).trans h776
  have h779 : f577 q10 = .inl (E.2.2 0, 800, .inl (fun _ => 0)) := ((congrFun ef577 q10).trans (va_up_ne _ _ (g_neL h777 n576))).trans h778
  have h780 : q10 ∈ L578 := sb579 _ h777
  have h781 : f596 q10 = .inl (E.2.2 0, 800, .inl (fun _ => 0)) := (k603 q10 h780 (g_neAO h779 h595)).trans h779
  have h782 : q10 ∈ L597 := sb602 _ h780
  have h783 : f609 q10 = .inl (E.2.2 0, 800, .inl (fun _ => 0)) := ((congrFun ef609 q10).trans (va_up_ne _ _ (g_neP h781 h607))).trans h781
  have h784 : f396 q23 = .inr (3, [.int (0 : Int32), .int (0 : Int32), .int (0 : Int32), .int (0 : Int32), .int (0 : Int32), .int (0 : Int32), .int (0 : Int32), .int (0 : Int32), .int (0 : Int32), .int (0 : Int32), .ref (na32 0), .ref (na32 1), .ref (na32 2), .ref (na32 3), .ref (na32 4), .ref (na32 5), .ref (na32 6), .ref (na32 7), .ref (na32 8), .ref (na32 9)]) := ((congrFun ef396 q23).trans (va_up_ne _ _ (g_neL h402 n395))).trans h403
  have h785 : q23 ∈ L397 := sb398 _ h402
  have h786 : f421 q23 = .inr (3, [.int (0 : Int32), .int (0 : Int32), .int (0 : Int32), .int (0 : Int32), .int (0 : Int32), .int (0 : Int32), .int (0 : Int32), .int (0 : Int32), .int (0 : Int32), .int (0 : Int32), .ref (na32 0), .ref (na32 1), .ref (na32 2), .ref (na32 3), .ref (na32 4), .ref (na32 5), .ref (na32 6), .ref (na32 7), .ref (na32 8), .ref (na32 9)]) := (k427 q23 h785 h404).trans h784
  have h787 : q23 ∈ L422 := sb426 _ h785
  have h788 : f433 q23 = .inr (3, [.int (0 : Int32), .int (0 : Int32), .int (0 : Int32), .int (0 : Int32), .int (0 : Int32), .int (0 : Int32), .int (0 : Int32), .int (0 : Int32), .int (0 : Int32), .int (0 : Int32), .ref (na32 0), .ref (na32 1), .ref (na32 2), .ref (na32 3), .ref (na32 4), .ref (na32 5), .ref (na32 6), .ref (na32 7), .ref (na32 8), .ref (na32 9)]) := ((congrFun ef433 q23).trans (va_up_ne _ _ (g_neOA h786 h431))).trans h786
  have h789 : f442 q23 = .inr (3, [.int (0 : Int32), .int (0 : Int32), .int (0 : Int32), .int (0 : Int32), .int (0 : Int32), .int (0 : Int32), .int (0 : Int32), .int (0 : Int32), .int (0 : Int32), .int (0 : Int32), .ref (na32 0), .ref (na32 1), .ref (na32 2), .ref (na32 3), .ref (na32 4), .ref (na32 5), .ref (na32 6), .ref (na32 7), .ref (na32 8), .ref (na32 9)]) := ((congrFun ef442 q23).trans (va_up_ne _ _ (g_neL h787 n441))).trans h788
  have h790 : q23 ∈ L443 := sb444 _ h787
  have h791 : f447 q23 = .inr (3, [.int (0 : Int32), .int (0 : Int32), .int (0 : Int32), .int (0 : Int32), .int (0 : Int32), .int (0 : Int32), .int (0 : Int32), .int (0 : Int32), .int (0 : Int32), .int (0 : Int32), .ref (na32 0), .ref (na32 1), .ref (na32 2), .ref (na32 3), .ref (na32 4), .ref (na32 5), .ref (na32 6), .ref (na32 7), .ref (na32 8), .ref (na32 9)]) := (k454 q23 h790 (g_neO h789 h446 (by decide))).trans h789
  have h792 : q23 ∈ L448 := sb453 _ h790
  have h793 : f504 q23 = .inr (3, [.int (0 : Int32), .int (0 : Int32), .int (0 : Int32), .int (0 : Int32), .int (0 : Int32), .int (0 : Int32), .int (0 : Int32), .int (0 : Int32), .int (0 : Int32), .int (0 : Int32), .ref (na32 0), .ref (na32 1), .ref (na32 2), .ref (na32 3), .ref (na32 4), .ref (na32 5), .ref (na32 6), .ref (na32 7), .ref (na32 8), .ref (na32 9)]) := ((congrFun ef504 q23).trans (va_up_ne _ _ (g_neOA h791 h502))).trans h791
  have h794 : f513 q23 = .inr (3, [.int (0 : Int32), .int (0 : Int32), .int (0 : Int32), .int (0 : Int32), .int (0 : Int32), .int (0 : Int32), .int (0 : Int32), .int (0 : Int32), .int (0 : Int32), .int (0 : Int32), .ref (na32 0), .ref (na32 1), .ref (na32 2), .ref (na32 3), .ref (na32 4), .ref (na32 5), .ref (na32 6), .ref (na32 7), .ref (na32 8), .ref (na32 9)]) := ((congrFun ef513 q23).trans (va_up_ne _ _ (g_neL h792 n512))).trans h793
  have h795 : q23 ∈ L514 := sb515 _ h792
  have h796 : f520 q23 = .inr (3, [.int (0 : Int32), .int (0 : Int32), .int (0 : Int32), .int (0 : Int32), .int (0 : Int32), .int (0 : Int32), .int (0 : Int32), .int (0 : Int32), .int (0 : Int32), .int (0 : Int32), .ref (na32 0), .ref (na32 1), .ref (na32 2), .ref (na32 3), .ref (na32 4), .ref (na32 5), .ref (na32 6), .ref (na32 7), .ref (na32 8), .ref (na32 9)]) := (k527 q23 h795 (g_neO h794 h519 (by decide))).trans h794
  have h797 : q23 ∈ L521 := sb526 _ h795
  have h798 : f533 q23 = .inr (3, [.int (0 : Int32), .int (0 : Int32), .int (0 : Int32), .int (0 : Int32), .int (0 : Int32), .int (0 : Int32), .int (0 : Int32), .int (0 : Int32), .int (0 : Int32), .int (0 : Int32), .ref (na32 0), .ref (na32 1), .ref (na32 2), .ref (na32 3), .ref (na32 4), .ref (na32 5), .ref (na32 6), .ref (na32 7), .ref (na32 8), .ref (na32 9)]) := ((congrFun ef533 q23).trans (va_up_ne _ _ (g_neOA h796 h531))).trans h796
  have h799 : f542 q23 = .inr (3, [.int (0 : Int32), .int (0 : Int32), .int (0 : Int32), .int (0 : Int32), .int (0 : Int32), .int (0 : Int32), .int (0 : Int32), .int (0 : Int32), .int (0 : Int32), .int (0 : Int32), .ref (na32 0), .ref (na32 1), .ref (na32 2), .ref (na32 3), .ref (na32 4), .ref (na32 5), .ref (na32 6), .ref (na32 7), .ref (na32 8), .ref (na32 9)]) := ((congrFun ef542 q23).trans (va_up_ne _ _ (g_neL h797 n541))).trans h798
  have h800 : q23 ∈ L543 := sb544 _ h797
  have h801 : f555 q23 = .inr (3, [.int (0 : Int32), .int (0 : Int32), .int (0 : Int32), .int (0 : Int32), .int (0 : Int32), .int (0 : Int32), .int (0 : Int32), .int (0 : Int32), .int (0 : Int32), .int (0 : Int32), .ref (na32 0), .ref (na32 1), .ref (na32 2), .ref (na32 3), .ref (na32 4), .ref (na32 5), .ref (na32 6), .ref (na32 7), .ref (na32 8), .ref (na32 9)]) := (k562 q23 h800 (g_neO h799 h554 (by decide))).trans h799
  have h802 : q23 ∈ L556 := sb561 _ h800
  have h803 : f568 q23 = .inr (3, [.int (0 : Int32), .int (0 : Int32), .int (0 : Int32), .int (0 : Int32), .int (0 : Int32), .int (0 : Int32), .int (0 : Int32), .int (0 : Int32), .int (0 : Int32), .int (0 : Int32), .ref (na32 0), .ref (na32 1), .ref (na32 2), .ref (na32 3), .ref (na32 4), .ref (na32 5), .ref (na32 6), .ref (na32 7), .ref (na32 8), .ref (na32 9)]) := ((congrFun ef568 q23).trans (va_up_ne _ _ (g_neOA h801 h566))).trans h801
  have h804 : f577 q23 = .inr (3, [.int (0 : Int32), .int (0 : Int32), .int (0 : Int32), .int (0 : Int32), .int (0 : Int32), .int (0 : Int32), .int (0 : Int32), .int (0 : Int32), .int (0 : Int32), .int (0 : Int32), .ref (na32 0), .ref (na32 1), .ref (na32 2), .ref (na32 3), .ref (na32 4), .ref (na32 5), .ref (na32 6), .ref (na32 7), .ref (na32 8), .ref (na32 9)]) := ((congrFun ef577 q23).trans (va_up_ne _ _ (g_neL h802 n576))).trans h803
  have h805 : q23 ∈ L578 := sb579 _ h802
  have h806 : f596 q23 = .inr (3, [.int (0 : Int32), .int (0 : Int32), .int (0 : Int32), .int (0 : Int32), .int (0 : Int32), .int (0 : Int32), .int (0 : Int32), .int (0 : Int32), .int (0 : Int32), .int (0 : Int32), .ref (na32 0), .ref (na32 1), .ref (na32 2), .ref (na32 3), .ref (na32 4), .ref (na32 5), .ref (na32 6), .ref (na32 7), .ref (na32 8), .ref (na32 9)]) := (k603 q23 h805 (g_neO h804 h595 (by decide))).trans h804
  have h807 : q23 ∈ L597 := sb602 _ h805
  have h808 : f609 q23 = .inr (3, [.int (0 : Int32), .int (0 : Int32), .int (0 : Int32), .int (0 : Int32), .int (0 : Int32), .int (0 : Int32), .int (0 : Int32), .int (0 : Int32), .int (0 : Int32), .int (0 : Int32), .ref (na32 0), .ref (na32 1), .ref (na32 2), .ref (na32 3), .ref (na32 4), .ref (na32 5), .ref (na32 6), .ref (na32 7), .ref (na32 8), .ref (na32 9)]) := ((congrFun ef609 q23).trans (va_up_ne _ _ (g_neOA h806 h607))).trans h806
  have h809 : f88 q44 = .inr (5, [.ref q1, .ref q53, .int (0 : Int32), .int (0 : Int32), .int (0 : Int32), .int (0 : Int32), .int (-1 : Int32)]) := ((congrFun ef88 q44).trans (va_up_ne _ _ (g_neO h78 h86 (by decide)))).trans h78
  have h810 : f92 q44 = .inr (5, [.ref q1, .ref q53, .int (0 : Int32), .int (0 : Int32), .int (0 : Int32), .int (0 : Int32), .int (-1 : Int32)]) := ((congrFun ef92 q44).trans (va_up_ne _ _ (g_neL h81 n91))).trans h809
  have h811 : q44 ∈ L93 := sb94 _ h81
  have h812 : f99 q44 = .inr (5, [.ref q1, .ref q53, .int (0 : Int32), .int (0 : Int32), .int (0 : Int32), .int (0 : Int32), .int (-1 : Int32)]) := ((congrFun ef99 q44).trans (va_up_ne _ _ (g_neO h810 h97 (by decide)))).trans h810
  have h813 : f103 q44 = .inr (5, [.ref q1, .ref q53, .int (0 : Int32), .int (0 : Int32), .int (0 : Int32), .int (0 : Int32), .int (-1 : Int32)]) := ((congrFun ef103 q44).trans (va_up_ne _ _ (g_neL h811 n102))).trans h812
  have h814 : q44 ∈ L104 := sb105 _ h811
  have h815 : f110 q44 = .inr (5, [.ref q1, .ref q53, .int (0 : Int32), .int (0 : Int32), .int (0 : Int32), .int (0 : Int32), .int (-1 : Int32)]) := ((congrFun ef110 q44).trans (va_up_ne _ _ (g_neO h813 h108 (by decide)))).trans h813
  have h816 : f114 q44 = .inr (5, [.ref q1, .ref q53, .int (0 : Int32), .int (0 : Int32), .int (0 : Int32), .int (0 : Int32), .int (-1 : Int32)]) := ((congrFun ef114 q44).trans (va_up_ne _ _ (g_neL h814 n113))).trans h815
  have h817 : q44 ∈ L115 := sb116 _ h814
  have h818 : f121 q44 = .inr (5, [.ref q1, .ref q53, .int (0 : Int32), .int (0 : Int32), .int (0 : Int32), .int (0 : Int32), .int (-1 : Int32)]) := (k125 q44 h817 (g_neO h816 h118 (by decide))).trans h816
  have h819 : q44 ∈ L122 := sb124 _ h817
  have h820 : f128 q44 = .inr (5, [.ref q1, .ref q53, .int (0 : Int32), .int (0 : Int32), .int (0 : Int32), .int (0 : Int32), .int (-1 : Int32)]) := ((congrFun ef128 q44).trans (va_up_ne _ _ (g_neO h818 h126 (by decide)))).trans h818
  have h821 : f132 q44 = .inr (5, [.ref q1, .ref q53, .int (0 : Int32), .int (0 : Int32), .int (0 : Int32), .int (0 : Int32), .int (-1 : Int32)]) := ((congrFun ef132 q44).trans (va_up_ne _ _ (g_neL h819 n131))).trans h820
  have h822 : q44 ∈ L133 := sb134 _ h819
  have h823 : f139 q44 = .inr (5, [.ref q1, .ref q53, .int (0 : Int32), .int (0 : Int32), .int (0 : Int32), .int (0 : Int32), .int (-1 : Int32)]) := (k145 q44 h822 (g_neO h821 h136 (by decide))).trans h821
  have h824 : q44 ∈ L140 := sb144 _ h822
  have h825 : f149 q44 = .inr (5, [.ref q1, .ref q53, .int (0 : Int32), .int (0 : Int32), .int (0 : Int32), .int (0 : Int32), .int (-1 : Int32)]) := ((congrFun ef149 q44).trans (va_up_ne _ _ (g_neO h823 h147 (by decide)))).trans h823
  have h826 : f153 q44 = .inr (5, [.ref q1, .ref q53, .int (0 : Int32), .int (0 : Int32), .int (0 : Int32), .int (0 : Int32), .int (-1 : Int32)]) := ((congrFun ef153 q44).trans (va_up_ne _ _ (g_neL h824 n152))).trans h825
  have h827 : q44 ∈ L154 := sb155 _ h824
  have h828 : f160 q44 = .inr (5, [.ref q1, .ref q53, .int (0 : Int32), .int (0 : Int32), .int (0 : Int32), .int (0 : Int32), .int (-1 : Int32)]) := (k164 q44 h827 (g_neO h826 h157 (by decide))).trans h826
  have h829 : q44 ∈ L161 := sb163 _ h827
  have h830 : f167 q44 = .inr (5, [.ref q1, .ref q53, .int (0 : Int32), .int (0 : Int32), .int (0 : Int32), .int (0 : Int32), .int (-1 : Int32)]) := ((congrFun ef167 q44).trans (va_up_ne _ _ (g_neO h828 h165 (by decide)))).trans h828
  have h831 : f171 q44 = .inr (5, [.ref q1, .ref q53, .int (0 : Int32), .int (0 : Int32), .int (0 : Int32), .int (0 : Int32), .int (-1 : Int32)]) := ((congrFun ef171 q44).trans (va_up_ne _ _ (g_neL h829 n170))).trans h830
  have h832 : q44 ∈ L172 := sb173 _ h829
  have h833 : f178 q44 = .inr (5, [.ref q1, .ref q53, .int (0 : Int32), .int (0 : Int32), .int (0 : Int32), .int (0 : Int32), .int (-1 : Int32)]) := (k182 q44 h832 (g_neO h831 h175 (by decide))).trans h831
  have h834 : q44 ∈ L179 := sb181 _ h832
  have h835 : f185 q44 = .inr (5, [.ref q1, .ref q53, .int (0 : Int32), .int (0 : Int32), .int (0 : Int32), .int (0 : Int32), .int (-1 : Int32)]) := ((congrFun ef185 q44).trans (va_up_ne _ _ (g_neO h833 h183 (by decide)))).trans h833
  have h836 : f189 q44 = .inr (5, [.ref q1, .ref q53, .int (0 : Int32), .int (0 : Int32), .int (0 : Int32), .int (0 : Int32), .int (-1 : Int32)]) := ((congrFun ef189 q44).trans (va_up_ne _ _ (g_neL h834 n188))).trans h835
  have h837 : q44 ∈ L190 := sb191 _ h834
  have h838 : f196 q44 = .inr (5, [.ref q1, .ref q53, .int (0 : Int32), .int (0 : Int32), .int (0 : Int32), .int (0 : Int32), .int (-1 : Int32)]) := (k200 q44 h837 (g_neO h836 h193 (by decide))).trans h836
  have h839 : q44 ∈ L197 := sb199 _ h837
  have h840 : f203 q44 = .inr (5, [.ref q1, .ref q53, .int (0 : Int32), .int (0 : Int32), .int (0 : Int32), .int (0 : Int32), .int (-1 : Int32)]) := ((congrFun ef203 q44).trans (va_up_ne _ _ (g_neO h838 h201 (by decide)))).trans h838
  have h841 : f207 q44 = .inr (5, [.ref q1, .ref q53, .int (0 : Int32), .int (0 : Int32), .int (0 : Int32), .int (0 : Int32), .int (-1 : Int32)]) := ((congrFun ef207 q44).trans (va_up_ne _ _ (g_neL h839 n206))).trans h840
  have h842 : q44 ∈ L208 := sb209 _ h839
  have h843 : f214 q44 = .inr (5, [.ref q1, .ref q53, .int (0 : Int32), .int (0 : Int32), .int (0 : Int32), .int (0 : Int32), .int (-1 : Int32)]) := ((congrFun ef214 q44).trans (va_up_ne _ _ (g_neO h841 h212 (by decide)))).trans h841
  have h844 : f218 q44 = .inr (5, [.ref q1, .ref q53, .int (0 : Int32), .int (0 : Int32), .int (0 : Int32), .int (0 : Int32), .int (-1 : Int32)]) := ((congrFun ef218 q44).trans (va_up_ne _ _ (g_neL h842 n217))).trans h843
  have h845 : q44 ∈ L219 := sb220 _ h842
  have h846 : f303 q44 = .inr (5, [.ref q1, .ref q53, .int (0 : Int32), .int (0 : Int32), .int (0 : Int32), .int (0 : Int32), .int (-1 : Int32)]) := (k309 q44 h845 (g_neO h844 h302 (by decide))).trans h844
  have h847 : q44 ∈ L304 := sb308 _ h845
  have h848 : f347 q44 = .inr (5, [.ref q1, .ref q53, .int (0 : Int32), .int (0 : Int32), .int (0 : Int32), .int (0 : Int32), .int (-1 : Int32)]) := ((congrFun ef347 q44).trans (va_up_ne _ _ (g_neOA h846 h345))).trans h846
  have h849 : f356 q44 = .inr (5, [.ref q1, .ref q53, .int (0 : Int32), .int (0 : Int32), .int (0 : Int32), .int (0 : Int32), .int (-1 : Int32)]) := ((congrFun ef356 q44).trans (va_up_ne _ _ (g_neL h847 n355))).trans h848
  have h850 : q44 ∈ L357 := sb358 _ h847
  have h851 : f375 q44 = .inr (5, [.ref q1, .ref q53, .int (0 : Int32), .int (0 : Int32), .int (0 : Int32), .int (0 : Int32), .int (-1 : Int32)]) := (k381 q44 h850 (g_neO h849 h374 (by decide))).trans h849
  have h852 : q44 ∈ L376 := sb380 _ h850
  have h853 : f387 q44 = .inr (5, [.ref q1, .ref q53, .int (0 : Int32), .int (0 : Int32), .int (0 : Int32), .int (0 : Int32), .int (-1 : Int32)]) := ((congrFun ef387 q44).trans (va_up_ne _ _ (g_neOA h851 h385))).trans h851
  have h854 : f396 q44 = .inr (5, [.ref q1, .ref q53, .int (0 : Int32), .int (0 : Int32), .int (0 : Int32), .int (0 : Int32), .int (-1 : Int32)]) := ((congrFun ef396 q44).trans (va_up_ne _ _ (g_neL h852 n395))).trans h853
  have h855 : q44 ∈ L397 := sb398 _ h852
  have h856 : f421 q44 = .inr (5, [.ref q1, .ref q53, .int (0 : Int32), .int (0 : Int32), .int (0 : Int32), .int (0 : Int32), .int (-1 : Int32)]) := (k427 q44 h855 (g_neO h854 h420 (by decide))).trans h854
  have h857 : q44 ∈ L422 := sb426 _ h855
  have h858 : f433 q44 = .inr (5, [.ref q1, .ref q53, .int (0 : Int32), .int (0 : Int32), .int (0 : Int32), .int (0 : Int32), .int (-1 : Int32)]) := ((congrFun ef433 q44).trans (va_up_ne _ _ (g_neOA h856 h431))).trans h856
  have h859 : f442 q44 = .inr (5, [.ref q1, .ref q53, .int (0 : Int32), .int (0 : Int32), .int (0 : Int32), .int (0 : Int32), .int (-1 : Int32)]) := ((congrFun ef442 q44).trans (va_up_ne _ _ (g_neL h857 n441))).trans h858
  have h860 : q44 ∈ L443 := sb444 _ h857
  have h861 : f447 q44 = .inr (5, [.ref q1, .ref q53, .int (0 : Int32), .int (0 : Int32), .int (0 : Int32), .int (0 : Int32), .int (-1 : Int32)]) := (k454 q44 h860 (g_neO h859 h446 (by decide))).trans h859
  have h862 : q44 ∈ L448 := sb453 _ h860
  have h863 : f504 q44 = .inr (5, [.ref q1, .ref q53, .int (0 : Int32), .int (0 : Int32), .int (0 : Int32), .int (0 : Int32), .int (-1 : Int32)]) := ((congrFun ef504 q44).trans (va_up_ne _ _ (g_neOA h861 h502))).trans h861
  have h864 : f513 q44 = .inr (5, [.ref q1, .ref q53, .int (0 : Int32), .int (0 : Int32), .int (0 : Int32), .int (0 : Int32), .int (-1 : Int32)]) := ((congrFun ef513 q44).trans (va_up_ne _ _ (g_neL h862 n512))).trans h863
  have h865 : q44 ∈ L514 := sb515 _ h862
  have h866 : f520 q44 = .inr (5, [.ref q1, .ref q53, .int (0 : Int32), .int (0 : Int32), .int (0 : Int32), .int (0 : Int32), .int (-1 : Int32)]) := (k527 q44 h865 (g_neO h864 h519 (by decide))).trans h864
  have h867 : q44 ∈ L521 := sb526 _ h865
  have h868 : f533 q44 = .inr (5, [.ref q1, .ref q53, .int (0 : Int32), .int (0 : Int32), .int (0 : Int32), .int (0 : Int32), .int (-1 : Int32)]) := ((congrFun ef533 q44).trans (va_up_ne _ _ (g_neOA h866 h531))).trans h866
  have h869 : f542 q44 = .inr (5, [.ref q1, .ref q53, .int (0 : Int32), .int (0 : Int32), .int (0 : Int32), .int (0 : Int32), .int (-1 : Int32)]) := ((congrFun ef542 q44).trans (va_up_ne _ _ (g_neL h867 n541))).trans h868
  have h870 : q44 ∈ L543 := sb544 _ h867
  have h871 : f555 q44 = .inr (5, [.ref q1, .ref q53, .int (0 : Int32), .int (0 : Int32), .int (0 : Int32), .int (0 : Int32), .int (-1 : Int32)]) := (k562 q44 h870 (g_neO h869 h554 (by decide))).trans h869
  have h872 : q44 ∈ L556 := sb561 _ h870
  have h873 : f568 q44 = .inr (5, [.ref q1, .ref q53, .int (0 : Int32), .int (0 : Int32), .int (0 : Int32), .int (0 : Int32), .int (-1 : Int32)]) := ((congrFun ef568 q44).trans (va_up_ne _ _ (g_neOA h871 h566))).trans h871
  have h874 : f577 q44 = .inr (5, [.ref q1, .ref q53, .int (0 : Int32), .int (0 : Int32), .int (0 : Int32), .int (0 : Int32), .int (-1 : Int32)]) := ((congrFun ef577 q44).trans (va_up_ne _ _ (g_neL h872 n576))).trans h873
  have h875 : q44 ∈ L578 := sb579 _ h872
  have h876 : f596 q44 = .inr (5, [.ref q1, .ref q53, .int (0 : Int32), .int (0 : Int32), .int (0 : Int32), .int (0 : Int32), .int (-1 : Int32)]) := (k603 q44 h875 (g_neO h874 h595 (by decide))).trans h874
  have h877 : q44 ∈ L597 := sb602 _ h875
  have h878 : f609 q44 = .inr (5, [.ref q1, .ref q53, .int (0 : Int32), .int (0 : Int32), .int (0 : Int32), .int (0 : Int32), .int (-1 : Int32)]) := ((congrFun ef609 q44).trans (va_up_ne _ _ (g_neOA h876 h607))).trans h876
  have h879 : f396 q53 = .inr (3, [.int (0 : Int32), .int (0 : Int32), .int (0 : Int32), .int (0 : Int32), .int (0 : Int32), .int (0 : Int32), .int (0 : Int32), .int (0 : Int32), .int (0 : Int32), .int (0 : Int32), .ref (na66 0), .ref (na66 1), .ref (na66 2), .ref (na66 3), .ref (na66 4), .ref (na66 5), .ref (na66 6), .ref (na66 7), .ref (na66 8), .ref (na66 9)]) := ((congrFun ef396 q53).trans (va_up_ne _ _ (g_neL h408 n395))).trans h409
  have h880 : q53 ∈ L397 := sb398 _ h408
  have h881 : f421 q53 = .inr (3, [.int (0 : Int32), .int (0 : Int32), .int (0 : Int32), .int (0 : Int32), .int (0 : Int32), .int (0 : Int32), .int (0 : Int32), .int (0 : Int32), .int (0 : Int32), .int (0 : Int32), .ref (na66 0), .ref (na66 1), .ref (na66 2), .ref (na66 3), .ref (na66 4), .ref (na66 5), .ref (na66 6), .ref (na66 7), .ref (na66 8), .ref (na66 9)]) := (k427 q53 h880 h410).trans h879
  have h882 : q53 ∈ L422 := sb426 _ h880
  have h883 : f433 q53 = .inr (3, [.int (0 : Int32), .int (0 : Int32), .int (0 : Int32), .int (0 : Int32), .int (0 : Int32), .int (0 : Int32), .int (0 : Int32), .int (0 : Int32), .int (0 : Int32), .int (0 : Int32), .ref (na66 0), .ref (na66 1), .ref (na66 2), .ref (na66 3), .ref (na66 4), .ref (na66 5), .ref (na66 6), .ref (na66 7), .ref (na66 8), .ref (na66 9)]) := ((congrFun ef433 q53).trans (va_up_ne _ _ (g_neOA h881 h431))).trans h881
  have h884 : f442 q53 = .inr (3, [.int (0 : Int32), .int (0 : Int32), .int (0 : Int32), .int (0 : Int32), .int (0 : Int32), .int (0 : Int32), .int (0 : Int32), .int (0 : Int32), .int (0 : Int32), .int (0 : Int32), .ref (na66 0), .ref (na66 1), .ref (na66 2), .ref (na66 3), .ref (na66 4), .ref (na66 5), .ref (na66 6), .ref (na66 7), .ref (na66 8), .ref (na66 9)]) := ((congrFun ef442 q53).trans (va_up_ne _ _ (g_neL h882 n441))).trans h883
  have h885 : q53 ∈ L443 := sb444 _ h882
  have h886 : f447 q53 = .inr (3, [.int (0 : Int32), .int (0 : Int32), .int (0 : Int32), .int (0 : Int32), .int (0 : Int32), .int (0 : Int32), .int (0 : Int32), .int (0 : Int32), .int (0 : Int32), .int (0 : Int32), .ref (na66 0), .ref (na66 1), .ref (na66 2), .ref (na66 3), .ref (na66 4), .ref (na66 5), .ref (na66 6), .ref (na66 7), .ref (na66 8), .ref (na66 9)]) := (k454 q53 h885 (g_neO h884 h446 (by decide))).trans h884
  have h887 : q53 ∈ L448 := sb453 _ h885
  have h888 : f504 q53 = .inr (3, [.int (0 : Int32), .int (0 : Int32), .int (0 : Int32), .int (0 : Int32), .int (0 : Int32), .int (0 : Int32), .int (0 : Int32), .int (0 : Int32), .int (0 : Int32), .int (0 : Int32), .ref (na66 0), .ref (na66 1), .ref (na66 2), .ref (na66 3), .ref (na66 4), .ref (na66 5), .ref (na66 6), .ref (na66 7), .ref (na66 8), .ref (na66 9)]) := ((congrFun ef504 q53).trans (va_up_ne _ _ (g_neOA h886 h502))).trans h886
  have h889 : f513 q53 = .inr (3, [.int (0 : Int32), .int (0 : Int32), .int (0 : Int32), .int (0 : Int32), .int (0 : Int32), .int (0 : Int32), .int (0 : Int32), .int (0 : Int32), .int (0 : Int32), .int (0 : Int32), .ref (na66 0), .ref (na66 1), .ref (na66 2), .ref (na66 3), .ref (na66 4), .ref (na66 5), .ref (na66 6), .ref (na66 7), .ref (na66 8), .ref (na66 9)]) := ((congrFun ef513 q53).trans (va_up_ne _ _ (g_neL h887 n512))).trans h888
  have h890 : q53 ∈ L514 := sb515 _ h887
  have h891 : f520 q53 = .inr (3, [.int (0 : Int32), .int (0 : Int32), .int (0 : Int32), .int (0 : Int32), .int (0 : Int32), .int (0 : Int32), .int (0 : Int32), .int (0 : Int32), .int (0 : Int32), .int (0 : Int32), .ref (na66 0), .ref (na66 1), .ref (na66 2), .ref (na66 3), .ref (na66 4), .ref (na66 5), .ref (na66 6), .ref (na66 7), .ref (na66 8), .ref (na66 9)]) := (k527 q53 h890 (g_neO h889 h519 (by decide))).trans h889
  have h892 : q53 ∈ L521 := sb526 _ h890
  have h893 : f533 q53 = .inr (3, [.int (0 : Int32), .int (0 : Int32), .int (0 : Int32), .int (0 : Int32), .int (0 : Int32), .int (0 : Int32), .int (0 : Int32), .int (0 : Int32), .int (0 : Int32), .int (0 : Int32), .ref (na66 0), .ref (na66 1), .ref (na66 2), .ref (na66 3), .ref (na66 4), .ref (na66 5), .ref (na66 6), .ref (na66 7), .ref (na66 8), .ref (na66 9)]) := ((congrFun ef533 q53).trans (va_up_ne _ _ (g_neOA h891 h531))).trans h891
  have h894 : f542 q53 = .inr (3, [.int (0 : Int32), .int (0 : Int32), .int (0 : Int32), .int (0 : Int32), .int (0 : Int32), .int (0 : Int32), .int (0 : Int32), .int (0 : Int32), .int (0 : Int32), .int (0 : Int32), .ref (na66 0), .ref (na66 1), .ref (na66 2), .ref (na66 3), .ref (na66 4), .ref (na66 5), .ref (na66 6), .ref (na66 7), .ref (na66 8), .ref (na66 9)]) := ((congrFun ef542 q53).trans (va_up_ne _ _ (g_neL h892 n541))).trans h893
  have h895 : q53 ∈ L543 := sb544 _ h892
  have h896 : f555 q53 = .inr (3, [.int (0 : Int32), .int (0 : Int32), .int (0 : Int32), .int (0 : Int32), .int (0 : Int32), .int (0 : Int32), .int (0 : Int32), .int (0 : Int32), .int (0 : Int32), .int (0 : Int32), .ref (na66 0), .ref (na66 1), .ref (na66 2), .ref (na66 3), .ref (na66 4), .ref (na66 5), .ref (na66 6), .ref (na66 7), .ref (na66 8), .ref (na66 9)]) := (k562 q53 h895 (g_neO h894 h554 (by decide))).trans h894
  have h897 : q53 ∈ L556 := sb561 _ h895
  have h898 : f568 q53 = .inr (3, [.int (0 : Int32), .int (0 : Int32), .int (0 : Int32), .int (0 : Int32), .int (0 : Int32), .int (0 : Int32), .int (0 : Int32), .int (0 : Int32), .int (0 : Int32), .int (0 : Int32), .ref (na66 0), .ref (na66 1), .ref (na66 2), .ref (na66 3), .ref (na66 4), .ref (na66 5), .ref (na66 6), .ref (na66 7), .ref (na66 8), .ref (na66 9)]) := ((congrFun ef568 q53).trans (va_up_ne _ _ (g_neOA h896 h566))).trans h896
  have h899 : f577 q53 = .inr (3, [.int (0 : Int32), .int (0 : Int32), .int (0 : Int32), .int (0 : Int32), .int (0 : Int32), .int (0 : Int32), .int (0 : Int32), .int (0 : Int32), .int (0 : Int32), .int (0 : Int32), .ref (na66 0), .ref (na66 1), .ref (na66 2), .ref (na66 3), .ref (na66 4), .ref (na66 5), .ref (na66 6), .ref (na66 7), .ref (na66 8), .ref (na66 9)]) := ((congrFun ef577 q53).trans (va_up_ne _ _ (g_neL h897 n576))).trans h898
  have h900 : q53 ∈ L578 := sb579 _ h897
  have h901 : f596 q53 = .inr (3, [.int (0 : Int32), .int (0 : Int32), .int (0 : Int32), .int (0 : Int32), .int (0 : Int32), .int (0 : Int32), .int (0 : Int32), .int (0 : Int32), .int (0 : Int32), .int (0 : Int32), .ref (na66 0), .ref (na66 1), .ref (na66 2), .ref (na66 3), .ref (na66 4), .ref (na66 5), .ref (na66 6), .ref (na66 7), .ref (na66 8), .ref (na66 9)]) := (k603 q53 h900 (g_neO h899 h595 (by decide))).trans h899
  have h902 : q53 ∈ L597 := sb602 _ h900
  have h903 : f609 q53 = .inr (3, [.int (0 : Int32), .int (0 : Int32), .int (0 : Int32), .int (0 : Int32), .int (0 : Int32), .int (0 : Int32), .int (0 : Int32), .int (0 : Int32), .int (0 : Int32), .int (0 : Int32), .ref (na66 0), .ref (na66 1), .ref (na66 2), .ref (na66 3), .ref (na66 4), .ref (na66 5), .ref (na66 6), .ref (na66 7), .ref (na66 8), .ref (na66 9)]) := ((congrFun ef609 q53).trans (va_up_ne _ _ (g_neOA h901 h607))).trans h901
  have h904 : f149 q130 = .inr (4, [.ref q23, .ref q112, .ref q141, .ref q142, .int (0 : Int32)]) := ((congrFun ef149 q130).trans (va_up_ne _ _ (g_neO h143 h147 (by decide)))).trans h143
  have h905 : f153 q130 = .inr (4, [.ref q23, .ref q112, .ref q141, .ref q142, .int (0 : Int32)]) := ((congrFun ef153 q130).trans (va_up_ne _ _ (g_neL h146 n152))).trans h904
  have h906 : q130 ∈ L154 := sb155 _ h146
  have h907 : f160 q130 = .inr (4, [.ref q23, .ref q112, .ref q141, .ref q142, .int (0 : Int32)]) := (k164 q130 h906 (g_neO h905 h157 (by decide))).trans h905
  have h908 : q130 ∈ L161 := sb163 _ h906
  have h909 : f167 q130 = .inr (4, [.ref q23, .ref q112, .ref q141, .ref q142, .int (0 : Int32)]) := ((congrFun ef167 q130).trans (va_up_ne _ _ (g_neO h907 h165 (by decide)))).trans h907
  have h910 : f171 q130 = .inr (4, [.ref q23, .ref q112, .ref q141, .ref q142, .int (0 : Int32)]) := ((congrFun ef171 q130).trans (va_up_ne _ _ (g_neL h908 n170))).trans h909
  have h911 : q130 ∈ L172 := sb173 _ h908
  have h912 : f178 q130 = .inr (4, [.ref q23, .ref q112, .ref q141, .ref q142, .int (0 : Int32)]) := (k182 q130 h911 (g_neO h910 h175 (by decide))).trans h910
  have h913 : q130 ∈ L179 := sb181 _ h911
  have h914 : f185 q130 = .inr (4, [.ref q23, .ref q112, .ref q141, .ref q142, .int (0 : Int32)]) := ((congrFun ef185 q130).trans (va_up_ne _ _ (g_neO h912 h183 (by decide)))).trans h912
  have h915 : f189 q130 = .inr (4, [.ref q23, .ref q112, .ref q141, .ref q142, .int (0 : Int32)]) := ((congrFun ef189 q130).trans (va_up_ne _ _ (g_neL h913 n188))).trans h914
  have h916 : q130 ∈ L190 := sb191 _ h913
  have h917 : f196 q130 = .inr (4, [.ref q23, .ref q112, .ref q141, .ref q142, .int (0 : Int32)]) := (k200 q130 h916 (g_neO h915 h193 (by decide))).trans h915
  have h918 : q130 ∈ L197 := sb199 _ h916
  have h919 : f203 q130 = .inr (4, [.ref q23, .ref q112, .ref q141, .ref q142, .int (0 : Int32)]) := ((congrFun ef203 q130).trans (va_up_ne _ _ (g_neO h917 h201 (by decide)))).trans h917
  have h920 : f207 q130 = .inr (4, [.ref q23, .ref q112, .ref q141, .ref q142, .int (0 : Int32)]) := ((congrFun ef207 q130).trans (va_up_ne _ _ (g_neL h918 n206))).trans h919
  have h921 : q130 ∈ L208 := sb209 _ h918
  have h922 : f214 q130 = .inr (4, [.ref q23, .ref q112, .ref q141, .ref q142, .int (0 : Int32)]) := ((congrFun ef214 q130).trans (va_up_ne _ _ (g_neO h920 h212 (by decide)))).trans h920
  have h923 : f218 q130 = .inr (4, [.ref q23, .ref q112, .ref q141, .ref q142, .int (0 : Int32)]) := ((congrFun ef218 q130).trans (va_up_ne _ _ (g_neL h921 n217))).trans h922
  have h924 : q130 ∈ L219 := sb220 _ h921
  have h925 : f303 q130 = .inr (4, [.ref q23, .ref q112, .ref q141, .ref q142, .int (0 : Int32)]) := (k309 q130 h924 (g_neO h923 h302 (by decide))).trans h923
  have h926 : q130 ∈ L304 := sb308 _ h924
  have h927 : f347 q130 = .inr (4, [.ref q23, .ref q112, .ref q141, .ref q142, .int (0 : Int32)]) := ((congrFun ef347 q130).trans (va_up_ne _ _ (g_neOA h925 h345))).trans h925
  have h928 : f356 q130 = .inr (4, [.ref q23, .ref q112, .ref q141, .ref q142, .int (0 : Int32)]) := ((congrFun ef356 q130).trans (va_up_ne _ _ (g_neL h926 n355))).trans h927
  have h929 : q130 ∈ L357 := sb358 _ h926
  have h930 : f375 q130 = .inr (4, [.ref q23, .ref q112, .ref q141, .ref q142, .int (0 : Int32)]) := (k381 q130 h929 (g_neO h928 h374 (by decide))).trans h928
  have h931 : q130 ∈ L376 := sb380 _ h929
  have h932 : f387 q130 = .inr (4, [.ref q23, .ref q112, .ref q141, .ref q142, .int (0 : Int32)]) := ((congrFun ef387 q130).trans (va_up_ne _ _ (g_neOA h930 h385))).trans h930
  have h933 : f396 q130 = .inr (4, [.ref q23, .ref q112, .ref q141, .ref q142, .int (0 : Int32)]) := ((congrFun ef396 q130).trans (va_up_ne _ _ (g_neL h931 n395))).trans h932
  have h934 : q130 ∈ L397 := sb398 _ h931
  have h935 : f421 q130 = .inr (4, [.ref q23, .ref q112, .ref q141, .ref q142, .int (0 : Int32)]) := (k427 q130 h934 (g_neO h933 h420 (by decide))).trans h933
  have h936 : q130 ∈ L422 := sb426 _ h934
  have h937 : f433 q130 = .inr (4, [.ref q23, .ref q112, .ref q141, .ref q142, .int (0 : Int32)]) := ((congrFun ef433 q130).trans (va_up_ne _ _ (g_neOA h935 h431))).trans h935
  have h938 : f442 q130 = .inr (4, [.ref q23, .ref q112, .ref q141, .ref q142, .int (0 : Int32)]) := ((congrFun ef442 q130).trans (va_up_ne _ _ (g_neL h936 n441))).trans h937
  have h939 : q130 ∈ L443 := sb444 _ h936
  have h940 : f447 q130 = .inr (4, [.ref q23, .ref q112, .ref q141, .ref q142, .int (0 : Int32)]) := (k454 q130 h939 (g_neO h938 h446 (by decide))).trans h938
  have h941 : q130 ∈ L448 := sb453 _ h939
  have h942 : f504 q130 = .inr (4, [.ref q23, .ref q112, .ref q141, .ref q142, .int (0 : Int32)]) := ((congrFun ef504 q130).trans (va_up_ne _ _ (g_neOA h940 h502))).trans h940
  have h943 : f513 q130 = .inr (4, [.ref q23, .ref q112, .ref q141, .ref q142, .int (0 : Int32)]) := ((congrFun ef513 q130).trans (va_up_ne _ _ (g_neL h941 n512))).trans h942
  have h944 : q130 ∈ L514 := sb515 _ h941
  have h945 : f520 q130 = .inr (4, [.ref q23, .ref q112, .ref q141, .ref q142, .int (0 : Int32)]) := (k527 q130 h944 (g_neO h943 h519 (by decide))).trans h943
  have h946 : q130 ∈ L521 := sb526 _ h944
  have h947 : f533 q130 = .inr (4, [.ref q23, .ref q112, .ref q141, .ref q142, .int (0 : Int32)]) := ((congrFun ef533 q130).trans (va_up_ne _ _ (g_neOA h945 h531))).trans h945
  have h948 : f542 q130 = .inr (4, [.ref q23, .ref q112, .ref q141, .ref q142, .int (0 : Int32)]) := ((congrFun ef542 q130).trans (va_up_ne _ _ (g_neL h946 n541))).trans h947
  have h949 : q130 ∈ L543 := sb544 _ h946
  have h950 : f555 q130 = .inr (4, [.ref q23, .ref q112, .ref q141, .ref q142, .int (0 : Int32)]) := (k562 q130 h949 (g_neO h948 h554 (by decide))).trans h948
  have h951 : q130 ∈ L556 := sb561 _ h949
  have h952 : f568 q130 = .inr (4, [.ref q23, .ref q112, .ref q141, .ref q142, .int (0 : Int32)]) := ((congrFun ef568 q130).trans (va_up_ne _ _ (g_neOA h950 h566))).trans h950
  have h953 : f577 q130 = .inr (4, [.ref q23, .ref q112, .ref q141, .ref q142, .int (0 : Int32)]) := ((congrFun ef577 q130).trans (va_up_ne _ _ (g_neL h951 n576))).trans h952
  have h954 : q130 ∈ L578 := sb579 _ h951
  have h955 : f596 q130 = .inr (4, [.ref q23, .ref q112, .ref q141, .ref q142, .int (0 : Int32)]) := (k603 q130 h954 (g_neO h953 h595 (by decide))).trans h953
  have h956 : q130 ∈ L597 := sb602 _ h954
  have h957 : f609 q130 = .inr (4, [.ref q23, .ref q112, .ref q141, .ref q142, .int (0 : Int32)]) := ((congrFun ef609 q130).trans (va_up_ne _ _ (g_neOA h955 h607))).trans h955
  have h958 : f442 q90 = .inl (E.2.2 4, 3, .inr (.inr (.inr (.inr (va_up (va_up (va_up (fun _ => none) 0 (some q216)) 1 (some q354)) 2 (some q394)))))) := ((congrFun ef442 q90).trans (va_up_ne _ _ (g_neL h432 n441))).trans h434
  have h959 : q90 ∈ L443 := sb444 _ h432
  have h960 : f447 q90 = .inl (E.2.2 4, 3, .inr (.inr (.inr (.inr (va_up (va_up (va_up (fun _ => none) 0 (some q216)) 1 (some q354)) 2 (some q394)))))) := (k454 q90 h959 (g_neAO h958 h446)).trans h958
  have h961 : q90 ∈ L448 := sb453 _ h959
  have h962 : f504 q90 = .inl (E.2.2 4, 3, .inr (.inr (.inr (.inr (va_up (va_up (va_up (fun _ => none) 0 (some q216)) 1 (some q354)) 2 (some q394)))))) := ((congrFun ef504 q90).trans (va_up_ne _ _ (g_neN h960 h502 (by decide)))).trans h960
  have h963 : f513 q90 = .inl (E.2.2 4, 3, .inr (.inr (.inr (.inr (va_up (va_up (va_up (fun _ => none) 0 (some q216)) 1 (some q354)) 2 (some q394)))))) := ((congrFun ef513 q90).trans (va_up_ne _ _ (g_neL h961 n512))).trans h962
  have h964 : q90 ∈ L514 := sb515 _ h961
  have h965 : f520 q90 = .inl (E.2.2 4, 3, .inr (.inr (.inr (.inr (va_up (va_up (va_up (fun _ => none) 0 (some q216)) 1 (some q354)) 2 (some q394)))))) := (k527 q90 h964 (g_neAO h963 h519)).trans h963
  have h966 : q90 ∈ L521 := sb526 _ h964
  have h967 : f533 q90 = .inl (E.2.2 4, 3, .inr (.inr (.inr (.inr (va_up (va_up (va_up (fun _ => none) 0 (some q216)) 1 (some q354)) 2 (some q394)))))) := ((congrFun ef533 q90).trans (va_up_ne _ _ (g_neN h965 h531 (by decide)))).trans h965
  have h968 : f542 q90 = .inl (E.2.2 4, 3, .inr (.inr (.inr (.inr (va_up (va_up (va_up (fun _ => none) 0 (some q216)) 1 (some q354)) 2 (some q394)))))) := ((congrFun ef542 q90).trans (va_up_ne _ _ (g_neL h966 n541))).trans h967
  have h969 : q90 ∈ L543 := sb544 _ h966
  have h970 : f555 q90 = .inl (E.2.2 4, 3, .inr (.inr (.inr (.inr (va_up (va_up (va_up (fun _ => none) 0 (some q216)) 1 (some q354)) 2 (some q394)))))) := (k562 q90 h969 (g_neAO h968 h554)).trans h968
  have h971 : q90 ∈ L556 := sb561 _ h969
  have h972 : f568 q90 = .inl (E.2.2 4, 3, .inr (.inr (.inr (.inr (va_up (va_up (va_up (fun _ => none) 0 (some q216)) 1 (some q354)) 2 (some q394)))))) := ((congrFun ef568 q90).trans (va_up_ne _ _ (g_neN h970 h566 (by decide)))).trans h970
  have h973 : f577 q90 = .inl (E.2.2 4, 3, .inr (.inr (.inr (.inr (va_up (va_up (va_up (fun _ => none) 0 (some q216)) 1 (some q354)) 2 (some q394)))))) := ((congrFun ef577 q90).trans (va_up_ne _ _ (g_neL h971 n576))).trans h972
  have h974 : q90 ∈ L578 := sb579 _ h971
  have h975 : f596 q90 = .inl (E.2.2 4, 3, .inr (.inr (.inr (.inr (va_up (va_up (va_up (fun _ => none) 0 (some q216)) 1 (some q354)) 2 (some q394)))))) := (k603 q90 h974 (g_neAO h973 h595)).trans h973
  have h976 : q90 ∈ L597 := sb602 _ h974
  have h977 : f609 q90 = .inl (E.2.2 4, 3, .inr (.inr (.inr (.inr (va_up (va_up (va_up (fun _ => none) 0 (some q216)) 1 (some q354)) 2 (some q394)))))) := ((congrFun ef609 q90).trans (va_up_ne _ _ (g_neN h975 h607 (by decide)))).trans h975
  have h978 : f214 q205 = .inl (E.2.2 3, 3, .inl (fun _ => 0)) := ((congrFun ef214 q205).trans (va_up_ne _ _ (g_neAO h211 h212))).trans h211
  have h979 : f218 q205 = .inl (E.2.2 3, 3, .inl (fun _ => 0)) := ((congrFun ef218 q205).trans (va_up_ne _ _ (g_neL h210 n217))).trans h978
  have h980 : q205 ∈ L219 := sb220 _ h210
  have h981 : f303 q205 = .inl (E.2.2 3, 3, .inl (fun _ => 0)) := (k309 q205 h980 (g_neAO h979 h302)).trans h979
  have h982 : q205 ∈ L304 := sb308 _ h980
  have h983 : f347 q205 = .inl (E.2.2 3, 3, .inl (fun _ => 0)) := ((congrFun ef347 q205).trans (va_up_ne _ _ (g_neP h981 h345))).trans h981
  have h984 : f356 q205 = .inl (E.2.2 3, 3, .inl (fun _ => 0)) := ((congrFun ef356 q205).trans (va_up_ne _ _ (g_neL h982 n355))).trans h983
  have h985 : q205 ∈ L357 := sb358 _ h982
  have h986 : f375 q205 = .inl (E.2.2 3, 3, .inl (fun _ => 0)) := (k381 q205 h985 (g_neAO h984 h374)).trans h984
  have h987 : q205 ∈ L376 := sb380 _ h985
  have h988 : f387 q205 = .inl (E.2.2 3, 3, .inl (fun _ => 0)) := ((congrFun ef387 q205).trans (va_up_ne _ _ (g_neP h986 h385))).trans h986
  have h989 : f396 q205 = .inl (E.2.2 3, 3, .inl (fun _ => 0)) := ((congrFun ef396 q205).trans (va_up_ne _ _ (g_neL h987 n395))).trans h988
  have h990 : q205 ∈ L397 := sb398 _ h987
  have h991 : f421 q205 = .inl (E.2.2 3, 3, .inl (fun _ => 0)) := (k427 q205 h990 (g_neAO h989 h420)).trans h989
  have h992 : q205 ∈ L422 := sb426 _ h990
  have h993 : f433 q205 = .inl (E.2.2 3, 3, .inl (fun _ => 0)) := ((congrFun ef433 q205).trans (va_up_ne _ _ (g_neP h991 h431))).trans h991
  have h994 : f442 q205 = .inl (E.2.2 3, 3, .inl (fun _ => 0)) := ((congrFun ef442 q205).trans (va_up_ne _ _ (g_neL h992 n441))).trans h993
  have h995 : q205 ∈ L443 := sb444 _ h992
  have h996 : f447 q205 = .inl (E.2.2 3, 3, .inl (fun _ => 0)) := (k454 q205 h995 (g_neAO h994 h446)).trans h994
  have h997 : q205 ∈ L448 := sb453 _ h995
  have h998 : f504 q205 = .inl (E.2.2 3, 3, .inl (fun _ => 0)) := ((congrFun ef504 q205).trans (va_up_ne _ _ (g_neP h996 h502))).trans h996
  have h999 : f513 q205 = .inl (E.2.2 3, 3, .inl (fun _ => 0)) := ((congrFun ef513 q205).trans (va_up_ne _ _ (g_neL h997 n512))).trans h998
  have h1000 : q205 ∈ L514 := sb515 _ h997
  have h1001 : f520 q205 = .inl (E.2.2 3, 3, .inl (fun _ => 0)) := (k527 q205 h1000 (g_neAO h999 h519)).trans h999
  have h1002 : q205 ∈ L521 := sb526 _ h1000
  have h1003 : f533 q205 = .inl (E.2.2 3, 3, .inl (fun _ => 0)) := ((congrFun ef533 q205).trans (va_up_ne _ _ (g_neP h1001 h531))).trans h1001
  have h1004 : f542 q205 = .inl (E.2.2 3, 3, .inl (fun _ => 0)) := ((congrFun ef542 q205).trans (va_up_ne _ _ (g_neL h1002 n541))).trans h1003
  have h1005 : q205 ∈ L543 := sb544 _ h1002
  have h1006 : f555 q205 = .inl (E.2.2 3, 3, .inl (fun _ => 0)) := (k562 q205 h1005 (g_neAO h1004 h554)).trans h1004
  have h1007 : q205 ∈ L556 := sb561 _ h1005
  have h1008 : f568 q205 = .inl (E.2.2 3, 3, .inl (fun _ => 0)) := ((congrFun ef568 q205).trans (va_up_ne _ _ (g_neP h1006 h566))).trans h1006
  have h1009 : f577 q205 = .inl (E.2.2 3, 3, .inl (fun _ => 0)) := ((congrFun ef577 q205).trans (va_up_ne _ _ (g_neL h1007 n576))).trans h1008
  have h1010 : q205 ∈ L578 := sb579 _ h1007
  have h1011 : f596 q205 = .inl (E.2.2 3, 3, .inl (fun _ => 0)) := (k603 q205 h1010 (g_neAO h1009 h595)).trans h1009
  have h1012 : q205 ∈ L597 := sb602 _ h1010
  have h1013 : f609 q205 = .inl (E.2.2 3, 3, .inl (fun _ => 0)) := ((congrFun ef609 q205).trans (va_up_ne _ _ (g_neP h1011 h607))).trans h1011
  have h1014 := gArrs_upO ef42 h40 h34
  have h1015 := gArrs_grow ef46 eL47 n45 h1014
  have h1016 := gArrs_grow ef55 eL56 n54 h1015
  have h1017 := gArrs_sub sb69 k70 h63 h1016
  have h1018 := gArrs_sub sb79 k80 h74 h1017
  have h1019 := gArrs_upO ef88 h86 h1018
  have h1020 := gArrs_grow ef92 eL93 n91 h1019
  have h1021 := gArrs_upO ef99 h97 h1020
  have h1022 := gArrs_grow ef103 eL104 n102 h1021
  have h1023 := gArrs_upO ef110 h108 h1022
  have h1024 := gArrs_grow ef114 eL115 n113 h1023
  have h1025 := gArrs_sub sb124 k125 h118 h1024
  have h1026 := gArrs_upO ef128 h126 h1025
  have h1027 := gArrs_grow ef132 eL133 n131 h1026
  have h1028 := gArrs_sub sb144 k145 h136 h1027
  have h1029 := gArrs_upO ef149 h147 h1028
  have h1030 := gArrs_grow ef153 eL154 n152 h1029
  have h1031 := gArrs_sub sb163 k164 h157 h1030
  have h1032 := gArrs_upO ef167 h165 h1031
  have h1033 := gArrs_grow ef171 eL172 n170 h1032
  have h1034 := gArrs_sub sb181 k182 h175 h1033
  have h1035 := gArrs_upO ef185 h183 h1034
  have h1036 := gArrs_grow ef189 eL190 n188 h1035
  have h1037 := gArrs_sub sb199 k200 h193 h1036
  have h1038 := gArrs_upO ef203 h201 h1037
  have h1039 := gArrs_grow ef207 eL208 n206 h1038
  have h1040 := gArrs_upO ef214 h212 h1039
  have h1041 := gArrs_grow ef218 eL219 n217 h1040
  have h1042 := gArrs_sub sb308 k309 h302 h1041
  have h1043 := gArrs_upQ ef347 h345 h1042
  have h1044 := gArrs_grow ef356 eL357 n355 h1043
  have h1045 := gArrs_sub sb380 k381 h374 h1044
  have h1046 := gArrs_upQ ef387 h385 h1045
  have h1047 := gArrs_grow ef396 eL397 n395 h1046
  have h1048 := gArrs_sub sb426 k427 h420 h1047
  have h1049 := gArrs_upQ ef433 h431 h1048
  have h1050 := gArrs_grow ef442 eL443 n441 h1049
  have h1051 := gArrs_sub sb453 k454 h446 h1050
  have h1052 := gArrs_upQ ef504 h502 h1051
  have h1053 := gArrs_grow ef513 eL514 n512 h1052
  have h1054 := gArrs_sub sb526 k527 h519 h1053
  have h1055 := gArrs_upQ ef533 h531 h1054
  have h1056 := gArrs_grow ef542 eL543 n541 h1055
  have h1057 := gArrs_sub sb561 k562 h554 h1056
  have h1058 := gArrs_upQ ef568 h566 h1057
  have h1059 := gArrs_grow ef577 eL578 n576 h1058
  have h1060 := gArrs_sub sb602 k603 h595 h1059
  have h1061 := gArrs_upQ ef609 h607 h1060
  have h1062 := gArrs_sub sb79 k80 h74 h68
  have h1063 := gArrs_upO ef88 h86 h1062
  have h1064 := gArrs_grow ef92 eL93 n91 h1063
  have h1065 := gArrs_upO ef99 h97 h1064
  have h1066 := gArrs_grow ef103 eL104 n102 h1065
  have h1067 := gArrs_upO ef110 h108 h1066
  have h1068 := gArrs_grow ef114 eL115 n113 h1067
  have h1069 := gArrs_sub sb124 k125 h118 h1068
  have h1070 := gArrs_upO ef128 h126 h1069
  have h1071 := gArrs_grow ef132 eL133 n131 h1070
  have h1072 := gArrs_sub sb144 k145 h136 h1071
  have h1073 := gArrs_upO ef149 h147 h1072
  have h1074 := gArrs_grow ef153 eL154 n152 h1073
  have h1075 := gArrs_sub sb163 k164 h157 h1074
  have h1076 := gArrs_upO ef167 h165 h1075
  have h1077 := gArrs_grow ef171 eL172 n170 h1076
  have h1078 := gArrs_sub sb181 k182 h175 h1077
  have h1079 := gArrs_upO ef185 h183 h1078
  have h1080 := gArrs_grow ef189 eL190 n188 h1079
  have h1081 := gArrs_sub sb199 k200 h193 h1080
  have h1082 := gArrs_upO ef203 h201 h1081
  have h1083 := gArrs_grow ef207 eL208 n206 h1082
  have h1084 := gArrs_upO ef214 h212 h1083
  have h1085 := gArrs_grow ef218 eL219 n217 h1084
  have h1086 := gArrs_sub sb308 k309 h302 h1085
  have h1087 := gArrs_upQ ef347 h345 h1086
  have h1088 := gArrs_grow ef356 eL357 n355 h1087
  have h1089 := gArrs_sub sb380 k381 h374 h1088
  have h1090 := gArrs_upQ ef387 h385 h1089
  have h1091 := gArrs_grow ef396 eL397 n395 h1090
  have h1092 := gArrs_sub sb426 k427 h420 h1091
  have h1093 := gArrs_upQ ef433 h431 h1092
  have h1094 := gArrs_grow ef442 eL443 n441 h1093
  have h1095 := gArrs_sub sb453 k454 h446 h1094
  have h1096 := gArrs_upQ ef504 h502 h1095
  have h1097 := gArrs_grow ef513 eL514 n512 h1096
  have h1098 := gArrs_sub sb526 k527 h519 h1097
  have h1099 := gArrs_upQ ef533 h531 h1098
  have h1100 := gArrs_grow ef542 eL543 n541 h1099
  have h1101 := gArrs_sub sb561 k562 h554 h1100
  have h1102 := gArrs_upQ ef568 h566 h1101
  have h1103 := gArrs_grow ef577 eL578 n576 h1102
  have h1104 := gArrs_sub sb602 k603 h595 h1103
  have h1105 := gArrs_upQ ef609 h607 h1104
  have h1106 : f577 q440 = .inr (6, [.ref q449, .int (-1 : Int32), .int (0 : Int32)]) := ((congrFun ef577 q440).trans (va_up_ne _ _ (g_neL h583 n576))).trans h584
  have h1107 : q440 ∈ L578 := sb579 _ h583
  have h1108 : f596 q440 = .inr (6, [.ref q449, .int (-1 : Int32), .int (0 : Int32)]) := (k603 q440 h1107 h585).trans h1106
  have h1109 : q440 ∈ L597 := sb602 _ h1107
  have h1110 : f609 q440 = .inr (6, [.ref q449, .int (-1 : Int32), .int (0 : Int32)]) := ((congrFun ef609 q440).trans (va_up_ne _ _ (g_neOA h1108 h607))).trans h1108
  have h1111 : f504 q449 = .inl (E.2.2 2, 60, .inr (.inl (fun _ => 0))) := ((congrFun ef504 q449).trans (va_up_ne _ _ (g_neN h452 h502 (by decide)))).trans h452
  have h1112 : f513 q449 = .inl (E.2.2 2, 60, .inr (.inl (fun _ => 0))) := ((congrFun ef513 q449).trans (va_up_ne _ _ (g_neL h451 n512))).trans h1111
  have h1113 : q449 ∈ L514 := sb515 _ h451
  have h1114 : f520 q449 = .inl (E.2.2 2, 60, .inr (.inl (fun _ => 0))) := (k527 q449 h1113 (g_neAO h1112 h519)).trans h1112
  have h1115 : q449 ∈ L521 := sb526 _ h1113
  have h1116 : f533 q449 = .inl (E.2.2 2, 60, .inr (.inl (fun _ => 0))) := ((congrFun ef533 q449).trans (va_up_ne _ _ (g_neN h1114 h531 (by decide)))).trans h1114
  have h1117 : f542 q449 = .inl (E.2.2 2, 60, .inr (.inl (fun _ => 0))) := ((congrFun ef542 q449).trans (va_up_ne _ _ (g_neL h1115 n541))).trans h1116
  have h1118 : q449 ∈ L543 := sb544 _ h1115
  have h1119 : f555 q449 = .inl (E.2.2 2, 60, .inr (.inl (fun _ => 0))) := (k562 q449 h1118 (g_neAO h1117 h554)).trans h1117
  have h1120 : q449 ∈ L556 := sb561 _ h1118
  have h1121 : f568 q449 = .inl (E.2.2 2, 60, .inr (.inl (fun _ => 0))) := ((congrFun ef568 q449).trans (va_up_ne _ _ (g_neN h1119 h566 (by decide)))).trans h1119
  have h1122 : f577 q449 = .inl (E.2.2 2, 60, .inr (.inl (fun _ => 0))) := ((congrFun ef577 q449).trans (va_up_ne _ _ (g_neL h1120 n576))).trans h1121
  have h1123 : q449 ∈ L578 := sb579 _ h1120
  have h1124 : f596 q449 = .inl (E.2.2 2, 60, .inr (.inl (fun _ => 0))) := (k603 q449 h1123 (g_neAO h1122 h595)).trans h1122
  have h1125 : q449 ∈ L597 := sb602 _ h1123
  have h1126 : f609 q449 = .inl (E.2.2 2, 60, .inr (.inl (fun _ => 0))) := ((congrFun ef609 q449).trans (va_up_ne _ _ (g_neN h1124 h607 (by decide)))).trans h1124
  have h1127 : f577 q511 = .inr (6, [.ref q522, .int (-1 : Int32), .int (0 : Int32)]) := ((congrFun ef577 q511).trans (va_up_ne _ _ (g_neL h589 n576))).trans h590
  have h1128 : q511 ∈ L578 := sb579 _ h589
  have h1129 : f596 q511 = .inr (6, [.ref q522, .int (-1 : Int32), .int (0 : Int32)]) := (k603 q511 h1128 h591).trans h1127
  have h1130 : q511 ∈ L597 := sb602 _ h1128
  have h1131 : f609 q511 = .inr (6, [.ref q522, .int (-1 : Int32), .int (0 : Int32)]) := ((congrFun ef609 q511).trans (va_up_ne _ _ (g_neOA h1129 h607))).trans h1129
  have h1132 : f533 q522 = .inl (E.2.2 2, 60, .inr (.inl (fun _ => 0))) := ((congrFun ef533 q522).trans (va_up_ne _ _ (g_neN h525 h531 (by decide)))).trans h525
  have h1133 : f542 q522 = .inl (E.2.2 2, 60, .inr (.inl (fun _ => 0))) := ((congrFun ef542 q522).trans (va_up_ne _ _ (g_neL h524 n541))).trans h1132
  have h1134 : q522 ∈ L543 := sb544 _ h524
  have h1135 : f555 q522 = .inl (E.2.2 2, 60, .inr (.inl (fun _ => 0))) := (k562 q522 h1134 (g_neAO h1133 h554)).trans h1133
  have h1136 : q522 ∈ L556 := sb561 _ h1134
  have h1137 : f568 q522 = .inl (E.2.2 2, 60, .inr (.inl (fun _ => 0))) := ((congrFun ef568 q522).trans (va_up_ne _ _ (g_neN h1135 h566 (by decide)))).trans h1135
  have h1138 : f577 q522 = .inl (E.2.2 2, 60, .inr (.inl (fun _ => 0))) := ((congrFun ef577 q522).trans (va_up_ne _ _ (g_neL h1136 n576))).trans h1137
  have h1139 : q522 ∈ L578 := sb579 _ h1136
  have h1140 : f596 q522 = .inl (E.2.2 2, 60, .inr (.inl (fun _ => 0))) := (k603 q522 h1139 (g_neAO h1138 h595)).trans h1138
  have h1141 : q522 ∈ L597 := sb602 _ h1139
  have h1142 : f609 q522 = .inl (E.2.2 2, 60, .inr (.inl (fun _ => 0))) := ((congrFun ef609 q522).trans (va_up_ne _ _ (g_neN h1140 h607 (by decide)))).trans h1140
  have h1143 : f577 q540 = .inr (6, [.ref q557, .int (-1 : Int32), .int (0 : Int32)]) := ((congrFun ef577 q540).trans (va_up_ne _ _ (g_neL h563 n576))).trans h592
  have h1144 : q540 ∈ L578 := sb579 _ h563
  have h1145 : f596 q540 = .inr (6, [.ref q557, .int (-1 : Int32), .int (0 : Int32)]) := (k603 q540 h1144 h593).trans h1143
  have h1146 : q540 ∈ L597 := sb602 _ h1144
  have h1147 : f609 q540 = .inr (6, [.ref q557, .int (-1 : Int32), .int (0 : Int32)]) := ((congrFun ef609 q540).trans (va_up_ne _ _ (g_neOA h1145 h607))).trans h1145
  have h1148 : f568 q557 = .inl (E.2.2 2, 60, .inr (.inl (fun _ => 0))) := ((congrFun ef568 q557).trans (va_up_ne _ _ (g_neN h560 h566 (by decide)))).trans h560
  have h1149 : f577 q557 = .inl (E.2.2 2, 60, .inr (.inl (fun _ => 0))) := ((congrFun ef577 q557).trans (va_up_ne _ _ (g_neL h559 n576))).trans h1148
  have h1150 : q557 ∈ L578 := sb579 _ h559
  have h1151 : f596 q557 = .inl (E.2.2 2, 60, .inr (.inl (fun _ => 0))) := (k603 q557 h1150 (g_neAO h1149 h595)).trans h1149
  have h1152 : q557 ∈ L597 := sb602 _ h1150
  have h1153 : f609 q557 = .inl (E.2.2 2, 60, .inr (.inl (fun _ => 0))) := ((congrFun ef609 q557).trans (va_up_ne _ _ (g_neN h1151 h607 (by decide)))).trans h1151
  have h1154 : f609 q575 = .inr (6, [.ref q598, .int (-1 : Int32), .int (0 : Int32)]) := ((congrFun ef609 q575).trans (va_up_ne _ _ (g_neOA h599 h607))).trans h599
  have h1155 : f609 q598 = .inl (E.2.2 2, 60, .inr (.inl (fun _ => 0))) := ((congrFun ef609 q598).trans (va_up_ne _ _ (g_neN h601 h607 (by decide)))).trans h601
  have h1156 : f396 q216 = .inr (3, [.int (0 : Int32), .int (0 : Int32), .int (0 : Int32), .int (0 : Int32), .int (0 : Int32), .int (0 : Int32), .int (0 : Int32), .int (0 : Int32), .int (0 : Int32), .int (0 : Int32), .ref (na305 0), .ref (na305 1), .ref (na305 2), .ref (na305 3), .ref (na305 4), .ref (na305 5), .ref (na305 6), .ref (na305 7), .ref (na305 8), .ref (na305 9)]) := ((congrFun ef396 q216).trans (va_up_ne _ _ (g_neL h414 n395))).trans h415
  have h1157 : q216 ∈ L397 := sb398 _ h414
  have h1158 : f421 q216 = .inr (3, [.int (0 : Int32), .int (0 : Int32), .int (0 : Int32), .int (0 : Int32), .int (0 : Int32), .int (0 : Int32), .int (0 : Int32), .int (0 : Int32), .int (0 : Int32), .int (0 : Int32), .ref (na305 0), .ref (na305 1), .ref (na305 2), .ref (na305 3), .ref (na305 4), .ref (na305 5), .ref (na305 6), .ref (na305 7), .ref (na305 8), .ref (na305 9)]) := (k427 q216 h1157 h416).trans h1156
  have h1159 : q216 ∈ L422 := sb426 _ h1157
  have h1160 : f433 q216 = .inr (3, [.int (0 : Int32), .int (0 : Int32), .int (0 : Int32), .int (0 : Int32), .int (0 : Int32), .int (0 : Int32), .int (0 : Int32), .int (0 : Int32), .int (0 : Int32), .int (0 : Int32), .ref (na305 0), .ref (na305 1), .ref (na305 2), .ref (na305 3), .ref (na305 4), .ref (na305 5), .ref (na305 6), .ref (na305 7), .ref (na305 8), .ref (na305 9)]) := ((congrFun ef433 q216).trans (va_up_ne _ _ (g_neOA h1158 h431))).trans h1158
  have h1161 : f442 q216 = .inr (3, [.int (0 : Int32), .int (0 : Int32), .int (0 : Int32), .int (0 : Int32), .int (0 : Int32), .int (0 : Int32), .int (0 : Int32), .int (0 : Int32), .int (0 : Int32), .int (0 : Int32), .ref (na305 0), .ref (na305 1), .ref (na305 2), .ref (na305 3), .ref (na305 4), .ref (na305 5), .ref (na305 6), .ref (na305 7), .ref (na305 8), .ref (na305 9)]) := ((congrFun ef442 q216).trans (va_up_ne _ _ (g_neL h1159 n441))).trans h1160
  have h1162 : q216 ∈ L443 := sb444 _ h1159
  have h1163 : f447 q216 = .inr (3, [.int (0 : Int32), .int (0 : Int32), .int (0 : Int32), .int (0 : Int32), .int (0 : Int32), .int (0 : Int32), .int (0 : Int32), .int (0 : Int32), .int (0 : Int32), .int (0 : Int32), .ref (na305 0), .ref (na305 1), .ref (na305 2), .ref (na305 3), .ref (na305 4), .ref (na305 5), .ref (na305 6), .ref (na305 7), .ref (na305 8), .ref (na305 9)]) := (k454 q216 h1162 (g_neO h1161 h446 (by decide))).trans h1161
  have h1164 : q216 ∈ L448 := sb453 _ h1162
  have h1165 : f504 q216 = .inr (3, [.int (0 : Int32), .int (0 : Int32), .int (0 : Int32), .int (0 : Int32), .int (0 : Int32), .int (0 : Int32), .int (0 : Int32), .int (0 : Int32), .int (0 : Int32), .int (0 : Int32), .ref (na305 0), .ref (na305 1), .ref (na305 2), .ref (na305 3), .ref (na305 4), .ref (na305 5), .ref (na305 6), .ref (na305 7), .ref (na305 8), .ref (na305 9)]) := ((congrFun ef504 q216).trans (va_up_ne _ _ (g_neOA h1163 h502))).trans h1163
  have h1166 : f513 q216 = .inr (3, [.int (0 : Int32), .int (0 : Int32), .int (0 : Int32), .int (0 : Int32), .int (0 : Int32), .int (0 : Int32), .int (0 : Int32), .int (0 : Int32), .int (0 : Int32), .int (0 : Int32), .ref (na305 0), .ref (na305 1), .ref (na305 2), .ref (na305 3), .ref (na305 4), .ref (na305 5), .ref (na305 6), .ref (na305 7), .ref (na305 8), .ref (na305 9)]) := ((congrFun ef513 q216).trans (va_up_ne _ _ (g_neL h1164 n512))).trans h1165
  have h1167 : q216 ∈ L514 := sb515 _ h1164
  have h1168 : f520 q216 = .inr (3, [.int (0 : Int32), .int (0 : Int32), .int (0 : Int32), .int (0 : Int32), .int (0 : Int32), .int (0 : Int32), .int (0 : Int32), .int (0 : Int32), .int (0 : Int32), .int (0 : Int32), .ref (na305 0), .ref (na305 1), .ref (na305 2), .ref (na305 3), .ref (na305 4), .ref (na305 5), .ref (na305 6), .ref (na305 7), .ref (na305 8), .ref (na305 9)]) := (k527 q216 h1167 (g_neO h1166 h519 (by decide))).trans h1166
  have h1169 : q216 ∈ L521 := sb526 _ h1167
  have h1170 : f533 q216 = .inr (3, [.int (0 : Int32), .int (0 : Int32), .int (0 : Int32), .int (0 : Int32), .int (0 : Int32), .int (0 : Int32), .int (0 : Int32), .int (0 : Int32), .int (0 : Int32), .int (0 : Int32), .ref (na305 0), .ref (na305 1), .ref (na305 2), .ref (na305 3), .ref (na305 4), .ref (na305 5), .ref (na305 6), .ref (na305 7), .ref (na305 8), .ref (na305 9)]) := ((congrFun ef533 q216).trans (va_up_ne _ _ (g_neOA h1168 h531))).trans h1168
  have h1171 : f542 q216 = .inr (3, [.int (0 : Int32), .int (0 : Int32), .int (0 : Int32), .int (0 : Int32), .int (0 : Int32), .int (0 : Int32), .int (0 : Int32), .int (0 : Int32), .int (0 : Int32), .int (0 : Int32), .ref (na305 0), .ref (na305 1), .ref (na305 2), .ref (na305 3), .ref (na305 4), .ref (na305 5), .ref (na305 6), .ref (na305 7), .ref (na305 8), .ref (na305 9)]) := ((congrFun ef542 q216).trans (va_up_ne _ _ (g_neL h1169 n541))).trans h1170
  have h1172 : q216 ∈ L543 := sb544 _ h1169
  have h1173 : f555 q216 = .inr (3, [.int (0 : Int32), .int (0 : Int32), .int (0 : Int32), .int (0 : Int32), .int (0 : Int32), .int (0 : Int32), .int (0 : Int32), .int (0 : Int32), .int (0 : Int32), .int (0 : Int32), .ref (na305 0), .ref (na305 1), .ref (na305 2), .ref (na305 3), .ref (na305 4), .ref (na305 5), .ref (na305 6), .ref (na305 7), .ref (na305 8), .ref (na305 9)]) := (k562 q216 h1172 (g_neO h1171 h554 (by decide))).trans h1171
  have h1174 : q216 ∈ L556 := sb561 _ h1172
  have h1175 : f568 q216 = .inr (3, [.int (0 : Int32), .int (0 : Int32), .int (0 : Int32), .int (0 : Int32), .int (0 : Int32), .int (0 : Int32), .int (0 : Int32), .int (0 : Int32), .int (0 : Int32), .int (0 : Int32), .ref (na305 0), .ref (na305 1), .ref (na305 2), .ref (na305 3), .ref (na305 4), .ref (na305 5), .ref (na305 6), .ref (na305 7), .ref (na305 8), .ref (na305 9)]) := ((congrFun ef568 q216).trans (va_up_ne _ _ (g_neOA h1173 h566))).trans h1173
  have h1176 : f577 q216 = .inr (3, [.int (0 : Int32), .int (0 : Int32), .int (0 : Int32), .int (0 : Int32), .int (0 : Int32), .int (0 : Int32), .int (0 : Int32), .int (0 : Int32), .int (0 : Int32), .int (0 : Int32), .ref (na305 0), .ref (na305 1), .ref (na305 2), .ref (na305 3), .ref (na305 4), .ref (na305 5), .ref (na305 6), .ref (na305 7), .ref (na305 8), .ref (na305 9)]) := ((congrFun ef577 q216).trans (va_up_ne _ _ (g_neL h1174 n576))).trans h1175
  have h1177 : q216 ∈ L578 := sb579 _ h1174
  have h1178 : f596 q216 = .inr (3, [.int (0 : Int32), .int (0 : Int32), .int (0 : Int32), .int (0 : Int32), .int (0 : Int32), .int (0 : Int32), .int (0 : Int32), .int (0 : Int32), .int (0 : Int32), .int (0 : Int32), .ref (na305 0), .ref (na305 1), .ref (na305 2), .ref (na305 3), .ref (na305 4), .ref (na305 5), .ref (na305 6), .ref (na305 7), .ref (na305 8), .ref (na305 9)]) := (k603 q216 h1177 (g_neO h1176 h595 (by decide))).trans h1176
  have h1179 : q216 ∈ L597 := sb602 _ h1177
  have h1180 : f609 q216 = .inr (3, [.int (0 : Int32), .int (0 : Int32), .int (0 : Int32), .int (0 : Int32), .int (0 : Int32), .int (0 : Int32), .int (0 : Int32), .int (0 : Int32), .int (0 : Int32), .int (0 : Int32), .ref (na305 0), .ref (na305 1), .ref (na305 2), .ref (na305 3), .ref (na305 4), .ref (na305 5), .ref (na305 6), .ref (na305 7), .ref (na305 8), .ref (na305 9)]) := ((congrFun ef609 q216).trans (va_up_ne _ _ (g_neOA h1178 h607))).trans h1178
  have h1181 := gArrs_upQ ef347 h345 h307
  have h1182 := gArrs_grow ef356 eL357 n355 h1181
  have h1183 := gArrs_sub sb380 k381 h374 h1182
  have h1184 := gArrs_upQ ef387 h385 h1183
  have h1185 := gArrs_grow ef396 eL397 n395 h1184
  have h1186 := gArrs_sub sb426 k427 h420 h1185
  have h1187 := gArrs_upQ ef433 h431 h1186
  have h1188 := gArrs_grow ef442 eL443 n441 h1187
  have h1189 := gArrs_sub sb453 k454 h446 h1188
  have h1190 := gArrs_upQ ef504 h502 h1189
  have h1191 := gArrs_grow ef513 eL514 n512 h1190
  have h1192 := gArrs_sub sb526 k527 h519 h1191
  have h1193 := gArrs_upQ ef533 h531 h1192
  have h1194 := gArrs_grow ef542 eL543 n541 h1193
  have h1195 := gArrs_sub sb561 k562 h554 h1194
  have h1196 := gArrs_upQ ef568 h566 h1195
  have h1197 := gArrs_grow ef577 eL578 n576 h1196
  have h1198 := gArrs_sub sb602 k603 h595 h1197
  have h1199 := gArrs_upQ ef609 h607 h1198
  have h1200 : f396 q354 = .inr (3, [.int (0 : Int32), .int (0 : Int32), .int (0 : Int32), .int (0 : Int32), .int (0 : Int32), .int (0 : Int32), .int (0 : Int32), .int (0 : Int32), .int (0 : Int32), .int (0 : Int32), .ref (na377 0), .ref (na377 1), .ref (na377 2), .ref (na377 3), .ref (na377 4), .ref (na377 5), .ref (na377 6), .ref (na377 7), .ref (na377 8), .ref (na377 9)]) := ((congrFun ef396 q354).trans (va_up_ne _ _ (g_neL h382 n395))).trans h417
  have h1201 : q354 ∈ L397 := sb398 _ h382
  have h1202 : f421 q354 = .inr (3, [.int (0 : Int32), .int (0 : Int32), .int (0 : Int32), .int (0 : Int32), .int (0 : Int32), .int (0 : Int32), .int (0 : Int32), .int (0 : Int32), .int (0 : Int32), .int (0 : Int32), .ref (na377 0), .ref (na377 1), .ref (na377 2), .ref (na377 3), .ref (na377 4), .ref (na377 5), .ref (na377 6), .ref (na377 7), .ref (na377 8), .ref (na377 9)]) := (k427 q354 h1201 h418).trans h1200
  have h1203 : q354 ∈ L422 := sb426 _ h1201
  have h1204 : f433 q354 = .inr (3, [.int (0 : Int32), .int (0 : Int32), .int (0 : Int32), .int (0 : Int32), .int (0 : Int32), .int (0 : Int32), .int (0 : Int32), .int (0 : Int32), .int (0 : Int32), .int (0 : Int32), .ref (na377 0), .ref (na377 1), .ref (na377 2), .ref (na377 3), .ref (na377 4), .ref (na377 5), .ref (na377 6), .ref (na377 7), .ref (na377 8), .ref (na377 9)]) := ((congrFun ef433 q354).trans (va_up_ne _ _ (g_neOA h1202 h431))).trans h1202
  have h1205 : f442 q354 = .inr (3, [.int (0 : Int32), .int (0 : Int32), .int (0 : Int32), .int (0 : Int32), .int (0 : Int32), .int (0 : Int32), .int (0 : Int32), .int (0 : Int32), .int (0 : Int32), .int (0 : Int32), .ref (na377 0), .ref (na377 1), .ref (na377 2), .ref (na377 3), .ref (na377 4), .ref (na377 5), .ref (na377 6), .ref (na377 7), .ref (na377 8), .ref (na377 9)]) := ((congrFun ef442 q354).trans (va_up_ne _ _ (g_neL h1203 n441))).trans h1204
  have h1206 : q354 ∈ L443 := sb444 _ h1203
  have h1207 : f447 q354 = .inr (3, [.int (0 : Int32), .int (0 : Int32), .int (0 : Int32), .int (0 : Int32), .int (0 : Int32), .int (0 : Int32), .int (0 : Int32), .int (0 : Int32), .int (0 : Int32), .int (0 : Int32), .ref (na377 0), .ref (na377 1), .ref (na377 2), .ref (na377 3), .ref (na377 4), .ref (na377 5), .ref (na377 6), .ref (na377 7), .ref (na377 8), .ref (na377 9)]) := (k454 q354 h1206 (g_neO h1205 h446 (by decide))).trans h1205
  have h1208 : q354 ∈ L448 := sb453 _ h1206
  have h1209 : f504 q354 = .inr (3, [.int (0 : Int32), .int (0 : Int32), .int (0 : Int32), .int (0 : Int32), .int (0 : Int32), .int (0 : Int32), .int (0 : Int32), .int (0 : Int32), .int (0 : Int32), .int (0 : Int32), .ref (na377 0), .ref (na377 1), .ref (na377 2), .ref (na377 3), .ref (na377 4), .ref (na377 5), .ref (na377 6), .ref (na377 7), .ref (na377 8), .ref (na377 9)]) := ((congrFun ef504 q354).trans (va_up_ne _ _ (g_neOA h1207 h502))).trans h1207
  have h1210 : f513 q354 = .inr (3, [.int (0 : Int32), .int (0 : Int32), .int (0 : Int32), .int (0 : Int32), .int (0 : Int32), .int (0 : Int32), .int (0 : Int32), .int (0 : Int32), .int (0 : Int32), .int (0 : Int32), .ref (na377 0), .ref (na377 1), .ref (na377 2), .ref (na377 3), .ref (na377 4), .ref (na377 5), .ref (na377 6), .ref (na377 7), .ref (na377 8), .ref (na377 9)]) := ((congrFun ef513 q354).trans (va_up_ne _ _ (g_neL h1208 n512))).trans h1209
  have h1211 : q354 ∈ L514 := sb515 _ h1208
  have h1212 : f520 q354 = .inr (3, [.int (0 : Int32), .int (0 : Int32), .int (0 : Int32), .int (0 : Int32), .int (0 : Int32), .int (0 : Int32), .int (0 : Int32), .int (0 : Int32), .int (0 : Int32), .int (0 : Int32), .ref (na377 0), .ref (na377 1), .ref (na377 2), .ref (na377 3), .ref (na377 4), .ref (na377 5), .ref (na377 6), .ref (na377 7), .ref (na377 8), .ref (na377 9)]) := (k527 q354 h1211 (g_neO h1210 h519 (by decide))).trans h1210
  have h1213 : q354 ∈ L521 := sb526 _ h1211
  have h1214 : f533 q354 = .inr (3, [.int (0 : Int32), .int (0 : Int32), .int (0 : Int32), .int (0 : Int32), .int (0 : Int32), .int (0 : Int32), .int (0 : Int32), .int (0 : Int32), .int (0 : Int32), .int (0 : Int32), .ref (na377 0), .ref (na377 1), .ref (na377 2), .ref (na377 3), .ref (na377 4), .ref (na377 5), .ref (na377 6), .ref (na377 7), .ref (na377 8), .ref (na377 9)]) := ((congrFun ef533 q354).trans (va_up_ne _ _ (g_neOA h1212 h531))).trans h1212
  have h1215 : f542 q354 = .inr (3, [.int (0 : Int32), .int (0 : Int32), .int (0 : Int32), .int (0 : Int32), .int (0 : Int32), .int (0 : Int32), .int (0 : Int32), .int (0 : Int32), .int (0 : Int32), .int (0 : Int32), .ref (na377 0), .ref (na377 1), .ref (na377 2), .ref (na377 3), .ref (na377 4), .ref (na377 5), .ref (na377 6), .ref (na377 7), .ref (na377 8), .ref (na377 9)]) := ((congrFun ef542 q354).trans (va_up_ne _ _ (g_neL h1213 n541))).trans h1214
  have h1216 : q354 ∈ L543 := sb544 _ h1213
  have h1217 : f555 q354 = .inr (3, [.int (0 : Int32), .int (0 : Int32), .int (0 : Int32), .int (0 : Int32), .int (0 : Int32), .int (0 : Int32), .int (0 : Int32), .int (0 : Int32), .int (0 : Int32), .int (0 : Int32), .ref (na377 0), .ref (na377 1), .ref (na377 2), .ref (na377 3), .ref (na377 4), .ref (na377 5), .ref (na377 6), .ref (na377 7), .ref (na377 8), .ref (na377 9)]) := (k562 q354 h1216 (g_neO h1215 h554 (by decide))).trans h1215
  have h1218 : q354 ∈ L556 := sb561 _ h1216
  have h1219 : f568 q354 = .inr (3, [.int (0 : Int32), .int (0 : Int32), .int (0 : Int32), .int (0 : Int32), .int (0 : Int32), .int (0 : Int32), .int (0 : Int32), .int (0 : Int32), .int (0 : Int32), .int (0 : Int32), .ref (na377 0), .ref (na377 1), .ref (na377 2), .ref (na377 3), .ref (na377 4), .ref (na377 5), .ref (na377 6), .ref (na377 7), .ref (na377 8), .ref (na377 9)]) := ((congrFun ef568 q354).trans (va_up_ne _ _ (g_neOA h1217 h566))).trans h1217
  have h1220 : f577 q354 = .inr (3, [.int (0 : Int32), .int (0 : Int32), .int (0 : Int32), .int (0 : Int32), .int (0 : Int32), .int (0 : Int32), .int (0 : Int32), .int (0 : Int32), .int (0 : Int32), .int (0 : Int32), .ref (na377 0), .ref (na377 1), .ref (na377 2), .ref (na377 3), .ref (na377 4), .ref (na377 5), .ref (na377 6), .ref (na377 7), .ref (na377 8), .ref (na377 9)]) := ((congrFun ef577 q354).trans (va_up_ne _ _ (g_neL h1218 n576))).trans h1219
  have h1221 : q354 ∈ L578 := sb579 _ h1218
  have h1222 : f596 q354 = .inr (3, [.int (0 : Int32), .int (0 : Int32), .int (0 : Int32), .int (0 : Int32), .int (0 : Int32), .int (0 : Int32), .int (0 : Int32), .int (0 : Int32), .int (0 : Int32), .int (0 : Int32), .ref (na377 0), .ref (na377 1), .ref (na377 2), .ref (na377 3), .ref (na377 4), .ref (na377 5), .ref (na377 6), .ref (na377 7), .ref (na377 8), .ref (na377 9)]) := (k603 q354 h1221 (g_neO h1220 h595 (by decide))).trans h1220
  have h1223 : q354 ∈ L597 := sb602 _ h1221
  have h1224 : f609 q354 = .inr (3, [.int (0 : Int32), .int (0 : Int32), .int (0 : Int32), .int (0 : Int32), .int (0 : Int32), .int (0 : Int32), .int (0 : Int32), .int (0 : Int32), .int (0 : Int32), .int (0 : Int32), .ref (na377 0), .ref (na377 1), .ref (na377 2), .ref (na377 3), .ref (na377 4), .ref (na377 5), .ref (na377 6), .ref (na377 7), .ref (na377 8), .ref (na377 9)]) := ((congrFun ef609 q354).trans (va_up_ne _ _ (g_neOA h1222 h607))).trans h1222
  have h1225 := gArrs_upQ ef387 h385 h379
  have h1226 := gArrs_grow ef396 eL397 n395 h1225
  have h1227 := gArrs_sub sb426 k427 h420 h1226
  have h1228 := gArrs_upQ ef433 h431 h1227
  have h1229 := gArrs_grow ef442 eL443 n441 h1228
  have h1230 := gArrs_sub sb453 k454 h446 h1229
  have h1231 := gArrs_upQ ef504 h502 h1230
  have h1232 := gArrs_grow ef513 eL514 n512 h1231
  have h1233 := gArrs_sub sb526 k527 h519 h1232
  have h1234 := gArrs_upQ ef533 h531 h1233
  have h1235 := gArrs_grow ef542 eL543 n541 h1234
  have h1236 := gArrs_sub sb561 k562 h554 h1235
  have h1237 := gArrs_upQ ef568 h566 h1236
  have h1238 := gArrs_grow ef577 eL578 n576 h1237
  have h1239 := gArrs_sub sb602 k603 h595 h1238
  have h1240 := gArrs_upQ ef609 h607 h1239
  have h1241 : f433 q394 = .inr (3, [.int (0 : Int32), .int (0 : Int32), .int (0 : Int32), .int (0 : Int32), .int (0 : Int32), .int (0 : Int32), .int (0 : Int32), .int (0 : Int32), .int (0 : Int32), .int (0 : Int32), .ref (na423 0), .ref (na423 1), .ref (na423 2), .ref (na423 3), .ref (na423 4), .ref (na423 5), .ref (na423 6), .ref (na423 7), .ref (na423 8), .ref (na423 9)]) := ((congrFun ef433 q394).trans (va_up_ne _ _ (g_neOA h424 h431))).trans h424
  have h1242 : f442 q394 = .inr (3, [.int (0 : Int32), .int (0 : Int32), .int (0 : Int32), .int (0 : Int32), .int (0 : Int32), .int (0 : Int32), .int (0 : Int32), .int (0 : Int32), .int (0 : Int32), .int (0 : Int32), .ref (na423 0), .ref (na423 1), .ref (na423 2), .ref (na423 3), .ref (na423 4), .ref (na423 5), .ref (na423 6), .ref (na423 7), .ref (na423 8), .ref (na423 9)]) := ((congrFun ef442 q394).trans (va_up_ne _ _ (g_neL h428 n441))).trans h1241
  have h1243 : q394 ∈ L443 := sb444 _ h428
  have h1244 : f447 q394 = .inr (3, [.int (0 : Int32), .int (0 : Int32), .int (0 : Int32), .int (0 : Int32), .int (0 : Int32), .int (0 : Int32), .int (0 : Int32), .int (0 : Int32), .int (0 : Int32), .int (0 : Int32), .ref (na423 0), .ref (na423 1), .ref (na423 2), .ref (na423 3), .ref (na423 4), .ref (na423 5), .ref (na423 6), .ref (na423 7), .ref (na423 8), .ref (na423 9)]) := (k454 q394 h1243 (g_neO h1242 h446 (by decide))).trans h1242
  have h1245 : q394 ∈ L448 := sb453 _ h1243
  have h1246 : f504 q394 = .inr (3, [.int (0 : Int32), .int (0 : Int32), .int (0 : Int32), .int (0 : Int32), .int (0 : Int32), .int (0 : Int32), .int (0 : Int32), .int (0 : Int32), .int (0 : Int32), .int (0 : Int32), .ref (na423 0), .ref (na423 1), .ref (na423 2), .ref (na423 3), .ref (na423 4), .ref (na423 5), .ref (na423 6), .ref (na423 7), .ref (na423 8), .ref (na423 9)]) := ((congrFun ef504 q394).trans (va_up_ne _ _ (g_neOA h1244 h502))).trans h1244
  have h1247 : f513 q394 = .inr (3, [.int (0 : Int32), .int (0 : Int32), .int (0 : Int32), .int (0 : Int32), .int (0 : Int32), .int (0 : Int32), .int (0 : Int32), .int (0 : Int32), .int (0 : Int32), .int (0 : Int32), .ref (na423 0), .ref (na423 1), .ref (na423 2), .ref (na423 3), .ref (na423 4), .ref (na423 5), .ref (na423 6), .ref (na423 7), .ref (na423 8), .ref (na423 9)]) := ((congrFun ef513 q394).trans (va_up_ne _ _ (g_neL h1245 n512))).trans h1246
  have h1248 : q394 ∈ L514 := sb515 _ h1245
  have h1249 : f520 q394 = .inr (3, [.int (0 : Int32), .int (0 : Int32), .int (0 : Int32), .int (0 : Int32), .int (0 : Int32), .int (0 : Int32), .int (0 : Int32), .int (0 : Int32), .int (0 : Int32), .int (0 : Int32), .ref (na423 0), .ref (na423 1), .ref (na423 2), .ref (na423 3), .ref (na423 4), .ref (na423 5), .ref (na423 6), .ref (na423 7), .ref (na423 8), .ref (na423 9)]) := (k527 q394 h1248 (g_neO h1247 h519 (by decide))).trans h1247
  have h1250 : q394 ∈ L521 := sb526 _ h1248
  have h1251 : f533 q394 = .inr (3, [.int (0 : Int32), .int (0 : Int32), .int (0 : Int32), .int (0 : Int32), .int (0 : Int32), .int (0 : Int32), .int (0 : Int32), .int (0 : Int32), .int (0 : Int32), .int (0 : Int32), .ref (na423 0), .ref (na423 1), .ref (na423 2), .ref (na423 3), .ref (na423 4), .ref (na423 5), .ref (na423 6), .ref (na423 7), .ref (na423 8), .ref (na423 9)]) := ((congrFun ef533 q394).trans (va_up_ne _ _ (g_neOA h1249 h531))).trans h1249
  have h1252 : f542 q394 = .inr (3, [.int (0 : Int32), .int (0 : Int32), .int (0 : Int32), .int (0 : Int32), .int (0 : Int32), .int (0 : Int32), .int (0 : Int32), .int (0 : Int32), .int (0 : Int32), .int (0 : Int32), .ref (na423 0), .ref (na423 1), .ref (na423 2), .ref (na423 3), .ref (na423 4), .ref (na423 5), .ref (na423 6), .ref (na423 7), .ref (na423 8), .ref (na423 9)]) := ((congrFun ef542 q394).trans (va_up_ne _ _ (g_neL h1250 n541))).trans h1251
  have h1253 : q394 ∈ L543 := sb544 _ h1250
  have h1254 : f555 q394 = .inr (3, [.int (0 : Int32), .int (0 : Int32), .int (0 : Int32), .int (0 : Int32), .int (0 : Int32), .int (0 : Int32), .int (0 : Int32), .int (0 : Int32), .int (0 : Int32), .int (0 : Int32), .ref (na423 0), .ref (na423 1), .ref (na423 2), .ref (na423 3), .ref (na423 4), .ref (na423 5), .ref (na423 6), .ref (na423 7), .ref (na423 8), .ref (na423 9)]) := (k562 q394 h1253 (g_neO h1252 h554 (by decide))).trans h1252
  have h1255 : q394 ∈ L556 := sb561 _ h1253
  have h1256 : f568 q394 = .inr (3, [.int (0 : Int32), .int (0 : Int32), .int (0 : Int32), .int (0 : Int32), .int (0 : Int32), .int (0 : Int32), .int (0 : Int32), .int (0 : Int32), .int (0 : Int32), .int (0 : Int32), .ref (na423 0), .ref (na423 1), .ref (na423 2), .ref (na423 3), .ref (na423 4), .ref (na423 5), .ref (na423 6), .ref (na423 7), .ref (na423 8), .ref (na423 9)]) := ((congrFun ef568 q394).trans (va_up_ne _ _ (g_neOA h1254 h566))).trans h1254
  have h1257 : f577 q394 = .inr (3, [.int (0 : Int32), .int (0 : Int32), .int (0 : Int32), .int (0 : Int32), .int (0 : Int32), .int (0 : Int32), .int (0 : Int32), .int (0 : Int32), .int (0 : Int32), .int (0 : Int32), .ref (na423 0), .ref (na423 1), .ref (na423 2), .ref (na423 3), .ref (na423 4), .ref (na423 5), .ref (na423 6), .ref (na423 7), .ref (na423 8), .ref (na423 9)]) := ((congrFun ef577 q394).trans (va_up_ne _ _ (g_neL h1255 n576))).trans h1256
  have h1258 : q394 ∈ L578 := sb579 _ h1255
  have h1259 : f596 q394 = .inr (3, [.int (0 : Int32), .int (0 : Int32), .int (0 : Int32), .int (0 : Int32), .int (0 : Int32), .int (0 : Int32), .int (0 : Int32), .int (0 : Int32), .int (0 : Int32), .int (0 : Int32), .ref (na423 0), .ref (na423 1), .ref (na423 2), .ref (na423 3), .ref (na423 4), .ref (na423 5), .ref (na423 6), .ref (na423 7), .ref (na423 8), .ref (na423 9)]) := (k603 q394 h1258 (g_neO h1257 h595 (by decide))).trans h1257
  have h1260 : q394 ∈ L597 := sb602 _ h1258
  have h1261 : f609 q394 = .inr (3, [.int (0 : Int32), .int (0 : Int32), .int (0 : Int32), .int (0 : Int32), .int (0 : Int32), .int (0 : Int32), .int (0 : Int32), .int (0 : Int32), .int (0 : Int32), .int (0 : Int32), .ref (na423 0), .ref (na423 1), .ref (na423 2), .ref (na423 3), .ref (na423 4), .ref (na423 5), .ref (na423 6), .ref (na423 7), .ref (na423 8), .ref (na423 9)]) := ((congrFun ef609 q394).trans (va_up_ne _ _ (g_neOA h1259 h607))).trans h1259
  have h1262 := gArrs_upQ ef433 h431 h425
  have h1263 := gArrs_grow ef442 eL443 n441 h1262
  have h1264 := gArrs_sub sb453 k454 h446 h1263
  have h1265 := gArrs_upQ ef504 h502 h1264
  have h1266 := gArrs_grow ef513 eL514 n512 h1265
  have h1267 := gArrs_sub sb526 k527 h519 h1266
  have h1268 := gArrs_upQ ef533 h531 h1267
  have h1269 := gArrs_grow ef542 eL543 n541 h1268
  have h1270 := gArrs_sub sb561 k562 h554 h1269
  have h1271 := gArrs_upQ ef568 h566 h1270
  have h1272 := gArrs_grow ef577 eL578 n576 h1271
  have h1273 := gArrs_sub sb602 k603 h595 h1272
  have h1274 := gArrs_upQ ef609 h607 h1273
  refine ⟨⟨q1, q23, q44, q90, q101, q112, q130, q151, q169, q187, q205, q10, q53, q141, q142, na32, na66, _, _, h614, h615, h698, h699, h782, h783, h807, h808, h877, h878, h902, h903, h956, h957, h608, h610, h976, h977, h1012, h1013, h1061, h1105, h61, ?_, ?_⟩, ?_, ?_⟩
  · intro k hk
    rcases (show k = 0 ∨ k = 1 ∨ k = 2 ∨ k = 3 by omega) with rfl | rfl | rfl | rfl
    · exact ⟨q440, q449, _, rfl, h1109, h1110, h1125, h1126⟩
    · exact ⟨q511, q522, _, rfl, h1130, h1131, h1141, h1142⟩
    · exact ⟨q540, q557, _, rfl, h1146, h1147, h1152, h1153⟩
    · exact ⟨q575, q598, _, rfl, h604, h1154, h600, h1155⟩
  · intro k hk
    rcases (show k = 0 ∨ k = 1 ∨ k = 2 by omega) with rfl | rfl | rfl
    · exact ⟨q216, na305, rfl, h1179, h1180, h1199, Ne.symm h262⟩
    · exact ⟨q354, na377, rfl, h1223, h1224, h1240, Ne.symm h364⟩
    · exact ⟨q394, na423, rfl, h1260, h1261, h1274, Ne.symm h404⟩
  · exact fun b hb => (sb602 _ (sb579 _ (sb561 _ (sb544 _ (sb526 _ (sb515 _ (sb453 _ (sb444 _ (sb426 _ (sb398 _ (sb380 _ (sb358 _ (sb308 _ (sb220 _ (sb209 _ (sb199 _ (sb191 _ (sb181 _ (sb173 _ (sb163 _ (sb155 _ (sb144 _ (sb134 _ (sb124 _ (sb116 _ (sb105 _ (sb94 _ (sb79 _ (sb69 _ (sb57 _ (sb48 _ (sb35 _ (sb27 _ (sb14 _ (sb5 _ hb)))))))))))))))))))))))))))))))))))
  · intro b hb hbq
    have h1275 : b ≠ q1 := g_neL hb n2
    have h1276 : f3 b = f b := ((congrFun ef3 b).trans (va_up_ne _ _ (g_neL hb n2))).trans rfl
    have h1277 : b ∈ L4 := sb5 _ hb
    have h1278 : f8 b = f b := (k15 b h1277 h1275).trans h1276
    have h1279 : b ∈ L9 := sb14 _ h1277
    have h1280 : f21 b = f b := ((congrFun ef21 b).trans (va_up_ne _ _ hbq)).trans h1278
    have h1281 : b ≠ q23 := g_neL h1279 n24
    have h1282 : f25 b = f b := ((congrFun ef25 b).trans (va_up_ne _ _ (g_neL h1279 n24))).trans h1280
    have h1283 : b ∈ L26 := sb27 _ h1279
    have h1284 : f30 b = f b := (k36 b h1283 h1281).trans h1282
    have h1285 : b ∈ L31 := sb35 _ h1283
    have h1286 : f42 b = f b := ((congrFun ef42 b).trans (va_up_ne _ _ hbq)).trans h1284
    have h1287 : b ≠ q44 := g_neL h1285 n45
    have h1288 : f46 b = f b := ((congrFun ef46 b).trans (va_up_ne _ _ (g_neL h1285 n45))).trans h1286
    have h1289 : b ∈ L47 := sb48 _ h1285
    have h1290 : b ≠ q53 := g_neL h1289 n54
    have h1291 : f55 b = f b := ((congrFun ef55 b).trans (va_up_ne _ _ (g_neL h1289 n54))).trans h1288
    have h1292 : b ∈ L56 := sb57 _ h1289
    have h1293 : f64 b = f b := (k70 b h1292 h1290).trans h1291
    have h1294 : b ∈ L65 := sb69 _ h1292
    have h1295 : f76 b = f b := (k80 b h1294 h1287).trans h1293
    have h1296 : b ∈ L77 := sb79 _ h1294
    have h1297 : f88 b = f b := ((congrFun ef88 b).trans (va_up_ne _ _ hbq)).trans h1295
    have h1298 : b ≠ q90 := g_neL h1296 n91
    have h1299 : f92 b = f b := ((congrFun ef92 b).trans (va_up_ne _ _ (g_neL h1296 n91))).trans h1297
    have h1300 : b ∈ L93 := sb94 _ h1296
    have h1301 : f99 b = f b := ((congrFun ef99 b).trans (va_up_ne _ _ hbq)).trans h1299
    have h1302 : b ≠ q101 := g_neL h1300 n102
    have h1303 : f103 b = f b := ((congrFun ef103 b).trans (va_up_ne _ _ (g_neL h1300 n102))).trans h1301
    have h1304 : b ∈ L104 := sb105 _ h1300
    have h1305 : f110 b = f b := ((congrFun ef110 b).trans (va_up_ne _ _ hbq)).trans h1303
    have h1306 : b ≠ q112 := g_neL h1304 n113
    have h1307 : f114 b = f b := ((congrFun ef114 b).trans (va_up_ne _ _ (g_neL h1304 n113))).trans h1305
    have h1308 : b ∈ L115 := sb116 _ h1304
    have h1309 : f121 b = f b := (k125 b h1308 h1306).trans h1307
    have h1310 : b ∈ L122 := sb124 _ h1308
    have h1311 : f128 b = f b := ((congrFun ef128 b).trans (va_up_ne _ _ hbq)).trans h1309
    have h1312 : b ≠ q130 := g_neL h1310 n131
    have h1313 : f132 b = f b := ((congrFun ef132 b).trans (va_up_ne _ _ (g_neL h1310 n131))).trans h1311
    have h1314 : b ∈ L133 := sb134 _ h1310
    have h1315 : f139 b = f b := (k145 b h1314 h1312).trans h1313
    have h1316 : b ∈ L140 := sb144 _ h1314
    have h1317 : f149 b = f b := ((congrFun ef149 b).trans (va_up_ne _ _ hbq)).trans h1315
    have h1318 : b ≠ q151 := g_neL h1316 n152
    have h1319 : f153 b = f b := ((congrFun ef153 b).trans (va_up_ne _ _ (g_neL h1316 n152))).trans h1317
    have h1320 : b ∈ L154 := sb155 _ h1316
    have h1321 : f160 b = f b := (k164 b h1320 h1318).trans h1319
    have h1322 : b ∈ L161 := sb163 _ h1320
    have h1323 : f167 b = f b := ((congrFun ef167 b).trans (va_up_ne _ _ hbq)).trans h1321
    have h1324 : b ≠ q169 := g_neL h1322 n170
    have h1325 : f171 b = f b := ((congrFun ef171 b).trans (va_up_ne _ _ (g_neL h1322 n170))).trans h1323
    have h1326 : b ∈ L172 := sb173 _ h1322
    have h1327 : f178 b = f b := (k182 b h1326 h1324).trans h1325
    have h1328 : b ∈ L179 := sb181 _ h1326
    have h1329 : f185 b = f b := ((congrFun ef185 b).trans (va_up_ne _ _ hbq)).trans h1327
    have h1330 : b ≠ q187 := g_neL h1328 n188
    have h1331 : f189 b = f b := ((congrFun ef189 b).trans (va_up_ne _ _ (g_neL h1328 n188))).trans h1329
    have h1332 : b ∈ L190 := sb191 _ h1328
    have h1333 : f196 b = f b := (k200 b h1332 h1330).trans h1331
    have h1334 : b ∈ L197 := sb199 _ h1332
    have h1335 : f203 b = f b := ((congrFun ef203 b).trans (va_up_ne _ _ hbq)).trans h1333
    have h1336 : b ≠ q205 := g_neL h1334 n206
    have h1337 : f207 b = f b := ((congrFun ef207 b).trans (va_up_ne _ _ (g_neL h1334 n206))).trans h1335
    have h1338 : b ∈ L208 := sb209 _ h1334
    have h1339 : f214 b = f b := ((congrFun ef214 b).trans (va_up_ne _ _ hbq)).trans h1337
    have h1340 : b ≠ q216 := g_neL h1338 n217
    have h1341 : f218 b = f b := ((congrFun ef218 b).trans (va_up_ne _ _ (g_neL h1338 n217))).trans h1339
    have h1342 : b ∈ L219 := sb220 _ h1338
    have h1343 : f303 b = f b := (k309 b h1342 h1340).trans h1341
    have h1344 : b ∈ L304 := sb308 _ h1342
    have h1345 : f347 b = f b := ((congrFun ef347 b).trans (va_up_ne _ _ h1298)).trans h1343
    have h1346 : b ≠ q354 := g_neL h1344 n355
    have h1347 : f356 b = f b := ((congrFun ef356 b).trans (va_up_ne _ _ (g_neL h1344 n355))).trans h1345
    have h1348 : b ∈ L357 := sb358 _ h1344
    have h1349 : f375 b = f b := (k381 b h1348 h1346).trans h1347
    have h1350 : b ∈ L376 := sb380 _ h1348
    have h1351 : f387 b = f b := ((congrFun ef387 b).trans (va_up_ne _ _ h1298)).trans h1349
    have h1352 : b ≠ q394 := g_neL h1350 n395
    have h1353 : f396 b = f b := ((congrFun ef396 b).trans (va_up_ne _ _ (g_neL h1350 n395))).trans h1351
    have h1354 : b ∈ L397 := sb398 _ h1350
    have h1355 : f421 b = f b := (k427 b h1354 h1352).trans h1353
    have h1356 : b ∈ L422 := sb426 _ h1354
    have h1357 : f433 b = f b := ((congrFun ef433 b).trans (va_up_ne _ _ h1298)).trans h1355
    have h1358 : b ≠ q440 := g_neL h1356 n441
    have h1359 : f442 b = f b := ((congrFun ef442 b).trans (va_up_ne _ _ (g_neL h1356 n441))).trans h1357
    have h1360 : b ∈ L443 := sb444 _ h1356
    have h1361 : f447 b = f b := (k454 b h1360 h1358).trans h1359
    have h1362 : b ∈ L448 := sb453 _ h1360
    have h1363 : f504 b = f b := ((congrFun ef504 b).trans (va_up_ne _ _ h1302)).trans h1361
    have h1364 : b ≠ q511 := g_neL h1362 n512
    have h1365 : f513 b = f b := ((congrFun ef513 b).trans (va_up_ne _ _ (g_neL h1362 n512))).trans h1363
    have h1366 : b ∈ L514 := sb515 _ h1362
    have h1367 : f520 b = f b := (k527 b h1366 h1364).trans h1365
    have h1368 : b ∈ L521 := sb526 _ h1366
    have h1369 : f533 b = f b := ((congrFun ef533 b).trans (va_up_ne _ _ h1302)).trans h1367
    have h1370 : b ≠ q540 := g_neL h1368 n541
    have h1371 : f542 b = f b := ((congrFun ef542 b).trans (va_up_ne _ _ (g_neL h1368 n541))).trans h1369
    have h1372 : b ∈ L543 := sb544 _ h1368
    have h1373 : f555 b = f b := (k562 b h1372 h1370).trans h1371
    have h1374 : b ∈ L556 := sb561 _ h1372
    have h1375 : f568 b = f b := ((congrFun ef568 b).trans (va_up_ne _ _ h1302)).trans h1373
    have h1376 : b ≠ q575 := g_neL h1374 n576
    have h1377 : f577 b = f b := ((congrFun ef577 b).trans (va_up_ne _ _ (g_neL h1374 n576))).trans h1375
    have h1378 : b ∈ L578 := sb579 _ h1374
    have h1379 : f596 b = f b := (k603 b h1378 h1376).trans h1377
    have h1380 : b ∈ L597 := sb602 _ h1378
    have h1381 : f609 b = f b := ((congrFun ef609 b).trans (va_up_ne _ _ h1302)).trans h1379
    exact h1381
