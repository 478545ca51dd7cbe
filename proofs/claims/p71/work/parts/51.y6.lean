/-! a row of an array copied onto another row: exact -/
def cpR (v : Nat → Int32) (m A B k : Nat) : Nat → Int32 := fun i => if m * B ≤ i ∧ i < m * B + k then v (i - m * B + m * A) else v i
theorem cpR_0 (v : Nat → Int32) (m A B : Nat) : cpR v m A B 0 = v := funext fun i => by
  unfold cpR
  rw [if_neg (by omega)]
theorem cpR_at {v : Nat → Int32} {m A B k : Nat} (hk : k < m) : cpR v m A B k (m * A + k) = v (m * A + k) := by
  unfold cpR
  rw [if_neg]
  rintro ⟨h1, h2⟩
  rcases Nat.lt_or_ge A B with q | q
  · have : m * (A + 1) ≤ m * B := Nat.mul_le_mul_left m q
    rw [Nat.mul_add, Nat.mul_one] at this
    omega
  · have : m * B ≤ m * A := Nat.mul_le_mul_left m q
    omega
theorem cpR_s {v : Nat → Int32} {m A B k : Nat} : upd (cpR v m A B k) (m * B + k) (v (m * A + k)) = cpR v m A B (k + 1) := funext fun i => by
  by_cases e : i = m * B + k
  · rw [e, pk_us]
    unfold cpR
    rw [if_pos (by omega), show m * B + k - m * B + m * A = m * A + k from by omega]
  · rw [pk_un e]
    unfold cpR
    by_cases h : m * B ≤ i ∧ i < m * B + k
    · rw [if_pos h, if_pos (by omega)]
    · rw [if_neg h, if_neg (by omega)]
theorem cp_ix {x y z k w : Int32} {m A j : Nat} (hx : x.toInt = (m : Int)) (hy : y.toInt = (A : Int)) (hk : k.toInt = (j : Int)) (hl : m * A + j < 600) (e1 : z = x * y) (e2 : w = z + k) : w.toNatClampNeg = m * A + j := by
  have hc : ((m * A : Nat) : Int) = (m : Int) * (A : Int) := Int.natCast_mul m A
  have h1 : z.toInt = (m : Int) * (A : Int) := by rw [e1, Int32.toInt_mul, hx, hy, bmI (by omega) (by omega)]
  have h2 : w.toInt = (m : Int) * (A : Int) + (j : Int) := by rw [e2, Int32.toInt_add, h1, hk, bmI (by omega) (by omega)]
  show w.toInt.toNat = _
  omega
theorem cp_ii {x y z k w : Int32} {m A j : Nat} (hx : x.toInt = (m : Int)) (hy : y.toInt = (A : Int)) (hk : k.toInt = (j : Int)) (hl : m * A + j < 600) (e1 : z = x * y) (e2 : w = z + k) : w.toInt = ((m * A + j : Nat) : Int) := by
  have hc : ((m * A : Nat) : Int) = (m : Int) * (A : Int) := Int.natCast_mul m A
  have h1 : z.toInt = (m : Int) * (A : Int) := by rw [e1, Int32.toInt_mul, hx, hy, bmI (by omega) (by omega)]
  rw [e2, Int32.toInt_add, h1, hk, bmI (by omega) (by omega)]
  omega
theorem va_up_up (f : gF) (a : Nat) (x y : va_E) : va_up (va_up f a x) a y = va_up f a y := funext fun b => by
  by_cases h : b = a
  · rw [h, va_up_self, va_up_self]
  · rw [va_up_ne _ _ h, va_up_ne _ _ h, va_up_ne _ _ h]
theorem va_up_id {f : gF} {a : Nat} {x : va_E} (h : f a = x) : va_up f a x = f := funext fun b => by
  by_cases q : b = a
  · rw [q, va_up_self, h]
  · rw [va_up_ne _ _ q]
def uq (L : List Nat) (τ : Nat → Nat) (t : Nat) : Prop := ∀ a ∈ L, ∀ b ∈ L, τ a = t → τ b = t → a = b
theorem isA_up {E : gE} {L : List Nat} {τ : Nat → Nat} {f : gF} {a t n : Nat} {v : Nat → Int32} (hU : uq L τ t) (ma : a ∈ L) (ta : τ a = t) : isA E L τ (va_up f a (.inl (E.2.2 1, n, .inl v))) t n v := fun b mb tb => by
  rw [hU b mb a ma tb ta]
  exact va_up_self ..
theorem isA_ne {E : gE} {L : List Nat} {τ : Nat → Nat} {f : gF} {a t u n : Nat} {v : Nat → Int32} {x : va_E} (h : isA E L τ f t n v) (ta : τ a = u) (hn : (t == u) = false) : isA E L τ (va_up f a x) t n v := fun b mb tb => by
  rw [va_up_ne _ _ (ty_ne tb ta hn)]
  exact h b mb tb
theorem isA_st {E : gE} {L : List Nat} {τ : Nat → Nat} {f f2 : gF} {a t u n : Nat} {v : Nat → Int32} (h : isA E L τ f t n v) (ta : τ a = u) (hn : (t == u) = false) (hb : ∀ b, b ≠ a → f2 b = f b) : isA E L τ f2 t n v := fun b mb tb => (hb b (ty_ne tb ta hn)).trans (h b mb tb)
theorem tS.upA {E : gE} {L : List Nat} {τ : Nat → Nat} {ws : List Nat} {f0 f : gF} {a t n : Nat} {P : (Nat → Int32) → Prop} {v : Nat → Int32} {x : ClassId × vp_A} (h : tS E L τ ws f0 f) (ht : τ a = t) (hw : ws.contains t = true) (hd : tTab[t]? = some (.inr (.inl (1, n, P)))) (hf : f a = .inl x) (hP : P v) : tS E L τ ws f0 (va_up f a (.inl (E.2.2 1, n, .inl v))) := h.up ht hw hd ⟨v, rfl, hP⟩ (fun _ _ hq => absurd hq (fld_noA hf))
theorem hasP_cp {v : Nat → Int32} {A B : Nat} (h : hasP v) (hA : A ≤ 4) : hasP (cpR v 9 A B 9) := fun i hi => by
  unfold cpR
  by_cases q : 9 * B ≤ i ∧ i < 9 * B + 9
  · rw [if_pos q]
    have h1 := h (i - 9 * B + 9 * A) (by omega)
    rw [show (i - 9 * B + 9 * A) % 9 = i % 9 from by omega] at h1
    exact h1
  · rw [if_neg q]
    exact h i hi
theorem memP_cp {v : Nat → Int32} {A B : Nat} (h : memP v) (hA : A ≤ 4) : memP (cpR v 18 A B 18) := fun i hi => by
  unfold cpR
  by_cases q : 18 * B ≤ i ∧ i < 18 * B + 18
  · rw [if_pos q]
    have h1 := h (i - 18 * B + 18 * A) (by omega)
    rw [show (i - 18 * B + 18 * A) % 3 = i % 3 from by omega] at h1
    exact h1
  · rw [if_neg q]
    exact h i hi
theorem actP_cp {v : Nat → Int32} {A B : Nat} (h : actP v) (hA : A ≤ 4) : actP (cpR v 120 A B 120) := fun k hk h1 => by
  unfold cpR at h1 ⊢
  by_cases q : 120 * B ≤ 3 * k ∧ 3 * k < 120 * B + 120
  · rw [if_pos q] at h1
    rw [if_pos (by omega)]
    rw [show 3 * k - 120 * B + 120 * A = 3 * (k - 40 * B + 40 * A) from by omega] at h1
    rw [show 3 * k + 1 - 120 * B + 120 * A = 3 * (k - 40 * B + 40 * A) + 1 from by omega]
    exact h _ (by omega) h1
  · rw [if_neg q] at h1
    rw [if_neg (by omega)]
    exact h k hk h1
theorem rowOK_cp {vl vh : Nat → Int32} {A B r : Nat} (h : rowOK vl vh r) (hA : rowOK vl vh A) : rowOK (cpR vl 1 A B 1) (cpR vh 9 A B 9) r := by
  unfold rowOK cpR at *
  by_cases q : r = B
  · subst q
    rw [if_pos (by omega), if_pos (by omega), if_pos (by omega), if_pos (by omega), show r - 1 * r + 1 * A = A from by omega, show 9 * r - 9 * r + 9 * A = 9 * A from by omega, show 9 * r + 5 - 9 * r + 9 * A = 9 * A + 5 from by omega, show 9 * r + 6 - 9 * r + 9 * A = 9 * A + 6 from by omega]
    exact hA
  · rw [if_neg (by omega), if_neg (by omega), if_neg (by omega), if_neg (by omega)]
    exact h
/-- every row of a land that is kept (0: the land of now, 1 to 3: images) -/
def rowsR (vl vh : Nat → Int32) : Prop := ∀ r, r ≤ 3 → rowOK vl vh r
theorem rowsR_cp {vl vh : Nat → Int32} {A B : Nat} (h : rowsR vl vh) (hA : rowOK vl vh A) : rowsR (cpR vl 1 A B 1) (cpR vh 9 A B 9) := fun r hr => rowOK_cp (h r hr) hA
theorem rowsR_7 {vl vh : Nat → Int32} {x : Int32} (h : rowsR vl vh) : rowsR vl (upd vh 7 x) := fun r hr => by
  have h1 := h r hr
  unfold rowOK at *
  rw [pk_un (by omega), pk_un (by omega), pk_un (by omega)]
  exact h1
theorem hasP_7 {v : Nat → Int32} {x : Int32} (h : hasP v) (hx : rg x 0 40) : hasP (upd v 7 x) := fun i hi => by
  by_cases e : i = 7
  · rw [e, pk_us]
    exact hx
  · rw [pk_un e]
    exact h i hi
theorem isA_w {E : gE} {L : List Nat} {τ : Nat → Nat} {f : gF} {a t n : Nat} {v : Nat → Int32} (hU : uq L τ t) (ma : a ∈ L) (ta : τ a = t) (h : f a = .inl (E.2.2 1, n, .inl v)) : isA E L τ f t n v := fun b mb tb => by
  rw [hU b mb a ma tb ta]
  exact h
theorem acts_7 {vh : Nat → Int32} {z : Int32} (e : z = vh (7 : Int32).toNatClampNeg) (h : rg z 0 39) : rg (vh 7) 0 39 := by
  rw [e] at h
  exact h
theorem actP_3 {v : Nat → Int32} {k : Nat} {x y z : Int32} (h : actP v) (hw : x = 1 → rg y 0 3) : actP (upd (upd (upd v (3 * k) x) (3 * k + 1) y) (3 * k + 2) z) := fun j hj h1 => by
  rw [pk_un (by omega), pk_un (by omega)] at h1
  rw [pk_un (by omega)]
  by_cases e : j = k
  · subst e
    rw [pk_us] at h1
    rw [pk_us]
    exact hw h1
  · rw [pk_un (by omega)] at h1
    rw [pk_un (by omega), pk_un (by omega)]
    exact h j hj h1
theorem act_k {z k : Int32} (h : rg z 0 39) (e : k = (3 : Int32) * z) : k.toInt = 3 * (z.toInt.toNat : Int) ∧ z.toInt.toNat ≤ 39 := by
  have t3 : (3 : Int32).toInt = 3 := by decide
  unfold rg at h
  have : k.toInt = 3 * z.toInt := by rw [e, Int32.toInt_mul, t3, bmI (by omega) (by omega)]
  omega
theorem act_i {k w : Int32} {n : Nat} {d : Int32} {dn : Nat} (h : k.toInt = 3 * (n : Int)) (hn : n ≤ 39) (e : w = k + d) (hd : d.toInt = (dn : Int)) (h2 : dn ≤ 2) : w.toNatClampNeg = 3 * n + dn ∧ vp_in w 600 := by
  have h1 : w.toInt = 3 * (n : Int) + (dn : Int) := by rw [e, Int32.toInt_add, h, hd, bmI (by omega) (by omega)]
  refine ⟨?_, vp_in_iff.mpr ⟨by omega, by omega⟩⟩
  show w.toInt.toNat = _
  omega
theorem img_no {k r : Int32} {a b : Int64} (h : ¬ r = 0 ↔ a.toInt ≤ k.toInt64.toInt ∧ k.toInt64.toInt ≤ b.toInt) (ha : a.toInt = 0) (hb : b.toInt = 2) (hr : r = 0) : -2 = gImage k := by
  rw [Int32.toInt_toInt64, ha, hb] at h
  unfold gImage
  have h1 : ¬ (0 ≤ k.toInt ∧ k.toInt ≤ 2) := fun q => h.mpr q hr
  by_cases q : k < 0
  · rw [if_pos q]
  · rw [if_neg q, if_neg]
    intro q2
    rw [fa_lt, show (0 : Int32).toInt = 0 from by decide] at q
    rw [fa_lt, show (3 : Int32).toInt = 3 from by decide] at q2
    omega
theorem img_yes {k r : Int32} {a b : Int64} (h : ¬ r = 0 ↔ a.toInt ≤ k.toInt64.toInt ∧ k.toInt64.toInt ≤ b.toInt) (ha : a.toInt = 0) (hb : b.toInt = 2) (hr : ¬ r = 0) : 0 = gImage k := by
  rw [Int32.toInt_toInt64, ha, hb] at h
  unfold gImage
  have h1 := h.mp hr
  rw [if_neg, if_pos]
  · rw [fa_lt, show (3 : Int32).toInt = 3 from by decide]
    omega
  · rw [fa_lt, show (0 : Int32).toInt = 0 from by decide]
    omega
theorem in_n1 {x a b : Int64} {z1 : Int32} (e1 : z1 = lg_cmp x a) (h1 : z1 < 0) : ¬ (a.toInt ≤ x.toInt ∧ x.toInt ≤ b.toInt) := by
  rw [e1, gl_cmp_lt] at h1
  omega
theorem in_n2 {x a b : Int64} {z2 : Int32} (e2 : z2 = lg_cmp x b) (h2 : 0 < z2) : ¬ (a.toInt ≤ x.toInt ∧ x.toInt ≤ b.toInt) := by
  rw [e2, gl_cmp_gt] at h2
  omega
theorem img_r {k : Int32} (h : rg k 1 3) : k.toInt.toNat ≤ 3 := by
  unfold rg at h
  omega
theorem mem_2 {m i : Int32} (h : m.toInt % 3 = 0) (e : i = m + 2) (hm : rg m 0 87) : i.toNatClampNeg % 3 = 2 := by
  have t2 : (2 : Int32).toInt = 2 := by decide
  unfold rg at hm
  have h1 : i.toInt = m.toInt + 2 := by rw [e, Int32.toInt_add, t2, bmI (by omega) (by omega)]
  show i.toInt.toNat % 3 = 2
  omega
theorem memP_2 {v : Nat → Int32} {k : Nat} {x : Int32} (h : memP v) (hk : k % 3 = 2) (hx : rg x 0 99) : memP (upd v k x) := fun i hi => by
  by_cases e : i = k
  · rw [e, pk_us, if_neg (by omega)]
    exact hx
  · rw [pk_un e]
    exact h i hi
set_option maxHeartbeats 4000000 in
set_option maxRecDepth 100000 in
theorem t_copyRow (l : Launch) (E : gE) (J : Nat → Nat) (L : List Nat) (f : gF) {a : Nat} (ma : a ∈ L) {n : Nat} {v : Nat → Int32} (hf : f a = .inl (E.2.2 1, n, .inl v)) (p1 p2 p3 : Int32) {m A B : Nat} (h1 : p1.toInt = (m : Int)) (h2 : p2.toInt = (A : Int)) (h3 : p3.toInt = (B : Int)) (hA : m * A + m ≤ n) (hB : m * B + m ≤ n) (hn : n ≤ 600) : tMv l E J yX10_copyRow cX10_copyRow 5 (gRm 0 0 0) [.ref a, .int p1, .int p2, .int p3] L f (fun L1 f1 => L = L1 ∧ f1 = va_up f a (.inl (E.2.2 1, n, .inl (cpR v m A B m)))) := by
  refine tMv.intro (by decide) (Nat.le_of_ble_eq_true rfl) ?_
  intro p e s mm below meth c A0 ls C hr hAA hO hH hl
  have C : gC E cX10_copyRow 5 RX10 p s mm _ meth c := C
  have hl : lv_has ls 5 [(0, .ref a), (1, .int p1), (2, .int p2), (3, .int p3)] := hl
  have hx := C.1
  have hb := C.2.1
  have t1 : (1 : Int32).toInt = 1 := by decide
  have cut3 : ∀ (q j : Nat) (H : Heap) (locs : List Loc) (ls : Array Slot) (k : Int32), k.toInt = (j : Int) → j ≤ m → m - j < q → gH E A0 L (va_up f a (.inl (E.2.2 1, n, .inl (cpR v m A B j)))) s.heap H locs → lv_has ls 5 [(4, .int k), (0, .ref a), (1, .int p1), (2, .int p2), (3, .int p3)] → W p l e (gRm 0 0 0) s mm [.ref a, .int p1, .int p2, .int p3].toArray below meth c H locs 0 0 (MQ below (gQv E A0 (fun L1 f1 => L = L1 ∧ f1 = va_up f a (.inl (E.2.2 1, n, .inl (cpR v m A B m))))) [.ref a, .int p1, .int p2, .int p3].toArray s (gRm 0 0 0).cells (gRm 0 0 0).slots A0) (F0 mm 3 ls []) := by
    intro q
    induction q with
    | zero =>
      intro j H locs ls k _ _ h
      exact absurd h (Nat.not_lt_zero _)
    | succ q ih =>
      intro j H locs ls k hk hj hq hH hl
      have hfa : va_up f a (.inl (E.2.2 1, n, .inl (cpR v m A B j))) a = .inl (E.2.2 1, n, .inl (cpR v m A B j)) := va_up_self ..
      refine lv_iload hx hb dX10_copyRow_3 (lv_at hl 0 rfl) ?_
      refine lv_iload_n hx hb dX10_copyRow_5 rfl (lv_at hl 2 rfl) ?_
      refine lv_icmp_ge (tgt := 31) hx hb dX10_copyRow_6 (by decide) (fun c1 => ?_) (fun c1 => ?_)
      · have c2 := c_le c1
        have e : j = m := by omega
        rw [e] at hH
        exact g_vret C hr hH (Nat.zero_le _) (Nat.zero_le _) dX10_copyRow_31 ⟨rfl, rfl⟩
      · have c2 := n_le c1
        have hjm : j < m := by omega
        refine lv_aload_n hx hb dX10_copyRow_9 rfl (lv_at hl 1 rfl) ?_
        refine lv_iload_n hx hb dX10_copyRow_10 rfl (lv_at hl 2 rfl) ?_
        refine lv_iload_n hx hb dX10_copyRow_11 rfl (lv_at hl 4 rfl) ?_
        refine lv_imul hx hb dX10_copyRow_12 ?_
        refine lv_topi (fun z1 ez1 => ?_)
        refine lv_iload hx hb dX10_copyRow_13 (lv_at hl 0 rfl) ?_
        refine lv_iadd hx hb dX10_copyRow_15 ?_
        refine lv_topi (fun w1 ew1 => ?_)
        refine lv_aload_n hx hb dX10_copyRow_16 rfl (lv_at hl 1 rfl) ?_
        refine lv_iload_n hx hb dX10_copyRow_17 rfl (lv_at hl 2 rfl) ?_
        refine lv_iload_n hx hb dX10_copyRow_18 rfl (lv_at hl 3 rfl) ?_
        refine lv_imul hx hb dX10_copyRow_19 ?_
        refine lv_topi (fun z2 ez2 => ?_)
        refine lv_iload hx hb dX10_copyRow_20 (lv_at hl 0 rfl) ?_
        refine lv_iadd hx hb dX10_copyRow_22 ?_
        refine lv_topi (fun w2 ew2 => ?_)
        have n1 := cp_ix h1 h3 hk (by omega) ez1 ew1
        have n2 := cp_ix h1 h2 hk (by omega) ez2 ew2
        have i1 := cp_ii h1 h3 hk (by omega) ez1 ew1
        have i2 := cp_ii h1 h2 hk (by omega) ez2 ew2
        refine g_iald C hH ma hfa (vp_in_iff.mpr ⟨by omega, by omega⟩) dX10_copyRow_23 ?_
        refine g_iast C hH ma hfa (vp_in_iff.mpr ⟨by omega, by omega⟩) dX10_copyRow_24 (fun H locs hH => ?_)
        rw [va_up_up, n1, n2, cpR_at hjm, cpR_s] at hH
        obtain ⟨z3, ez3⟩ : ∃ y : Int32, y = k + (1 : Int32) := ⟨_, rfl⟩
        have hk2 : z3.toInt = ((j + 1 : Nat) : Int) := by rw [ez3, Int32.toInt_add, hk, t1, bmI (by omega) (by omega)]; omega
        refine lv_iinc (v := z3) (lv' := [(4, .int z3), (0, .ref a), (1, .int p1), (2, .int p2), (3, .int p3)]) hx hb dX10_copyRow_25 hl (k := 0) rfl (by rw [ez3]; rfl) (by decide) rfl (fun ls hl => ?_)
        refine lv_goto (tgt := 3) hx hb dX10_copyRow_28 (by decide) ?_
        exact ih (j + 1) _ _ _ z3 hk2 (by omega) (by omega) hH hl
  refine lv_iconst (v := (0 : Int32)) hx hb dX10_copyRow_0 (by decide) ?_
  refine lv_istore (lv' := [(4, .int (0 : Int32)), (0, .ref a), (1, .int p1), (2, .int p2), (3, .int p3)]) hx hb dX10_copyRow_1 hl (by decide) rfl (fun ls hl => ?_)
  exact cut3 (m + 1) 0 _ _ _ (0 : Int32) (by decide) (Nat.zero_le _) (by omega) (by rw [cpR_0, va_up_id hf]; exact hH) hl

set_option maxHeartbeats 4000000 in
set_option maxRecDepth 100000 in
theorem t_copyLand (l : Launch) (E : gE) (J : Nat → Nat) (τ : Nat → Nat) (L : List Nat) (f : gF) (hI : tI E L τ f) {q : Nat} (mq : q ∈ L) (tq : τ q = 40) (p1 : Int32) (rp1 : rg p1 0 4) (p2 : Int32) (rp2 : rg p2 0 4) {vl vh : Nat → Int32} (hl0 : isA E L τ f 46 5 vl) (hh : isA E L τ f 47 45 vh) (hUl : uq L τ 46) (hUh : uq L τ 47) : tMv l E J yX10_copyLand cX10_copyLand 3 (gRm 1 0 0) [.ref q, .int p1, .int p2] L f (tPv E L τ [46, 47, 48, 49, 50] f (fun f1 => isA E L τ f1 46 5 (cpR vl 1 p1.toInt.toNat p2.toInt.toNat 1) ∧ isA E L τ f1 47 45 (cpR vh 9 p1.toInt.toNat p2.toInt.toNat 9))) := by
  refine tMv.intro (by decide) (Nat.le_of_ble_eq_true rfl) ?_
  intro p e s mm below meth c A0 ls C hr hA hO hH hl
  have C : gC E cX10_copyLand 3 RX10 p s mm _ meth c := C
  have hl : lv_has ls 3 [(0, .ref q), (1, .int p1), (2, .int p2)] := hl
  have hx := C.1
  have hb := C.2.1
  have hI := hI.S [46, 47, 48, 49, 50]
  obtain ⟨A, hA1⟩ : ∃ A : Nat, A = p1.toInt.toNat := ⟨_, rfl⟩
  obtain ⟨B, hB1⟩ : ∃ B : Nat, B = p2.toInt.toNat := ⟨_, rfl⟩
  rw [← hA1, ← hB1]
  unfold rg at rp1 rp2
  have h1 : p1.toInt = (A : Int) := by omega
  have h2 : p2.toInt = (B : Int) := by omega
  have hA4 : A ≤ 4 := by omega
  have hB4 : B ≤ 4 := by omega
  obtain ⟨a46, ma46, ta46, ka46⟩ := t_fldr hI.1 mq tq td_40 (k := 16) rfl
  refine lv_aload_n hx hb dX10_copyLand_0 rfl (lv_at hl 0 rfl) ?_
  refine t_getX C hH hI.1 mq tq td_40 iX10 rfl 16 (by decide) wd748 rfl ka46 dX10_copyLand_1 ?_
  refine lv_iconst (v := (1 : Int32)) hx hb dX10_copyLand_4 (by decide) ?_
  refine lv_iload_n hx hb dX10_copyLand_5 rfl (lv_at hl 1 rfl) ?_
  refine lv_iload_n hx hb dX10_copyLand_6 rfl (lv_at hl 2 rfl) ?_
  obtain ⟨v46, hv46, pv46⟩ := t_arr hI.1 ma46 ta46 td_46
  refine t_Sv C hO hl.1 hA hH (As := [.ref a46, .int (1 : Int32), .int p1, .int p2]) (rest := []) (t_copyRow l E J L _ ma46 hv46 (1 : Int32) p1 p2 (m := 1) (A := A) (B := B) (by decide) h1 h2 (by omega) (by omega) (by decide)) my_X10_copyRow wd1031 rfl rfl (Nat.le_of_ble_eq_true rfl) ⟨Nat.le_of_ble_eq_true rfl, Nat.le_of_ble_eq_true rfl⟩ ⟨rfl, rfl⟩ dX10_copyLand_7 (fun L1 f46 H locs hp hH => ?_)
  obtain ⟨rfl, rfl⟩ := hp
  have hI := hI.upA ta46 (by decide) td_46 hv46 (v := cpR v46 1 A B 1) trivial
  have ev46 : v46 = vl := arr_inj hv46 (hl0 a46 ma46 ta46)
  subst ev46
  have il := isA_up (E := E) (f := f) (n := 5) (v := cpR v46 1 A B 1) hUl ma46 ta46
  have ih := isA_ne (x := .inl (E.2.2 1, 5, .inl (cpR v46 1 A B 1))) hh ta46 rfl
  obtain ⟨a47, ma47, ta47, ka47⟩ := t_fldr hI.1 mq tq td_40 (k := 17) rfl
  refine lv_aload_n hx hb dX10_copyLand_10 rfl (lv_at hl 0 rfl) ?_
  refine t_getX C hH hI.1 mq tq td_40 iX10 rfl 17 (by decide) wd747 rfl ka47 dX10_copyLand_11 ?_
  refine lv_bipush (v := (9 : Int32)) hx hb dX10_copyLand_14 (by decide) ?_
  refine lv_iload_n hx hb dX10_copyLand_16 rfl (lv_at hl 1 rfl) ?_
  refine lv_iload_n hx hb dX10_copyLand_17 rfl (lv_at hl 2 rfl) ?_
  obtain ⟨v47, hv47, pv47⟩ := t_arr hI.1 ma47 ta47 td_47
  refine t_Sv C hO hl.1 hA hH (As := [.ref a47, .int (9 : Int32), .int p1, .int p2]) (rest := []) (t_copyRow l E J L _ ma47 hv47 (9 : Int32) p1 p2 (m := 9) (A := A) (B := B) (by decide) h1 h2 (by omega) (by omega) (by decide)) my_X10_copyRow wd1031 rfl rfl (Nat.le_of_ble_eq_true rfl) ⟨Nat.le_of_ble_eq_true rfl, Nat.le_of_ble_eq_true rfl⟩ ⟨rfl, rfl⟩ dX10_copyLand_18 (fun L1 f47 H locs hp hH => ?_)
  obtain ⟨rfl, rfl⟩ := hp
  have hI := hI.upA ta47 (by decide) td_47 hv47 (v := cpR v47 9 A B 9) (hasP_cp pv47 hA4)
  have ev47 : v47 = vh := arr_inj hv47 (ih a47 ma47 ta47)
  subst ev47
  have il := isA_ne (x := .inl (E.2.2 1, 45, .inl (cpR v47 9 A B 9))) il ta47 rfl
  have ih := isA_up (E := E) (f := va_up f a46 (.inl (E.2.2 1, 5, .inl (cpR v46 1 A B 1)))) (n := 45) (v := cpR v47 9 A B 9) hUh ma47 ta47
  obtain ⟨a48, ma48, ta48, ka48⟩ := t_fldr hI.1 mq tq td_40 (k := 18) rfl
  refine lv_aload_n hx hb dX10_copyLand_21 rfl (lv_at hl 0 rfl) ?_
  refine t_getX C hH hI.1 mq tq td_40 iX10 rfl 18 (by decide) wd773 rfl ka48 dX10_copyLand_22 ?_
  refine lv_bipush (v := (12 : Int32)) hx hb dX10_copyLand_25 (by decide) ?_
  refine lv_iload_n hx hb dX10_copyLand_27 rfl (lv_at hl 1 rfl) ?_
  refine lv_iload_n hx hb dX10_copyLand_28 rfl (lv_at hl 2 rfl) ?_
  obtain ⟨v48, hv48, pv48⟩ := t_arr hI.1 ma48 ta48 td_48
  refine t_Sv C hO hl.1 hA hH (As := [.ref a48, .int (12 : Int32), .int p1, .int p2]) (rest := []) (t_copyRow l E J L _ ma48 hv48 (12 : Int32) p1 p2 (m := 12) (A := A) (B := B) (by decide) h1 h2 (by omega) (by omega) (by decide)) my_X10_copyRow wd1031 rfl rfl (Nat.le_of_ble_eq_true rfl) ⟨Nat.le_of_ble_eq_true rfl, Nat.le_of_ble_eq_true rfl⟩ ⟨rfl, rfl⟩ dX10_copyLand_29 (fun L1 f48 H locs hp hH => ?_)
  obtain ⟨rfl, rfl⟩ := hp
  have hI := hI.upA ta48 (by decide) td_48 hv48 (v := cpR v48 12 A B 12) trivial
  have il := isA_ne (x := .inl (E.2.2 1, 60, .inl (cpR v48 12 A B 12))) il ta48 rfl
  have ih := isA_ne (x := .inl (E.2.2 1, 60, .inl (cpR v48 12 A B 12))) ih ta48 rfl
  obtain ⟨a49, ma49, ta49, ka49⟩ := t_fldr hI.1 mq tq td_40 (k := 19) rfl
  refine lv_aload_n hx hb dX10_copyLand_32 rfl (lv_at hl 0 rfl) ?_
  refine t_getX C hH hI.1 mq tq td_40 iX10 rfl 19 (by decide) wd818 rfl ka49 dX10_copyLand_33 ?_
  refine lv_bipush (v := (18 : Int32)) hx hb dX10_copyLand_36 (by decide) ?_
  refine lv_iload_n hx hb dX10_copyLand_38 rfl (lv_at hl 1 rfl) ?_
  refine lv_iload_n hx hb dX10_copyLand_39 rfl (lv_at hl 2 rfl) ?_
  obtain ⟨v49, hv49, pv49⟩ := t_arr hI.1 ma49 ta49 td_49
  refine t_Sv C hO hl.1 hA hH (As := [.ref a49, .int (18 : Int32), .int p1, .int p2]) (rest := []) (t_copyRow l E J L _ ma49 hv49 (18 : Int32) p1 p2 (m := 18) (A := A) (B := B) (by decide) h1 h2 (by omega) (by omega) (by decide)) my_X10_copyRow wd1031 rfl rfl (Nat.le_of_ble_eq_true rfl) ⟨Nat.le_of_ble_eq_true rfl, Nat.le_of_ble_eq_true rfl⟩ ⟨rfl, rfl⟩ dX10_copyLand_40 (fun L1 f49 H locs hp hH => ?_)
  obtain ⟨rfl, rfl⟩ := hp
  have hI := hI.upA ta49 (by decide) td_49 hv49 (v := cpR v49 18 A B 18) (memP_cp pv49 hA4)
  have il := isA_ne (x := .inl (E.2.2 1, 90, .inl (cpR v49 18 A B 18))) il ta49 rfl
  have ih := isA_ne (x := .inl (E.2.2 1, 90, .inl (cpR v49 18 A B 18))) ih ta49 rfl
  obtain ⟨a50, ma50, ta50, ka50⟩ := t_fldr hI.1 mq tq td_40 (k := 20) rfl
  refine lv_aload_n hx hb dX10_copyLand_43 rfl (lv_at hl 0 rfl) ?_
  refine t_getX C hH hI.1 mq tq td_40 iX10 rfl 20 (by decide) wd770 rfl ka50 dX10_copyLand_44 ?_
  refine lv_bipush (v := (120 : Int32)) hx hb dX10_copyLand_47 (by decide) ?_
  refine lv_iload_n hx hb dX10_copyLand_49 rfl (lv_at hl 1 rfl) ?_
  refine lv_iload_n hx hb dX10_copyLand_50 rfl (lv_at hl 2 rfl) ?_
  obtain ⟨v50, hv50, pv50⟩ := t_arr hI.1 ma50 ta50 td_50
  refine t_Sv C hO hl.1 hA hH (As := [.ref a50, .int (120 : Int32), .int p1, .int p2]) (rest := []) (t_copyRow l E J L _ ma50 hv50 (120 : Int32) p1 p2 (m := 120) (A := A) (B := B) (by decide) h1 h2 (by omega) (by omega) (by decide)) my_X10_copyRow wd1031 rfl rfl (Nat.le_of_ble_eq_true rfl) ⟨Nat.le_of_ble_eq_true rfl, Nat.le_of_ble_eq_true rfl⟩ ⟨rfl, rfl⟩ dX10_copyLand_51 (fun L1 f50 H locs hp hH => ?_)
  obtain ⟨rfl, rfl⟩ := hp
  have hI := hI.upA ta50 (by decide) td_50 hv50 (v := cpR v50 120 A B 120) (actP_cp pv50 hA4)
  have il := isA_ne (x := .inl (E.2.2 1, 600, .inl (cpR v50 120 A B 120))) il ta50 rfl
  have ih := isA_ne (x := .inl (E.2.2 1, 600, .inl (cpR v50 120 A B 120))) ih ta50 rfl
  exact g_vret C hr hH (Nat.zero_le _) (Nat.zero_le _) dX10_copyLand_54 ⟨rfl, hI, il, ih⟩

set_option maxHeartbeats 4000000 in
set_option maxRecDepth 100000 in
theorem t_acts (l : Launch) (E : gE) (J : Nat → Nat) (τ : Nat → Nat) (L : List Nat) (f : gF) (hI : tI E L τ f) {q : Nat} (mq : q ∈ L) (tq : τ q = 40) (p1 : Int32) (p2 : Int32) (p3 : Int32) {vh : Nat → Int32} (hh : isA E L τ f 47 45 vh) (hUh : uq L τ 47) (h7 : rg (vh 7) 0 39) (hw : p1 = 1 → rg p2 0 3) : tMv l E J yX10_acts cX10_acts 5 (gRm 0 0 0) [.ref q, .int p1, .int p2, .int p3] L f (tPv E L τ [47, 50] f (fun f1 => isA E L τ f1 47 45 (upd vh 7 (vh 7 + 1)))) := by
  refine tMv.intro (by decide) (Nat.le_of_ble_eq_true rfl) ?_
  intro p e s mm below meth c A0 ls C hr hA hO hH hl
  have C : gC E cX10_acts 5 RX10 p s mm _ meth c := C
  have hl : lv_has ls 5 [(0, .ref q), (1, .int p1), (2, .int p2), (3, .int p3)] := hl
  have hx := C.1
  have hb := C.2.1
  have hS := hI.S [47, 50]
  obtain ⟨b7, mb7, tb7, kb7⟩ := t_fldr hI mq tq td_40 (k := 17) rfl
  obtain ⟨b0, mb0, tb0, kb0⟩ := t_fldr hI mq tq td_40 (k := 20) rfl
  obtain ⟨fs, hq, hqo⟩ := t_obj hI mq tq td_40
  obtain ⟨v0, hv0, pv0⟩ := t_arr hI mb0 tb0 td_50
  have hv7 := hh b7 mb7 tb7
  have g7 : fs[17]? = some (.ref b7) := by
    obtain ⟨ci, fs2, h1, h2⟩ := kb7
    rw [hq] at h1
    cases h1
    exact h2
  have g0 : fs[20]? = some (.ref b0) := by
    obtain ⟨ci, fs2, h1, h2⟩ := kb0
    rw [hq] at h1
    cases h1
    exact h2
  have nq0 : q ≠ b0 := ty_ne tq tb0 rfl
  have n70 : b7 ≠ b0 := ty_ne tb7 tb0 rfl
  refine lv_iconst (v := (3 : Int32)) hx hb dX10_acts_0 (by decide) ?_
  refine lv_aload_n hx hb dX10_acts_1 rfl (lv_at hl 0 rfl) ?_
  refine t_getX C hH hI mq tq td_40 iX10 rfl 17 (by decide) wd747 rfl kb7 dX10_acts_2 ?_
  refine lv_bipush (v := (7 : Int32)) hx hb dX10_acts_5 (by decide) ?_
  refine g_iald C hH mb7 hv7 (vp_in_iff.mpr ⟨by decide, by decide⟩) dX10_acts_7 ?_
  refine lv_topi (fun z ez => ?_)
  refine lv_imul hx hb dX10_acts_8 ?_
  refine lv_topi (fun k ek => ?_)
  have ez : z = vh 7 := ez
  have rz : rg z 0 39 := by rw [ez]; exact h7
  obtain ⟨hk, hn⟩ := act_k rz ek
  refine lv_istore (lv' := [(4, .int k), (0, .ref q), (1, .int p1), (2, .int p2), (3, .int p3)]) hx hb dX10_acts_9 hl (by decide) rfl (fun ls hl => ?_)
  refine lv_aload_n hx hb dX10_acts_11 rfl (lv_at hl 1 rfl) ?_
  refine t_getX C hH hI mq tq td_40 iX10 rfl 20 (by decide) wd770 rfl kb0 dX10_acts_12 ?_
  refine lv_iload hx hb dX10_acts_15 (lv_at hl 0 rfl) ?_
  refine lv_iload_n hx hb dX10_acts_17 rfl (lv_at hl 2 rfl) ?_
  have j0 := act_i (w := k) (d := 0) hk hn (by rw [Int32.add_zero]) (by decide) (dn := 0) (by decide)
  refine g_iast C hH mb0 hv0 j0.2 dX10_acts_18 (fun H locs hH => ?_)
  rw [j0.1] at hH
  refine lv_aload_n hx hb dX10_acts_19 rfl (lv_at hl 1 rfl) ?_
  refine g_get C hH mq ((va_up_ne _ _ nq0).trans hq) iX10 rfl 20 (by decide) wd770 rfl g0 dX10_acts_20 ?_
  refine lv_iload hx hb dX10_acts_23 (lv_at hl 0 rfl) ?_
  refine lv_iconst (v := (1 : Int32)) hx hb dX10_acts_25 (by decide) ?_
  refine lv_iadd hx hb dX10_acts_26 ?_
  refine lv_topi (fun k1 ek1 => ?_)
  refine lv_iload_n hx hb dX10_acts_27 rfl (lv_at hl 3 rfl) ?_
  have j1 := act_i (w := k1) (d := 1) hk hn ek1 (by decide) (dn := 1) (by decide)
  refine g_iast C hH mb0 (va_up_self ..) j1.2 dX10_acts_28 (fun H locs hH => ?_)
  rw [va_up_up, j1.1] at hH
  refine lv_aload_n hx hb dX10_acts_29 rfl (lv_at hl 1 rfl) ?_
  refine g_get C hH mq ((va_up_ne _ _ nq0).trans hq) iX10 rfl 20 (by decide) wd770 rfl g0 dX10_acts_30 ?_
  refine lv_iload hx hb dX10_acts_33 (lv_at hl 0 rfl) ?_
  refine lv_iconst (v := (2 : Int32)) hx hb dX10_acts_35 (by decide) ?_
  refine lv_iadd hx hb dX10_acts_36 ?_
  refine lv_topi (fun k2 ek2 => ?_)
  refine lv_iload_n hx hb dX10_acts_37 rfl (lv_at hl 4 rfl) ?_
  have j2 := act_i (w := k2) (d := 2) hk hn ek2 (by decide) (dn := 2) (by decide)
  refine g_iast C hH mb0 (va_up_self ..) j2.2 dX10_acts_38 (fun H locs hH => ?_)
  rw [va_up_up, j2.1] at hH
  have hS := hS.upA tb0 (by decide) td_50 hv0 (v := upd (upd (upd v0 (3 * z.toInt.toNat + 0) p1) (3 * z.toInt.toNat + 1) p2) (3 * z.toInt.toNat + 2) p3) (actP_3 pv0 hw)
  have hv7 := (va_up_ne f (.inl (E.2.2 1, 600, .inl (upd (upd (upd v0 (3 * z.toInt.toNat + 0) p1) (3 * z.toInt.toNat + 1) p2) (3 * z.toInt.toNat + 2) p3))) n70).trans hv7
  refine lv_aload_n hx hb dX10_acts_39 rfl (lv_at hl 1 rfl) ?_
  refine g_get C hH mq ((va_up_ne _ _ nq0).trans hq) iX10 rfl 17 (by decide) wd747 rfl g7 dX10_acts_40 ?_
  refine lv_bipush (v := (7 : Int32)) hx hb dX10_acts_43 (by decide) ?_
  refine lv_dup2_11 hx hb dX10_acts_45 rfl rfl ?_
  refine g_iald C hH mb7 hv7 (vp_in_iff.mpr ⟨by decide, by decide⟩) dX10_acts_46 ?_
  refine lv_iconst (v := (1 : Int32)) hx hb dX10_acts_47 (by decide) ?_
  refine lv_iadd hx hb dX10_acts_48 ?_
  refine g_iast C hH mb7 hv7 (vp_in_iff.mpr ⟨by decide, by decide⟩) dX10_acts_49 (fun H locs hH => ?_)
  have hP := hasP_of hI mq tq hh
  have r1 : rg (vh 7 + 1) 0 40 := by
    have t1 : (1 : Int32).toInt = 1 := by decide
    unfold rg at *
    rw [Int32.toInt_add, t1, bmI (by omega) (by omega)]
    omega
  have hS := hS.upA tb7 (by decide) td_47 hv7 (v := upd vh 7 (vh 7 + 1)) (hasP_7 hP r1)
  exact g_vret C hr hH (Nat.zero_le _) (Nat.zero_le _) dX10_acts_50 ⟨rfl, hS, isA_up hUh mb7 tb7⟩

set_option maxHeartbeats 4000000 in
set_option maxRecDepth 100000 in
theorem t_inX (l : Launch) (E : gE) (J : Nat → Nat) (τ : Nat → Nat) (L : List Nat) (f : gF) (hI : tI E L τ f) (p0 : Int64) (p1 : Int64) (p2 : Int64) : tMi l E J yX10_in cX10_in 6 .boolean (gRm (1) 0 0) [.long p0, .long p1, .long p2] L f (tPi E L τ [] f (fun r f1 => rg r 0 1 ∧ (¬ r = 0 ↔ p1.toInt ≤ p0.toInt ∧ p0.toInt ≤ p2.toInt))) := by
  refine tMi.intro (by decide) (Nat.le_of_ble_eq_true rfl) ?_
  intro p e s m below meth c A ls C hr hA hO hH hl
  have C : gC E cX10_in 6 RX10 p s m _ meth c := C
  have hl : lv_has ls 6 [(0, .long p0), (2, .long p1), (4, .long p2)] := hl
  have hx := C.1
  have hb := C.2.1
  have hI := hI.S []
  refine lv_lload_n hx hb dX10_in_0 rfl (lv_at hl 0 rfl) ?_
  refine lv_lload_n hx hb dX10_in_1 rfl (lv_at hl 1 rfl) ?_
  refine W.lcmp hx hb dX10_in_2 ?_
  refine lv_topi (fun z1 ez1 => ?_)
  refine lv_if_lt (tgt := 17) hx hb dX10_in_3 (by decide) (fun c2 => ?_) (fun c2 => ?_)
  · skip
    have r3 : rg z1 (-2147483648) (-1) := rf_ltl (c_lt c2) (rg_all _) rl_0 (by decide)
    refine lv_iconst (v := (0 : Int32)) hx hb dX10_in_17 (by decide) ?_
    exact g_zret C hr (rg_z (rg_w rl_0 (by decide))) hH (Nat.zero_le _) (Nat.zero_le _) dX10_in_18 ⟨rfl, hI, ⟨(rg_w rl_0 (by decide)), ⟨fun h => absurd rfl h, fun h => absurd h (in_n1 ez1 c2)⟩⟩⟩
  · skip
    have r4 : rg z1 0 2147483647 := rf_ler (n_lt c2) rl_0 (rg_all _) (by decide)
    refine lv_lload_n hx hb dX10_in_6 rfl (lv_at hl 0 rfl) ?_
    refine lv_lload hx hb dX10_in_7 (lv_at hl 2 rfl) ?_
    refine W.lcmp hx hb dX10_in_9 ?_
    refine lv_topi (fun z5 ez5 => ?_)
    refine lv_if_gt (tgt := 17) hx hb dX10_in_10 (by decide) (fun c6 => ?_) (fun c6 => ?_)
    · skip
      have r7 : rg z5 1 2147483647 := rf_ltr (c_lt c6) rl_0 (rg_all _) (by decide)
      refine lv_iconst (v := (0 : Int32)) hx hb dX10_in_17 (by decide) ?_
      exact g_zret C hr (rg_z (rg_w rl_0 (by decide))) hH (Nat.zero_le _) (Nat.zero_le _) dX10_in_18 ⟨rfl, hI, ⟨(rg_w rl_0 (by decide)), ⟨fun h => absurd rfl h, fun h => absurd h (in_n2 ez5 c6)⟩⟩⟩
    · skip
      have r8 : rg z5 (-2147483648) 0 := rf_lel (n_lt c6) (rg_all _) rl_0 (by decide)
      refine lv_iconst (v := (1 : Int32)) hx hb dX10_in_13 (by decide) ?_
      refine lv_goto (tgt := 18) hx hb dX10_in_14 (by decide) ?_
      exact g_zret C hr (rg_z (rg_w rl_1 (by decide))) hH (Nat.zero_le _) (Nat.zero_le _) dX10_in_18 ⟨rfl, hI, ⟨(rg_w rl_1 (by decide)), ⟨fun _ => within_ok ez1 c2 ez5 c6, fun _ => (by decide)⟩⟩⟩
set_option maxHeartbeats 4000000 in
set_option maxRecDepth 100000 in
theorem t_X10_image (l : Launch) (E : gE) (J : Nat → Nat) (τ : Nat → Nat) (L : List Nat) (f : gF) (hI : tI E L τ f) {q : Nat} (mq : q ∈ L) (tq : τ q = 40) (p1 : Int32) {vl vh : Nat → Int32} (hl0 : isA E L τ f 46 5 vl) (hh : isA E L τ f 47 45 vh) (hUl : uq L τ 46) (hUh : uq L τ 47) (hRR : rowsR vl vh) : tMi l E J yX10_image cX10_image 2 .int (gRm (2) 0 0) [.ref q, .int p1] L f (tPi E L τ [40, 46, 47, 48, 49, 50, 51] f (fun r f1 => rg r (-2) 0 ∧ (r = gImage p1 ∧ ∃ vl1 vh1 : Nat → Int32, isA E L τ f1 46 5 vl1 ∧ isA E L τ f1 47 45 vh1 ∧ rowsR vl1 vh1))) := by
  refine tMi.intro (by decide) (Nat.le_of_ble_eq_true rfl) ?_
  intro p e s m below meth c A ls C hr hA hO hH hl
  have C : gC E cX10_image 2 RX10 p s m _ meth c := C
  have hl : lv_has ls 2 [(0, .ref q), (1, .int p1)] := hl
  have hx := C.1
  have hb := C.2.1
  have hI := hI.S [40, 46, 47, 48, 49, 50, 51]
  obtain ⟨q_21, mq_21, tq_21, kq_21⟩ := t_fldr hI.1 mq tq td_40 (k := 21) rfl
  have hR := hRR 0 (by decide)
  have hPh := hasP_of hI.1 mq tq hh
  refine lv_aload_n hx hb dX10_image_0 rfl (lv_at hl 0 rfl) ?_
  refine lv_iconst (v := (0 : Int32)) hx hb dX10_image_1 (by decide) ?_
  refine t_put C hH hI mq tq (by decide) td_40 iX10 tyX10 tyX10_ok nmX10 rfl 0 (by decide) wd855 rfl rfl (v := .int (0 : Int32)) rfl rfl rfl ⟨_, rfl, (rg_w rl_0 (by decide))⟩ (fun _ h => nomatch h) dX10_image_2 (fun f1 H locs hH hI nf1 of1 bf1 => ?_)
  have hl0 := isA_st hl0 tq rfl bf1
  have hh := isA_st hh tq rfl bf1
  refine lv_iload_n hx hb dX10_image_5 rfl (lv_at hl 1 rfl) ?_
  refine lv_i2l (v := (p1).toInt64) hx hb dX10_image_6 rfl ?_
  refine lv_lconst (v := (0 : Int64)) hx hb dX10_image_7 (by decide) ?_
  refine lv_ldc2 hx hb C.2.2.2.1 (C.2.2.2.2.1 _ wd860) dX10_image_8 ?_
  refine t_Si C hO hl.1 hA hH (As := [.long (p1).toInt64, .long (0 : Int64), .long (2 : Int64)]) (rest := []) (t_inX l E J τ L f1 hI.1 ((p1).toInt64) ((0 : Int64)) ((2 : Int64))) my_X10_in wd744 rfl rfl (Nat.le_of_ble_eq_true rfl) ⟨Nat.le_of_ble_eq_true rfl, Nat.le_of_ble_eq_true rfl⟩ ⟨rfl, rfl⟩ dX10_image_11 (fun r3 L1 f2 H locs hp hH => ?_)
  obtain ⟨rfl, s4, h5⟩ := hp
  have hJ := hI
  have hI := hI.call s4 (by decide)
  have hl0_ := hl0
  have hl0 := hl0.S s4 rfl
  have hh_ := hh
  have hh := hh.S s4 rfl
  refine lv_if_ne (tgt := 20) hx hb dX10_image_14 (by decide) (fun c6 => ?_) (fun c6 => ?_)
  · skip
    have r7 : rg r3 1 1 := rf_nel (n_eq c6) h5.1 rl_0 (by decide)
    have r8 : rg p1 0 2 := in_rg (la := 0) (lb := 2) (h5.2.1 c6) (rg_all _) (by decide) (by decide) (by decide)
    refine lv_aload_n hx hb dX10_image_20 rfl (lv_at hl 0 rfl) ?_
    refine lv_iconst (v := (0 : Int32)) hx hb dX10_image_21 (by decide) ?_
    refine lv_iconst (v := (1 : Int32)) hx hb dX10_image_22 (by decide) ?_
    refine lv_iload_n hx hb dX10_image_23 rfl (lv_at hl 1 rfl) ?_
    refine lv_iadd hx hb dX10_image_24 ?_
    refine lv_topi (fun z9 ez9 => ?_)
    have r10 : rg z9 1 3 := rg_add ez9 rl_1 r8 (by decide)
    refine t_Vv C hO hl.1 hA hH hI.1 (As := [.int (0 : Int32), .int z9]) (rest := []) (t_copyLand l E J τ L f2 hI.1 mq tq (0 : Int32) (rg_w rl_0 (by decide)) z9 (rg_w r10 (by decide)) hl0 hh hUl hUh) my_X10_copyLand wd1035 mq tq td_40 rfl rfl rfl (Nat.le_of_ble_eq_true rfl) ⟨Nat.le_of_ble_eq_true rfl, Nat.le_of_ble_eq_true rfl⟩ ⟨rfl, rfl⟩ dX10_image_25 (fun L1 f11 H locs hp hH => ?_)
    obtain ⟨rfl, s13, h14⟩ := hp
    have hJ := hI
    have hI := hI.call s13 (by decide)
    have hl0_ := hl0
    have hh_ := hh
    have hl0 := h14.1
    have hh := h14.2
    refine lv_aload_n hx hb dX10_image_28 rfl (lv_at hl 0 rfl) ?_
    refine t_getX C hH hI.1 mq tq td_40 iX10 rfl 21 (by decide) wd1036 rfl (hI.rf kq_21) dX10_image_29 ?_
    refine lv_iload_n hx hb dX10_image_32 rfl (lv_at hl 1 rfl) ?_
    refine lv_iconst (v := (1 : Int32)) hx hb dX10_image_33 (by decide) ?_
    refine t_zast C hH hI mq_21 tq_21 (by decide) td_51 (rg_in r8 (by decide)) dX10_image_34 (fun f15 H locs hH hI bf15 uf15 => ?_)
    have hl0 := isA_st hl0 tq_21 rfl bf15
    have hh := isA_st hh tq_21 rfl bf15
    refine lv_iconst (v := (0 : Int32)) hx hb dX10_image_35 (by decide) ?_
    exact g_iret C hr hH (Nat.zero_le _) (Nat.zero_le _) dX10_image_36 ⟨rfl, hI, ⟨(rg_w rl_0 (by decide)), ⟨img_yes h5.2 (by decide) (by decide) c6, ⟨_, _, hl0, hh, (rowsR_cp hRR (hRR 0 (by decide)))⟩⟩⟩⟩
  · skip
    have r16 : rg r3 0 0 := rf_eql (c_eq c6) h5.1 rl_0 (by decide)
    refine lv_bipush (v := (-2 : Int32)) hx hb dX10_image_17 (by decide) ?_
    exact g_iret C hr hH (Nat.zero_le _) (Nat.zero_le _) dX10_image_19 ⟨rfl, hI, ⟨(rg_w rl_m2 (by decide)), ⟨img_no h5.2 (by decide) (by decide) c6, ⟨_, _, hl0, hh, hRR⟩⟩⟩⟩
set_option maxHeartbeats 4000000 in
set_option maxRecDepth 100000 in
theorem t_X10_back (l : Launch) (E : gE) (J : Nat → Nat) (τ : Nat → Nat) (L : List Nat) (f : gF) (hI : tI E L τ f) {q : Nat} (mq : q ∈ L) (tq : τ q = 40) (p1 : Int32) {vl vh : Nat → Int32} (hl0 : isA E L τ f 46 5 vl) (hh : isA E L τ f 47 45 vh) (hUl : uq L τ 46) (hUh : uq L τ 47) (hRR : rowsR vl vh) : tMi l E J yX10_back cX10_back 2 .int (gRm (2) 0 0) [.ref q, .int p1] L f (tPi E L τ [40, 46, 47, 48, 49, 50] f (fun r f1 => rg r (-6) 0 ∧ (∃ vl1 vh1 : Nat → Int32, isA E L τ f1 46 5 vl1 ∧ isA E L τ f1 47 45 vh1 ∧ rowsR vl1 vh1))) := by
  refine tMi.intro (by decide) (Nat.le_of_ble_eq_true rfl) ?_
  intro p e s m below meth c A ls C hr hA hO hH hl
  have C : gC E cX10_back 2 RX10 p s m _ meth c := C
  have hl : lv_has ls 2 [(0, .ref q), (1, .int p1)] := hl
  have hx := C.1
  have hb := C.2.1
  have hI := hI.S [40, 46, 47, 48, 49, 50]
  obtain ⟨q_21, mq_21, tq_21, kq_21⟩ := t_fldr hI.1 mq tq td_40 (k := 21) rfl
  have hR := hRR 0 (by decide)
  have hPh := hasP_of hI.1 mq tq hh
  refine lv_aload_n hx hb dX10_back_0 rfl (lv_at hl 0 rfl) ?_
  refine lv_iconst (v := (0 : Int32)) hx hb dX10_back_1 (by decide) ?_
  refine t_put C hH hI mq tq (by decide) td_40 iX10 tyX10 tyX10_ok nmX10 rfl 0 (by decide) wd855 rfl rfl (v := .int (0 : Int32)) rfl rfl rfl ⟨_, rfl, (rg_w rl_0 (by decide))⟩ (fun _ h => nomatch h) dX10_back_2 (fun f1 H locs hH hI nf1 of1 bf1 => ?_)
  have hl0 := isA_st hl0 tq rfl bf1
  have hh := isA_st hh tq rfl bf1
  refine lv_iload_n hx hb dX10_back_5 rfl (lv_at hl 1 rfl) ?_
  refine lv_i2l (v := (p1).toInt64) hx hb dX10_back_6 rfl ?_
  refine lv_lconst (v := (0 : Int64)) hx hb dX10_back_7 (by decide) ?_
  refine lv_ldc2 hx hb C.2.2.2.1 (C.2.2.2.2.1 _ wd860) dX10_back_8 ?_
  refine t_Si C hO hl.1 hA hH (As := [.long (p1).toInt64, .long (0 : Int64), .long (2 : Int64)]) (rest := []) (t_inX l E J τ L f1 hI.1 ((p1).toInt64) ((0 : Int64)) ((2 : Int64))) my_X10_in wd744 rfl rfl (Nat.le_of_ble_eq_true rfl) ⟨Nat.le_of_ble_eq_true rfl, Nat.le_of_ble_eq_true rfl⟩ ⟨rfl, rfl⟩ dX10_back_11 (fun r3 L1 f2 H locs hp hH => ?_)
  obtain ⟨rfl, s4, h5⟩ := hp
  have hJ := hI
  have hI := hI.call s4 (by decide)
  have hl0_ := hl0
  have hl0 := hl0.S s4 rfl
  have hh_ := hh
  have hh := hh.S s4 rfl
  refine lv_if_ne (tgt := 20) hx hb dX10_back_14 (by decide) (fun c6 => ?_) (fun c6 => ?_)
  · skip
    have r7 : rg r3 1 1 := rf_nel (n_eq c6) h5.1 rl_0 (by decide)
    have r8 : rg p1 0 2 := in_rg (la := 0) (lb := 2) (h5.2.1 c6) (rg_all _) (by decide) (by decide) (by decide)
    refine lv_aload_n hx hb dX10_back_20 rfl (lv_at hl 0 rfl) ?_
    refine t_getX C hH hI.1 mq tq td_40 iX10 rfl 21 (by decide) wd1036 rfl (hI.rf kq_21) dX10_back_21 ?_
    refine lv_iload_n hx hb dX10_back_24 rfl (lv_at hl 1 rfl) ?_
    refine t_zald C hH hI.1 mq_21 tq_21 td_51 (rg_in r8 (by decide)) dX10_back_25 (fun z9v az9 => ?_)
    refine lv_topi (fun z9 ez9 => ?_)
    refine lv_if_ne (tgt := 32) hx hb dX10_back_26 (by decide) (fun c10 => ?_) (fun c10 => ?_)
    · skip
      refine lv_aload_n hx hb dX10_back_32 rfl (lv_at hl 0 rfl) ?_
      refine lv_iconst (v := (1 : Int32)) hx hb dX10_back_33 (by decide) ?_
      refine lv_iload_n hx hb dX10_back_34 rfl (lv_at hl 1 rfl) ?_
      refine lv_iadd hx hb dX10_back_35 ?_
      refine lv_topi (fun z11 ez11 => ?_)
      have r12 : rg z11 1 3 := rg_add ez11 rl_1 r8 (by decide)
      refine lv_iconst (v := (0 : Int32)) hx hb dX10_back_36 (by decide) ?_
      refine t_Vv C hO hl.1 hA hH hI.1 (As := [.int z11, .int (0 : Int32)]) (rest := []) (t_copyLand l E J τ L f2 hI.1 mq tq z11 (rg_w r12 (by decide)) (0 : Int32) (rg_w rl_0 (by decide)) hl0 hh hUl hUh) my_X10_copyLand wd1035 mq tq td_40 rfl rfl rfl (Nat.le_of_ble_eq_true rfl) ⟨Nat.le_of_ble_eq_true rfl, Nat.le_of_ble_eq_true rfl⟩ ⟨rfl, rfl⟩ dX10_back_37 (fun L1 f13 H locs hp hH => ?_)
      obtain ⟨rfl, s15, h16⟩ := hp
      have hJ := hI
      have hI := hI.call s15 (by decide)
      have hl0_ := hl0
      have hh_ := hh
      have hl0 := h16.1
      have hh := h16.2
      refine lv_iconst (v := (0 : Int32)) hx hb dX10_back_40 (by decide) ?_
      exact g_iret C hr hH (Nat.zero_le _) (Nat.zero_le _) dX10_back_41 ⟨rfl, hI, ⟨(rg_w rl_0 (by decide)), ⟨_, _, hl0, hh, (rowsR_cp hRR (hRR _ (img_r r12)))⟩⟩⟩
    · skip
      have r17 : rg z9 0 0 := rf_eql (c_eq c10) (rg_all _) rl_0 (by decide)
      refine lv_bipush (v := (-6 : Int32)) hx hb dX10_back_29 (by decide) ?_
      exact g_iret C hr hH (Nat.zero_le _) (Nat.zero_le _) dX10_back_31 ⟨rfl, hI, ⟨(rg_w rl_m6 (by decide)), ⟨_, _, hl0, hh, hRR⟩⟩⟩
  · skip
    have r18 : rg r3 0 0 := rf_eql (c_eq c6) h5.1 rl_0 (by decide)
    refine lv_bipush (v := (-2 : Int32)) hx hb dX10_back_17 (by decide) ?_
    exact g_iret C hr hH (Nat.zero_le _) (Nat.zero_le _) dX10_back_19 ⟨rfl, hI, ⟨(rg_w rl_m2 (by decide)), ⟨_, _, hl0, hh, hRR⟩⟩⟩
set_option maxHeartbeats 4000000 in
set_option maxRecDepth 100000 in
theorem t_X10_light (l : Launch) (E : gE) (J : Nat → Nat) (τ : Nat → Nat) (L : List Nat) (f : gF) (hI : tI E L τ f) {q : Nat} (mq : q ∈ L) (tq : τ q = 40) (p1 : Int32) (p2 : Int32) {vl vh : Nat → Int32} (hl0 : isA E L τ f 46 5 vl) (hh : isA E L τ f 47 45 vh) (hUl : uq L τ 46) (hUh : uq L τ 47) (hRR : rowsR vl vh) : tMi l E J yX10_light cX10_light 3 .int (gRm (3) 0 0) [.ref q, .int p1, .int p2] L f (tPi E L τ [40, 47, 50, 52] f (fun r f1 => rg r (-2147483648) 2147483647 ∧ (∃ vl1 vh1 : Nat → Int32, isA E L τ f1 46 5 vl1 ∧ isA E L τ f1 47 45 vh1 ∧ rowsR vl1 vh1))) := by
  refine tMi.intro (by decide) (Nat.le_of_ble_eq_true rfl) ?_
  intro p e s m below meth c A ls C hr hA hO hH hl
  have C : gC E cX10_light 3 RX10 p s m _ meth c := C
  have hl : lv_has ls 3 [(0, .ref q), (1, .int p1), (2, .int p2)] := hl
  have hx := C.1
  have hb := C.2.1
  have hI := hI.S [40, 47, 50, 52]
  obtain ⟨q_17, mq_17, tq_17, kq_17⟩ := t_fldr hI.1 mq tq td_40 (k := 17) rfl
  have hR := hRR 0 (by decide)
  have hPh := hasP_of hI.1 mq tq hh
  refine lv_aload_n hx hb dX10_light_0 rfl (lv_at hl 0 rfl) ?_
  refine lv_iconst (v := (0 : Int32)) hx hb dX10_light_1 (by decide) ?_
  refine t_put C hH hI mq tq (by decide) td_40 iX10 tyX10 tyX10_ok nmX10 rfl 0 (by decide) wd855 rfl rfl (v := .int (0 : Int32)) rfl rfl rfl ⟨_, rfl, (rg_w rl_0 (by decide))⟩ (fun _ h => nomatch h) dX10_light_2 (fun f1 H locs hH hI nf1 of1 bf1 => ?_)
  have hl0 := isA_st hl0 tq rfl bf1
  have hh := isA_st hh tq rfl bf1
  refine lv_aload_n hx hb dX10_light_5 rfl (lv_at hl 0 rfl) ?_
  refine lv_iload_n hx hb dX10_light_6 rfl (lv_at hl 1 rfl) ?_
  refine lv_i2l (v := (p1).toInt64) hx hb dX10_light_7 rfl ?_
  refine t_Vi C hO hl.1 hA hH hI.1 (As := [.long (p1).toInt64]) (rest := []) (t_X10_isCell l E J τ L f1 hI.1 mq tq ((p1).toInt64)) my_X10_isCell wd875 mq tq td_40 rfl rfl rfl (Nat.le_of_ble_eq_true rfl) ⟨Nat.le_of_ble_eq_true rfl, Nat.le_of_ble_eq_true rfl⟩ ⟨rfl, rfl⟩ dX10_light_8 (fun r3 L1 f2 H locs hp hH => ?_)
  obtain ⟨rfl, s4, h5⟩ := hp
  have hJ := hI
  have hI := hI.call s4 (by decide)
  have hl0_ := hl0
  have hl0 := hl0.S s4 rfl
  have hh_ := hh
  have hh := hh.S s4 rfl
  refine lv_if_eq (tgt := 21) hx hb dX10_light_11 (by decide) (fun c6 => ?_) (fun c6 => ?_)
  · skip
    have r7 : rg r3 0 0 := rf_eql (c_eq c6) h5.1 rl_0 (by decide)
    refine lv_bipush (v := (-2 : Int32)) hx hb dX10_light_21 (by decide) ?_
    exact g_iret C hr hH (Nat.zero_le _) (Nat.zero_le _) dX10_light_23 ⟨rfl, hI, ⟨(rg_w rl_m2 (by decide)), ⟨_, _, hl0, hh, hRR⟩⟩⟩
  · skip
    have r8 : rg r3 1 1 := rf_nel (n_eq c6) h5.1 rl_0 (by decide)
    have r9 : rg p1 0 19 := is_rg (h5.2.1 c6) (rg_all _) (by decide)
    refine lv_iload_n hx hb dX10_light_14 rfl (lv_at hl 2 rfl) ?_
    refine t_Si C hO hl.1 hA hH (As := [.int p2]) (rest := []) (t_X10_isHalf l E J τ L f2 hI.1 p2) my_X10_isHalf wd910 rfl rfl (Nat.le_of_ble_eq_true rfl) ⟨Nat.le_of_ble_eq_true rfl, Nat.le_of_ble_eq_true rfl⟩ ⟨rfl, rfl⟩ dX10_light_15 (fun r11 L1 f10 H locs hp hH => ?_)
    obtain ⟨rfl, s12, h13⟩ := hp
    have hI := hI.call s12 (by decide)
    have hl0_ := hl0
    have hl0 := hl0.S s12 rfl
    have hh_ := hh
    have hh := hh.S s12 rfl
    refine lv_if_ne (tgt := 24) hx hb dX10_light_18 (by decide) (fun c14 => ?_) (fun c14 => ?_)
    · skip
      have r15 : rg r11 1 1 := rf_nel (n_eq c14) h13.1 rl_0 (by decide)
      have r16 : rg p2 0 1 := h13.2 c14
      refine lv_aload_n hx hb dX10_light_24 rfl (lv_at hl 0 rfl) ?_
      refine t_getX C hH hI.1 mq tq td_40 iX10 rfl 17 (by decide) wd747 rfl (hI.rf kq_17) dX10_light_25 ?_
      refine lv_bipush (v := (7 : Int32)) hx hb dX10_light_28 (by decide) ?_
      refine t_ald C hH hI.1 mq_17 tq_17 td_47 (rg_in rl_7 (by decide)) dX10_light_30 (fun z17v az17 pz17 => ?_)
      refine lv_topi (fun z17 ez17 => ?_)
      rw [arr_inj az17 (hh q_17 mq_17 tq_17)] at ez17 pz17
      have r18 : rg z17 0 40 := has_rg pz17 (i := (7 : Int32)) 7 rfl (by decide) ez17
      refine lv_bipush (v := (40 : Int32)) hx hb dX10_light_31 (by decide) ?_
      refine lv_icmp_ne (tgt := 39) hx hb dX10_light_33 (by decide) (fun c19 => ?_) (fun c19 => ?_)
      · skip
        have r20 : rg z17 0 39 := rf_nel (n_eq c19) r18 rl_40 (by decide)
        refine lv_aload_n hx hb dX10_light_39 rfl (lv_at hl 0 rfl) ?_
        refine t_Vv C hO hl.1 hA hH hI.1 (As := []) (rest := []) (t_X10_lays l E J τ L f10 hI.1 mq tq) my_X10_lays wd813 mq tq td_40 rfl rfl rfl (Nat.le_of_ble_eq_true rfl) ⟨Nat.le_of_ble_eq_true rfl, Nat.le_of_ble_eq_true rfl⟩ ⟨rfl, rfl⟩ dX10_light_40 (fun L1 f21 H locs hp hH => ?_)
        obtain ⟨rfl, s23, h24⟩ := hp
        have hI := hI.call s23 (by decide)
        have hl0_ := hl0
        have hl0 := hl0.S s23 rfl
        have hh_ := hh
        have hh := hh.S s23 rfl
        refine lv_aload_n hx hb dX10_light_43 rfl (lv_at hl 0 rfl) ?_
        refine lv_iconst (v := (0 : Int32)) hx hb dX10_light_44 (by decide) ?_
        refine lv_iload_n hx hb dX10_light_45 rfl (lv_at hl 1 rfl) ?_
        refine lv_iload_n hx hb dX10_light_46 rfl (lv_at hl 2 rfl) ?_
        refine t_Vv C hO hl.1 hA hH hI.1 (As := [.int (0 : Int32), .int p1, .int p2]) (rest := []) (t_acts l E J τ L f21 hI.1 mq tq (0 : Int32) p1 p2 hh hUh (acts_7 ez17 r20) (fun h => absurd h (by decide))) my_X10_acts wd1040 mq tq td_40 rfl rfl rfl (Nat.le_of_ble_eq_true rfl) ⟨Nat.le_of_ble_eq_true rfl, Nat.le_of_ble_eq_true rfl⟩ ⟨rfl, rfl⟩ dX10_light_47 (fun L1 f25 H locs hp hH => ?_)
        obtain ⟨rfl, s27, h28⟩ := hp
        have hJ := hI
        have hI := hI.call s27 (by decide)
        have hl0_ := hl0
        have hl0 := hl0.S s27 rfl
        have hh_ := hh
        have hh := h28
        refine lv_aload_n hx hb dX10_light_50 rfl (lv_at hl 0 rfl) ?_
        refine t_geti C hH hI.1 mq tq td_40 iX10 rfl 22 (by decide) wd771 rfl rfl dX10_light_51 (fun z29 rz29 => ?_)
        refine lv_iload_n hx hb dX10_light_54 rfl (lv_at hl 1 rfl) ?_
        refine t_Si C hO hl.1 hA hH (As := [.int z29, .int p1]) (rest := []) (t_X10_isBit l E J τ L f25 hI.1 z29 p1) my_X10_isBit wd783 rfl rfl (Nat.le_of_ble_eq_true rfl) ⟨Nat.le_of_ble_eq_true rfl, Nat.le_of_ble_eq_true rfl⟩ ⟨rfl, rfl⟩ dX10_light_55 (fun r31 L1 f30 H locs hp hH => ?_)
        obtain ⟨rfl, s32, h33⟩ := hp
        have hI := hI.call s32 (by decide)
        have hl0_ := hl0
        have hl0 := hl0.S s32 rfl
        have hh_ := hh
        have hh := hh.S s32 rfl
        refine lv_if_eq (tgt := 65) hx hb dX10_light_58 (by decide) (fun c34 => ?_) (fun c34 => ?_)
        · skip
          have r35 : rg r31 0 0 := rf_eql (c_eq c34) h33 rl_0 (by decide)
          refine lv_iconst (v := (0 : Int32)) hx hb dX10_light_65 (by decide) ?_
          exact g_iret C hr hH (Nat.zero_le _) (Nat.zero_le _) dX10_light_66 ⟨rfl, hI, ⟨(rg_w rl_0 (by decide)), ⟨_, _, hl0, hh, (rowsR_7 hRR)⟩⟩⟩
        · skip
          have r36 : rg r31 1 1 := rf_nel (n_eq c34) h33 rl_0 (by decide)
          refine lv_iconst (v := (1 : Int32)) hx hb dX10_light_61 (by decide) ?_
          refine lv_goto (tgt := 66) hx hb dX10_light_62 (by decide) ?_
          exact g_iret C hr hH (Nat.zero_le _) (Nat.zero_le _) dX10_light_66 ⟨rfl, hI, ⟨(rg_w rl_1 (by decide)), ⟨_, _, hl0, hh, (rowsR_7 hRR)⟩⟩⟩
      · skip
        have r37 : rg z17 40 40 := rf_eql (c_eq c19) r18 rl_40 (by decide)
        refine lv_bipush (v := (-5 : Int32)) hx hb dX10_light_36 (by decide) ?_
        exact g_iret C hr hH (Nat.zero_le _) (Nat.zero_le _) dX10_light_38 ⟨rfl, hI, ⟨(rg_w rl_m5 (by decide)), ⟨_, _, hl0, hh, hRR⟩⟩⟩
    · skip
      have r38 : rg r11 0 0 := rf_eql (c_eq c14) h13.1 rl_0 (by decide)
      refine lv_bipush (v := (-2 : Int32)) hx hb dX10_light_21 (by decide) ?_
      exact g_iret C hr hH (Nat.zero_le _) (Nat.zero_le _) dX10_light_23 ⟨rfl, hI, ⟨(rg_w rl_m2 (by decide)), ⟨_, _, hl0, hh, hRR⟩⟩⟩
set_option maxHeartbeats 4000000 in
set_option maxRecDepth 100000 in
theorem t_X10_turn (l : Launch) (E : gE) (J : Nat → Nat) (τ : Nat → Nat) (L : List Nat) (f : gF) (hI : tI E L τ f) {q : Nat} (mq : q ∈ L) (tq : τ q = 40) (p1 : Int32) (p2 : Int32) {vl vh : Nat → Int32} (hl0 : isA E L τ f 46 5 vl) (hh : isA E L τ f 47 45 vh) (hUl : uq L τ 46) (hUh : uq L τ 47) (hRR : rowsR vl vh) : tMi l E J yX10_turn cX10_turn 3 .int (gRm (3) 0 0) [.ref q, .int p1, .int p2] L f (tPi E L τ [40, 47, 50, 52] f (fun r f1 => rg r (-2147483648) 2147483647 ∧ (∃ vl1 vh1 : Nat → Int32, isA E L τ f1 46 5 vl1 ∧ isA E L τ f1 47 45 vh1 ∧ rowsR vl1 vh1))) := by
  refine tMi.intro (by decide) (Nat.le_of_ble_eq_true rfl) ?_
  intro p e s m below meth c A ls C hr hA hO hH hl
  have C : gC E cX10_turn 3 RX10 p s m _ meth c := C
  have hl : lv_has ls 3 [(0, .ref q), (1, .int p1), (2, .int p2)] := hl
  have hx := C.1
  have hb := C.2.1
  have hI := hI.S [40, 47, 50, 52]
  obtain ⟨q_17, mq_17, tq_17, kq_17⟩ := t_fldr hI.1 mq tq td_40 (k := 17) rfl
  obtain ⟨q_25, mq_25, tq_25, kq_25⟩ := t_fldr hI.1 mq tq td_40 (k := 25) rfl
  have hR := hRR 0 (by decide)
  have hPh := hasP_of hI.1 mq tq hh
  refine lv_aload_n hx hb dX10_turn_0 rfl (lv_at hl 0 rfl) ?_
  refine lv_iconst (v := (0 : Int32)) hx hb dX10_turn_1 (by decide) ?_
  refine t_put C hH hI mq tq (by decide) td_40 iX10 tyX10 tyX10_ok nmX10 rfl 0 (by decide) wd855 rfl rfl (v := .int (0 : Int32)) rfl rfl rfl ⟨_, rfl, (rg_w rl_0 (by decide))⟩ (fun _ h => nomatch h) dX10_turn_2 (fun f1 H locs hH hI nf1 of1 bf1 => ?_)
  have hl0 := isA_st hl0 tq rfl bf1
  have hh := isA_st hh tq rfl bf1
  refine lv_aload_n hx hb dX10_turn_5 rfl (lv_at hl 0 rfl) ?_
  refine lv_iload_n hx hb dX10_turn_6 rfl (lv_at hl 1 rfl) ?_
  refine lv_i2l (v := (p1).toInt64) hx hb dX10_turn_7 rfl ?_
  refine t_Vi C hO hl.1 hA hH hI.1 (As := [.long (p1).toInt64]) (rest := []) (t_X10_isFlight l E J τ L f1 hI.1 mq tq ((p1).toInt64)) my_X10_isFlight wd859 mq tq td_40 rfl rfl rfl (Nat.le_of_ble_eq_true rfl) ⟨Nat.le_of_ble_eq_true rfl, Nat.le_of_ble_eq_true rfl⟩ ⟨rfl, rfl⟩ dX10_turn_8 (fun r3 L1 f2 H locs hp hH => ?_)
  obtain ⟨rfl, s4, h5⟩ := hp
  have hJ := hI
  have hI := hI.call s4 (by decide)
  have hl0_ := hl0
  have hl0 := hl0.S s4 rfl
  have hh_ := hh
  have hh := hh.S s4 rfl
  refine lv_if_eq (tgt := 26) hx hb dX10_turn_11 (by decide) (fun c6 => ?_) (fun c6 => ?_)
  · skip
    have r7 : rg r3 0 0 := rf_eql (c_eq c6) h5.1 rl_0 (by decide)
    refine lv_bipush (v := (-2 : Int32)) hx hb dX10_turn_26 (by decide) ?_
    exact g_iret C hr hH (Nat.zero_le _) (Nat.zero_le _) dX10_turn_28 ⟨rfl, hI, ⟨(rg_w rl_m2 (by decide)), ⟨_, _, hl0, hh, hRR⟩⟩⟩
  · skip
    have r8 : rg r3 1 1 := rf_nel (n_eq c6) h5.1 rl_0 (by decide)
    have r9 : rg p1 0 3 := is_rg (h5.2.1 c6) (rg_all _) (by decide)
    refine lv_iload_n hx hb dX10_turn_14 rfl (lv_at hl 2 rfl) ?_
    refine lv_i2l (v := (p2).toInt64) hx hb dX10_turn_15 rfl ?_
    refine lv_lconst (v := (0 : Int64)) hx hb dX10_turn_16 (by decide) ?_
    refine lv_ldc2 hx hb C.2.2.2.1 (C.2.2.2.2.1 _ wd740) dX10_turn_17 ?_
    refine t_Si C hO hl.1 hA hH (As := [.long (p2).toInt64, .long (0 : Int64), .long (3 : Int64)]) (rest := []) (t_X10_in l E J τ L f2 hI.1 ((p2).toInt64) ((0 : Int64)) ((3 : Int64))) my_X10_in wd744 rfl rfl (Nat.le_of_ble_eq_true rfl) ⟨Nat.le_of_ble_eq_true rfl, Nat.le_of_ble_eq_true rfl⟩ ⟨rfl, rfl⟩ dX10_turn_20 (fun r11 L1 f10 H locs hp hH => ?_)
    obtain ⟨rfl, s12, h13⟩ := hp
    have hJ := hI
    have hI := hI.call s12 (by decide)
    have hl0_ := hl0
    have hl0 := hl0.S s12 rfl
    have hh_ := hh
    have hh := hh.S s12 rfl
    refine lv_if_ne (tgt := 29) hx hb dX10_turn_23 (by decide) (fun c14 => ?_) (fun c14 => ?_)
    · skip
      have r15 : rg r11 1 1 := rf_nel (n_eq c14) h13.1 rl_0 (by decide)
      have r16 : rg p2 0 3 := in_rg (la := 0) (lb := 3) (h13.2 c14) (rg_all _) (by decide) (by decide) (by decide)
      refine lv_aload_n hx hb dX10_turn_29 rfl (lv_at hl 0 rfl) ?_
      refine t_getX C hH hI.1 mq tq td_40 iX10 rfl 17 (by decide) wd747 rfl (hI.rf kq_17) dX10_turn_30 ?_
      refine lv_bipush (v := (7 : Int32)) hx hb dX10_turn_33 (by decide) ?_
      refine t_ald C hH hI.1 mq_17 tq_17 td_47 (rg_in rl_7 (by decide)) dX10_turn_35 (fun z17v az17 pz17 => ?_)
      refine lv_topi (fun z17 ez17 => ?_)
      rw [arr_inj az17 (hh q_17 mq_17 tq_17)] at ez17 pz17
      have r18 : rg z17 0 40 := has_rg pz17 (i := (7 : Int32)) 7 rfl (by decide) ez17
      refine lv_bipush (v := (40 : Int32)) hx hb dX10_turn_36 (by decide) ?_
      refine lv_icmp_ne (tgt := 44) hx hb dX10_turn_38 (by decide) (fun c19 => ?_) (fun c19 => ?_)
      · skip
        have r20 : rg z17 0 39 := rf_nel (n_eq c19) r18 rl_40 (by decide)
        refine lv_aload_n hx hb dX10_turn_44 rfl (lv_at hl 0 rfl) ?_
        refine t_Vv C hO hl.1 hA hH hI.1 (As := []) (rest := []) (t_X10_lays l E J τ L f10 hI.1 mq tq) my_X10_lays wd813 mq tq td_40 rfl rfl rfl (Nat.le_of_ble_eq_true rfl) ⟨Nat.le_of_ble_eq_true rfl, Nat.le_of_ble_eq_true rfl⟩ ⟨rfl, rfl⟩ dX10_turn_45 (fun L1 f21 H locs hp hH => ?_)
        obtain ⟨rfl, s23, h24⟩ := hp
        have hI := hI.call s23 (by decide)
        have hl0_ := hl0
        have hl0 := hl0.S s23 rfl
        have hh_ := hh
        have hh := hh.S s23 rfl
        refine lv_aload_n hx hb dX10_turn_48 rfl (lv_at hl 0 rfl) ?_
        refine lv_iconst (v := (1 : Int32)) hx hb dX10_turn_49 (by decide) ?_
        refine lv_iload_n hx hb dX10_turn_50 rfl (lv_at hl 1 rfl) ?_
        refine lv_iload_n hx hb dX10_turn_51 rfl (lv_at hl 2 rfl) ?_
        refine t_Vv C hO hl.1 hA hH hI.1 (As := [.int (1 : Int32), .int p1, .int p2]) (rest := []) (t_acts l E J τ L f21 hI.1 mq tq (1 : Int32) p1 p2 hh hUh (acts_7 ez17 r20) (fun _ => r9)) my_X10_acts wd1040 mq tq td_40 rfl rfl rfl (Nat.le_of_ble_eq_true rfl) ⟨Nat.le_of_ble_eq_true rfl, Nat.le_of_ble_eq_true rfl⟩ ⟨rfl, rfl⟩ dX10_turn_52 (fun L1 f25 H locs hp hH => ?_)
        obtain ⟨rfl, s27, h28⟩ := hp
        have hJ := hI
        have hI := hI.call s27 (by decide)
        have hl0_ := hl0
        have hl0 := hl0.S s27 rfl
        have hh_ := hh
        have hh := h28
        refine lv_aload_n hx hb dX10_turn_55 rfl (lv_at hl 0 rfl) ?_
        refine t_getX C hH hI.1 mq tq td_40 iX10 rfl 25 (by decide) wd772 rfl (hI.rf kq_25) dX10_turn_56 ?_
        refine lv_iload_n hx hb dX10_turn_59 rfl (lv_at hl 1 rfl) ?_
        refine t_ald C hH hI.1 mq_25 tq_25 td_52 (rg_in r9 (by decide)) dX10_turn_60 (fun z29v az29 _ => ?_)
        refine lv_topi (fun z29 ez29 => ?_)
        exact g_iret C hr hH (Nat.zero_le _) (Nat.zero_le _) dX10_turn_61 ⟨rfl, hI, ⟨(rg_all _), ⟨_, _, hl0, hh, (rowsR_7 hRR)⟩⟩⟩
      · skip
        have r30 : rg z17 40 40 := rf_eql (c_eq c19) r18 rl_40 (by decide)
        refine lv_bipush (v := (-5 : Int32)) hx hb dX10_turn_41 (by decide) ?_
        exact g_iret C hr hH (Nat.zero_le _) (Nat.zero_le _) dX10_turn_43 ⟨rfl, hI, ⟨(rg_w rl_m5 (by decide)), ⟨_, _, hl0, hh, hRR⟩⟩⟩
    · skip
      have r31 : rg r11 0 0 := rf_eql (c_eq c14) h13.1 rl_0 (by decide)
      refine lv_bipush (v := (-2 : Int32)) hx hb dX10_turn_26 (by decide) ?_
      exact g_iret C hr hH (Nat.zero_le _) (Nat.zero_le _) dX10_turn_28 ⟨rfl, hI, ⟨(rg_w rl_m2 (by decide)), ⟨_, _, hl0, hh, hRR⟩⟩⟩
set_option maxHeartbeats 4000000 in
set_option maxRecDepth 100000 in
theorem t_X10_undo (l : Launch) (E : gE) (J : Nat → Nat) (τ : Nat → Nat) (L : List Nat) (f : gF) (hI : tI E L τ f) {q : Nat} (mq : q ∈ L) (tq : τ q = 40) {vl vh : Nat → Int32} (hl0 : isA E L τ f 46 5 vl) (hh : isA E L τ f 47 45 vh) (hUl : uq L τ 46) (hUh : uq L τ 47) (hRR : rowsR vl vh) : tMi l E J yX10_undo cX10_undo 1 .int (gRm (2) 0 0) [.ref q] L f (tPi E L τ [40, 47] f (fun r f1 => rg r (-2147483648) 2147483647 ∧ (∃ vl1 vh1 : Nat → Int32, isA E L τ f1 46 5 vl1 ∧ isA E L τ f1 47 45 vh1 ∧ rowsR vl1 vh1))) := by
  refine tMi.intro (by decide) (Nat.le_of_ble_eq_true rfl) ?_
  intro p e s m below meth c A ls C hr hA hO hH hl
  have C : gC E cX10_undo 1 RX10 p s m _ meth c := C
  have hl : lv_has ls 1 [(0, .ref q)] := hl
  have hx := C.1
  have hb := C.2.1
  have hI := hI.S [40, 47]
  obtain ⟨q_17, mq_17, tq_17, kq_17⟩ := t_fldr hI.1 mq tq td_40 (k := 17) rfl
  have hR := hRR 0 (by decide)
  have hPh := hasP_of hI.1 mq tq hh
  refine lv_aload_n hx hb dX10_undo_0 rfl (lv_at hl 0 rfl) ?_
  refine lv_iconst (v := (0 : Int32)) hx hb dX10_undo_1 (by decide) ?_
  refine t_put C hH hI mq tq (by decide) td_40 iX10 tyX10 tyX10_ok nmX10 rfl 0 (by decide) wd855 rfl rfl (v := .int (0 : Int32)) rfl rfl rfl ⟨_, rfl, (rg_w rl_0 (by decide))⟩ (fun _ h => nomatch h) dX10_undo_2 (fun f1 H locs hH hI nf1 of1 bf1 => ?_)
  have hl0 := isA_st hl0 tq rfl bf1
  have hh := isA_st hh tq rfl bf1
  refine lv_aload_n hx hb dX10_undo_5 rfl (lv_at hl 0 rfl) ?_
  refine t_Vi C hO hl.1 hA hH hI.1 (As := []) (rest := []) (t_X10_isLand l E J τ L f1 hI.1 mq tq) my_X10_isLand wd768 mq tq td_40 rfl rfl rfl (Nat.le_of_ble_eq_true rfl) ⟨Nat.le_of_ble_eq_true rfl, Nat.le_of_ble_eq_true rfl⟩ ⟨rfl, rfl⟩ dX10_undo_6 (fun r3 L1 f2 H locs hp hH => ?_)
  obtain ⟨rfl, s4, h5⟩ := hp
  have hJ := hI
  have hI := hI.call s4 (by decide)
  have hl0_ := hl0
  have hl0 := hl0.S s4 rfl
  have hh_ := hh
  have hh := hh.S s4 rfl
  refine lv_if_ne (tgt := 15) hx hb dX10_undo_9 (by decide) (fun c6 => ?_) (fun c6 => ?_)
  · skip
    have r7 : rg r3 1 1 := rf_nel (n_eq c6) h5.1 rl_0 (by decide)
    refine lv_aload_n hx hb dX10_undo_15 rfl (lv_at hl 0 rfl) ?_
    refine t_getX C hH hI.1 mq tq td_40 iX10 rfl 17 (by decide) wd747 rfl (hI.rf kq_17) dX10_undo_16 ?_
    refine lv_bipush (v := (7 : Int32)) hx hb dX10_undo_19 (by decide) ?_
    refine t_ald C hH hI.1 mq_17 tq_17 td_47 (rg_in rl_7 (by decide)) dX10_undo_21 (fun z8v az8 pz8 => ?_)
    refine lv_topi (fun z8 ez8 => ?_)
    rw [arr_inj az8 (hh q_17 mq_17 tq_17)] at ez8 pz8
    have r9 : rg z8 0 40 := has_rg pz8 (i := (7 : Int32)) 7 rfl (by decide) ez8
    refine lv_if_ne (tgt := 28) hx hb dX10_undo_22 (by decide) (fun c10 => ?_) (fun c10 => ?_)
    · skip
      have r11 : rg z8 1 40 := rf_nel (n_eq c10) r9 rl_0 (by decide)
      refine lv_aload_n hx hb dX10_undo_28 rfl (lv_at hl 0 rfl) ?_
      refine t_getX C hH hI.1 mq tq td_40 iX10 rfl 17 (by decide) wd747 rfl (hI.rf kq_17) dX10_undo_29 ?_
      refine lv_bipush (v := (7 : Int32)) hx hb dX10_undo_32 (by decide) ?_
      refine lv_dup2_11 hx hb dX10_undo_34 rfl rfl ?_
      refine t_ald C hH hI.1 mq_17 tq_17 td_47 (rg_in rl_7 (by decide)) dX10_undo_35 (fun z12v az12 pz12 => ?_)
      refine lv_topi (fun z12 ez12 => ?_)
      rw [arr_inj az12 (hh q_17 mq_17 tq_17)] at ez12 pz12
      have r13 : rg z12 0 40 := has_rg pz12 (i := (7 : Int32)) 7 rfl (by decide) ez12
      have r14 : rg z12 1 40 := eq_rg r11 ez12 ez8
      refine lv_iconst (v := (1 : Int32)) hx hb dX10_undo_36 (by decide) ?_
      refine lv_isub hx hb dX10_undo_37 ?_
      refine lv_topi (fun z15 ez15 => ?_)
      have r16 : rg z15 0 39 := rg_sub ez15 r14 rl_1 (by decide)
      refine t_ast C hH hI mq_17 tq_17 (by decide) td_47 (rg_in rl_7 (by decide)) (fun _ _ h => hasP_7 h (rg_w r16 (by decide))) dX10_undo_38 (fun f17 H locs hH hI bf17 uf17 => ?_)
      have hl0 := isA_st hl0 tq_17 rfl bf17
      have hh := isA_w hUh mq_17 tq_17 (uf17 _ (hh q_17 mq_17 tq_17))
      refine lv_aload_n hx hb dX10_undo_39 rfl (lv_at hl 0 rfl) ?_
      refine t_getX C hH hI.1 mq tq td_40 iX10 rfl 17 (by decide) wd747 rfl (hI.rf kq_17) dX10_undo_40 ?_
      refine lv_bipush (v := (7 : Int32)) hx hb dX10_undo_43 (by decide) ?_
      refine t_ald C hH hI.1 mq_17 tq_17 td_47 (rg_in rl_7 (by decide)) dX10_undo_45 (fun z18v az18 pz18 => ?_)
      refine lv_topi (fun z18 ez18 => ?_)
      rw [arr_inj az18 (hh q_17 mq_17 tq_17)] at ez18 pz18
      have r19 : rg z18 0 40 := has_rg pz18 (i := (7 : Int32)) 7 rfl (by decide) ez18
      exact g_iret C hr hH (Nat.zero_le _) (Nat.zero_le _) dX10_undo_46 ⟨rfl, hI, ⟨(rg_w r19 (by decide)), ⟨_, _, hl0, hh, (rowsR_7 hRR)⟩⟩⟩
    · skip
      have r20 : rg z8 0 0 := rf_eql (c_eq c10) r9 rl_0 (by decide)
      refine lv_bipush (v := (-5 : Int32)) hx hb dX10_undo_25 (by decide) ?_
      exact g_iret C hr hH (Nat.zero_le _) (Nat.zero_le _) dX10_undo_27 ⟨rfl, hI, ⟨(rg_w rl_m5 (by decide)), ⟨_, _, hl0, hh, hRR⟩⟩⟩
  · skip
    have r21 : rg r3 0 0 := rf_eql (c_eq c6) h5.1 rl_0 (by decide)
    refine lv_bipush (v := (-2 : Int32)) hx hb dX10_undo_12 (by decide) ?_
    exact g_iret C hr hH (Nat.zero_le _) (Nat.zero_le _) dX10_undo_14 ⟨rfl, hI, ⟨(rg_w rl_m2 (by decide)), ⟨_, _, hl0, hh, hRR⟩⟩⟩
set_option maxHeartbeats 4000000 in
set_option maxRecDepth 100000 in
theorem t_X10_anew (l : Launch) (E : gE) (J : Nat → Nat) (τ : Nat → Nat) (L : List Nat) (f : gF) (hI : tI E L τ f) {q : Nat} (mq : q ∈ L) (tq : τ q = 40) {vl vh : Nat → Int32} (hl0 : isA E L τ f 46 5 vl) (hh : isA E L τ f 47 45 vh) (hUl : uq L τ 46) (hUh : uq L τ 47) (hRR : rowsR vl vh) : tMi l E J yX10_anew cX10_anew 2 .int (gRm (2) 0 0) [.ref q] L f (tPi E L τ [40, 47] f (fun r f1 => rg r (-2147483648) 2147483647 ∧ (∃ vl1 vh1 : Nat → Int32, isA E L τ f1 46 5 vl1 ∧ isA E L τ f1 47 45 vh1 ∧ rowsR vl1 vh1))) := by
  refine tMi.intro (by decide) (Nat.le_of_ble_eq_true rfl) ?_
  intro p e s m below meth c A ls C hr hA hO hH hl
  have C : gC E cX10_anew 2 RX10 p s m _ meth c := C
  have hl : lv_has ls 2 [(0, .ref q)] := hl
  have hx := C.1
  have hb := C.2.1
  have hI := hI.S [40, 47]
  obtain ⟨q_17, mq_17, tq_17, kq_17⟩ := t_fldr hI.1 mq tq td_40 (k := 17) rfl
  have hR := hRR 0 (by decide)
  have hPh := hasP_of hI.1 mq tq hh
  refine lv_aload_n hx hb dX10_anew_0 rfl (lv_at hl 0 rfl) ?_
  refine lv_iconst (v := (0 : Int32)) hx hb dX10_anew_1 (by decide) ?_
  refine t_put C hH hI mq tq (by decide) td_40 iX10 tyX10 tyX10_ok nmX10 rfl 0 (by decide) wd855 rfl rfl (v := .int (0 : Int32)) rfl rfl rfl ⟨_, rfl, (rg_w rl_0 (by decide))⟩ (fun _ h => nomatch h) dX10_anew_2 (fun f1 H locs hH hI nf1 of1 bf1 => ?_)
  have hl0 := isA_st hl0 tq rfl bf1
  have hh := isA_st hh tq rfl bf1
  refine lv_aload_n hx hb dX10_anew_5 rfl (lv_at hl 0 rfl) ?_
  refine t_Vi C hO hl.1 hA hH hI.1 (As := []) (rest := []) (t_X10_isLand l E J τ L f1 hI.1 mq tq) my_X10_isLand wd768 mq tq td_40 rfl rfl rfl (Nat.le_of_ble_eq_true rfl) ⟨Nat.le_of_ble_eq_true rfl, Nat.le_of_ble_eq_true rfl⟩ ⟨rfl, rfl⟩ dX10_anew_6 (fun r3 L1 f2 H locs hp hH => ?_)
  obtain ⟨rfl, s4, h5⟩ := hp
  have hJ := hI
  have hI := hI.call s4 (by decide)
  have hl0_ := hl0
  have hl0 := hl0.S s4 rfl
  have hh_ := hh
  have hh := hh.S s4 rfl
  refine lv_if_ne (tgt := 15) hx hb dX10_anew_9 (by decide) (fun c6 => ?_) (fun c6 => ?_)
  · skip
    have r7 : rg r3 1 1 := rf_nel (n_eq c6) h5.1 rl_0 (by decide)
    refine lv_aload_n hx hb dX10_anew_15 rfl (lv_at hl 0 rfl) ?_
    refine t_getX C hH hI.1 mq tq td_40 iX10 rfl 17 (by decide) wd747 rfl (hI.rf kq_17) dX10_anew_16 ?_
    refine lv_bipush (v := (7 : Int32)) hx hb dX10_anew_19 (by decide) ?_
    refine t_ald C hH hI.1 mq_17 tq_17 td_47 (rg_in rl_7 (by decide)) dX10_anew_21 (fun z8v az8 pz8 => ?_)
    refine lv_topi (fun z8 ez8 => ?_)
    rw [arr_inj az8 (hh q_17 mq_17 tq_17)] at ez8 pz8
    have r9 : rg z8 0 40 := has_rg pz8 (i := (7 : Int32)) 7 rfl (by decide) ez8
    refine lv_istore_n (lv' := [(1, .int z8), (0, .ref q)]) hx hb dX10_anew_22 rfl hl (by decide) rfl (fun ls hl => ?_)
    refine lv_aload_n hx hb dX10_anew_23 rfl (lv_at hl 1 rfl) ?_
    refine t_getX C hH hI.1 mq tq td_40 iX10 rfl 17 (by decide) wd747 rfl (hI.rf kq_17) dX10_anew_24 ?_
    refine lv_bipush (v := (7 : Int32)) hx hb dX10_anew_27 (by decide) ?_
    refine lv_iconst (v := (0 : Int32)) hx hb dX10_anew_29 (by decide) ?_
    refine t_ast C hH hI mq_17 tq_17 (by decide) td_47 (rg_in rl_7 (by decide)) (fun _ _ h => hasP_7 h (rg_w rl_0 (by decide))) dX10_anew_30 (fun f10 H locs hH hI bf10 uf10 => ?_)
    have hl0 := isA_st hl0 tq_17 rfl bf10
    have hh := isA_w hUh mq_17 tq_17 (uf10 _ (hh q_17 mq_17 tq_17))
    refine lv_iload_n hx hb dX10_anew_31 rfl (lv_at hl 0 rfl) ?_
    exact g_iret C hr hH (Nat.zero_le _) (Nat.zero_le _) dX10_anew_32 ⟨rfl, hI, ⟨(rg_w r9 (by decide)), ⟨_, _, hl0, hh, (rowsR_7 hRR)⟩⟩⟩
  · skip
    have r11 : rg r3 0 0 := rf_eql (c_eq c6) h5.1 rl_0 (by decide)
    refine lv_bipush (v := (-2 : Int32)) hx hb dX10_anew_12 (by decide) ?_
    exact g_iret C hr hH (Nat.zero_le _) (Nat.zero_le _) dX10_anew_14 ⟨rfl, hI, ⟨(rg_w rl_m2 (by decide)), ⟨_, _, hl0, hh, hRR⟩⟩⟩
set_option maxHeartbeats 4000000 in
set_option maxRecDepth 100000 in
theorem t_X10_rate (l : Launch) (E : gE) (J : Nat → Nat) (τ : Nat → Nat) (L : List Nat) (f : gF) (hI : tI E L τ f) {q : Nat} (mq : q ∈ L) (tq : τ q = 40) (p1 : Int32) (p2 : Int32) {vl vh : Nat → Int32} (hl0 : isA E L τ f 46 5 vl) (hh : isA E L τ f 47 45 vh) (hUl : uq L τ 46) (hUh : uq L τ 47) (hRR : rowsR vl vh) : tMi l E J yX10_rate cX10_rate 4 .int (gRm (3) 0 0) [.ref q, .int p1, .int p2] L f (tPi E L τ [40, 49] f (fun r f1 => rg r (-2147483648) 2147483647 ∧ (∃ vl1 vh1 : Nat → Int32, isA E L τ f1 46 5 vl1 ∧ isA E L τ f1 47 45 vh1 ∧ rowsR vl1 vh1))) := by
  refine tMi.intro (by decide) (Nat.le_of_ble_eq_true rfl) ?_
  intro p e s m below meth c A ls C hr hA hO hH hl
  have C : gC E cX10_rate 4 RX10 p s m _ meth c := C
  have hl : lv_has ls 4 [(0, .ref q), (1, .int p1), (2, .int p2)] := hl
  have hx := C.1
  have hb := C.2.1
  have hI := hI.S [40, 49]
  obtain ⟨q_17, mq_17, tq_17, kq_17⟩ := t_fldr hI.1 mq tq td_40 (k := 17) rfl
  obtain ⟨q_19, mq_19, tq_19, kq_19⟩ := t_fldr hI.1 mq tq td_40 (k := 19) rfl
  have hR := hRR 0 (by decide)
  have hPh := hasP_of hI.1 mq tq hh
  refine lv_aload_n hx hb dX10_rate_0 rfl (lv_at hl 0 rfl) ?_
  refine lv_iconst (v := (0 : Int32)) hx hb dX10_rate_1 (by decide) ?_
  refine t_put C hH hI mq tq (by decide) td_40 iX10 tyX10 tyX10_ok nmX10 rfl 0 (by decide) wd855 rfl rfl (v := .int (0 : Int32)) rfl rfl rfl ⟨_, rfl, (rg_w rl_0 (by decide))⟩ (fun _ h => nomatch h) dX10_rate_2 (fun f1 H locs hH hI nf1 of1 bf1 => ?_)
  have hl0 := isA_st hl0 tq rfl bf1
  have hh := isA_st hh tq rfl bf1
  refine lv_aload_n hx hb dX10_rate_5 rfl (lv_at hl 0 rfl) ?_
  refine lv_iload_n hx hb dX10_rate_6 rfl (lv_at hl 1 rfl) ?_
  refine lv_i2l (v := (p1).toInt64) hx hb dX10_rate_7 rfl ?_
  refine t_Vi C hO hl.1 hA hH hI.1 (As := [.long (p1).toInt64]) (rest := []) (t_X10_isMember l E J τ L f1 hI.1 mq tq ((p1).toInt64)) my_X10_isMember wd764 mq tq td_40 rfl rfl rfl (Nat.le_of_ble_eq_true rfl) ⟨Nat.le_of_ble_eq_true rfl, Nat.le_of_ble_eq_true rfl⟩ ⟨rfl, rfl⟩ dX10_rate_8 (fun r3 L1 f2 H locs hp hH => ?_)
  obtain ⟨rfl, s4, h5⟩ := hp
  have hJ := hI
  have hI := hI.call s4 (by decide)
  have hl0_ := hl0
  have hl0 := hl0.S s4 rfl
  have hh_ := hh
  have hh := hh.S s4 rfl
  refine lv_if_eq (tgt := 26) hx hb dX10_rate_11 (by decide) (fun c6 => ?_) (fun c6 => ?_)
  · skip
    have r7 : rg r3 0 0 := rf_eql (c_eq c6) h5.1 rl_0 (by decide)
    refine lv_bipush (v := (-2 : Int32)) hx hb dX10_rate_26 (by decide) ?_
    exact g_iret C hr hH (Nat.zero_le _) (Nat.zero_le _) dX10_rate_28 ⟨rfl, hI, ⟨(rg_w rl_m2 (by decide)), ⟨_, _, hl0, hh, hRR⟩⟩⟩
  · skip
    have r8 : rg r3 1 1 := rf_nel (n_eq c6) h5.1 rl_0 (by decide)
    have r9 : rg p1 0 5 := is_rg (h5.2.1 c6) (rg_all _) (by decide)
    refine lv_iload_n hx hb dX10_rate_14 rfl (lv_at hl 2 rfl) ?_
    refine lv_i2l (v := (p2).toInt64) hx hb dX10_rate_15 rfl ?_
    refine lv_lconst (v := (0 : Int64)) hx hb dX10_rate_16 (by decide) ?_
    refine lv_ldc2 hx hb C.2.2.2.1 (C.2.2.2.2.1 _ wd1041) dX10_rate_17 ?_
    refine t_Si C hO hl.1 hA hH (As := [.long (p2).toInt64, .long (0 : Int64), .long (99 : Int64)]) (rest := []) (t_X10_in l E J τ L f2 hI.1 ((p2).toInt64) ((0 : Int64)) ((99 : Int64))) my_X10_in wd744 rfl rfl (Nat.le_of_ble_eq_true rfl) ⟨Nat.le_of_ble_eq_true rfl, Nat.le_of_ble_eq_true rfl⟩ ⟨rfl, rfl⟩ dX10_rate_20 (fun r11 L1 f10 H locs hp hH => ?_)
    obtain ⟨rfl, s12, h13⟩ := hp
    have hJ := hI
    have hI := hI.call s12 (by decide)
    have hl0_ := hl0
    have hl0 := hl0.S s12 rfl
    have hh_ := hh
    have hh := hh.S s12 rfl
    refine lv_if_ne (tgt := 29) hx hb dX10_rate_23 (by decide) (fun c14 => ?_) (fun c14 => ?_)
    · skip
      have r15 : rg r11 1 1 := rf_nel (n_eq c14) h13.1 rl_0 (by decide)
      have r16 : rg p2 0 99 := in_rg (la := 0) (lb := 99) (h13.2 c14) (rg_all _) (by decide) (by decide) (by decide)
      refine lv_aload_n hx hb dX10_rate_29 rfl (lv_at hl 0 rfl) ?_
      refine t_getX C hH hI.1 mq tq td_40 iX10 rfl 17 (by decide) wd747 rfl (hI.rf kq_17) dX10_rate_30 ?_
      refine lv_bipush (v := (7 : Int32)) hx hb dX10_rate_33 (by decide) ?_
      refine t_ald C hH hI.1 mq_17 tq_17 td_47 (rg_in rl_7 (by decide)) dX10_rate_35 (fun z17v az17 pz17 => ?_)
      refine lv_topi (fun z17 ez17 => ?_)
      rw [arr_inj az17 (hh q_17 mq_17 tq_17)] at ez17 pz17
      have r18 : rg z17 0 40 := has_rg pz17 (i := (7 : Int32)) 7 rfl (by decide) ez17
      refine lv_if_le (tgt := 42) hx hb dX10_rate_36 (by decide) (fun c19 => ?_) (fun c19 => ?_)
      · skip
        have r20 : rg z17 0 0 := rf_lel (c_le c19) r18 rl_0 (by decide)
        refine lv_aload_n hx hb dX10_rate_42 rfl (lv_at hl 0 rfl) ?_
        refine lv_iload_n hx hb dX10_rate_43 rfl (lv_at hl 1 rfl) ?_
        refine t_Vi C hO hl.1 hA hH hI.1 (As := [.int p1]) (rest := []) (t_X10_paysOf l E J τ L f10 hI.1 mq tq p1 r9) my_X10_paysOf wd830 mq tq td_40 rfl rfl rfl (Nat.le_of_ble_eq_true rfl) ⟨Nat.le_of_ble_eq_true rfl, Nat.le_of_ble_eq_true rfl⟩ ⟨rfl, rfl⟩ dX10_rate_44 (fun r22 L1 f21 H locs hp hH => ?_)
        obtain ⟨rfl, s23, h24⟩ := hp
        have hI := hI.call s23 (by decide)
        have hl0_ := hl0
        have hl0 := hl0.S s23 rfl
        have hh_ := hh
        have hh := hh.S s23 rfl
        refine lv_istore_n (lv' := [(3, .int r22), (0, .ref q), (1, .int p1), (2, .int p2)]) hx hb dX10_rate_47 rfl hl (by decide) rfl (fun ls hl => ?_)
        refine lv_aload_n hx hb dX10_rate_48 rfl (lv_at hl 1 rfl) ?_
        refine t_getX C hH hI.1 mq tq td_40 iX10 rfl 19 (by decide) wd818 rfl (hI.rf kq_19) dX10_rate_49 ?_
        refine lv_iconst (v := (3 : Int32)) hx hb dX10_rate_52 (by decide) ?_
        refine lv_iload_n hx hb dX10_rate_53 rfl (lv_at hl 2 rfl) ?_
        refine lv_imul hx hb dX10_rate_54 ?_
        refine lv_topi (fun z25 ez25 => ?_)
        have r26 : rg z25 0 15 := rg_mul ez25 rl_3 r9 (by decide)
        have m27 := mul3 ez25 r9 (by decide)
        refine lv_iconst (v := (2 : Int32)) hx hb dX10_rate_55 (by decide) ?_
        refine lv_iadd hx hb dX10_rate_56 ?_
        refine lv_topi (fun z28 ez28 => ?_)
        have r29 : rg z28 2 17 := rg_add ez28 r26 rl_2 (by decide)
        have a30 : z28.toInt = z25.toInt + 2 := ai_add ez28 r26 tl_2 (by decide)
        refine lv_iload_n hx hb dX10_rate_57 rfl (lv_at hl 3 rfl) ?_
        refine t_ast C hH hI mq_19 tq_19 (by decide) td_49 (rg_in r29 (by decide)) (fun _ _ h => memP_2 h (mem_2 m27 ez28 (rg_w r26 (by decide))) r16) dX10_rate_58 (fun f31 H locs hH hI bf31 uf31 => ?_)
        have hl0 := isA_st hl0 tq_19 rfl bf31
        have hh := isA_st hh tq_19 rfl bf31
        refine lv_iload_n hx hb dX10_rate_59 rfl (lv_at hl 0 rfl) ?_
        exact g_iret C hr hH (Nat.zero_le _) (Nat.zero_le _) dX10_rate_60 ⟨rfl, hI, ⟨(rg_w h24 (by decide)), ⟨_, _, hl0, hh, hRR⟩⟩⟩
      · skip
        have r32 : rg z17 1 40 := rf_ltr (n_le c19) rl_0 r18 (by decide)
        refine lv_bipush (v := (-5 : Int32)) hx hb dX10_rate_39 (by decide) ?_
        exact g_iret C hr hH (Nat.zero_le _) (Nat.zero_le _) dX10_rate_41 ⟨rfl, hI, ⟨(rg_w rl_m5 (by decide)), ⟨_, _, hl0, hh, hRR⟩⟩⟩
    · skip
      have r33 : rg r11 0 0 := rf_eql (c_eq c14) h13.1 rl_0 (by decide)
      refine lv_bipush (v := (-2 : Int32)) hx hb dX10_rate_26 (by decide) ?_
      exact g_iret C hr hH (Nat.zero_le _) (Nat.zero_le _) dX10_rate_28 ⟨rfl, hI, ⟨(rg_w rl_m2 (by decide)), ⟨_, _, hl0, hh, hRR⟩⟩⟩
