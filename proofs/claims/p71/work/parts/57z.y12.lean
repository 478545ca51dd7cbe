/-! rows: widths and lengths -/
theorem slx_iff {r z : Int32} (h : r = gSlot z) : ¬ r = 0 ↔ 0 ≤ z.toInt ∧ z.toInt ≤ 3 := by
  rw [h]
  unfold gSlot
  simp only [fa_lt, fa_le, show (0 : Int32).toInt = 0 from by decide, show (4 : Int32).toInt = 4 from by decide]
  by_cases h1 : z.toInt < 0
  · rw [if_pos h1]
    exact ⟨fun q => absurd rfl q, fun q => absurd q (by omega)⟩
  · rw [if_neg h1]
    by_cases h2 : 4 ≤ z.toInt
    · rw [if_pos h2]
      exact ⟨fun q => absurd rfl q, fun q => absurd q (by omega)⟩
    · rw [if_neg h2]
      exact ⟨fun _ => by omega, fun _ => by decide⟩
theorem sub_x {x y z : Int32} {a b c d : Int} (e : z = x - y) (hx : rg x a b) (hy : rg y c d) (s : (decide (-2147483648 ≤ a - d) && decide (b - c ≤ 2147483647)) = true) : z.toInt = x.toInt - y.toInt := by
  simp only [Bool.and_eq_true, decide_eq_true_eq] at s
  unfold rg at *
  rw [e, Int32.toInt_sub, bmI (by omega) (by omega)]
theorem in_v {x y r : Int32} {a : Int64} {lo : Int} (h : ¬ r = 0 ↔ a.toInt ≤ x.toInt64.toInt ∧ x.toInt64.toInt ≤ y.toInt64.toInt) (ha : a.toInt = lo) : ¬ r = 0 ↔ lo ≤ x.toInt ∧ x.toInt ≤ y.toInt := by
  rw [Int32.toInt_toInt64, Int32.toInt_toInt64, ha] at h
  exact h
def gWr (z i w n : Int32) : Int32 := if 0 ≤ z.toInt ∧ z.toInt ≤ 3 then (if w.toInt = -1 then -6 else if 0 ≤ i.toInt ∧ i.toInt < n.toInt then 0 else -7) else -2
theorem gWr_2 {z i w n : Int32} (h : ¬ (0 ≤ z.toInt ∧ z.toInt ≤ 3)) : -2 = gWr z i w n := by rw [gWr, if_neg h]
theorem gWr_6 {z i w n : Int32} (h : (0 ≤ z.toInt ∧ z.toInt ≤ 3) ∧ w.toInt = -1) : -6 = gWr z i w n := by rw [gWr, if_pos h.1, if_pos h.2]
theorem gWr_7 {z i w n : Int32} (h : (0 ≤ z.toInt ∧ z.toInt ≤ 3) ∧ ¬ w.toInt = -1 ∧ ¬ (0 ≤ i.toInt ∧ i.toInt < n.toInt)) : -7 = gWr z i w n := by rw [gWr, if_pos h.1, if_neg h.2.1, if_neg h.2.2]
theorem gWr_0 {z i w n : Int32} (h : (0 ≤ z.toInt ∧ z.toInt ≤ 3) ∧ ¬ w.toInt = -1 ∧ (0 ≤ i.toInt ∧ i.toInt < n.toInt)) : 0 = gWr z i w n := by rw [gWr, if_pos h.1, if_neg h.2.1, if_pos h.2.2]
def gPs (z i t k n w1 n1 w2 n2 : Int32) : Int32 := if (0 ≤ z.toInt ∧ z.toInt ≤ 3) ∧ (0 ≤ t.toInt ∧ t.toInt ≤ 3) then (if w1.toInt = -1 ∨ w2.toInt = -1 then -6 else if ¬ w1.toInt = w2.toInt then -8 else if (0 ≤ i.toInt ∧ 0 ≤ n.toInt ∧ i.toInt + n.toInt ≤ n1.toInt) ∧ 0 ≤ k.toInt ∧ k.toInt + n.toInt ≤ n2.toInt then 0 else -7) else -2
theorem gPs_2 {z i t k n w1 n1 w2 n2 : Int32} (h : ¬ ((0 ≤ z.toInt ∧ z.toInt ≤ 3) ∧ (0 ≤ t.toInt ∧ t.toInt ≤ 3))) : -2 = gPs z i t k n w1 n1 w2 n2 := by rw [gPs, if_neg h]
theorem gPs_6 {z i t k n w1 n1 w2 n2 : Int32} (h : ((0 ≤ z.toInt ∧ z.toInt ≤ 3) ∧ (0 ≤ t.toInt ∧ t.toInt ≤ 3)) ∧ (w1.toInt = -1 ∨ w2.toInt = -1)) : -6 = gPs z i t k n w1 n1 w2 n2 := by rw [gPs, if_pos h.1, if_pos h.2]
theorem gPs_8 {z i t k n w1 n1 w2 n2 : Int32} (h : ((0 ≤ z.toInt ∧ z.toInt ≤ 3) ∧ (0 ≤ t.toInt ∧ t.toInt ≤ 3)) ∧ ¬ (w1.toInt = -1 ∨ w2.toInt = -1) ∧ ¬ w1.toInt = w2.toInt) : -8 = gPs z i t k n w1 n1 w2 n2 := by rw [gPs, if_pos h.1, if_neg h.2.1, if_pos h.2.2]
theorem gPs_7 {z i t k n w1 n1 w2 n2 : Int32} (h : ((0 ≤ z.toInt ∧ z.toInt ≤ 3) ∧ (0 ≤ t.toInt ∧ t.toInt ≤ 3)) ∧ ¬ (w1.toInt = -1 ∨ w2.toInt = -1) ∧ w1.toInt = w2.toInt ∧ ¬ ((0 ≤ i.toInt ∧ 0 ≤ n.toInt ∧ i.toInt + n.toInt ≤ n1.toInt) ∧ 0 ≤ k.toInt ∧ k.toInt + n.toInt ≤ n2.toInt)) : -7 = gPs z i t k n w1 n1 w2 n2 := by rw [gPs, if_pos h.1, if_neg h.2.1, if_neg (fun q => q h.2.2.1), if_neg h.2.2.2]
theorem gPs_0 {z i t k n w1 n1 w2 n2 : Int32} (h : ((0 ≤ z.toInt ∧ z.toInt ≤ 3) ∧ (0 ≤ t.toInt ∧ t.toInt ≤ 3)) ∧ ¬ (w1.toInt = -1 ∨ w2.toInt = -1) ∧ w1.toInt = w2.toInt ∧ ((0 ≤ i.toInt ∧ 0 ≤ n.toInt ∧ i.toInt + n.toInt ≤ n1.toInt) ∧ 0 ≤ k.toInt ∧ k.toInt + n.toInt ≤ n2.toInt)) : 0 = gPs z i t k n w1 n1 w2 n2 := by rw [gPs, if_pos h.1, if_neg h.2.1, if_neg (fun q => q h.2.2.1), if_pos h.2.2.2]
/-- what the class's rows are: width and length of the row at each slot -/
def rowsIn (f : gF) (x : Nat) (vw vm : Nat → Int32) : Prop := ∀ (s : Int32) (a : Nat), rg s 0 3 → rowAt f x s a → fld f a 1 (.int (vw s.toNatClampNeg)) ∧ fld f a 2 (.int (vm s.toNatClampNeg))
def rowInj (f : gF) (x : Nat) : Prop := ∀ (s t : Int32) (a : Nat), rg s 0 3 → rg t 0 3 → rowAt f x s a → rowAt f x t a → s = t
theorem rowAt_mem {E : gE} {L : List Nat} {τ : Nat → Nat} {f : gF} {q a : Nat} {s : Int32} (hI : tI E L τ f) (mq : q ∈ L) (tq : τ q = 0) (hs : rg s 0 3) (h : rowAt f q s a) : a ∈ L ∧ τ a = 17 := by
  obtain ⟨ar, n, cA, v, h1, h2, h3⟩ := h
  obtain ⟨b, mb, tb, kb⟩ := t_fldr hI mq tq td_0 (k := 4) rfl
  obtain ⟨w, hw, hq⟩ := t_arrQ hI mb tb td_16
  rw [fld_injR h1 kb] at h2
  rw [arr_injQ h2 hw] at h3
  unfold rg at hs
  obtain ⟨c, hc, m, t⟩ := hq s.toNatClampNeg (by show s.toInt.toNat < 4; omega)
  rw [h3] at hc
  cases hc
  exact ⟨m, t⟩
theorem rowAt_bk {E : gE} {L : List Nat} {τ : Nat → Nat} {f f1 : gF} {q a : Nat} {s : Int32} {ws : List Nat} (hI : tI E L τ f) (hS : tS E L τ ws f f1) (mq : q ∈ L) (tq : τ q = 0) (h6 : ws.contains 16 = false) (h : rowAt f1 q s a) : rowAt f q s a := by
  obtain ⟨ar, n, cA, v, h1, h2, h3⟩ := h
  obtain ⟨b, mb, tb, kb⟩ := t_fldr hI mq tq td_0 (k := 4) rfl
  rw [fld_injR h1 (hS.rf kb)] at h2
  exact ⟨b, n, cA, v, kb, (hS.fr b mb (t_lim tb h6)).symm.trans h2, h3⟩
theorem rowInj.S {E : gE} {L : List Nat} {τ : Nat → Nat} {f f1 : gF} {q : Nat} {ws : List Nat} (h : rowInj f q) (hI : tI E L τ f) (hS : tS E L τ ws f f1) (mq : q ∈ L) (tq : τ q = 0) (h6 : ws.contains 16 = false) : rowInj f1 q := fun s t a hs ht h1 h2 => h s t a hs ht (rowAt_bk hI hS mq tq h6 h1) (rowAt_bk hI hS mq tq h6 h2)
theorem rowsIn.S {E : gE} {L : List Nat} {τ : Nat → Nat} {f f1 : gF} {q : Nat} {ws : List Nat} {vw vm : Nat → Int32} (h : rowsIn f q vw vm) (hI : tI E L τ f) (hS : tS E L τ ws f f1) (mq : q ∈ L) (tq : τ q = 0) (h6 : ws.contains 16 = false) (h7 : ws.contains 17 = false) : rowsIn f1 q vw vm := fun s a hs h1 => by
  have h2 := rowAt_bk hI hS mq tq h6 h1
  obtain ⟨m, t⟩ := rowAt_mem hI mq tq hs h2
  have h3 := h s a hs h2
  exact ⟨h3.1.S hS m t h7, h3.2.S hS m t h7⟩
def gRw (z w n : Int32) (v : Nat → Int32) (x : Int32) : Nat → Int32 := if gRow z w n = 0 then upd v z.toNatClampNeg x else v
theorem gRow_rg {z w n : Int32} (h : gRow z w n = 0) : rg z 0 3 := by
  by_cases q : 0 ≤ z.toInt ∧ z.toInt ≤ 3 ∧ 0 ≤ w.toInt ∧ w.toInt ≤ 3 ∧ n.toInt ≤ 60
  · exact ⟨q.1, q.2.1⟩
  · rw [← gRow_2 q] at h
    exact absurd h (by decide)
theorem rowsIn.row {E : gE} {L : List Nat} {τ : Nat → Nat} {f f1 : gF} {q : Nat} {ws : List Nat} {vw vm : Nat → Int32} {z w n : Int32} (h : rowsIn f q vw vm) (hJ : rowInj f q) (hI : tI E L τ f) (hS : tS E L τ ws f f1) (mq : q ∈ L) (tq : τ q = 0) (h6 : ws.contains 16 = false) (p0 : gRow z w n = 0 → ∃ a, rowAt f q z a ∧ fld f1 a 1 (.int w) ∧ fld f1 a 2 (.int n) ∧ ∀ b ∈ L, b ≠ a → τ b = 17 → f1 b = f b) (p1 : ¬ gRow z w n = 0 → ∀ b ∈ L, τ b = 17 → f1 b = f b) : rowsIn f1 q (gRw z w n vw w) (gRw z w n vm n) := fun s a hs h1 => by
  have h2 := rowAt_bk hI hS mq tq h6 h1
  obtain ⟨m, t⟩ := rowAt_mem hI mq tq hs h2
  have h3 := h s a hs h2
  unfold gRw
  by_cases e : gRow z w n = 0
  · obtain ⟨a0, g1, g2, g3, g4⟩ := p0 e
    rw [if_pos e, if_pos e]
    by_cases e2 : s = z
    · rw [e2] at h2 ⊢
      rw [pk_us, pk_us, rowAt.inj h2 g1]
      exact ⟨g2, g3⟩
    · have hz := gRow_rg e
      have e3 : s.toNatClampNeg ≠ z.toNatClampNeg := fun q => e2 (Int32.toInt_inj.mp (by
        have q2 : s.toInt.toNat = z.toInt.toNat := q
        unfold rg at hs hz
        omega))
      have e4 : f1 a = f a := g4 a m (fun q => e2 (hJ s z a hs hz h2 (by rw [q]; exact g1))) t
      rw [pk_un e3, pk_un e3]
      exact ⟨h3.1.eq e4, h3.2.eq e4⟩
  · rw [if_neg e, if_neg e]
    have e4 := p1 e a m t
    exact ⟨h3.1.eq e4, h3.2.eq e4⟩
theorem gRw_0 {E : gE} {L : List Nat} {τ : Nat → Nat} {f : gF} {t : Nat} {z w n x : Int32} {v : Nat → Int32} (h : 0 = gRow z w n) (hz : isA E L τ f t 4 (upd v z.toNatClampNeg x)) : isA E L τ f t 4 (gRw z w n v x) := by
  unfold gRw
  rw [if_pos h.symm]
  exact hz
theorem gRw_n {E : gE} {L : List Nat} {τ : Nat → Nat} {f : gF} {t : Nat} {z w n x r : Int32} {v : Nat → Int32} (h : r = gRow z w n) (hr : ¬ r = 0) (hz : isA E L τ f t 4 v) : isA E L τ f t 4 (gRw z w n v x) := by
  unfold gRw
  rw [if_neg (by rw [← h]; exact hr)]
  exact hz
theorem pst_x {i n m : Int32} {a b : Int64} {z : Int32} (e : z = lg_cmp a b) (ea : a = i.toInt64 + n.toInt64) (eb : b = m.toInt64) (hi : rg i 0 2147483647) (hn : rg n 0 2147483647) : z.toInt ≤ 0 ↔ i.toInt + n.toInt ≤ m.toInt := by
  have h1 : (0 : Int32) < z ↔ b.toInt < a.toInt := by rw [e, gl_cmp_gt]
  rw [fa_lt, show (0 : Int32).toInt = 0 from by decide] at h1
  unfold rg at *
  have h2 : a.toInt = i.toInt + n.toInt := by
    rw [ea, Int64.toInt_add, Int32.toInt_toInt64, Int32.toInt_toInt64]
    exact Int.bmod_eq_of_le (by omega) (by omega)
  have h3 : b.toInt = m.toInt := by rw [eb, Int32.toInt_toInt64]
  omega
theorem row_rg {E : gE} {L : List Nat} {τ : Nat → Nat} {f : gF} {a : Nat} {v u : Int32} (hI : tI E L τ f) (ma : a ∈ L) (ta : τ a = 17) (h1 : fld f a 1 (.int v)) (h2 : fld f a 2 (.int u)) : rg v (-1) 3 ∧ rg u 0 60 := by
  obtain ⟨x, rx, kx⟩ := t_fldi hI ma ta td_17 (k := 1) rfl
  obtain ⟨y, ry, ky⟩ := t_fldi hI ma ta td_17 (k := 2) rfl
  rw [fld_inj h1 kx, fld_inj h2 ky]
  exact ⟨rx, ry⟩
set_option maxHeartbeats 4000000 in
set_option maxRecDepth 100000 in
theorem t_isNothingX (l : Launch) (E : gE) (J : Nat → Nat) (τ : Nat → Nat) (L : List Nat) (f : gF) (hI : tI E L τ f) {q : Nat} (mq : q ∈ L) (tq : τ q = 17) : tMi l E J yX6_isNothing cX6_isNothing 1 .boolean (gRm (1) 0 0) [.ref q] L f (tPi E L τ [] f (fun r f1 => rg r 0 1 ∧ (∀ v : Int32, fld f q 1 (.int v) → (¬ r = 0 ↔ v.toInt = -1)))) := by
  refine tMi.intro (by decide) (Nat.le_of_ble_eq_true rfl) ?_
  intro p e s m below meth c A ls C hr hA hO hH hl
  have C : gC E cX6_isNothing 1 RX6 p s m _ meth c := C
  have hl : lv_has ls 1 [(0, .ref q)] := hl
  have hx := C.1
  have hb := C.2.1
  have hI := hI.S []
  refine lv_aload_n hx hb dX6_isNothing_0 rfl (lv_at hl 0 rfl) ?_
  obtain ⟨z1, rz1, kz1⟩ := t_fldi hI.1 mq tq td_17 (k := 1) rfl
  refine t_getX C hH hI.1 mq tq td_17 iX6 rfl 1 (by decide) wd82 rfl kz1 dX6_isNothing_1 ?_
  refine lv_iconst (v := (-1 : Int32)) hx hb dX6_isNothing_4 (by decide) ?_
  refine lv_icmp_ne (tgt := 12) hx hb dX6_isNothing_5 (by decide) (fun c2 => ?_) (fun c2 => ?_)
  · skip
    have r3 : rg z1 0 3 := rf_nel (n_eq c2) rz1 rl_m1 (by decide)
    refine lv_iconst (v := (0 : Int32)) hx hb dX6_isNothing_12 (by decide) ?_
    exact g_zret C hr (rg_z (rg_w rl_0 (by decide))) hH (Nat.zero_le _) (Nat.zero_le _) dX6_isNothing_13 ⟨rfl, hI, ⟨(rg_w rl_0 (by decide)), (fun v h => by rw [fld_inj h kz1]; exact ⟨fun q => absurd rfl q, fun q => absurd (Int32.toInt_inj.mp (q.trans tl_m1.symm)) c2⟩)⟩⟩
  · skip
    have r4 : rg z1 (-1) (-1) := rf_eql (c_eq c2) rz1 rl_m1 (by decide)
    refine lv_iconst (v := (1 : Int32)) hx hb dX6_isNothing_8 (by decide) ?_
    refine lv_goto (tgt := 13) hx hb dX6_isNothing_9 (by decide) ?_
    exact g_zret C hr (rg_z (rg_w rl_1 (by decide))) hH (Nat.zero_le _) (Nat.zero_le _) dX6_isNothing_13 ⟨rfl, hI, ⟨(rg_w rl_1 (by decide)), (fun v h => by rw [fld_inj h kz1]; exact ⟨fun _ => (c_eq c2).trans tl_m1, fun _ => (by decide)⟩)⟩⟩
set_option maxHeartbeats 4000000 in
set_option maxRecDepth 100000 in
theorem t_reachR (l : Launch) (E : gE) (J : Nat → Nat) (τ : Nat → Nat) (L : List Nat) (f : gF) (hI : tI E L τ f) {q : Nat} (mq : q ∈ L) (tq : τ q = 17) (p1 : Int32) (p2 : Int32) : tMi l E J yX6_reaches cX6_reaches 3 .boolean (gRm (1) 0 0) [.ref q, .int p1, .int p2] L f (tPi E L τ [] f (fun r f1 => rg r 0 1 ∧ ((¬ r = 0 → 0 ≤ p1.toInt ∧ 0 ≤ p2.toInt ∧ p1.toInt + p2.toInt ≤ 60) ∧ ∀ n : Int32, fld f q 2 (.int n) → (¬ r = 0 ↔ 0 ≤ p1.toInt ∧ 0 ≤ p2.toInt ∧ p1.toInt + p2.toInt ≤ n.toInt)))) := by
  refine tMi.intro (by decide) (Nat.le_of_ble_eq_true rfl) ?_
  intro p e s m below meth c A ls C hr hA hO hH hl
  have C : gC E cX6_reaches 3 RX6 p s m _ meth c := C
  have hl : lv_has ls 3 [(0, .ref q), (1, .int p1), (2, .int p2)] := hl
  have hx := C.1
  have hb := C.2.1
  have hI := hI.S []
  refine lv_iload_n hx hb dX6_reaches_0 rfl (lv_at hl 1 rfl) ?_
  refine lv_if_lt (tgt := 30) hx hb dX6_reaches_1 (by decide) (fun c1 => ?_) (fun c1 => ?_)
  · skip
    have r2 : rg p1 (-2147483648) (-1) := rf_ltl (c_lt c1) (rg_all _) rl_0 (by decide)
    refine lv_iconst (v := (0 : Int32)) hx hb dX6_reaches_30 (by decide) ?_
    exact g_zret C hr (rg_z (rg_w rl_0 (by decide))) hH (Nat.zero_le _) (Nat.zero_le _) dX6_reaches_31 ⟨rfl, hI, ⟨(rg_w rl_0 (by decide)), ⟨(fun h => absurd rfl h), fun n h => ⟨fun q => absurd rfl q, fun q => absurd q (by have k0_ := (c_lt c1); have k1_ := tl_0; omega)⟩⟩⟩⟩
  · skip
    have r3 : rg p1 0 2147483647 := rf_ler (n_lt c1) rl_0 (rg_all _) (by decide)
    refine lv_iload_n hx hb dX6_reaches_4 rfl (lv_at hl 2 rfl) ?_
    refine lv_if_lt (tgt := 30) hx hb dX6_reaches_5 (by decide) (fun c4 => ?_) (fun c4 => ?_)
    · skip
      have r5 : rg p2 (-2147483648) (-1) := rf_ltl (c_lt c4) (rg_all _) rl_0 (by decide)
      refine lv_iconst (v := (0 : Int32)) hx hb dX6_reaches_30 (by decide) ?_
      exact g_zret C hr (rg_z (rg_w rl_0 (by decide))) hH (Nat.zero_le _) (Nat.zero_le _) dX6_reaches_31 ⟨rfl, hI, ⟨(rg_w rl_0 (by decide)), ⟨(fun h => absurd rfl h), fun n h => ⟨fun q => absurd rfl q, fun q => absurd q (by have k0_ := (n_lt c1); have k1_ := tl_0; have k2_ := (c_lt c4); omega)⟩⟩⟩⟩
    · skip
      have r6 : rg p2 0 2147483647 := rf_ler (n_lt c4) rl_0 (rg_all _) (by decide)
      refine lv_iload_n hx hb dX6_reaches_8 rfl (lv_at hl 2 rfl) ?_
      refine lv_aload_n hx hb dX6_reaches_9 rfl (lv_at hl 0 rfl) ?_
      obtain ⟨z7, rz7, kz7⟩ := t_fldi hI.1 mq tq td_17 (k := 2) rfl
      refine t_getX C hH hI.1 mq tq td_17 iX6 rfl 2 (by decide) wd84 rfl kz7 dX6_reaches_10 ?_
      refine lv_icmp_gt (tgt := 30) hx hb dX6_reaches_13 (by decide) (fun c8 => ?_) (fun c8 => ?_)
      · skip
        have r9 : rg p2 1 2147483647 := rf_ltr (c_lt c8) rz7 r6 (by decide)
        refine lv_iconst (v := (0 : Int32)) hx hb dX6_reaches_30 (by decide) ?_
        exact g_zret C hr (rg_z (rg_w rl_0 (by decide))) hH (Nat.zero_le _) (Nat.zero_le _) dX6_reaches_31 ⟨rfl, hI, ⟨(rg_w rl_0 (by decide)), ⟨(fun h => absurd rfl h), fun n h => ⟨fun q => absurd rfl q, fun q => absurd q (by have k0_ := (n_lt c1); have k1_ := tl_0; have k2_ := (n_lt c4); have k3_ := (c_lt c8); have k4_ := (congrArg Int32.toInt (fld_inj h kz7)); omega)⟩⟩⟩⟩
      · skip
        have r10 : rg p2 0 60 := rf_lel (n_lt c8) r6 rz7 (by decide)
        refine lv_iload_n hx hb dX6_reaches_16 rfl (lv_at hl 1 rfl) ?_
        refine lv_aload_n hx hb dX6_reaches_17 rfl (lv_at hl 0 rfl) ?_
        refine t_getX C hH hI.1 mq tq td_17 iX6 rfl 2 (by decide) wd84 rfl kz7 dX6_reaches_18 ?_
        refine lv_iload_n hx hb dX6_reaches_21 rfl (lv_at hl 2 rfl) ?_
        refine lv_isub hx hb dX6_reaches_22 ?_
        refine lv_topi (fun z11 ez11 => ?_)
        have r12 : rg z11 (-60) 60 := rg_sub ez11 rz7 r10 (by decide)
        refine lv_icmp_gt (tgt := 30) hx hb dX6_reaches_23 (by decide) (fun c13 => ?_) (fun c13 => ?_)
        · skip
          refine lv_iconst (v := (0 : Int32)) hx hb dX6_reaches_30 (by decide) ?_
          exact g_zret C hr (rg_z (rg_w rl_0 (by decide))) hH (Nat.zero_le _) (Nat.zero_le _) dX6_reaches_31 ⟨rfl, hI, ⟨(rg_w rl_0 (by decide)), ⟨(fun h => absurd rfl h), fun n h => ⟨fun q => absurd rfl q, fun q => absurd q (by have k0_ := (n_lt c1); have k1_ := tl_0; have k2_ := (n_lt c4); have k3_ := (n_lt c8); have k4_ := (sub_x ez11 rz7 r10 (by decide)); have k5_ := (c_lt c13); have k6_ := (congrArg Int32.toInt (fld_inj h kz7)); omega)⟩⟩⟩⟩
        · skip
          have r14 : rg p1 0 60 := rf_lel (n_lt c13) r3 r12 (by decide)
          have r15 : rg z11 0 60 := rf_ler (n_lt c13) r3 r12 (by decide)
          refine lv_iconst (v := (1 : Int32)) hx hb dX6_reaches_26 (by decide) ?_
          refine lv_goto (tgt := 31) hx hb dX6_reaches_27 (by decide) ?_
          exact g_zret C hr (rg_z (rg_w rl_1 (by decide))) hH (Nat.zero_le _) (Nat.zero_le _) dX6_reaches_31 ⟨rfl, hI, ⟨(rg_w rl_1 (by decide)), ⟨(fun _ => reach_ok (rg_w r14 (by decide)) (rg_w r10 (by decide)) (n_lt c8) (n_lt c13) ez11 rz7), fun n h => ⟨fun _ => (by have k0_ := (n_lt c1); have k1_ := tl_0; have k2_ := (n_lt c4); have k3_ := (n_lt c8); have k4_ := (sub_x ez11 rz7 r10 (by decide)); have k5_ := (n_lt c13); have k6_ := (congrArg Int32.toInt (fld_inj h kz7)); omega), fun _ => (by decide)⟩⟩⟩⟩
set_option maxHeartbeats 4000000 in
set_option maxRecDepth 100000 in
theorem t_beginX (l : Launch) (E : gE) (J : Nat → Nat) (τ : Nat → Nat) (L : List Nat) (f : gF) (hI : tI E L τ f) {q : Nat} (mq : q ∈ L) (tq : τ q = 17) (p1 : Int32) (rp1 : rg p1 0 3) (p2 : Int32) (rp2 : rg p2 0 60) : tMv l E J yX6_begin cX6_begin 3 (gRm (2) 0 0) [.ref q, .int p1, .int p2] L f (tPv E L τ [17, 18] f (fun f1 => (fld f1 q 1 (.int p1) ∧ fld f1 q 2 (.int p2) ∧ ∀ b ∈ L, b ≠ q → τ b = 17 → f1 b = f b))) := by
  refine tMv.intro (by decide) (Nat.le_of_ble_eq_true rfl) ?_
  intro p e s m below meth c A ls C hr hA hO hH hl
  have C : gC E cX6_begin 3 RX6 p s m _ meth c := C
  have hl : lv_has ls 3 [(0, .ref q), (1, .int p1), (2, .int p2)] := hl
  have hx := C.1
  have hb := C.2.1
  have hI := hI.S [17, 18]
  obtain ⟨q_0, mq_0, tq_0, kq_0⟩ := t_fldr hI.1 mq tq td_17 (k := 0) rfl
  refine lv_aload_n hx hb dX6_begin_0 rfl (lv_at hl 0 rfl) ?_
  refine lv_iload_n hx hb dX6_begin_1 rfl (lv_at hl 1 rfl) ?_
  refine t_put C hH hI mq tq (by decide) td_17 iX6 tyX6 tyX6_ok nmX6 rfl 1 (by decide) wd82 rfl rfl (v := .int p1) rfl rfl rfl ⟨_, rfl, (rg_w rp1 (by decide))⟩ (fun _ h => nomatch h) dX6_begin_2 (fun f1 H locs hH hI nf1 of1 bf1 => ?_)
  refine lv_aload_n hx hb dX6_begin_5 rfl (lv_at hl 0 rfl) ?_
  refine lv_iload_n hx hb dX6_begin_6 rfl (lv_at hl 2 rfl) ?_
  refine t_put C hH hI mq tq (by decide) td_17 iX6 tyX6 tyX6_ok nmX6 rfl 2 (by decide) wd84 rfl rfl (v := .int p2) rfl rfl rfl ⟨_, rfl, rp2⟩ (fun _ h => nomatch h) dX6_begin_7 (fun f2 H locs hH hI nf2 of2 bf2 => ?_)
  have k3 : fld f2 q 1 (.int p1) := of2 1 _ (by decide) nf1
  refine lv_aload_n hx hb dX6_begin_10 rfl (lv_at hl 0 rfl) ?_
  refine t_getX C hH hI.1 mq tq td_17 iX6 rfl 0 (by decide) wd83 rfl (hI.rf kq_0) dX6_begin_11 ?_
  refine lv_lconst (v := (0 : Int64)) hx hb dX6_begin_14 (by decide) ?_
  refine t_Sv C hO hl.1 hA hH (As := [.ref q_0, .long (0 : Int64)]) (rest := []) (t_fill_18 l E J τ L f2 hI.1 mq_0 tq_0 ((0 : Int64))) my_J7_fill_d0a16 wd723 rfl rfl (Nat.le_of_ble_eq_true rfl) ⟨Nat.le_of_ble_eq_true rfl, Nat.le_of_ble_eq_true rfl⟩ ⟨rfl, rfl⟩ dX6_begin_15 (fun L1 f4 H locs hp hH => ?_)
  obtain ⟨rfl, s6, h7⟩ := hp
  have hI := hI.call s6 (by decide)
  have k8 : fld f4 q 1 (.int p1) := fld.eq k3 (s6.fr q mq (t_lim tq rfl))
  have k9 : fld f4 q 2 (.int p2) := fld.eq nf2 (s6.fr q mq (t_lim tq rfl))
  exact g_vret C hr hH (Nat.zero_le _) (Nat.zero_le _) dX6_begin_18 ⟨rfl, hI, ⟨k8, k9, fun b mb hb tb => ((s6.fr b mb (t_lim tb rfl)).trans ((bf2 b hb).trans (bf1 b hb)))⟩⟩
set_option maxHeartbeats 4000000 in
set_option maxRecDepth 100000 in
theorem t_rowXR (l : Launch) (E : gE) (J : Nat → Nat) (τ : Nat → Nat) (L : List Nat) (f : gF) (hI : tI E L τ f) {q : Nat} (mq : q ∈ L) (tq : τ q = 0) (p1 : Int32) (p2 : Int32) (p3 : Int32) : tMi l E J yX9_row cX9_row 4 .int (gRm (3) 0 0) [.ref q, .int p1, .int p2, .int p3] L f (tPi E L τ [17, 18] f (fun r f1 => rg r (-3) 0 ∧ (r = gRow p1 p2 p3 ∧ (gRow p1 p2 p3 = 0 → ∃ a, rowAt f q p1 a ∧ fld f1 a 1 (.int p2) ∧ fld f1 a 2 (.int p3) ∧ ∀ b ∈ L, b ≠ a → τ b = 17 → f1 b = f b) ∧ (¬ gRow p1 p2 p3 = 0 → ∀ b ∈ L, τ b = 17 → f1 b = f b)))) := by
  refine tMi.intro (by decide) (Nat.le_of_ble_eq_true rfl) ?_
  intro p e s m below meth c A ls C hr hA hO hH hl
  have C : gC E cX9_row 4 RX9 p s m _ meth c := C
  have hl : lv_has ls 4 [(0, .ref q), (1, .int p1), (2, .int p2), (3, .int p3)] := hl
  have hx := C.1
  have hb := C.2.1
  have hI := hI.S [17, 18]
  obtain ⟨q_4, mq_4, tq_4, kq_4⟩ := t_fldr hI.1 mq tq td_0 (k := 4) rfl
  refine lv_iload_n hx hb dX9_row_0 rfl (lv_at hl 1 rfl) ?_
  refine t_Si C hO hl.1 hA hH (As := [.int p1]) (rest := []) (t_isSlotX l E J τ L f hI.1 p1) my_X9_isSlot wd472 rfl rfl (Nat.le_of_ble_eq_true rfl) ⟨Nat.le_of_ble_eq_true rfl, Nat.le_of_ble_eq_true rfl⟩ ⟨rfl, rfl⟩ dX9_row_1 (fun r2 L1 f1 H locs hp hH => ?_)
  obtain ⟨rfl, s3, h4⟩ := hp
  have hJ := hI
  have hI := hI.call s3 (by decide)
  refine lv_if_eq (tgt := 22) hx hb dX9_row_4 (by decide) (fun c5 => ?_) (fun c5 => ?_)
  · skip
    have r6 : rg r2 0 0 := rf_eql (c_eq c5) h4.1 rl_0 (by decide)
    refine lv_bipush (v := (-2 : Int32)) hx hb dX9_row_22 (by decide) ?_
    exact g_iret C hr hH (Nat.zero_le _) (Nat.zero_le _) dX9_row_24 ⟨rfl, hI, ⟨(rg_w rl_m2 (by decide)), ⟨(show ((-2) : Int32) = gRow p1 p2 p3 from (by rw [gRow, if_pos (by rw [← h4.2.2]; exact c5)])), fun q => absurd ((show ((-2) : Int32) = gRow p1 p2 p3 from (by rw [gRow, if_pos (by rw [← h4.2.2]; exact c5)])).trans q) (by decide), fun _ b mb tb => (s3.fr b mb (t_lim tb rfl))⟩⟩⟩
  · skip
    have r7 : rg r2 1 1 := rf_nel (n_eq c5) h4.1 rl_0 (by decide)
    have r8 : rg p1 0 3 := h4.2.1 c5
    refine lv_iload_n hx hb dX9_row_7 rfl (lv_at hl 2 rfl) ?_
    refine lv_if_lt (tgt := 22) hx hb dX9_row_8 (by decide) (fun c9 => ?_) (fun c9 => ?_)
    · skip
      have r10 : rg p2 (-2147483648) (-1) := rf_ltl (c_lt c9) (rg_all _) rl_0 (by decide)
      refine lv_bipush (v := (-2 : Int32)) hx hb dX9_row_22 (by decide) ?_
      exact g_iret C hr hH (Nat.zero_le _) (Nat.zero_le _) dX9_row_24 ⟨rfl, hI, ⟨(rg_w rl_m2 (by decide)), ⟨(show ((-2) : Int32) = gRow p1 p2 p3 from (by rw [gRow, if_neg (by rw [← h4.2.2]; exact c5), if_pos c9])), fun q => absurd ((show ((-2) : Int32) = gRow p1 p2 p3 from (by rw [gRow, if_neg (by rw [← h4.2.2]; exact c5), if_pos c9])).trans q) (by decide), fun _ b mb tb => (s3.fr b mb (t_lim tb rfl))⟩⟩⟩
    · skip
      have r11 : rg p2 0 2147483647 := rf_ler (n_lt c9) rl_0 (rg_all _) (by decide)
      refine lv_iload_n hx hb dX9_row_11 rfl (lv_at hl 2 rfl) ?_
      refine lv_iconst (v := (4 : Int32)) hx hb dX9_row_12 (by decide) ?_
      refine lv_icmp_ge (tgt := 22) hx hb dX9_row_13 (by decide) (fun c12 => ?_) (fun c12 => ?_)
      · skip
        have r13 : rg p2 4 2147483647 := rf_ler (c_le c12) rl_4 r11 (by decide)
        refine lv_bipush (v := (-2 : Int32)) hx hb dX9_row_22 (by decide) ?_
        exact g_iret C hr hH (Nat.zero_le _) (Nat.zero_le _) dX9_row_24 ⟨rfl, hI, ⟨(rg_w rl_m2 (by decide)), ⟨(show ((-2) : Int32) = gRow p1 p2 p3 from (by rw [gRow, if_neg (by rw [← h4.2.2]; exact c5), if_neg c9, if_pos c12])), fun q => absurd ((show ((-2) : Int32) = gRow p1 p2 p3 from (by rw [gRow, if_neg (by rw [← h4.2.2]; exact c5), if_neg c9, if_pos c12])).trans q) (by decide), fun _ b mb tb => (s3.fr b mb (t_lim tb rfl))⟩⟩⟩
      · skip
        have r14 : rg p2 0 3 := rf_ltl (n_le c12) r11 rl_4 (by decide)
        refine lv_iload_n hx hb dX9_row_16 rfl (lv_at hl 3 rfl) ?_
        refine lv_bipush (v := (60 : Int32)) hx hb dX9_row_17 (by decide) ?_
        refine lv_icmp_le (tgt := 25) hx hb dX9_row_19 (by decide) (fun c15 => ?_) (fun c15 => ?_)
        · skip
          have r16 : rg p3 (-2147483648) 60 := rf_lel (c_le c15) (rg_all _) rl_60 (by decide)
          refine lv_iload_n hx hb dX9_row_25 rfl (lv_at hl 3 rfl) ?_
          refine lv_if_ge (tgt := 32) hx hb dX9_row_26 (by decide) (fun c17 => ?_) (fun c17 => ?_)
          · skip
            have r18 : rg p3 0 60 := rf_ler (c_le c17) rl_0 r16 (by decide)
            refine lv_aload_n hx hb dX9_row_32 rfl (lv_at hl 0 rfl) ?_
            refine t_getX C hH hI.1 mq tq td_0 iX9 rfl 4 (by decide) wd419 rfl (hI.rf kq_4) dX9_row_33 ?_
            refine lv_iload_n hx hb dX9_row_36 rfl (lv_at hl 1 rfl) ?_
            refine t_aaldX C hH hI.1 mq_4 tq_4 td_16 rfl (rg_in r8 (by decide)) dX9_row_37 (fun q19v q19 q19a q19b mq19 tq19 => ?_)
            have wq19 : rowAt f q p1 q19 := ⟨_, _, _, _, kq_4, ((hI.fr _ mq_4 (t_lim tq_4 rfl)).symm.trans q19a), q19b⟩
            refine lv_iload_n hx hb dX9_row_38 rfl (lv_at hl 2 rfl) ?_
            refine lv_iload_n hx hb dX9_row_39 rfl (lv_at hl 3 rfl) ?_
            refine t_Vv C hO hl.1 hA hH hI.1 (As := [.int p2, .int p3]) (rest := []) (t_beginX l E J τ L f1 hI.1 mq19 tq19 p2 r14 p3 r18) my_X6_begin wd727 mq19 tq19 td_17 rfl rfl rfl (Nat.le_of_ble_eq_true rfl) ⟨Nat.le_of_ble_eq_true rfl, Nat.le_of_ble_eq_true rfl⟩ ⟨rfl, rfl⟩ dX9_row_40 (fun L1 f20 H locs hp hH => ?_)
            obtain ⟨rfl, s22, h23⟩ := hp
            have hJ := hI
            have hI := hI.call s22 (by decide)
            refine lv_iconst (v := (0 : Int32)) hx hb dX9_row_43 (by decide) ?_
            exact g_iret C hr hH (Nat.zero_le _) (Nat.zero_le _) dX9_row_44 ⟨rfl, hI, ⟨(rg_w rl_0 (by decide)), ⟨(show (0 : Int32) = gRow p1 p2 p3 from (by rw [gRow, if_neg (by rw [← h4.2.2]; exact c5), if_neg c9, if_neg c12, if_pos c15, if_pos c17])), fun _ => ⟨q19, wq19, h23.1, h23.2.1, fun b mb hb tb => ((h23.2.2 b mb hb tb).trans (s3.fr b mb (t_lim tb rfl)))⟩, fun q => absurd (show (0 : Int32) = gRow p1 p2 p3 from (by rw [gRow, if_neg (by rw [← h4.2.2]; exact c5), if_neg c9, if_neg c12, if_pos c15, if_pos c17])).symm q⟩⟩⟩
          · skip
            have r24 : rg p3 (-2147483648) (-1) := rf_ltl (n_le c17) r16 rl_0 (by decide)
            refine lv_bipush (v := (-3 : Int32)) hx hb dX9_row_29 (by decide) ?_
            exact g_iret C hr hH (Nat.zero_le _) (Nat.zero_le _) dX9_row_31 ⟨rfl, hI, ⟨(rg_w rl_m3 (by decide)), ⟨(show ((-3) : Int32) = gRow p1 p2 p3 from (by rw [gRow, if_neg (by rw [← h4.2.2]; exact c5), if_neg c9, if_neg c12, if_pos c15, if_neg c17])), fun q => absurd ((show ((-3) : Int32) = gRow p1 p2 p3 from (by rw [gRow, if_neg (by rw [← h4.2.2]; exact c5), if_neg c9, if_neg c12, if_pos c15, if_neg c17])).trans q) (by decide), fun _ b mb tb => (s3.fr b mb (t_lim tb rfl))⟩⟩⟩
        · skip
          have r25 : rg p3 61 2147483647 := rf_ltr (n_le c15) rl_60 (rg_all _) (by decide)
          refine lv_bipush (v := (-2 : Int32)) hx hb dX9_row_22 (by decide) ?_
          exact g_iret C hr hH (Nat.zero_le _) (Nat.zero_le _) dX9_row_24 ⟨rfl, hI, ⟨(rg_w rl_m2 (by decide)), ⟨(show ((-2) : Int32) = gRow p1 p2 p3 from (by rw [gRow, if_neg (by rw [← h4.2.2]; exact c5), if_neg c9, if_neg c12, if_neg c15])), fun q => absurd ((show ((-2) : Int32) = gRow p1 p2 p3 from (by rw [gRow, if_neg (by rw [← h4.2.2]; exact c5), if_neg c9, if_neg c12, if_neg c15])).trans q) (by decide), fun _ b mb tb => (s3.fr b mb (t_lim tb rfl))⟩⟩⟩
set_option maxHeartbeats 4000000 in
set_option maxRecDepth 100000 in
theorem t_writeX (l : Launch) (E : gE) (J : Nat → Nat) (τ : Nat → Nat) (L : List Nat) (f : gF) (hI : tI E L τ f) {q : Nat} (mq : q ∈ L) (tq : τ q = 0) (p1 : Int32) (p2 : Int32) (p3 : Int64) {vw vm : Nat → Int32} (hw : rowsIn f q vw vm) : tMi l E J yX9_write cX9_write 6 .int (gRm (2) 0 0) [.ref q, .int p1, .int p2, .long p3] L f (tPi E L τ [18] f (fun r f1 => rg r (-7) 0 ∧ (r = gWr p1 p2 (vw p1.toNatClampNeg) (vm p1.toNatClampNeg)))) := by
  refine tMi.intro (by decide) (Nat.le_of_ble_eq_true rfl) ?_
  intro p e s m below meth c A ls C hr hA hO hH hl
  have C : gC E cX9_write 6 RX9 p s m _ meth c := C
  have hl : lv_has ls 6 [(0, .ref q), (1, .int p1), (2, .int p2), (3, .long p3)] := hl
  have hx := C.1
  have hb := C.2.1
  have hI := hI.S [18]
  obtain ⟨q_4, mq_4, tq_4, kq_4⟩ := t_fldr hI.1 mq tq td_0 (k := 4) rfl
  refine lv_iload_n hx hb dX9_write_0 rfl (lv_at hl 1 rfl) ?_
  refine t_Si C hO hl.1 hA hH (As := [.int p1]) (rest := []) (t_isSlotX l E J τ L f hI.1 p1) my_X9_isSlot wd472 rfl rfl (Nat.le_of_ble_eq_true rfl) ⟨Nat.le_of_ble_eq_true rfl, Nat.le_of_ble_eq_true rfl⟩ ⟨rfl, rfl⟩ dX9_write_1 (fun r2 L1 f1 H locs hp hH => ?_)
  obtain ⟨rfl, s3, h4⟩ := hp
  have hJ := hI
  have hI := hI.call s3 (by decide)
  refine lv_if_ne (tgt := 10) hx hb dX9_write_4 (by decide) (fun c5 => ?_) (fun c5 => ?_)
  · skip
    have r6 : rg r2 1 1 := rf_nel (n_eq c5) h4.1 rl_0 (by decide)
    have r7 : rg p1 0 3 := h4.2.1 c5
    refine lv_aload_n hx hb dX9_write_10 rfl (lv_at hl 0 rfl) ?_
    refine t_getX C hH hI.1 mq tq td_0 iX9 rfl 4 (by decide) wd419 rfl (hI.rf kq_4) dX9_write_11 ?_
    refine lv_iload_n hx hb dX9_write_14 rfl (lv_at hl 1 rfl) ?_
    refine t_aaldX C hH hI.1 mq_4 tq_4 td_16 rfl (rg_in r7 (by decide)) dX9_write_15 (fun q8v q8 q8a q8b mq8 tq8 => ?_)
    have wq8 : rowAt f q p1 q8 := ⟨_, _, _, _, kq_4, ((hI.fr _ mq_4 (t_lim tq_4 rfl)).symm.trans q8a), q8b⟩
    have hrq8 := hw p1 q8 r7 wq8
    have hqq8 := row_rg hI.1 mq8 tq8 (hrq8.1.eq (hI.fr q8 mq8 (t_lim tq8 rfl))) (hrq8.2.eq (hI.fr q8 mq8 (t_lim tq8 rfl)))
    refine lv_astore (lv' := [(5, .ref q8), (0, .ref q), (1, .int p1), (2, .int p2), (3, .long p3)]) hx hb dX9_write_16 hl (by decide) rfl (fun ls hl => ?_)
    refine lv_aload hx hb dX9_write_18 (lv_at hl 0 rfl) ?_
    refine t_Vi C hO hl.1 hA hH hI.1 (As := []) (rest := []) (t_isNothingX l E J τ L f1 hI.1 mq8 tq8) my_X6_isNothing wd424 mq8 tq8 td_17 rfl rfl rfl (Nat.le_of_ble_eq_true rfl) ⟨Nat.le_of_ble_eq_true rfl, Nat.le_of_ble_eq_true rfl⟩ ⟨rfl, rfl⟩ dX9_write_20 (fun r10 L1 f9 H locs hp hH => ?_)
    obtain ⟨rfl, s11, h12⟩ := hp
    have hJ := hI
    have hI := hI.call s11 (by decide)
    have ni13 := h12.2 _ ((hrq8.1).eq (hJ.fr q8 mq8 (t_lim tq8 rfl)))
    refine lv_if_eq (tgt := 29) hx hb dX9_write_23 (by decide) (fun c14 => ?_) (fun c14 => ?_)
    · skip
      have r15 : rg r10 0 0 := rf_eql (c_eq c14) h12.1 rl_0 (by decide)
      refine lv_iload_n hx hb dX9_write_29 rfl (lv_at hl 3 rfl) ?_
      refine lv_if_lt (tgt := 42) hx hb dX9_write_30 (by decide) (fun c16 => ?_) (fun c16 => ?_)
      · skip
        have r17 : rg p2 (-2147483648) (-1) := rf_ltl (c_lt c16) (rg_all _) rl_0 (by decide)
        refine lv_bipush (v := (-7 : Int32)) hx hb dX9_write_42 (by decide) ?_
        exact g_iret C hr hH (Nat.zero_le _) (Nat.zero_le _) dX9_write_44 ⟨rfl, hI, ⟨(rg_w rl_m7 (by decide)), (by have k0_ := ((slx_iff h4.2.2).mp c5); have k1_ := (mt (ni13).mpr (fun n_ => n_ c14)); have k2_ := (c_lt c16); have k3_ := tl_0; exact gWr_7 (by omega))⟩⟩
      · skip
        have r18 : rg p2 0 2147483647 := rf_ler (n_lt c16) rl_0 (rg_all _) (by decide)
        refine lv_iload_n hx hb dX9_write_33 rfl (lv_at hl 3 rfl) ?_
        refine lv_aload hx hb dX9_write_34 (lv_at hl 0 rfl) ?_
        refine t_getX C hH hI.1 mq8 tq8 td_17 iX6 rfl 2 (by decide) wd728 rfl (fld.eq hrq8.2 (hI.fr q8 mq8 (t_lim tq8 rfl))) dX9_write_36 ?_
        refine lv_icmp_lt (tgt := 45) hx hb dX9_write_39 (by decide) (fun c19 => ?_) (fun c19 => ?_)
        · skip
          have r20 : rg p2 0 59 := rf_ltl (c_lt c19) r18 hqq8.2 (by decide)
          have r21 : rg (vm p1.toNatClampNeg) 1 60 := rf_ltr (c_lt c19) r18 hqq8.2 (by decide)
          refine lv_aload hx hb dX9_write_45 (lv_at hl 0 rfl) ?_
          refine lv_iload_n hx hb dX9_write_47 rfl (lv_at hl 3 rfl) ?_
          refine lv_lload_n hx hb dX9_write_48 rfl (lv_at hl 4 rfl) ?_
          refine t_Vv C hO hl.1 hA hH hI.1 (As := [.int p2, .long p3]) (rest := []) (t_X6_put l E J τ L f9 hI.1 mq8 tq8 p2 r20 p3) my_X6_put wd732 mq8 tq8 td_17 rfl rfl rfl (Nat.le_of_ble_eq_true rfl) ⟨Nat.le_of_ble_eq_true rfl, Nat.le_of_ble_eq_true rfl⟩ ⟨rfl, rfl⟩ dX9_write_49 (fun L1 f22 H locs hp hH => ?_)
          obtain ⟨rfl, s24, h25⟩ := hp
          have hI := hI.call s24 (by decide)
          refine lv_iconst (v := (0 : Int32)) hx hb dX9_write_52 (by decide) ?_
          exact g_iret C hr hH (Nat.zero_le _) (Nat.zero_le _) dX9_write_53 ⟨rfl, hI, ⟨(rg_w rl_0 (by decide)), (by have k0_ := ((slx_iff h4.2.2).mp c5); have k1_ := (mt (ni13).mpr (fun n_ => n_ c14)); have k2_ := (n_lt c16); have k3_ := tl_0; have k4_ := (c_lt c19); exact gWr_0 (by omega))⟩⟩
        · skip
          refine lv_bipush (v := (-7 : Int32)) hx hb dX9_write_42 (by decide) ?_
          exact g_iret C hr hH (Nat.zero_le _) (Nat.zero_le _) dX9_write_44 ⟨rfl, hI, ⟨(rg_w rl_m7 (by decide)), (by have k0_ := ((slx_iff h4.2.2).mp c5); have k1_ := (mt (ni13).mpr (fun n_ => n_ c14)); have k2_ := (n_lt c16); have k3_ := tl_0; have k4_ := (n_lt c19); exact gWr_7 (by omega))⟩⟩
    · skip
      have r26 : rg r10 1 1 := rf_nel (n_eq c14) h12.1 rl_0 (by decide)
      refine lv_bipush (v := (-6 : Int32)) hx hb dX9_write_26 (by decide) ?_
      exact g_iret C hr hH (Nat.zero_le _) (Nat.zero_le _) dX9_write_28 ⟨rfl, hI, ⟨(rg_w rl_m6 (by decide)), (by have k0_ := ((slx_iff h4.2.2).mp c5); have k1_ := ((ni13).mp c14); exact gWr_6 (by omega))⟩⟩
  · skip
    have r27 : rg r2 0 0 := rf_eql (c_eq c5) h4.1 rl_0 (by decide)
    refine lv_bipush (v := (-2 : Int32)) hx hb dX9_write_7 (by decide) ?_
    exact g_iret C hr hH (Nat.zero_le _) (Nat.zero_le _) dX9_write_9 ⟨rfl, hI, ⟨(rg_w rl_m2 (by decide)), (by have k0_ := (mt (slx_iff h4.2.2).mpr (fun n_ => n_ c5)); exact gWr_2 (by omega))⟩⟩
set_option maxHeartbeats 4000000 in
set_option maxRecDepth 100000 in
theorem t_pasteX (l : Launch) (E : gE) (J : Nat → Nat) (τ : Nat → Nat) (L : List Nat) (f : gF) (hI : tI E L τ f) {q : Nat} (mq : q ∈ L) (tq : τ q = 0) (p1 : Int32) (p2 : Int32) (p3 : Int32) (p4 : Int32) (p5 : Int32) {vw vm : Nat → Int32} (hw : rowsIn f q vw vm) : tMi l E J yX9_paste cX9_paste 8 .int (gRm (2) 0 0) [.ref q, .int p1, .int p2, .int p3, .int p4, .int p5] L f (tPi E L τ [18] f (fun r f1 => rg r (-8) 0 ∧ (r = gPs p1 p2 p3 p4 p5 (vw p1.toNatClampNeg) (vm p1.toNatClampNeg) (vw p3.toNatClampNeg) (vm p3.toNatClampNeg)))) := by
  refine tMi.intro (by decide) (Nat.le_of_ble_eq_true rfl) ?_
  intro p e s m below meth c A ls C hr hA hO hH hl
  have C : gC E cX9_paste 8 RX9 p s m _ meth c := C
  have hl : lv_has ls 8 [(0, .ref q), (1, .int p1), (2, .int p2), (3, .int p3), (4, .int p4), (5, .int p5)] := hl
  have hx := C.1
  have hb := C.2.1
  have hI := hI.S [18]
  obtain ⟨q_4, mq_4, tq_4, kq_4⟩ := t_fldr hI.1 mq tq td_0 (k := 4) rfl
  refine lv_iload_n hx hb dX9_paste_0 rfl (lv_at hl 1 rfl) ?_
  refine t_Si C hO hl.1 hA hH (As := [.int p1]) (rest := []) (t_isSlotX l E J τ L f hI.1 p1) my_X9_isSlot wd472 rfl rfl (Nat.le_of_ble_eq_true rfl) ⟨Nat.le_of_ble_eq_true rfl, Nat.le_of_ble_eq_true rfl⟩ ⟨rfl, rfl⟩ dX9_paste_1 (fun r2 L1 f1 H locs hp hH => ?_)
  obtain ⟨rfl, s3, h4⟩ := hp
  have hJ := hI
  have hI := hI.call s3 (by decide)
  refine lv_if_eq (tgt := 14) hx hb dX9_paste_4 (by decide) (fun c5 => ?_) (fun c5 => ?_)
  · skip
    have r6 : rg r2 0 0 := rf_eql (c_eq c5) h4.1 rl_0 (by decide)
    refine lv_bipush (v := (-2 : Int32)) hx hb dX9_paste_14 (by decide) ?_
    exact g_iret C hr hH (Nat.zero_le _) (Nat.zero_le _) dX9_paste_16 ⟨rfl, hI, ⟨(rg_w rl_m2 (by decide)), (by have k0_ := (mt (slx_iff h4.2.2).mpr (fun n_ => n_ c5)); exact gPs_2 (by omega))⟩⟩
  · skip
    have r7 : rg r2 1 1 := rf_nel (n_eq c5) h4.1 rl_0 (by decide)
    have r8 : rg p1 0 3 := h4.2.1 c5
    refine lv_iload_n hx hb dX9_paste_7 rfl (lv_at hl 3 rfl) ?_
    refine t_Si C hO hl.1 hA hH (As := [.int p3]) (rest := []) (t_isSlotX l E J τ L f1 hI.1 p3) my_X9_isSlot wd472 rfl rfl (Nat.le_of_ble_eq_true rfl) ⟨Nat.le_of_ble_eq_true rfl, Nat.le_of_ble_eq_true rfl⟩ ⟨rfl, rfl⟩ dX9_paste_8 (fun r10 L1 f9 H locs hp hH => ?_)
    obtain ⟨rfl, s11, h12⟩ := hp
    have hJ := hI
    have hI := hI.call s11 (by decide)
    refine lv_if_ne (tgt := 17) hx hb dX9_paste_11 (by decide) (fun c13 => ?_) (fun c13 => ?_)
    · skip
      have r14 : rg r10 1 1 := rf_nel (n_eq c13) h12.1 rl_0 (by decide)
      have r15 : rg p3 0 3 := h12.2.1 c13
      refine lv_aload_n hx hb dX9_paste_17 rfl (lv_at hl 0 rfl) ?_
      refine t_getX C hH hI.1 mq tq td_0 iX9 rfl 4 (by decide) wd419 rfl (hI.rf kq_4) dX9_paste_18 ?_
      refine lv_iload_n hx hb dX9_paste_21 rfl (lv_at hl 1 rfl) ?_
      refine t_aaldX C hH hI.1 mq_4 tq_4 td_16 rfl (rg_in r8 (by decide)) dX9_paste_22 (fun q16v q16 q16a q16b mq16 tq16 => ?_)
      have wq16 : rowAt f q p1 q16 := ⟨_, _, _, _, kq_4, ((hI.fr _ mq_4 (t_lim tq_4 rfl)).symm.trans q16a), q16b⟩
      have hrq16 := hw p1 q16 r8 wq16
      have hqq16 := row_rg hI.1 mq16 tq16 (hrq16.1.eq (hI.fr q16 mq16 (t_lim tq16 rfl))) (hrq16.2.eq (hI.fr q16 mq16 (t_lim tq16 rfl)))
      refine lv_astore (lv' := [(6, .ref q16), (0, .ref q), (1, .int p1), (2, .int p2), (3, .int p3), (4, .int p4), (5, .int p5)]) hx hb dX9_paste_23 hl (by decide) rfl (fun ls hl => ?_)
      refine lv_aload_n hx hb dX9_paste_25 rfl (lv_at hl 1 rfl) ?_
      refine t_getX C hH hI.1 mq tq td_0 iX9 rfl 4 (by decide) wd419 rfl (hI.rf kq_4) dX9_paste_26 ?_
      refine lv_iload_n hx hb dX9_paste_29 rfl (lv_at hl 4 rfl) ?_
      refine t_aaldX C hH hI.1 mq_4 tq_4 td_16 rfl (rg_in r15 (by decide)) dX9_paste_30 (fun q17v q17 q17a q17b mq17 tq17 => ?_)
      have wq17 : rowAt f q p3 q17 := ⟨_, _, _, _, kq_4, ((hI.fr _ mq_4 (t_lim tq_4 rfl)).symm.trans q17a), q17b⟩
      have hrq17 := hw p3 q17 r15 wq17
      have hqq17 := row_rg hI.1 mq17 tq17 (hrq17.1.eq (hI.fr q17 mq17 (t_lim tq17 rfl))) (hrq17.2.eq (hI.fr q17 mq17 (t_lim tq17 rfl)))
      refine lv_astore (lv' := [(7, .ref q17), (6, .ref q16), (0, .ref q), (1, .int p1), (2, .int p2), (3, .int p3), (4, .int p4), (5, .int p5)]) hx hb dX9_paste_31 hl (by decide) rfl (fun ls hl => ?_)
      refine lv_aload hx hb dX9_paste_33 (lv_at hl 1 rfl) ?_
      refine t_Vi C hO hl.1 hA hH hI.1 (As := []) (rest := []) (t_isNothingX l E J τ L f9 hI.1 mq16 tq16) my_X6_isNothing wd424 mq16 tq16 td_17 rfl rfl rfl (Nat.le_of_ble_eq_true rfl) ⟨Nat.le_of_ble_eq_true rfl, Nat.le_of_ble_eq_true rfl⟩ ⟨rfl, rfl⟩ dX9_paste_35 (fun r19 L1 f18 H locs hp hH => ?_)
      obtain ⟨rfl, s20, h21⟩ := hp
      have hJ := hI
      have hI := hI.call s20 (by decide)
      have ni22 := h21.2 _ ((hrq16.1).eq (hJ.fr q16 mq16 (t_lim tq16 rfl)))
      refine lv_if_ne (tgt := 49) hx hb dX9_paste_38 (by decide) (fun c23 => ?_) (fun c23 => ?_)
      · skip
        have r24 : rg r19 1 1 := rf_nel (n_eq c23) h21.1 rl_0 (by decide)
        refine lv_bipush (v := (-6 : Int32)) hx hb dX9_paste_49 (by decide) ?_
        exact g_iret C hr hH (Nat.zero_le _) (Nat.zero_le _) dX9_paste_51 ⟨rfl, hI, ⟨(rg_w rl_m6 (by decide)), (by have k0_ := ((slx_iff h4.2.2).mp c5); have k1_ := ((slx_iff h12.2.2).mp c13); have k2_ := ((ni22).mp c23); exact gPs_6 (by omega))⟩⟩
      · skip
        have r25 : rg r19 0 0 := rf_eql (c_eq c23) h21.1 rl_0 (by decide)
        refine lv_aload hx hb dX9_paste_41 (lv_at hl 0 rfl) ?_
        refine t_Vi C hO hl.1 hA hH hI.1 (As := []) (rest := []) (t_isNothingX l E J τ L f18 hI.1 mq17 tq17) my_X6_isNothing wd424 mq17 tq17 td_17 rfl rfl rfl (Nat.le_of_ble_eq_true rfl) ⟨Nat.le_of_ble_eq_true rfl, Nat.le_of_ble_eq_true rfl⟩ ⟨rfl, rfl⟩ dX9_paste_43 (fun r27 L1 f26 H locs hp hH => ?_)
        obtain ⟨rfl, s28, h29⟩ := hp
        have hJ := hI
        have hI := hI.call s28 (by decide)
        have ni30 := h29.2 _ ((hrq17.1).eq (hJ.fr q17 mq17 (t_lim tq17 rfl)))
        refine lv_if_eq (tgt := 52) hx hb dX9_paste_46 (by decide) (fun c31 => ?_) (fun c31 => ?_)
        · skip
          have r32 : rg r27 0 0 := rf_eql (c_eq c31) h29.1 rl_0 (by decide)
          refine lv_aload hx hb dX9_paste_52 (lv_at hl 1 rfl) ?_
          refine t_getX C hH hI.1 mq16 tq16 td_17 iX6 rfl 1 (by decide) wd733 rfl (fld.eq hrq16.1 (hI.fr q16 mq16 (t_lim tq16 rfl))) dX9_paste_54 ?_
          refine lv_aload hx hb dX9_paste_57 (lv_at hl 0 rfl) ?_
          refine t_getX C hH hI.1 mq17 tq17 td_17 iX6 rfl 1 (by decide) wd733 rfl (fld.eq hrq17.1 (hI.fr q17 mq17 (t_lim tq17 rfl))) dX9_paste_59 ?_
          refine lv_icmp_eq (tgt := 68) hx hb dX9_paste_62 (by decide) (fun c33 => ?_) (fun c33 => ?_)
          · skip
            refine lv_aload hx hb dX9_paste_68 (lv_at hl 1 rfl) ?_
            refine lv_iload_n hx hb dX9_paste_70 rfl (lv_at hl 4 rfl) ?_
            refine lv_iload hx hb dX9_paste_71 (lv_at hl 7 rfl) ?_
            refine t_Vi C hO hl.1 hA hH hI.1 (As := [.int p2, .int p5]) (rest := []) (t_reachR l E J τ L f26 hI.1 mq16 tq16 p2 p5) my_X6_reaches wd737 mq16 tq16 td_17 rfl rfl rfl (Nat.le_of_ble_eq_true rfl) ⟨Nat.le_of_ble_eq_true rfl, Nat.le_of_ble_eq_true rfl⟩ ⟨rfl, rfl⟩ dX9_paste_73 (fun r35 L1 f34 H locs hp hH => ?_)
            obtain ⟨rfl, s36, h37⟩ := hp
            have hJ := hI
            have hI := hI.call s36 (by decide)
            have ni38 := h37.2.2 _ ((hrq16.2).eq (hJ.fr q16 mq16 (t_lim tq16 rfl)))
            refine lv_if_eq (tgt := 91) hx hb dX9_paste_76 (by decide) (fun c39 => ?_) (fun c39 => ?_)
            · skip
              have r40 : rg r35 0 0 := rf_eql (c_eq c39) h37.1 rl_0 (by decide)
              refine lv_bipush (v := (-7 : Int32)) hx hb dX9_paste_91 (by decide) ?_
              exact g_iret C hr hH (Nat.zero_le _) (Nat.zero_le _) dX9_paste_93 ⟨rfl, hI, ⟨(rg_w rl_m7 (by decide)), (by have k0_ := ((slx_iff h4.2.2).mp c5); have k1_ := ((slx_iff h12.2.2).mp c13); have k2_ := (mt (ni22).mpr (fun n_ => n_ c23)); have k3_ := (mt (ni30).mpr (fun n_ => n_ c31)); have k4_ := (c_eq c33); have k5_ := (mt (ni38).mpr (fun n_ => n_ c39)); exact gPs_7 (by omega))⟩⟩
            · skip
              have r41 : rg r35 1 1 := rf_nel (n_eq c39) h37.1 rl_0 (by decide)
              refine lv_aload hx hb dX9_paste_79 (lv_at hl 0 rfl) ?_
              refine lv_iload hx hb dX9_paste_81 (lv_at hl 6 rfl) ?_
              refine lv_iload hx hb dX9_paste_83 (lv_at hl 7 rfl) ?_
              refine t_Vi C hO hl.1 hA hH hI.1 (As := [.int p4, .int p5]) (rest := []) (t_reachR l E J τ L f34 hI.1 mq17 tq17 p4 p5) my_X6_reaches wd737 mq17 tq17 td_17 rfl rfl rfl (Nat.le_of_ble_eq_true rfl) ⟨Nat.le_of_ble_eq_true rfl, Nat.le_of_ble_eq_true rfl⟩ ⟨rfl, rfl⟩ dX9_paste_85 (fun r43 L1 f42 H locs hp hH => ?_)
              obtain ⟨rfl, s44, h45⟩ := hp
              have hJ := hI
              have hI := hI.call s44 (by decide)
              have ni46 := h45.2.2 _ ((hrq17.2).eq (hJ.fr q17 mq17 (t_lim tq17 rfl)))
              refine lv_if_ne (tgt := 94) hx hb dX9_paste_88 (by decide) (fun c47 => ?_) (fun c47 => ?_)
              · skip
                have r48 : rg r43 1 1 := rf_nel (n_eq c47) h45.1 rl_0 (by decide)
                refine lv_aload hx hb dX9_paste_94 (lv_at hl 1 rfl) ?_
                refine t_getr C hH hI.1 mq16 tq16 td_17 iX6 rfl 0 (by decide) wd738 rfl rfl dX9_paste_96 (fun q49 mq49 tq49 => ?_)
                refine lv_iload_n hx hb dX9_paste_99 rfl (lv_at hl 4 rfl) ?_
                refine lv_aload hx hb dX9_paste_100 (lv_at hl 0 rfl) ?_
                refine t_getr C hH hI.1 mq17 tq17 td_17 iX6 rfl 0 (by decide) wd738 rfl rfl dX9_paste_102 (fun q50 mq50 tq50 => ?_)
                refine lv_iload hx hb dX9_paste_105 (lv_at hl 6 rfl) ?_
                refine lv_iload hx hb dX9_paste_107 (lv_at hl 7 rfl) ?_
                obtain ⟨a1, a2, a3⟩ := h37.2.1 c39
                obtain ⟨b1, b2, b3⟩ := h45.2.1 c47
                refine t_copyJ C hl.1.symm hH hI wd739 wd53 wd54 wd55 mq49 tq49 td_18 mq50 tq50 (by decide) td_18 (nn_lt a1) (nn_lt b1) (nn_lt a2) (nn_le a1 a2 a3) (nn_le b1 b2 b3) (Nat.le_of_ble_eq_true rfl) (Nat.le_of_ble_eq_true rfl) dX9_paste_109 (fun f51 H locs hH hI bf51 => ?_)
                refine lv_iconst (v := (0 : Int32)) hx hb dX9_paste_112 (by decide) ?_
                exact g_iret C hr hH (Nat.zero_le _) (Nat.zero_le _) dX9_paste_113 ⟨rfl, hI, ⟨(rg_w rl_0 (by decide)), (by have k0_ := ((slx_iff h4.2.2).mp c5); have k1_ := ((slx_iff h12.2.2).mp c13); have k2_ := (mt (ni22).mpr (fun n_ => n_ c23)); have k3_ := (mt (ni30).mpr (fun n_ => n_ c31)); have k4_ := (c_eq c33); have k5_ := ((ni38).mp c39); have k6_ := ((ni46).mp c47); exact gPs_0 (by omega))⟩⟩
              · skip
                have r52 : rg r43 0 0 := rf_eql (c_eq c47) h45.1 rl_0 (by decide)
                refine lv_bipush (v := (-7 : Int32)) hx hb dX9_paste_91 (by decide) ?_
                exact g_iret C hr hH (Nat.zero_le _) (Nat.zero_le _) dX9_paste_93 ⟨rfl, hI, ⟨(rg_w rl_m7 (by decide)), (by have k0_ := ((slx_iff h4.2.2).mp c5); have k1_ := ((slx_iff h12.2.2).mp c13); have k2_ := (mt (ni22).mpr (fun n_ => n_ c23)); have k3_ := (mt (ni30).mpr (fun n_ => n_ c31)); have k4_ := (c_eq c33); have k5_ := ((ni38).mp c39); have k6_ := (mt (ni46).mpr (fun n_ => n_ c47)); exact gPs_7 (by omega))⟩⟩
          · skip
            refine lv_bipush (v := (-8 : Int32)) hx hb dX9_paste_65 (by decide) ?_
            exact g_iret C hr hH (Nat.zero_le _) (Nat.zero_le _) dX9_paste_67 ⟨rfl, hI, ⟨(rg_w rl_m8 (by decide)), (by have k0_ := ((slx_iff h4.2.2).mp c5); have k1_ := ((slx_iff h12.2.2).mp c13); have k2_ := (mt (ni22).mpr (fun n_ => n_ c23)); have k3_ := (mt (ni30).mpr (fun n_ => n_ c31)); have k4_ := (n_eq c33); exact gPs_8 (by omega))⟩⟩
        · skip
          have r53 : rg r27 1 1 := rf_nel (n_eq c31) h29.1 rl_0 (by decide)
          refine lv_bipush (v := (-6 : Int32)) hx hb dX9_paste_49 (by decide) ?_
          exact g_iret C hr hH (Nat.zero_le _) (Nat.zero_le _) dX9_paste_51 ⟨rfl, hI, ⟨(rg_w rl_m6 (by decide)), (by have k0_ := ((slx_iff h4.2.2).mp c5); have k1_ := ((slx_iff h12.2.2).mp c13); have k2_ := (mt (ni22).mpr (fun n_ => n_ c23)); have k3_ := ((ni30).mp c31); exact gPs_6 (by omega))⟩⟩
    · skip
      have r54 : rg r10 0 0 := rf_eql (c_eq c13) h12.1 rl_0 (by decide)
      refine lv_bipush (v := (-2 : Int32)) hx hb dX9_paste_14 (by decide) ?_
      exact g_iret C hr hH (Nat.zero_le _) (Nat.zero_le _) dX9_paste_16 ⟨rfl, hI, ⟨(rg_w rl_m2 (by decide)), (by have k0_ := ((slx_iff h4.2.2).mp c5); have k1_ := (mt (slx_iff h12.2.2).mpr (fun n_ => n_ c13)); exact gPs_2 (by omega))⟩⟩
set_option maxHeartbeats 4000000 in
set_option maxRecDepth 100000 in
theorem t_rowYR (l : Launch) (E : gE) (J : Nat → Nat) (τ : Nat → Nat) (L : List Nat) (f : gF) (hI : tI E L τ f) {q : Nat} (mq : q ∈ L) (tq : τ q = 40) (p1 : Int32) (p2 : Int32) (p3 : Int32) {vw vm : Nat → Int32} (hw0 : isA E L τ f 41 4 vw) (hm0 : isA E L τ f 42 4 vm) (hU1 : uq L τ 41) (hU2 : uq L τ 42) : tMi l E J yX10_row cX10_row 5 .int (gRm (3) 0 0) [.ref q, .int p1, .int p2, .int p3] L f (tPi E L τ [40, 41, 42, 43] f (fun r f1 => rg r (-3) 0 ∧ (r = gRow p1 p2 p3 ∧ isA E L τ f1 41 4 (gRw p1 p2 p3 vw p2) ∧ isA E L τ f1 42 4 (gRw p1 p2 p3 vm p3)))) := by
  refine tMi.intro (by decide) (Nat.le_of_ble_eq_true rfl) ?_
  intro p e s m below meth c A ls C hr hA hO hH hl
  have C : gC E cX10_row 5 RX10 p s m _ meth c := C
  have hl : lv_has ls 5 [(0, .ref q), (1, .int p1), (2, .int p2), (3, .int p3)] := hl
  have hx := C.1
  have hb := C.2.1
  have hI := hI.S [40, 41, 42, 43]
  obtain ⟨q_1, mq_1, tq_1, kq_1⟩ := t_fldr hI.1 mq tq td_40 (k := 1) rfl
  obtain ⟨q_2, mq_2, tq_2, kq_2⟩ := t_fldr hI.1 mq tq td_40 (k := 2) rfl
  obtain ⟨q_3, mq_3, tq_3, kq_3⟩ := t_fldr hI.1 mq tq td_40 (k := 3) rfl
  have cut57 : ∀ (n : Nat) (fh57 : gF) (H : Heap) (locs : List Loc) (ls : Array Slot) (v57_4 : Int32), 60 - v57_4.toInt < (n : Int) → tS E L τ [40, 41, 42, 43] f fh57 → gH E A L fh57 s.heap H locs → rg v57_4 0 60 → rg p1 0 3 → rg p2 0 3 → rg p3 0 60 → isA E L τ fh57 42 4 (upd vm p1.toNatClampNeg p3) → 0 = gRow p1 p2 p3 → isA E L τ fh57 41 4 (upd vw p1.toNatClampNeg p2) → lv_has ls 5 [(0, .ref q), (1, .int p1), (2, .int p2), (3, .int p3), (4, .int v57_4)] → W p l e (gRm (3) 0 0) s m [.ref q, .int p1, .int p2, .int p3].toArray below meth c H locs 0 0 (MQ below (gQi E A (tPi E L τ [40, 41, 42, 43] f (fun r f1 => rg r (-3) 0 ∧ (r = gRow p1 p2 p3 ∧ isA E L τ f1 41 4 (gRw p1 p2 p3 vw p2) ∧ isA E L τ f1 42 4 (gRw p1 p2 p3 vm p3))))) [.ref q, .int p1, .int p2, .int p3].toArray s (gRm (3) 0 0).cells (gRm (3) 0 0).slots A) (F0 m 57 ls []) := by
    intro n
    induction n with
    | zero =>
      intro fh57 H locs ls v57_4 hfu57 hI hH r_v57_4 r57_p1 r57_p2 r57_p3 F57_m F57_ok F57_w hl
      exact (fu_0 hfu57 r_v57_4).elim
    | succ n ih57 =>
      intro fh57 H locs ls v57_4 hfu57 hI hH r_v57_4 r57_p1 r57_p2 r57_p3 F57_m F57_ok F57_w hl
      have hw0 := F57_w
      have hm0 := F57_m
      refine lv_iload hx hb dX10_row_57 (lv_at hl 4 rfl) ?_
      refine lv_iload_n hx hb dX10_row_59 rfl (lv_at hl 3 rfl) ?_
      refine lv_icmp_ge (tgt := 82) hx hb dX10_row_60 (by decide) (fun c1 => ?_) (fun c1 => ?_)
      · skip
        refine lv_iconst (v := (0 : Int32)) hx hb dX10_row_82 (by decide) ?_
        exact g_iret C hr hH (Nat.zero_le _) (Nat.zero_le _) dX10_row_83 ⟨rfl, hI, ⟨(rg_w rl_0 (by decide)), ⟨F57_ok, gRw_0 F57_ok hw0, gRw_0 F57_ok hm0⟩⟩⟩
      · skip
        have r2 : rg v57_4 0 59 := rf_ltl (n_le c1) r_v57_4 r57_p3 (by decide)
        have r3 : rg p3 1 60 := rf_ltr (n_le c1) r_v57_4 r57_p3 (by decide)
        refine lv_aload_n hx hb dX10_row_63 rfl (lv_at hl 0 rfl) ?_
        refine t_getX C hH hI.1 mq tq td_40 iX10 rfl 3 (by decide) wd989 rfl (hI.rf kq_3) dX10_row_64 ?_
        refine lv_bipush (v := (60 : Int32)) hx hb dX10_row_67 (by decide) ?_
        refine lv_iload_n hx hb dX10_row_69 rfl (lv_at hl 1 rfl) ?_
        refine lv_imul hx hb dX10_row_70 ?_
        refine lv_topi (fun z4 ez4 => ?_)
        have r5 : rg z4 0 180 := rg_mul ez4 rl_60 r57_p1 (by decide)
        refine lv_iload hx hb dX10_row_71 (lv_at hl 4 rfl) ?_
        refine lv_iadd hx hb dX10_row_73 ?_
        refine lv_topi (fun z6 ez6 => ?_)
        have r7 : rg z6 0 239 := rg_add ez6 r5 r2 (by decide)
        refine lv_lconst (v := (0 : Int64)) hx hb dX10_row_74 (by decide) ?_
        refine t_last C hH hI mq_3 tq_3 (by decide) td_43 (rg_in r7 (by decide)) dX10_row_75 (fun f8 H locs hH hI bf8 => ?_)
        have hw0 := isA_st hw0 tq_3 rfl bf8
        have hm0 := isA_st hm0 tq_3 rfl bf8
        obtain ⟨z9, ez9⟩ : ∃ y : Int32, y = v57_4 + (1 : Int32) := ⟨_, rfl⟩
        have r10 : rg z9 1 60 := rg_add ez9 r2 rl_1 (by decide)
        have a11 : z9.toInt = v57_4.toInt + 1 := ai_add ez9 r2 tl_1 (by decide)
        refine lv_iinc (v := z9) (lv' := [(4, .int z9), (0, .ref q), (1, .int p1), (2, .int p2), (3, .int p3)]) hx hb dX10_row_76 hl (k := 4) rfl (by rw [ez9]; rfl) (by decide) rfl (fun ls hl => ?_)
        refine lv_goto (tgt := 57) hx hb dX10_row_79 (by decide) ?_
        exact ih57 _ _ _ _ z9 (fu_s hfu57 a11 (by decide)) hI hH (rg_w r10 (by decide)) r57_p1 r57_p2 (rg_w r3 (by decide)) hm0 F57_ok hw0 (lv_sub hl [1, 2, 3, 4, 0] rfl)
  refine lv_aload_n hx hb dX10_row_0 rfl (lv_at hl 0 rfl) ?_
  refine lv_iconst (v := (0 : Int32)) hx hb dX10_row_1 (by decide) ?_
  refine t_put C hH hI mq tq (by decide) td_40 iX10 tyX10 tyX10_ok nmX10 rfl 0 (by decide) wd855 rfl rfl (v := .int (0 : Int32)) rfl rfl rfl ⟨_, rfl, (rg_w rl_0 (by decide))⟩ (fun _ h => nomatch h) dX10_row_2 (fun f12 H locs hH hI nf12 of12 bf12 => ?_)
  have hw0 := isA_st hw0 tq rfl bf12
  have hm0 := isA_st hm0 tq rfl bf12
  refine lv_iload_n hx hb dX10_row_5 rfl (lv_at hl 1 rfl) ?_
  refine t_Si C hO hl.1 hA hH (As := [.int p1]) (rest := []) (t_isSlotY l E J τ L f12 hI.1 p1) my_X10_isSlot wd993 rfl rfl (Nat.le_of_ble_eq_true rfl) ⟨Nat.le_of_ble_eq_true rfl, Nat.le_of_ble_eq_true rfl⟩ ⟨rfl, rfl⟩ dX10_row_6 (fun r14 L1 f13 H locs hp hH => ?_)
  obtain ⟨rfl, s15, h16⟩ := hp
  have hJ := hI
  have hI := hI.call s15 (by decide)
  have hw0 := hw0.S s15 rfl
  have hm0 := hm0.S s15 rfl
  refine lv_if_eq (tgt := 30) hx hb dX10_row_9 (by decide) (fun c17 => ?_) (fun c17 => ?_)
  · skip
    have r18 : rg r14 0 0 := rf_eql (c_eq c17) h16.1 rl_0 (by decide)
    refine lv_bipush (v := (-2 : Int32)) hx hb dX10_row_30 (by decide) ?_
    exact g_iret C hr hH (Nat.zero_le _) (Nat.zero_le _) dX10_row_32 ⟨rfl, hI, ⟨(rg_w rl_m2 (by decide)), ⟨(by have k0_ := (mt (h16.2.2).mpr (fun n_ => n_ c17)); exact gRow_2 (by omega)), gRw_n (r := ((-2) : Int32)) (by have k0_ := (mt (h16.2.2).mpr (fun n_ => n_ c17)); exact gRow_2 (by omega)) (by decide) hw0, gRw_n (r := ((-2) : Int32)) (by have k0_ := (mt (h16.2.2).mpr (fun n_ => n_ c17)); exact gRow_2 (by omega)) (by decide) hm0⟩⟩⟩
  · skip
    have r19 : rg r14 1 1 := rf_nel (n_eq c17) h16.1 rl_0 (by decide)
    have r20 : rg p1 0 3 := h16.2.1 c17
    refine lv_iload_n hx hb dX10_row_12 rfl (lv_at hl 2 rfl) ?_
    refine lv_i2l (v := (p2).toInt64) hx hb dX10_row_13 rfl ?_
    refine lv_lconst (v := (0 : Int64)) hx hb dX10_row_14 (by decide) ?_
    refine lv_ldc2 hx hb C.2.2.2.1 (C.2.2.2.2.1 _ wd740) dX10_row_15 ?_
    refine t_Si C hO hl.1 hA hH (As := [.long (p2).toInt64, .long (0 : Int64), .long (3 : Int64)]) (rest := []) (t_inX l E J τ L f13 hI.1 ((p2).toInt64) ((0 : Int64)) ((3 : Int64))) my_X10_in wd744 rfl rfl (Nat.le_of_ble_eq_true rfl) ⟨Nat.le_of_ble_eq_true rfl, Nat.le_of_ble_eq_true rfl⟩ ⟨rfl, rfl⟩ dX10_row_18 (fun r22 L1 f21 H locs hp hH => ?_)
    obtain ⟨rfl, s23, h24⟩ := hp
    have hJ := hI
    have hI := hI.call s23 (by decide)
    have hw0 := hw0.S s23 rfl
    have hm0 := hm0.S s23 rfl
    refine lv_if_eq (tgt := 30) hx hb dX10_row_21 (by decide) (fun c25 => ?_) (fun c25 => ?_)
    · skip
      have r26 : rg r22 0 0 := rf_eql (c_eq c25) h24.1 rl_0 (by decide)
      refine lv_bipush (v := (-2 : Int32)) hx hb dX10_row_30 (by decide) ?_
      exact g_iret C hr hH (Nat.zero_le _) (Nat.zero_le _) dX10_row_32 ⟨rfl, hI, ⟨(rg_w rl_m2 (by decide)), ⟨(by have k0_ := ((h16.2.2).mp c17); have k1_ := (mt (in_c (lo := 0) (hi := 3) h24.2 (by decide) (by decide)).mpr (fun n_ => n_ c25)); exact gRow_2 (by omega)), gRw_n (r := ((-2) : Int32)) (by have k0_ := ((h16.2.2).mp c17); have k1_ := (mt (in_c (lo := 0) (hi := 3) h24.2 (by decide) (by decide)).mpr (fun n_ => n_ c25)); exact gRow_2 (by omega)) (by decide) hw0, gRw_n (r := ((-2) : Int32)) (by have k0_ := ((h16.2.2).mp c17); have k1_ := (mt (in_c (lo := 0) (hi := 3) h24.2 (by decide) (by decide)).mpr (fun n_ => n_ c25)); exact gRow_2 (by omega)) (by decide) hm0⟩⟩⟩
    · skip
      have r27 : rg r22 1 1 := rf_nel (n_eq c25) h24.1 rl_0 (by decide)
      have r28 : rg p2 0 3 := in_rg (la := 0) (lb := 3) (h24.2.1 c25) (rg_all _) (by decide) (by decide) (by decide)
      refine lv_iload_n hx hb dX10_row_24 rfl (lv_at hl 3 rfl) ?_
      refine lv_bipush (v := (60 : Int32)) hx hb dX10_row_25 (by decide) ?_
      refine lv_icmp_le (tgt := 33) hx hb dX10_row_27 (by decide) (fun c29 => ?_) (fun c29 => ?_)
      · skip
        have r30 : rg p3 (-2147483648) 60 := rf_lel (c_le c29) (rg_all _) rl_60 (by decide)
        refine lv_iload_n hx hb dX10_row_33 rfl (lv_at hl 3 rfl) ?_
        refine lv_if_ge (tgt := 40) hx hb dX10_row_34 (by decide) (fun c31 => ?_) (fun c31 => ?_)
        · skip
          have r32 : rg p3 0 60 := rf_ler (c_le c31) rl_0 r30 (by decide)
          refine lv_aload_n hx hb dX10_row_40 rfl (lv_at hl 0 rfl) ?_
          refine t_getX C hH hI.1 mq tq td_40 iX10 rfl 1 (by decide) wd994 rfl (hI.rf kq_1) dX10_row_41 ?_
          refine lv_iload_n hx hb dX10_row_44 rfl (lv_at hl 1 rfl) ?_
          refine lv_iload_n hx hb dX10_row_45 rfl (lv_at hl 2 rfl) ?_
          refine t_ast C hH hI mq_1 tq_1 (by decide) td_41 (rg_in r20 (by decide)) (fun _ _ _ => trivial) dX10_row_46 (fun f33 H locs hH hI bf33 uf33 => ?_)
          have hw0 := isA_w hU1 mq_1 tq_1 (uf33 _ (hw0 q_1 mq_1 tq_1))
          have hm0 := isA_st hm0 tq_1 rfl bf33
          refine lv_aload_n hx hb dX10_row_47 rfl (lv_at hl 0 rfl) ?_
          refine t_getX C hH hI.1 mq tq td_40 iX10 rfl 2 (by decide) wd988 rfl (hI.rf kq_2) dX10_row_48 ?_
          refine lv_iload_n hx hb dX10_row_51 rfl (lv_at hl 1 rfl) ?_
          refine lv_iload_n hx hb dX10_row_52 rfl (lv_at hl 3 rfl) ?_
          refine t_ast C hH hI mq_2 tq_2 (by decide) td_42 (rg_in r20 (by decide)) (fun _ _ h => tR_upd h r32) dX10_row_53 (fun f34 H locs hH hI bf34 uf34 => ?_)
          have hw0 := isA_st hw0 tq_2 rfl bf34
          have hm0 := isA_w hU2 mq_2 tq_2 (uf34 _ (hm0 q_2 mq_2 tq_2))
          refine lv_iconst (v := (0 : Int32)) hx hb dX10_row_54 (by decide) ?_
          refine lv_istore (lv' := [(4, .int (0 : Int32)), (0, .ref q), (1, .int p1), (2, .int p2), (3, .int p3)]) hx hb dX10_row_55 hl (by decide) rfl (fun ls hl => ?_)
          exact cut57 61 _ _ _ _ (0 : Int32) (fu_i 61 rl_0 (by decide)) hI hH (rg_w rl_0 (by decide)) r20 r28 r32 hm0 (by have k0_ := ((h16.2.2).mp c17); have k1_ := ((in_c (lo := 0) (hi := 3) h24.2 (by decide) (by decide)).mp c25); have k2_ := (c_le c29); have k3_ := tl_60; have k4_ := (c_le c31); have k5_ := tl_0; exact gRow_0 (by omega)) hw0 (lv_sub hl [1, 2, 3, 4, 0] rfl)
        · skip
          have r35 : rg p3 (-2147483648) (-1) := rf_ltl (n_le c31) r30 rl_0 (by decide)
          refine lv_bipush (v := (-3 : Int32)) hx hb dX10_row_37 (by decide) ?_
          exact g_iret C hr hH (Nat.zero_le _) (Nat.zero_le _) dX10_row_39 ⟨rfl, hI, ⟨(rg_w rl_m3 (by decide)), ⟨(by have k0_ := ((h16.2.2).mp c17); have k1_ := ((in_c (lo := 0) (hi := 3) h24.2 (by decide) (by decide)).mp c25); have k2_ := (c_le c29); have k3_ := tl_60; have k4_ := (n_le c31); have k5_ := tl_0; exact gRow_3 (by omega)), gRw_n (r := ((-3) : Int32)) (by have k0_ := ((h16.2.2).mp c17); have k1_ := ((in_c (lo := 0) (hi := 3) h24.2 (by decide) (by decide)).mp c25); have k2_ := (c_le c29); have k3_ := tl_60; have k4_ := (n_le c31); have k5_ := tl_0; exact gRow_3 (by omega)) (by decide) hw0, gRw_n (r := ((-3) : Int32)) (by have k0_ := ((h16.2.2).mp c17); have k1_ := ((in_c (lo := 0) (hi := 3) h24.2 (by decide) (by decide)).mp c25); have k2_ := (c_le c29); have k3_ := tl_60; have k4_ := (n_le c31); have k5_ := tl_0; exact gRow_3 (by omega)) (by decide) hm0⟩⟩⟩
      · skip
        have r36 : rg p3 61 2147483647 := rf_ltr (n_le c29) rl_60 (rg_all _) (by decide)
        refine lv_bipush (v := (-2 : Int32)) hx hb dX10_row_30 (by decide) ?_
        exact g_iret C hr hH (Nat.zero_le _) (Nat.zero_le _) dX10_row_32 ⟨rfl, hI, ⟨(rg_w rl_m2 (by decide)), ⟨(by have k0_ := ((h16.2.2).mp c17); have k1_ := ((in_c (lo := 0) (hi := 3) h24.2 (by decide) (by decide)).mp c25); have k2_ := (n_le c29); have k3_ := tl_60; exact gRow_2 (by omega)), gRw_n (r := ((-2) : Int32)) (by have k0_ := ((h16.2.2).mp c17); have k1_ := ((in_c (lo := 0) (hi := 3) h24.2 (by decide) (by decide)).mp c25); have k2_ := (n_le c29); have k3_ := tl_60; exact gRow_2 (by omega)) (by decide) hw0, gRw_n (r := ((-2) : Int32)) (by have k0_ := ((h16.2.2).mp c17); have k1_ := ((in_c (lo := 0) (hi := 3) h24.2 (by decide) (by decide)).mp c25); have k2_ := (n_le c29); have k3_ := tl_60; exact gRow_2 (by omega)) (by decide) hm0⟩⟩⟩
set_option maxHeartbeats 4000000 in
set_option maxRecDepth 100000 in
theorem t_writeY (l : Launch) (E : gE) (J : Nat → Nat) (τ : Nat → Nat) (L : List Nat) (f : gF) (hI : tI E L τ f) {q : Nat} (mq : q ∈ L) (tq : τ q = 40) (p1 : Int32) (p2 : Int32) (p3 : Int64) {vw vm : Nat → Int32} (hw0 : isA E L τ f 41 4 vw) (hm0 : isA E L τ f 42 4 vm) : tMi l E J yX10_write cX10_write 5 .int (gRm (3) 0 0) [.ref q, .int p1, .int p2, .long p3] L f (tPi E L τ [40, 43] f (fun r f1 => rg r (-7) 0 ∧ (r = gWr p1 p2 (vw p1.toNatClampNeg) (vm p1.toNatClampNeg)))) := by
  refine tMi.intro (by decide) (Nat.le_of_ble_eq_true rfl) ?_
  intro p e s m below meth c A ls C hr hA hO hH hl
  have C : gC E cX10_write 5 RX10 p s m _ meth c := C
  have hl : lv_has ls 5 [(0, .ref q), (1, .int p1), (2, .int p2), (3, .long p3)] := hl
  have hx := C.1
  have hb := C.2.1
  have hI := hI.S [40, 43]
  obtain ⟨q_1, mq_1, tq_1, kq_1⟩ := t_fldr hI.1 mq tq td_40 (k := 1) rfl
  obtain ⟨q_2, mq_2, tq_2, kq_2⟩ := t_fldr hI.1 mq tq td_40 (k := 2) rfl
  obtain ⟨q_3, mq_3, tq_3, kq_3⟩ := t_fldr hI.1 mq tq td_40 (k := 3) rfl
  refine lv_aload_n hx hb dX10_write_0 rfl (lv_at hl 0 rfl) ?_
  refine lv_iconst (v := (0 : Int32)) hx hb dX10_write_1 (by decide) ?_
  refine t_put C hH hI mq tq (by decide) td_40 iX10 tyX10 tyX10_ok nmX10 rfl 0 (by decide) wd855 rfl rfl (v := .int (0 : Int32)) rfl rfl rfl ⟨_, rfl, (rg_w rl_0 (by decide))⟩ (fun _ h => nomatch h) dX10_write_2 (fun f1 H locs hH hI nf1 of1 bf1 => ?_)
  refine lv_iload_n hx hb dX10_write_5 rfl (lv_at hl 1 rfl) ?_
  refine t_Si C hO hl.1 hA hH (As := [.int p1]) (rest := []) (t_isSlotY l E J τ L f1 hI.1 p1) my_X10_isSlot wd993 rfl rfl (Nat.le_of_ble_eq_true rfl) ⟨Nat.le_of_ble_eq_true rfl, Nat.le_of_ble_eq_true rfl⟩ ⟨rfl, rfl⟩ dX10_write_6 (fun r3 L1 f2 H locs hp hH => ?_)
  obtain ⟨rfl, s4, h5⟩ := hp
  have hJ := hI
  have hI := hI.call s4 (by decide)
  refine lv_if_ne (tgt := 15) hx hb dX10_write_9 (by decide) (fun c6 => ?_) (fun c6 => ?_)
  · skip
    have r7 : rg r3 1 1 := rf_nel (n_eq c6) h5.1 rl_0 (by decide)
    have r8 : rg p1 0 3 := h5.2.1 c6
    refine lv_aload_n hx hb dX10_write_15 rfl (lv_at hl 0 rfl) ?_
    refine t_getX C hH hI.1 mq tq td_40 iX10 rfl 1 (by decide) wd994 rfl (hI.rf kq_1) dX10_write_16 ?_
    refine lv_iload_n hx hb dX10_write_19 rfl (lv_at hl 1 rfl) ?_
    refine t_ald C hH hI.1 mq_1 tq_1 td_41 (rg_in r8 (by decide)) dX10_write_20 (fun z9v az9 pz9 => ?_)
    refine lv_topi (fun z9 ez9 => ?_)
    rw [arr_inj az9 ((hI.fr q_1 mq_1 (t_lim tq_1 rfl)).trans (hw0 q_1 mq_1 tq_1))] at ez9
    refine lv_iconst (v := (-1 : Int32)) hx hb dX10_write_21 (by decide) ?_
    refine lv_icmp_ne (tgt := 28) hx hb dX10_write_22 (by decide) (fun c10 => ?_) (fun c10 => ?_)
    · skip
      refine lv_iload_n hx hb dX10_write_28 rfl (lv_at hl 2 rfl) ?_
      refine lv_i2l (v := (p2).toInt64) hx hb dX10_write_29 rfl ?_
      refine lv_lconst (v := (0 : Int64)) hx hb dX10_write_30 (by decide) ?_
      refine lv_aload_n hx hb dX10_write_31 rfl (lv_at hl 0 rfl) ?_
      refine t_getX C hH hI.1 mq tq td_40 iX10 rfl 2 (by decide) wd988 rfl (hI.rf kq_2) dX10_write_32 ?_
      refine lv_iload_n hx hb dX10_write_35 rfl (lv_at hl 1 rfl) ?_
      refine t_ald C hH hI.1 mq_2 tq_2 td_42 (rg_in r8 (by decide)) dX10_write_36 (fun z11v az11 pz11 => ?_)
      refine lv_topi (fun z11 ez11 => ?_)
      have r12 : rg z11 0 60 := many_rg pz11 (rg_in r8 (by decide)) ez11
      rw [arr_inj az11 ((hI.fr q_2 mq_2 (t_lim tq_2 rfl)).trans (hm0 q_2 mq_2 tq_2))] at ez11
      refine lv_iconst (v := (1 : Int32)) hx hb dX10_write_37 (by decide) ?_
      refine lv_isub hx hb dX10_write_38 ?_
      refine lv_topi (fun z13 ez13 => ?_)
      have r14 : rg z13 (-1) 59 := rg_sub ez13 r12 rl_1 (by decide)
      refine lv_i2l (v := (z13).toInt64) hx hb dX10_write_39 rfl ?_
      refine t_Si C hO hl.1 hA hH (As := [.long (p2).toInt64, .long (0 : Int64), .long (z13).toInt64]) (rest := []) (t_inX l E J τ L f2 hI.1 ((p2).toInt64) ((0 : Int64)) ((z13).toInt64)) my_X10_in wd744 rfl rfl (Nat.le_of_ble_eq_true rfl) ⟨Nat.le_of_ble_eq_true rfl, Nat.le_of_ble_eq_true rfl⟩ ⟨rfl, rfl⟩ dX10_write_40 (fun r16 L1 f15 H locs hp hH => ?_)
      obtain ⟨rfl, s17, h18⟩ := hp
      have hJ := hI
      have hI := hI.call s17 (by decide)
      refine lv_if_ne (tgt := 49) hx hb dX10_write_43 (by decide) (fun c19 => ?_) (fun c19 => ?_)
      · skip
        have r20 : rg r16 1 1 := rf_nel (n_eq c19) h18.1 rl_0 (by decide)
        have r21 : rg p2 0 59 := in_rgy (la := 0) (h18.2.1 c19) (rg_all _) r14 (by decide) (by decide)
        refine lv_aload_n hx hb dX10_write_49 rfl (lv_at hl 0 rfl) ?_
        refine t_getX C hH hI.1 mq tq td_40 iX10 rfl 3 (by decide) wd989 rfl (hI.rf kq_3) dX10_write_50 ?_
        refine lv_bipush (v := (60 : Int32)) hx hb dX10_write_53 (by decide) ?_
        refine lv_iload_n hx hb dX10_write_55 rfl (lv_at hl 1 rfl) ?_
        refine lv_imul hx hb dX10_write_56 ?_
        refine lv_topi (fun z22 ez22 => ?_)
        have r23 : rg z22 0 180 := rg_mul ez22 rl_60 r8 (by decide)
        refine lv_iload_n hx hb dX10_write_57 rfl (lv_at hl 2 rfl) ?_
        refine lv_iadd hx hb dX10_write_58 ?_
        refine lv_topi (fun z24 ez24 => ?_)
        have r25 : rg z24 0 239 := rg_add ez24 r23 r21 (by decide)
        refine lv_lload_n hx hb dX10_write_59 rfl (lv_at hl 3 rfl) ?_
        refine lv_aload_n hx hb dX10_write_60 rfl (lv_at hl 0 rfl) ?_
        refine t_getX C hH hI.1 mq tq td_40 iX10 rfl 1 (by decide) wd994 rfl (hI.rf kq_1) dX10_write_61 ?_
        refine lv_iload_n hx hb dX10_write_64 rfl (lv_at hl 1 rfl) ?_
        refine t_ald C hH hI.1 mq_1 tq_1 td_41 (rg_in r8 (by decide)) dX10_write_65 (fun z26v az26 pz26 => ?_)
        refine lv_topi (fun z26 ez26 => ?_)
        rw [arr_inj az26 ((hI.fr q_1 mq_1 (t_lim tq_1 rfl)).trans (hw0 q_1 mq_1 tq_1))] at ez26
        refine t_Sl C hO hl.1 hA hH (As := [.long p3, .int z26]) (rest := [.int z24, .ref q_3]) (t_X10_cut l E J τ L f15 hI.1 p3 z26) my_X10_cut wd1044 rfl rfl (Nat.le_of_ble_eq_true rfl) ⟨Nat.le_of_ble_eq_true rfl, Nat.le_of_ble_eq_true rfl⟩ ⟨rfl, rfl⟩ dX10_write_66 (fun r28 L1 f27 H locs hp hH => ?_)
        obtain ⟨rfl, s29, h30⟩ := hp
        have hI := hI.call s29 (by decide)
        refine t_last C hH hI mq_3 tq_3 (by decide) td_43 (rg_in r25 (by decide)) dX10_write_69 (fun f31 H locs hH hI bf31 => ?_)
        refine lv_iconst (v := (0 : Int32)) hx hb dX10_write_70 (by decide) ?_
        exact g_iret C hr hH (Nat.zero_le _) (Nat.zero_le _) dX10_write_71 ⟨rfl, hI, ⟨(rg_w rl_0 (by decide)), (by have k0_ := ((h5.2.2).mp c6); have k1_ := (congrArg Int32.toInt ez9); have k2_ := (n_eq c10); have k3_ := tl_m1; have k4_ := (congrArg Int32.toInt ez11); have k5_ := (sub_x ez13 r12 rl_1 (by decide)); have k6_ := tl_1; have k7_ := ((in_v (lo := 0) h18.2 (by decide)).mp c19); have k8_ := (congrArg Int32.toInt ez26); exact gWr_0 (by omega))⟩⟩
      · skip
        have r32 : rg r16 0 0 := rf_eql (c_eq c19) h18.1 rl_0 (by decide)
        refine lv_bipush (v := (-7 : Int32)) hx hb dX10_write_46 (by decide) ?_
        exact g_iret C hr hH (Nat.zero_le _) (Nat.zero_le _) dX10_write_48 ⟨rfl, hI, ⟨(rg_w rl_m7 (by decide)), (by have k0_ := ((h5.2.2).mp c6); have k1_ := (congrArg Int32.toInt ez9); have k2_ := (n_eq c10); have k3_ := tl_m1; have k4_ := (congrArg Int32.toInt ez11); have k5_ := (sub_x ez13 r12 rl_1 (by decide)); have k6_ := tl_1; have k7_ := (mt (in_v (lo := 0) h18.2 (by decide)).mpr (fun n_ => n_ c19)); exact gWr_7 (by omega))⟩⟩
    · skip
      have r33 : rg z9 (-1) (-1) := rf_eql (c_eq c10) (rg_all _) rl_m1 (by decide)
      refine lv_bipush (v := (-6 : Int32)) hx hb dX10_write_25 (by decide) ?_
      exact g_iret C hr hH (Nat.zero_le _) (Nat.zero_le _) dX10_write_27 ⟨rfl, hI, ⟨(rg_w rl_m6 (by decide)), (by have k0_ := ((h5.2.2).mp c6); have k1_ := (congrArg Int32.toInt ez9); have k2_ := (c_eq c10); have k3_ := tl_m1; exact gWr_6 (by omega))⟩⟩
  · skip
    have r34 : rg r3 0 0 := rf_eql (c_eq c6) h5.1 rl_0 (by decide)
    refine lv_bipush (v := (-2 : Int32)) hx hb dX10_write_12 (by decide) ?_
    exact g_iret C hr hH (Nat.zero_le _) (Nat.zero_le _) dX10_write_14 ⟨rfl, hI, ⟨(rg_w rl_m2 (by decide)), (by have k0_ := (mt (h5.2.2).mpr (fun n_ => n_ c6)); exact gWr_2 (by omega))⟩⟩
set_option maxHeartbeats 4000000 in
set_option maxRecDepth 100000 in
theorem t_pasteY (l : Launch) (E : gE) (J : Nat → Nat) (τ : Nat → Nat) (L : List Nat) (f : gF) (hI : tI E L τ f) {q : Nat} (mq : q ∈ L) (tq : τ q = 40) (p1 : Int32) (p2 : Int32) (p3 : Int32) (p4 : Int32) (p5 : Int32) {vw vm : Nat → Int32} (hw0 : isA E L τ f 41 4 vw) (hm0 : isA E L τ f 42 4 vm) : tMi l E J yX10_paste cX10_paste 7 .int (gRm (3) 0 0) [.ref q, .int p1, .int p2, .int p3, .int p4, .int p5] L f (tPi E L τ [40, 43, 44] f (fun r f1 => rg r (-8) 0 ∧ (r = gPs p1 p2 p3 p4 p5 (vw p1.toNatClampNeg) (vm p1.toNatClampNeg) (vw p3.toNatClampNeg) (vm p3.toNatClampNeg)))) := by
  refine tMi.intro (by decide) (Nat.le_of_ble_eq_true rfl) ?_
  intro p e s m below meth c A ls C hr hA hO hH hl
  have C : gC E cX10_paste 7 RX10 p s m _ meth c := C
  have hl : lv_has ls 7 [(0, .ref q), (1, .int p1), (2, .int p2), (3, .int p3), (4, .int p4), (5, .int p5)] := hl
  have hx := C.1
  have hb := C.2.1
  have hI := hI.S [40, 43, 44]
  obtain ⟨q_1, mq_1, tq_1, kq_1⟩ := t_fldr hI.1 mq tq td_40 (k := 1) rfl
  obtain ⟨q_2, mq_2, tq_2, kq_2⟩ := t_fldr hI.1 mq tq td_40 (k := 2) rfl
  obtain ⟨q_4, mq_4, tq_4, kq_4⟩ := t_fldr hI.1 mq tq td_40 (k := 4) rfl
  obtain ⟨q_3, mq_3, tq_3, kq_3⟩ := t_fldr hI.1 mq tq td_40 (k := 3) rfl
  have cut118 : ∀ (n : Nat) (fh118 : gF) (H : Heap) (locs : List Loc) (ls : Array Slot) (v118_6 : Int32), 60 - v118_6.toInt < (n : Int) → tS E L τ [40, 43, 44] f fh118 → gH E A L fh118 s.heap H locs → rg v118_6 0 60 → rg p1 0 3 → rg p2 0 2147483647 → rg p3 0 3 → rg p4 0 2147483647 → rg p5 0 60 → 0 = gPs p1 p2 p3 p4 p5 (vw p1.toNatClampNeg) (vm p1.toNatClampNeg) (vw p3.toNatClampNeg) (vm p3.toNatClampNeg) → p2.toInt + p5.toInt ≤ 60 → p4.toInt + p5.toInt ≤ 60 → lv_has ls 7 [(0, .ref q), (1, .int p1), (2, .int p2), (3, .int p3), (4, .int p4), (5, .int p5), (6, .int v118_6)] → W p l e (gRm (3) 0 0) s m [.ref q, .int p1, .int p2, .int p3, .int p4, .int p5].toArray below meth c H locs 0 0 (MQ below (gQi E A (tPi E L τ [40, 43, 44] f (fun r f1 => rg r (-8) 0 ∧ (r = gPs p1 p2 p3 p4 p5 (vw p1.toNatClampNeg) (vm p1.toNatClampNeg) (vw p3.toNatClampNeg) (vm p3.toNatClampNeg))))) [.ref q, .int p1, .int p2, .int p3, .int p4, .int p5].toArray s (gRm (3) 0 0).cells (gRm (3) 0 0).slots A) (F0 m 118 ls []) := by
    intro n
    induction n with
    | zero =>
      intro fh118 H locs ls v118_6 hfu118 hI hH r_v118_6 r118_p1 r118_p2 r118_p3 r118_p4 r118_p5 F118_ok F118_p2 F118_p4 hl
      exact (fu_0 hfu118 r_v118_6).elim
    | succ n ih118 =>
      intro fh118 H locs ls v118_6 hfu118 hI hH r_v118_6 r118_p1 r118_p2 r118_p3 r118_p4 r118_p5 F118_ok F118_p2 F118_p4 hl
      have cut155 : ∀ (n : Nat) (fh155 : gF) (H : Heap) (locs : List Loc) (ls : Array Slot) (v155_6 : Int32), 60 - v155_6.toInt < (n : Int) → tS E L τ [40, 43, 44] f fh155 → gH E A L fh155 s.heap H locs → rg v155_6 0 60 → lv_has ls 7 [(0, .ref q), (1, .int p1), (2, .int p2), (3, .int p3), (4, .int p4), (5, .int p5), (6, .int v155_6)] → W p l e (gRm (3) 0 0) s m [.ref q, .int p1, .int p2, .int p3, .int p4, .int p5].toArray below meth c H locs 0 0 (MQ below (gQi E A (tPi E L τ [40, 43, 44] f (fun r f1 => rg r (-8) 0 ∧ (r = gPs p1 p2 p3 p4 p5 (vw p1.toNatClampNeg) (vm p1.toNatClampNeg) (vw p3.toNatClampNeg) (vm p3.toNatClampNeg))))) [.ref q, .int p1, .int p2, .int p3, .int p4, .int p5].toArray s (gRm (3) 0 0).cells (gRm (3) 0 0).slots A) (F0 m 155 ls []) := by
        intro n
        induction n with
        | zero =>
          intro fh155 H locs ls v155_6 hfu155 hI hH r_v155_6 hl
          exact (fu_0 hfu155 r_v155_6).elim
        | succ n ih155 =>
          intro fh155 H locs ls v155_6 hfu155 hI hH r_v155_6 hl
          refine lv_iload hx hb dX10_paste_155 (lv_at hl 6 rfl) ?_
          refine lv_iload hx hb dX10_paste_157 (lv_at hl 5 rfl) ?_
          refine lv_icmp_ge (tgt := 190) hx hb dX10_paste_159 (by decide) (fun c1 => ?_) (fun c1 => ?_)
          · skip
            refine lv_iconst (v := (0 : Int32)) hx hb dX10_paste_190 (by decide) ?_
            exact g_iret C hr hH (Nat.zero_le _) (Nat.zero_le _) dX10_paste_191 ⟨rfl, hI, ⟨(rg_w rl_0 (by decide)), F118_ok⟩⟩
          · skip
            have r2 : rg v155_6 0 59 := rf_ltl (n_le c1) r_v155_6 r118_p5 (by decide)
            have r3 : rg p5 1 60 := rf_ltr (n_le c1) r_v155_6 r118_p5 (by decide)
            refine lv_aload_n hx hb dX10_paste_162 rfl (lv_at hl 0 rfl) ?_
            refine t_getX C hH hI.1 mq tq td_40 iX10 rfl 3 (by decide) wd989 rfl (hI.rf kq_3) dX10_paste_163 ?_
            refine lv_bipush (v := (60 : Int32)) hx hb dX10_paste_166 (by decide) ?_
            refine lv_iload_n hx hb dX10_paste_168 rfl (lv_at hl 3 rfl) ?_
            refine lv_imul hx hb dX10_paste_169 ?_
            refine lv_topi (fun z4 ez4 => ?_)
            have r5 : rg z4 0 180 := rg_mul ez4 rl_60 r118_p3 (by decide)
            refine lv_iload hx hb dX10_paste_170 (lv_at hl 4 rfl) ?_
            refine lv_iadd hx hb dX10_paste_172 ?_
            refine lv_topi (fun z6 ez6 => ?_)
            refine lv_iload hx hb dX10_paste_173 (lv_at hl 6 rfl) ?_
            refine lv_iadd hx hb dX10_paste_175 ?_
            refine lv_topi (fun z7 ez7 => ?_)
            refine lv_aload_n hx hb dX10_paste_176 rfl (lv_at hl 0 rfl) ?_
            refine t_getX C hH hI.1 mq tq td_40 iX10 rfl 4 (by decide) wd1045 rfl (hI.rf kq_4) dX10_paste_177 ?_
            refine lv_iload hx hb dX10_paste_180 (lv_at hl 6 rfl) ?_
            refine t_lald C hH hI.1 mq_4 tq_4 td_44 (rg_in r2 (by decide)) dX10_paste_182 (fun z8v az8 => ?_)
            refine lv_topl (fun z8 ez8 => ?_)
            refine t_last C hH hI mq_3 tq_3 (by decide) td_43 (pst_in r118_p3 r118_p4 F118_p4 (rg_w r2 (by decide)) (n_le c1) ez4 ez6 ez7) dX10_paste_183 (fun f9 H locs hH hI bf9 => ?_)
            obtain ⟨z10, ez10⟩ : ∃ y : Int32, y = v155_6 + (1 : Int32) := ⟨_, rfl⟩
            have r11 : rg z10 1 60 := rg_add ez10 r2 rl_1 (by decide)
            have a12 : z10.toInt = v155_6.toInt + 1 := ai_add ez10 r2 tl_1 (by decide)
            refine lv_iinc (v := z10) (lv' := [(6, .int z10), (0, .ref q), (1, .int p1), (2, .int p2), (3, .int p3), (4, .int p4), (5, .int p5)]) hx hb dX10_paste_184 hl (k := 6) rfl (by rw [ez10]; rfl) (by decide) rfl (fun ls hl => ?_)
            refine lv_goto (tgt := 155) hx hb dX10_paste_187 (by decide) ?_
            exact ih155 _ _ _ _ z10 (fu_s hfu155 a12 (by decide)) hI hH (rg_w r11 (by decide)) (lv_sub hl [1, 2, 3, 4, 5, 6, 0] rfl)
      refine lv_iload hx hb dX10_paste_118 (lv_at hl 6 rfl) ?_
      refine lv_iload hx hb dX10_paste_120 (lv_at hl 5 rfl) ?_
      refine lv_icmp_ge (tgt := 152) hx hb dX10_paste_122 (by decide) (fun c13 => ?_) (fun c13 => ?_)
      · skip
        refine lv_iconst (v := (0 : Int32)) hx hb dX10_paste_152 (by decide) ?_
        refine lv_istore (lv' := [(6, .int (0 : Int32)), (0, .ref q), (1, .int p1), (2, .int p2), (3, .int p3), (4, .int p4), (5, .int p5)]) hx hb dX10_paste_153 hl (by decide) rfl (fun ls hl => ?_)
        exact cut155 61 _ _ _ _ (0 : Int32) (fu_i 61 rl_0 (by decide)) hI hH (rg_w rl_0 (by decide)) (lv_sub hl [1, 2, 3, 4, 5, 6, 0] rfl)
      · skip
        have r14 : rg v118_6 0 59 := rf_ltl (n_le c13) r_v118_6 r118_p5 (by decide)
        have r15 : rg p5 1 60 := rf_ltr (n_le c13) r_v118_6 r118_p5 (by decide)
        refine lv_aload_n hx hb dX10_paste_125 rfl (lv_at hl 0 rfl) ?_
        refine t_getX C hH hI.1 mq tq td_40 iX10 rfl 4 (by decide) wd1045 rfl (hI.rf kq_4) dX10_paste_126 ?_
        refine lv_iload hx hb dX10_paste_129 (lv_at hl 6 rfl) ?_
        refine lv_aload_n hx hb dX10_paste_131 rfl (lv_at hl 0 rfl) ?_
        refine t_getX C hH hI.1 mq tq td_40 iX10 rfl 3 (by decide) wd989 rfl (hI.rf kq_3) dX10_paste_132 ?_
        refine lv_bipush (v := (60 : Int32)) hx hb dX10_paste_135 (by decide) ?_
        refine lv_iload_n hx hb dX10_paste_137 rfl (lv_at hl 1 rfl) ?_
        refine lv_imul hx hb dX10_paste_138 ?_
        refine lv_topi (fun z16 ez16 => ?_)
        have r17 : rg z16 0 180 := rg_mul ez16 rl_60 r118_p1 (by decide)
        refine lv_iload_n hx hb dX10_paste_139 rfl (lv_at hl 2 rfl) ?_
        refine lv_iadd hx hb dX10_paste_140 ?_
        refine lv_topi (fun z18 ez18 => ?_)
        refine lv_iload hx hb dX10_paste_141 (lv_at hl 6 rfl) ?_
        refine lv_iadd hx hb dX10_paste_143 ?_
        refine lv_topi (fun z19 ez19 => ?_)
        refine t_lald C hH hI.1 mq_3 tq_3 td_43 (pst_in r118_p1 r118_p2 F118_p2 (rg_w r14 (by decide)) (n_le c13) ez16 ez18 ez19) dX10_paste_144 (fun z20v az20 => ?_)
        refine lv_topl (fun z20 ez20 => ?_)
        refine t_last C hH hI mq_4 tq_4 (by decide) td_44 (rg_in r14 (by decide)) dX10_paste_145 (fun f21 H locs hH hI bf21 => ?_)
        obtain ⟨z22, ez22⟩ : ∃ y : Int32, y = v118_6 + (1 : Int32) := ⟨_, rfl⟩
        have r23 : rg z22 1 60 := rg_add ez22 r14 rl_1 (by decide)
        have a24 : z22.toInt = v118_6.toInt + 1 := ai_add ez22 r14 tl_1 (by decide)
        refine lv_iinc (v := z22) (lv' := [(6, .int z22), (0, .ref q), (1, .int p1), (2, .int p2), (3, .int p3), (4, .int p4), (5, .int p5)]) hx hb dX10_paste_146 hl (k := 6) rfl (by rw [ez22]; rfl) (by decide) rfl (fun ls hl => ?_)
        refine lv_goto (tgt := 118) hx hb dX10_paste_149 (by decide) ?_
        exact ih118 _ _ _ _ z22 (fu_s hfu118 a24 (by decide)) hI hH (rg_w r23 (by decide)) r118_p1 r118_p2 r118_p3 r118_p4 (rg_w r15 (by decide)) F118_ok F118_p2 F118_p4 (lv_sub hl [1, 2, 3, 4, 5, 6, 0] rfl)
  refine lv_aload_n hx hb dX10_paste_0 rfl (lv_at hl 0 rfl) ?_
  refine lv_iconst (v := (0 : Int32)) hx hb dX10_paste_1 (by decide) ?_
  refine t_put C hH hI mq tq (by decide) td_40 iX10 tyX10 tyX10_ok nmX10 rfl 0 (by decide) wd855 rfl rfl (v := .int (0 : Int32)) rfl rfl rfl ⟨_, rfl, (rg_w rl_0 (by decide))⟩ (fun _ h => nomatch h) dX10_paste_2 (fun f25 H locs hH hI nf25 of25 bf25 => ?_)
  refine lv_iload_n hx hb dX10_paste_5 rfl (lv_at hl 1 rfl) ?_
  refine t_Si C hO hl.1 hA hH (As := [.int p1]) (rest := []) (t_isSlotY l E J τ L f25 hI.1 p1) my_X10_isSlot wd993 rfl rfl (Nat.le_of_ble_eq_true rfl) ⟨Nat.le_of_ble_eq_true rfl, Nat.le_of_ble_eq_true rfl⟩ ⟨rfl, rfl⟩ dX10_paste_6 (fun r27 L1 f26 H locs hp hH => ?_)
  obtain ⟨rfl, s28, h29⟩ := hp
  have hJ := hI
  have hI := hI.call s28 (by decide)
  refine lv_if_eq (tgt := 19) hx hb dX10_paste_9 (by decide) (fun c30 => ?_) (fun c30 => ?_)
  · skip
    have r31 : rg r27 0 0 := rf_eql (c_eq c30) h29.1 rl_0 (by decide)
    refine lv_bipush (v := (-2 : Int32)) hx hb dX10_paste_19 (by decide) ?_
    exact g_iret C hr hH (Nat.zero_le _) (Nat.zero_le _) dX10_paste_21 ⟨rfl, hI, ⟨(rg_w rl_m2 (by decide)), (by have k0_ := (mt (h29.2.2).mpr (fun n_ => n_ c30)); exact gPs_2 (by omega))⟩⟩
  · skip
    have r32 : rg r27 1 1 := rf_nel (n_eq c30) h29.1 rl_0 (by decide)
    have r33 : rg p1 0 3 := h29.2.1 c30
    refine lv_iload_n hx hb dX10_paste_12 rfl (lv_at hl 3 rfl) ?_
    refine t_Si C hO hl.1 hA hH (As := [.int p3]) (rest := []) (t_isSlotY l E J τ L f26 hI.1 p3) my_X10_isSlot wd993 rfl rfl (Nat.le_of_ble_eq_true rfl) ⟨Nat.le_of_ble_eq_true rfl, Nat.le_of_ble_eq_true rfl⟩ ⟨rfl, rfl⟩ dX10_paste_13 (fun r35 L1 f34 H locs hp hH => ?_)
    obtain ⟨rfl, s36, h37⟩ := hp
    have hJ := hI
    have hI := hI.call s36 (by decide)
    refine lv_if_ne (tgt := 22) hx hb dX10_paste_16 (by decide) (fun c38 => ?_) (fun c38 => ?_)
    · skip
      have r39 : rg r35 1 1 := rf_nel (n_eq c38) h37.1 rl_0 (by decide)
      have r40 : rg p3 0 3 := h37.2.1 c38
      refine lv_aload_n hx hb dX10_paste_22 rfl (lv_at hl 0 rfl) ?_
      refine t_getX C hH hI.1 mq tq td_40 iX10 rfl 1 (by decide) wd994 rfl (hI.rf kq_1) dX10_paste_23 ?_
      refine lv_iload_n hx hb dX10_paste_26 rfl (lv_at hl 1 rfl) ?_
      refine t_ald C hH hI.1 mq_1 tq_1 td_41 (rg_in r33 (by decide)) dX10_paste_27 (fun z41v az41 pz41 => ?_)
      refine lv_topi (fun z41 ez41 => ?_)
      rw [arr_inj az41 ((hI.fr q_1 mq_1 (t_lim tq_1 rfl)).trans (hw0 q_1 mq_1 tq_1))] at ez41
      refine lv_iconst (v := (-1 : Int32)) hx hb dX10_paste_28 (by decide) ?_
      refine lv_icmp_eq (tgt := 42) hx hb dX10_paste_29 (by decide) (fun c42 => ?_) (fun c42 => ?_)
      · skip
        have r43 : rg z41 (-1) (-1) := rf_eql (c_eq c42) (rg_all _) rl_m1 (by decide)
        refine lv_bipush (v := (-6 : Int32)) hx hb dX10_paste_42 (by decide) ?_
        exact g_iret C hr hH (Nat.zero_le _) (Nat.zero_le _) dX10_paste_44 ⟨rfl, hI, ⟨(rg_w rl_m6 (by decide)), (by have k0_ := ((h29.2.2).mp c30); have k1_ := ((h37.2.2).mp c38); have k2_ := (congrArg Int32.toInt ez41); have k3_ := (c_eq c42); have k4_ := tl_m1; exact gPs_6 (by omega))⟩⟩
      · skip
        refine lv_aload_n hx hb dX10_paste_32 rfl (lv_at hl 0 rfl) ?_
        refine t_getX C hH hI.1 mq tq td_40 iX10 rfl 1 (by decide) wd994 rfl (hI.rf kq_1) dX10_paste_33 ?_
        refine lv_iload_n hx hb dX10_paste_36 rfl (lv_at hl 3 rfl) ?_
        refine t_ald C hH hI.1 mq_1 tq_1 td_41 (rg_in r40 (by decide)) dX10_paste_37 (fun z44v az44 pz44 => ?_)
        refine lv_topi (fun z44 ez44 => ?_)
        rw [arr_inj az44 ((hI.fr q_1 mq_1 (t_lim tq_1 rfl)).trans (hw0 q_1 mq_1 tq_1))] at ez44
        refine lv_iconst (v := (-1 : Int32)) hx hb dX10_paste_38 (by decide) ?_
        refine lv_icmp_ne (tgt := 45) hx hb dX10_paste_39 (by decide) (fun c45 => ?_) (fun c45 => ?_)
        · skip
          refine lv_aload_n hx hb dX10_paste_45 rfl (lv_at hl 0 rfl) ?_
          refine t_getX C hH hI.1 mq tq td_40 iX10 rfl 1 (by decide) wd994 rfl (hI.rf kq_1) dX10_paste_46 ?_
          refine lv_iload_n hx hb dX10_paste_49 rfl (lv_at hl 1 rfl) ?_
          refine t_ald C hH hI.1 mq_1 tq_1 td_41 (rg_in r33 (by decide)) dX10_paste_50 (fun z46v az46 pz46 => ?_)
          refine lv_topi (fun z46 ez46 => ?_)
          rw [arr_inj az46 ((hI.fr q_1 mq_1 (t_lim tq_1 rfl)).trans (hw0 q_1 mq_1 tq_1))] at ez46
          refine lv_aload_n hx hb dX10_paste_51 rfl (lv_at hl 0 rfl) ?_
          refine t_getX C hH hI.1 mq tq td_40 iX10 rfl 1 (by decide) wd994 rfl (hI.rf kq_1) dX10_paste_52 ?_
          refine lv_iload_n hx hb dX10_paste_55 rfl (lv_at hl 3 rfl) ?_
          refine t_ald C hH hI.1 mq_1 tq_1 td_41 (rg_in r40 (by decide)) dX10_paste_56 (fun z47v az47 pz47 => ?_)
          refine lv_topi (fun z47 ez47 => ?_)
          rw [arr_inj az47 ((hI.fr q_1 mq_1 (t_lim tq_1 rfl)).trans (hw0 q_1 mq_1 tq_1))] at ez47
          refine lv_icmp_eq (tgt := 63) hx hb dX10_paste_57 (by decide) (fun c48 => ?_) (fun c48 => ?_)
          · skip
            refine lv_iload_n hx hb dX10_paste_63 rfl (lv_at hl 2 rfl) ?_
            refine lv_if_lt (tgt := 112) hx hb dX10_paste_64 (by decide) (fun c49 => ?_) (fun c49 => ?_)
            · skip
              have r50 : rg p2 (-2147483648) (-1) := rf_ltl (c_lt c49) (rg_all _) rl_0 (by decide)
              refine lv_bipush (v := (-7 : Int32)) hx hb dX10_paste_112 (by decide) ?_
              exact g_iret C hr hH (Nat.zero_le _) (Nat.zero_le _) dX10_paste_114 ⟨rfl, hI, ⟨(rg_w rl_m7 (by decide)), (by have k0_ := ((h29.2.2).mp c30); have k1_ := ((h37.2.2).mp c38); have k2_ := (congrArg Int32.toInt ez41); have k3_ := (n_eq c42); have k4_ := tl_m1; have k5_ := (congrArg Int32.toInt ez44); have k6_ := (n_eq c45); have k7_ := (congrArg Int32.toInt ez46); have k8_ := (congrArg Int32.toInt ez47); have k9_ := (c_eq c48); have k10_ := (c_lt c49); have k11_ := tl_0; exact gPs_7 (by omega))⟩⟩
            · skip
              have r51 : rg p2 0 2147483647 := rf_ler (n_lt c49) rl_0 (rg_all _) (by decide)
              refine lv_iload hx hb dX10_paste_67 (lv_at hl 4 rfl) ?_
              refine lv_if_lt (tgt := 112) hx hb dX10_paste_69 (by decide) (fun c52 => ?_) (fun c52 => ?_)
              · skip
                have r53 : rg p4 (-2147483648) (-1) := rf_ltl (c_lt c52) (rg_all _) rl_0 (by decide)
                refine lv_bipush (v := (-7 : Int32)) hx hb dX10_paste_112 (by decide) ?_
                exact g_iret C hr hH (Nat.zero_le _) (Nat.zero_le _) dX10_paste_114 ⟨rfl, hI, ⟨(rg_w rl_m7 (by decide)), (by have k0_ := ((h29.2.2).mp c30); have k1_ := ((h37.2.2).mp c38); have k2_ := (congrArg Int32.toInt ez41); have k3_ := (n_eq c42); have k4_ := tl_m1; have k5_ := (congrArg Int32.toInt ez44); have k6_ := (n_eq c45); have k7_ := (congrArg Int32.toInt ez46); have k8_ := (congrArg Int32.toInt ez47); have k9_ := (c_eq c48); have k10_ := (n_lt c49); have k11_ := tl_0; have k12_ := (c_lt c52); exact gPs_7 (by omega))⟩⟩
              · skip
                have r54 : rg p4 0 2147483647 := rf_ler (n_lt c52) rl_0 (rg_all _) (by decide)
                refine lv_iload hx hb dX10_paste_72 (lv_at hl 5 rfl) ?_
                refine lv_if_lt (tgt := 112) hx hb dX10_paste_74 (by decide) (fun c55 => ?_) (fun c55 => ?_)
                · skip
                  have r56 : rg p5 (-2147483648) (-1) := rf_ltl (c_lt c55) (rg_all _) rl_0 (by decide)
                  refine lv_bipush (v := (-7 : Int32)) hx hb dX10_paste_112 (by decide) ?_
                  exact g_iret C hr hH (Nat.zero_le _) (Nat.zero_le _) dX10_paste_114 ⟨rfl, hI, ⟨(rg_w rl_m7 (by decide)), (by have k0_ := ((h29.2.2).mp c30); have k1_ := ((h37.2.2).mp c38); have k2_ := (congrArg Int32.toInt ez41); have k3_ := (n_eq c42); have k4_ := tl_m1; have k5_ := (congrArg Int32.toInt ez44); have k6_ := (n_eq c45); have k7_ := (congrArg Int32.toInt ez46); have k8_ := (congrArg Int32.toInt ez47); have k9_ := (c_eq c48); have k10_ := (n_lt c49); have k11_ := tl_0; have k12_ := (n_lt c52); have k13_ := (c_lt c55); exact gPs_7 (by omega))⟩⟩
                · skip
                  have r57 : rg p5 0 2147483647 := rf_ler (n_lt c55) rl_0 (rg_all _) (by decide)
                  refine lv_iload_n hx hb dX10_paste_77 rfl (lv_at hl 2 rfl) ?_
                  refine lv_i2l (v := (p2).toInt64) hx hb dX10_paste_78 rfl ?_
                  refine lv_iload hx hb dX10_paste_79 (lv_at hl 5 rfl) ?_
                  refine lv_i2l (v := (p5).toInt64) hx hb dX10_paste_81 rfl ?_
                  refine lv_ladd hx hb dX10_paste_82 ?_
                  refine lv_topl (fun z58 ez58 => ?_)
                  refine lv_aload_n hx hb dX10_paste_83 rfl (lv_at hl 0 rfl) ?_
                  refine t_getX C hH hI.1 mq tq td_40 iX10 rfl 2 (by decide) wd988 rfl (hI.rf kq_2) dX10_paste_84 ?_
                  refine lv_iload_n hx hb dX10_paste_87 rfl (lv_at hl 1 rfl) ?_
                  refine t_ald C hH hI.1 mq_2 tq_2 td_42 (rg_in r33 (by decide)) dX10_paste_88 (fun z59v az59 pz59 => ?_)
                  refine lv_topi (fun z59 ez59 => ?_)
                  have r60 : rg z59 0 60 := many_rg pz59 (rg_in r33 (by decide)) ez59
                  rw [arr_inj az59 ((hI.fr q_2 mq_2 (t_lim tq_2 rfl)).trans (hm0 q_2 mq_2 tq_2))] at ez59
                  refine lv_i2l (v := (z59).toInt64) hx hb dX10_paste_89 rfl ?_
                  refine W.lcmp hx hb dX10_paste_90 ?_
                  refine lv_topi (fun z61 ez61 => ?_)
                  refine lv_if_gt (tgt := 112) hx hb dX10_paste_91 (by decide) (fun c62 => ?_) (fun c62 => ?_)
                  · skip
                    have r63 : rg z61 1 2147483647 := rf_ltr (c_lt c62) rl_0 (rg_all _) (by decide)
                    refine lv_bipush (v := (-7 : Int32)) hx hb dX10_paste_112 (by decide) ?_
                    exact g_iret C hr hH (Nat.zero_le _) (Nat.zero_le _) dX10_paste_114 ⟨rfl, hI, ⟨(rg_w rl_m7 (by decide)), (by have k0_ := ((h29.2.2).mp c30); have k1_ := ((h37.2.2).mp c38); have k2_ := (congrArg Int32.toInt ez41); have k3_ := (n_eq c42); have k4_ := tl_m1; have k5_ := (congrArg Int32.toInt ez44); have k6_ := (n_eq c45); have k7_ := (congrArg Int32.toInt ez46); have k8_ := (congrArg Int32.toInt ez47); have k9_ := (c_eq c48); have k10_ := (n_lt c49); have k11_ := tl_0; have k12_ := (n_lt c52); have k13_ := (n_lt c55); have k14_ := (congrArg Int32.toInt ez59); have k15_ := (c_lt c62); have k16_ := (pst_x ez61 ez58 rfl r51 r57); exact gPs_7 (by omega))⟩⟩
                  · skip
                    have r64 : rg z61 (-2147483648) 0 := rf_lel (n_lt c62) (rg_all _) rl_0 (by decide)
                    have F65 : p2.toInt + p5.toInt ≤ 60 := pst_ok ez61 ez58 rfl (n_lt c62) r51 r57 r60
                    have r66 : rg p5 0 60 := pst_n F65 r51 r57
                    refine lv_iload hx hb dX10_paste_94 (lv_at hl 4 rfl) ?_
                    refine lv_i2l (v := (p4).toInt64) hx hb dX10_paste_96 rfl ?_
                    refine lv_iload hx hb dX10_paste_97 (lv_at hl 5 rfl) ?_
                    refine lv_i2l (v := (p5).toInt64) hx hb dX10_paste_99 rfl ?_
                    refine lv_ladd hx hb dX10_paste_100 ?_
                    refine lv_topl (fun z67 ez67 => ?_)
                    refine lv_aload_n hx hb dX10_paste_101 rfl (lv_at hl 0 rfl) ?_
                    refine t_getX C hH hI.1 mq tq td_40 iX10 rfl 2 (by decide) wd988 rfl (hI.rf kq_2) dX10_paste_102 ?_
                    refine lv_iload_n hx hb dX10_paste_105 rfl (lv_at hl 3 rfl) ?_
                    refine t_ald C hH hI.1 mq_2 tq_2 td_42 (rg_in r40 (by decide)) dX10_paste_106 (fun z68v az68 pz68 => ?_)
                    refine lv_topi (fun z68 ez68 => ?_)
                    have r69 : rg z68 0 60 := many_rg pz68 (rg_in r40 (by decide)) ez68
                    rw [arr_inj az68 ((hI.fr q_2 mq_2 (t_lim tq_2 rfl)).trans (hm0 q_2 mq_2 tq_2))] at ez68
                    refine lv_i2l (v := (z68).toInt64) hx hb dX10_paste_107 rfl ?_
                    refine W.lcmp hx hb dX10_paste_108 ?_
                    refine lv_topi (fun z70 ez70 => ?_)
                    refine lv_if_le (tgt := 115) hx hb dX10_paste_109 (by decide) (fun c71 => ?_) (fun c71 => ?_)
                    · skip
                      have r72 : rg z70 (-2147483648) 0 := rf_lel (c_le c71) (rg_all _) rl_0 (by decide)
                      have F73 : p4.toInt + p5.toInt ≤ 60 := pst_ok ez70 ez67 rfl (c_le c71) r54 (rg_w r66 (by decide)) r69
                      have r74 : rg p5 0 60 := pst_n F73 r54 (rg_w r66 (by decide))
                      refine lv_iconst (v := (0 : Int32)) hx hb dX10_paste_115 (by decide) ?_
                      refine lv_istore (lv' := [(6, .int (0 : Int32)), (0, .ref q), (1, .int p1), (2, .int p2), (3, .int p3), (4, .int p4), (5, .int p5)]) hx hb dX10_paste_116 hl (by decide) rfl (fun ls hl => ?_)
                      exact cut118 61 _ _ _ _ (0 : Int32) (fu_i 61 rl_0 (by decide)) hI hH (rg_w rl_0 (by decide)) r33 r51 r40 r54 r74 (by have k0_ := ((h29.2.2).mp c30); have k1_ := ((h37.2.2).mp c38); have k2_ := (congrArg Int32.toInt ez41); have k3_ := (n_eq c42); have k4_ := tl_m1; have k5_ := (congrArg Int32.toInt ez44); have k6_ := (n_eq c45); have k7_ := (congrArg Int32.toInt ez46); have k8_ := (congrArg Int32.toInt ez47); have k9_ := (c_eq c48); have k10_ := (n_lt c49); have k11_ := tl_0; have k12_ := (n_lt c52); have k13_ := (n_lt c55); have k14_ := (congrArg Int32.toInt ez59); have k15_ := (n_lt c62); have k16_ := (pst_x ez61 ez58 rfl r51 (rg_w r66 (by decide))); have k17_ := (congrArg Int32.toInt ez68); have k18_ := (c_le c71); have k19_ := (pst_x ez70 ez67 rfl r54 (rg_w r74 (by decide))); exact gPs_0 (by omega)) F65 F73 (lv_sub hl [1, 2, 3, 4, 5, 6, 0] rfl)
                    · skip
                      have r75 : rg z70 1 2147483647 := rf_ltr (n_le c71) rl_0 (rg_all _) (by decide)
                      refine lv_bipush (v := (-7 : Int32)) hx hb dX10_paste_112 (by decide) ?_
                      exact g_iret C hr hH (Nat.zero_le _) (Nat.zero_le _) dX10_paste_114 ⟨rfl, hI, ⟨(rg_w rl_m7 (by decide)), (by have k0_ := ((h29.2.2).mp c30); have k1_ := ((h37.2.2).mp c38); have k2_ := (congrArg Int32.toInt ez41); have k3_ := (n_eq c42); have k4_ := tl_m1; have k5_ := (congrArg Int32.toInt ez44); have k6_ := (n_eq c45); have k7_ := (congrArg Int32.toInt ez46); have k8_ := (congrArg Int32.toInt ez47); have k9_ := (c_eq c48); have k10_ := (n_lt c49); have k11_ := tl_0; have k12_ := (n_lt c52); have k13_ := (n_lt c55); have k14_ := (congrArg Int32.toInt ez59); have k15_ := (n_lt c62); have k16_ := (pst_x ez61 ez58 rfl r51 (rg_w r66 (by decide))); have k17_ := (congrArg Int32.toInt ez68); have k18_ := (n_le c71); have k19_ := (pst_x ez70 ez67 rfl r54 (rg_w r66 (by decide))); exact gPs_7 (by omega))⟩⟩
          · skip
            refine lv_bipush (v := (-8 : Int32)) hx hb dX10_paste_60 (by decide) ?_
            exact g_iret C hr hH (Nat.zero_le _) (Nat.zero_le _) dX10_paste_62 ⟨rfl, hI, ⟨(rg_w rl_m8 (by decide)), (by have k0_ := ((h29.2.2).mp c30); have k1_ := ((h37.2.2).mp c38); have k2_ := (congrArg Int32.toInt ez41); have k3_ := (n_eq c42); have k4_ := tl_m1; have k5_ := (congrArg Int32.toInt ez44); have k6_ := (n_eq c45); have k7_ := (congrArg Int32.toInt ez46); have k8_ := (congrArg Int32.toInt ez47); have k9_ := (n_eq c48); exact gPs_8 (by omega))⟩⟩
        · skip
          have r76 : rg z44 (-1) (-1) := rf_eql (c_eq c45) (rg_all _) rl_m1 (by decide)
          refine lv_bipush (v := (-6 : Int32)) hx hb dX10_paste_42 (by decide) ?_
          exact g_iret C hr hH (Nat.zero_le _) (Nat.zero_le _) dX10_paste_44 ⟨rfl, hI, ⟨(rg_w rl_m6 (by decide)), (by have k0_ := ((h29.2.2).mp c30); have k1_ := ((h37.2.2).mp c38); have k2_ := (congrArg Int32.toInt ez41); have k3_ := (n_eq c42); have k4_ := tl_m1; have k5_ := (congrArg Int32.toInt ez44); have k6_ := (c_eq c45); exact gPs_6 (by omega))⟩⟩
    · skip
      have r77 : rg r35 0 0 := rf_eql (c_eq c38) h37.1 rl_0 (by decide)
      refine lv_bipush (v := (-2 : Int32)) hx hb dX10_paste_19 (by decide) ?_
      exact g_iret C hr hH (Nat.zero_le _) (Nat.zero_le _) dX10_paste_21 ⟨rfl, hI, ⟨(rg_w rl_m2 (by decide)), (by have k0_ := ((h29.2.2).mp c30); have k1_ := (mt (h37.2.2).mpr (fun n_ => n_ c38)); exact gPs_2 (by omega))⟩⟩
