/-! the tape read -/
def isBv (tp : Int32) (vt : Nat → Int32) (k lo hi : Int32) : Prop := k.toInt < tp.toInt ∧ lo.toInt ≤ (vt k.toNatClampNeg).toInt ∧ (vt k.toNatClampNeg).toInt ≤ hi.toInt
theorem sp_lt {s t : Int32} {b : Int} (h : s.toInt < t.toInt) (hs : rg s 0 b) (ht : rg t 0 800) : rg s 0 799 := by
  unfold rg at *
  omega
theorem sp_ne {s t : Int32} (h : ¬ s.toInt = t.toInt) (hl : s.toInt ≤ t.toInt) : s.toInt < t.toInt := by omega
theorem sp_rg {s t s1 : Int32} (rs : rg s 0 800) (lo : s.toInt ≤ s1.toInt) (hi : s1.toInt ≤ t.toInt) (rt : rg t 0 800) : rg s1 0 800 := by
  unfold rg at *
  omega
theorem num_in {x a b : Int32} (h : a.toInt64.toInt ≤ x.toInt64.toInt ∧ x.toInt64.toInt ≤ b.toInt64.toInt) : a.toInt ≤ x.toInt ∧ (x = a ∨ x.toInt ≤ b.toInt) := by
  rw [Int32.toInt_toInt64, Int32.toInt_toInt64, Int32.toInt_toInt64] at h
  exact ⟨h.1, Or.inr h.2⟩
theorem num_rg {r a b : Int32} {lo hi la c d : Int} (h : a.toInt ≤ r.toInt ∧ (r = a ∨ r.toInt ≤ b.toInt)) (ha : rg a lo la) (hb : rg b c d) (s : (decide (la ≤ hi) && decide (d ≤ hi)) = true) : rg r lo hi := by
  simp only [Bool.and_eq_true, decide_eq_true_eq] at s
  unfold rg at *
  obtain ⟨h1, h2 | h2⟩ := h
  · rw [h2] at h1 ⊢
    omega
  · omega
theorem sp_0 {t : Int32} (h : rg t 0 800) : (0 : Int32).toInt ≤ t.toInt := by
  rw [show (0 : Int32).toInt = 0 from by decide]
  exact h.1
theorem hasP_up {v : Nat → Int32} {x : Int32} {lo hi : Int} (h : hasP v) {j : Nat} (hj : j < 45) (s : hasR (j % 9) = (lo, hi)) (hx : rg x lo hi) : hasP (upd v j x) := fun i hi2 => by
  by_cases e : i = j
  · rw [e, pk_us, s]
    exact hx
  · rw [pk_un e]
    exact h i hi2
theorem mem_n {m i d : Int32} {n : Int} (h : m.toInt % 3 = 0) (e : i = m + d) (hm : rg m 0 87) (hd : d.toInt = n) (s : (decide (1 ≤ n) && decide (n ≤ 2)) = true) : ¬ i.toNatClampNeg % 3 = 0 := by
  simp only [Bool.and_eq_true, decide_eq_true_eq] at s
  unfold rg at hm
  have h1 : i.toInt = m.toInt + n := by rw [e, Int32.toInt_add, hd, bmI (by omega) (by omega)]
  show ¬ i.toInt.toNat % 3 = 0
  omega
theorem memP_n {v : Nat → Int32} {k : Nat} {x : Int32} (h : memP v) (hk : ¬ k % 3 = 0) (hx : rg x 0 99) : memP (upd v k x) := fun i hi => by
  by_cases e : i = k
  · rw [e, pk_us, if_neg hk]
    exact hx
  · rw [pk_un e]
    exact h i hi
theorem memP_0 {v : Nat → Int32} {k : Nat} {x : Int32} (h : memP v) (hx : rg x 0 19) : memP (upd v k x) := fun i hi => by
  by_cases e : i = k
  · rw [e, pk_us]
    unfold rg at *
    split <;> omega
  · rw [pk_un e]
    exact h i hi
theorem room_5 {vh : Nat → Int32} (h : hasP vh) (hn : ¬ vh 41 = 4) : rg (vh 41) 0 3 := by
  have h1 : rg (vh 41) 0 4 := h 41 (by decide)
  have h2 : ¬ (vh 41).toInt = 4 := fun e => hn (Int32.toInt_inj.mp (e.trans (by decide)))
  unfold rg at *
  omega
theorem room_6 {vh : Nat → Int32} (h : hasP vh) (hn : ¬ vh 42 = 6) : rg (vh 42) 0 5 := by
  have h1 : rg (vh 42) 0 6 := h 42 (by decide)
  have h2 : ¬ (vh 42).toInt = 6 := fun e => hn (Int32.toInt_inj.mp (e.trans (by decide)))
  unfold rg at *
  omega
theorem ll_up {v : Nat → Int32} {a b c d e : Int32} : ∀ i, i ≤ 35 → upd (upd (upd (upd (upd v 36 a) 37 b) 38 c) 39 d) 40 e i = v i := fun i hi => by
  rw [pk_un (by omega), pk_un (by omega), pk_un (by omega), pk_un (by omega), pk_un (by omega)]
theorem ll_36 {v : Nat → Int32} {a b c d e : Int32} (h : rg a 1 5) : 1 ≤ (upd (upd (upd (upd (upd v 36 a) 37 b) 38 c) 39 d) 40 e 36).toInt := by
  rw [pk_un (by omega), pk_un (by omega), pk_un (by omega), pk_un (by omega), pk_us]
  exact h.1
def cl9 (v : Nat → Int32) : Nat → Int32 := upd (upd (upd (upd (upd (upd (upd (upd (upd v 36 0) 37 0) 38 0) 39 0) 40 0) 41 0) 42 0) 43 0) 44 0
theorem cl_up {v : Nat → Int32} : ∀ i, i < 36 → cl9 v i = v i := fun i hi => by
  unfold cl9
  rw [pk_un (by omega), pk_un (by omega), pk_un (by omega), pk_un (by omega), pk_un (by omega), pk_un (by omega), pk_un (by omega), pk_un (by omega), pk_un (by omega)]
theorem cl_41 {v : Nat → Int32} : cl9 v 41 = 0 := by
  unfold cl9
  rw [pk_un (by omega), pk_un (by omega), pk_un (by omega), pk_us]
theorem cl_42 {v : Nat → Int32} : cl9 v 42 = 0 := by
  unfold cl9
  rw [pk_un (by omega), pk_un (by omega), pk_us]
theorem rowsR_cl {vl vh vl1 vh1 : Nat → Int32} (h : rowsR vl vh) (a1 : ∀ i, i < 4 → vl1 i = vl i) (a3 : ∀ i, i < 36 → vh1 i = vh i) : rowsR vl1 vh1 := fun r hr => by
  have h1 := h r hr
  unfold rowOK at *
  rw [a1 r (by omega), a3 (9 * r) (by omega), a3 (9 * r + 5) (by omega), a3 (9 * r + 6) (by omega)]
  exact h1
theorem rowsR_lo {vl vh vh1 : Nat → Int32} (h : rowsR vl vh) (a3 : ∀ i, i ≤ 35 → vh1 i = vh i) : rowsR vl vh1 := rowsR_cl h (fun _ _ => rfl) (fun i hi => a3 i (by omega))
theorem rowsR_l4 {vl vh : Nat → Int32} {x : Int32} (h : rowsR vl vh) : rowsR (upd vl 4 x) vh := rowsR_cl h (fun i hi => pk_un (by omega)) (fun _ _ => rfl)
theorem row4 {vl vh : Nat → Int32} (h : (vl 4 = 0 ∧ vh 41 = 0 ∧ vh 42 = 0) ∨ 1 ≤ (vh 36).toInt) : rowOK vl vh 4 := by
  have z : (0 : Int32).toInt ≤ 0 := by decide
  rcases h with ⟨h1, h2, h3⟩ | h
  · exact Or.inr ⟨by rw [h1]; exact z, by rw [show 9 * 4 + 5 = 41 from rfl, h2]; exact z, by rw [show 9 * 4 + 6 = 42 from rfl, h3]; exact z⟩
  · exact Or.inl h
theorem ld_i {s : Int32} (h : rg s 0 800) : 802 - s.toInt < ((803 : Nat) : Int) := by
  unfold rg at h
  omega
theorem ld_fu {g s s1 b t : Int32} {n : Nat} (h : 802 - g.toInt < ((n + 1 : Nat) : Int)) (hg : rg g 0 800) (h1 : g.toInt ≤ s.toInt) (h2 : b = 0 → t = 0 ∨ s.toInt + 1 ≤ s1.toInt) : 1 ≤ n ∧ (b = 0 → ¬ t = 0 → 802 - s1.toInt < (n : Int)) := by
  unfold rg at hg
  refine ⟨by omega, fun hb ht => ?_⟩
  rcases h2 hb with q | q
  · exact absurd q ht
  · omega
theorem ld_no {g s1 b t : Int32} {n : Nat} (h : 802 - g.toInt < ((n + 1 : Nat) : Int)) (hg : rg g 0 800) (h2 : ¬ b = 0) : 1 ≤ n ∧ (b = 0 → ¬ t = 0 → 802 - s1.toInt < (n : Int)) := by
  unfold rg at hg
  exact ⟨by omega, fun hb => absurd hb h2⟩
set_option maxHeartbeats 4000000 in
set_option maxRecDepth 100000 in
theorem t_isByte (l : Launch) (E : gE) (J : Nat → Nat) (τ : Nat → Nat) (L : List Nat) (f : gF) (hI : tI E L τ f) {q : Nat} (mq : q ∈ L) (tq : τ q = 40) (p1 : Int32) (rp1 : rg p1 0 800) (p2 : Int32) (p3 : Int32) : tMi l E J yX10_isByte cX10_isByte 4 .boolean (gRm 0 0 0) [.ref q, .int p1, .int p2, .int p3] L f (tPi E L τ [] f (fun r f1 => rg r 0 1 ∧ (∀ (tp : Int32) (ta : Nat) (vt : Nat → Int32), fld f q 6 (.int tp) → fld f q 5 (.ref ta) → f ta = .inl (E.2.2 0, 800, .inl vt) → (¬ r = 0 ↔ isBv tp vt p1 p2 p3)))) := by
  refine tMi.intro (by decide) (Nat.le_of_ble_eq_true rfl) ?_
  intro p e s m below meth c A ls C hr hA hO hH hl
  have C : gC E cX10_isByte 4 RX10 p s m _ meth c := C
  have hl : lv_has ls 4 [(0, .ref q), (1, .int p1), (2, .int p2), (3, .int p3)] := hl
  have hx := C.1
  have hb := C.2.1
  have hI := hI.S []
  obtain ⟨tp, rtp, ktp⟩ := t_fldi hI.1 mq tq td_40 (k := 6) rfl
  obtain ⟨ta, mta, tta, kta⟩ := t_fldr hI.1 mq tq td_40 (k := 5) rfl
  obtain ⟨vt, hvt, -⟩ := t_arr hI.1 mta tta td_45
  have fin : ∀ r : Int32, (¬ r = 0 ↔ isBv tp vt p1 p2 p3) → ∀ (tp : Int32) (ta : Nat) (vt : Nat → Int32), fld f q 6 (.int tp) → fld f q 5 (.ref ta) → f ta = .inl (E.2.2 0, 800, .inl vt) → (¬ r = 0 ↔ isBv tp vt p1 p2 p3) := by
    intro r h tp' ta' vt' h1 h2 h3
    have e1 := fld_inj h1 ktp
    subst e1
    have e2 := fld_injR h2 kta
    subst e2
    have e3 := arr_inj h3 hvt
    subst e3
    exact h
  have no : ∀ (H : Heap) (locs : List Loc), gH E A L f s.heap H locs → ¬ isBv tp vt p1 p2 p3 → W p l e (gRm 0 0 0) s m [.ref q, .int p1, .int p2, .int p3].toArray below meth c H locs 0 0 (MQ below (gQi E A (tPi E L τ [] f (fun r f1 => rg r 0 1 ∧ (∀ (tp : Int32) (ta : Nat) (vt : Nat → Int32), fld f q 6 (.int tp) → fld f q 5 (.ref ta) → f ta = .inl (E.2.2 0, 800, .inl vt) → (¬ r = 0 ↔ isBv tp vt p1 p2 p3))))) [.ref q, .int p1, .int p2, .int p3].toArray s (gRm 0 0 0).cells (gRm 0 0 0).slots A) (F0 m 32 ls []) := fun H locs hH hn => by
    refine lv_iconst (v := (0 : Int32)) hx hb dX10_isByte_32 (by decide) ?_
    exact g_zret C hr (rg_z ⟨by decide, by decide⟩) hH (Nat.zero_le _) (Nat.zero_le _) dX10_isByte_33 ⟨rfl, hI, ⟨by decide, by decide⟩, fin 0 ⟨fun h => absurd rfl h, fun h => absurd h hn⟩⟩
  refine lv_iload_n hx hb dX10_isByte_0 rfl (lv_at hl 1 rfl) ?_
  refine lv_aload_n hx hb dX10_isByte_1 rfl (lv_at hl 0 rfl) ?_
  refine t_getX C hH hI.1 mq tq td_40 iX10 rfl 6 (by decide) wd919 rfl ktp dX10_isByte_2 ?_
  refine lv_icmp_ge (tgt := 32) hx hb dX10_isByte_5 (by decide) (fun c1 => ?_) (fun c1 => ?_)
  · exact no _ _ hH (fun h => absurd (c_le c1) (by have := h.1; omega))
  · have h1 := n_le c1
    have hin : vp_in p1 800 := by
      unfold rg at rp1 rtp
      exact vp_in_iff.mpr ⟨by omega, by omega⟩
    refine lv_aload_n hx hb dX10_isByte_8 rfl (lv_at hl 0 rfl) ?_
    refine t_getX C hH hI.1 mq tq td_40 iX10 rfl 5 (by decide) wd1046 rfl kta dX10_isByte_9 ?_
    refine lv_iload_n hx hb dX10_isByte_12 rfl (lv_at hl 1 rfl) ?_
    refine g_bald C hH mta hvt hin dX10_isByte_13 ?_
    refine lv_iload_n hx hb dX10_isByte_14 rfl (lv_at hl 2 rfl) ?_
    refine lv_icmp_lt (tgt := 32) hx hb dX10_isByte_15 (by decide) (fun c2 => ?_) (fun c2 => ?_)
    · exact no _ _ hH (fun h => absurd (c_lt c2) (by have := h.2.1; omega))
    · refine lv_aload_n hx hb dX10_isByte_18 rfl (lv_at hl 0 rfl) ?_
      refine t_getX C hH hI.1 mq tq td_40 iX10 rfl 5 (by decide) wd1046 rfl kta dX10_isByte_19 ?_
      refine lv_iload_n hx hb dX10_isByte_22 rfl (lv_at hl 1 rfl) ?_
      refine g_bald C hH mta hvt hin dX10_isByte_23 ?_
      refine lv_iload_n hx hb dX10_isByte_24 rfl (lv_at hl 3 rfl) ?_
      refine lv_icmp_gt (tgt := 32) hx hb dX10_isByte_25 (by decide) (fun c3 => ?_) (fun c3 => ?_)
      · exact no _ _ hH (fun h => absurd (c_lt c3) (by have := h.2.2; omega))
      · refine lv_iconst (v := (1 : Int32)) hx hb dX10_isByte_28 (by decide) ?_
        refine lv_goto (tgt := 33) hx hb dX10_isByte_29 (by decide) ?_
        exact g_zret C hr (rg_z ⟨by decide, by decide⟩) hH (Nat.zero_le _) (Nat.zero_le _) dX10_isByte_33 ⟨rfl, hI, ⟨by decide, by decide⟩, fin 1 ⟨fun _ => ⟨h1, n_lt c2, n_lt c3⟩, fun _ => by decide⟩⟩

set_option maxHeartbeats 4000000 in
set_option maxRecDepth 100000 in
theorem t_X10_next (l : Launch) (E : gE) (J : Nat → Nat) (τ : Nat → Nat) (L : List Nat) (f : gF) (hI : tI E L τ f) {q : Nat} (mq : q ∈ L) (tq : τ q = 40) {sp tp bd : Int32} (hsp : fld f q 7 (.int sp)) (htp : fld f q 6 (.int tp)) (hbd : fld f q 12 (.int bd)) (hle : sp.toInt ≤ tp.toInt) (rsp : rg sp 0 800) (rtp : rg tp 0 800) : tMv l E J yX10_next cX10_next 2 (gRm (1) 0 0) [.ref q] L f (tPv E L τ [40] f (fun f1 => (∃ sp1 tk1 : Int32, fld f1 q 7 (.int sp1) ∧ fld f1 q 6 (.int tp) ∧ fld f1 q 8 (.int tk1) ∧ fld f1 q 12 (.int bd) ∧ sp.toInt ≤ sp1.toInt ∧ sp1.toInt ≤ tp.toInt ∧ (tk1 = 0 ∨ sp.toInt + 1 ≤ sp1.toInt)))) := by
  refine tMv.intro (by decide) (Nat.le_of_ble_eq_true rfl) ?_
  intro p e s m below meth c A ls C hr hA hO hH hl
  have C : gC E cX10_next 2 RX10 p s m _ meth c := C
  have hl : lv_has ls 2 [(0, .ref q)] := hl
  have hx := C.1
  have hb := C.2.1
  have hI := hI.S [40]
  obtain ⟨q_5, mq_5, tq_5, kq_5⟩ := t_fldr hI.1 mq tq td_40 (k := 5) rfl
  obtain ⟨vt, hvt, -⟩ := t_arr hI.1 mq_5 tq_5 td_45
  have cut0 : ∀ (n : Nat) (fh0 : gF) (H : Heap) (locs : List Loc) (ls : Array Slot) (g0_0 : Int32), 800 - g0_0.toInt < (n : Int) → tS E L τ [40] f fh0 → gH E A L fh0 s.heap H locs → g0_0.toInt ≤ tp.toInt → sp.toInt ≤ g0_0.toInt → fld fh0 q 6 (.int tp) → fld fh0 q 12 (.int bd) → rg g0_0 0 800 → fld fh0 q 7 (.int g0_0) → lv_has ls 2 [(0, .ref q)] → W p l e (gRm (1) 0 0) s m [.ref q].toArray below meth c H locs 0 0 (MQ below (gQv E A (tPv E L τ [40] f (fun f1 => (∃ sp1 tk1 : Int32, fld f1 q 7 (.int sp1) ∧ fld f1 q 6 (.int tp) ∧ fld f1 q 8 (.int tk1) ∧ fld f1 q 12 (.int bd) ∧ sp.toInt ≤ sp1.toInt ∧ sp1.toInt ≤ tp.toInt ∧ (tk1 = 0 ∨ sp.toInt + 1 ≤ sp1.toInt))))) [.ref q].toArray s (gRm (1) 0 0).cells (gRm (1) 0 0).slots A) (F0 m 0 ls []) := by
    intro n
    induction n with
    | zero =>
      intro fh0 H locs ls g0_0 hfu0 hI hH F0_hi0 F0_lo0 P0_0 P0_1 Gr0_0 G0_0 hl
      exact (fu_0 hfu0 Gr0_0).elim
    | succ n ih0 =>
      intro fh0 H locs ls g0_0 hfu0 hI hH F0_hi0 F0_lo0 P0_0 P0_1 Gr0_0 G0_0 hl
      have cut102 : ∀ (n : Nat) (fh102 : gF) (H : Heap) (locs : List Loc) (ls : Array Slot) (v102_1 : Int32) (g102_0 : Int32), 800 - g102_0.toInt < (n : Int) → tS E L τ [40] f fh102 → gH E A L fh102 s.heap H locs → g102_0.toInt ≤ tp.toInt → sp.toInt ≤ g102_0.toInt → sp.toInt + 1 ≤ g102_0.toInt ∨ isBv tp vt g102_0 97 122 → fld fh102 q 6 (.int tp) → fld fh102 q 12 (.int bd) → fld fh102 q 8 (.int (1 : Int32)) → rg g102_0 0 800 → fld fh102 q 7 (.int g102_0) → lv_has ls 2 [(0, .ref q), (1, .int v102_1)] → W p l e (gRm (1) 0 0) s m [.ref q].toArray below meth c H locs 0 0 (MQ below (gQv E A (tPv E L τ [40] f (fun f1 => (∃ sp1 tk1 : Int32, fld f1 q 7 (.int sp1) ∧ fld f1 q 6 (.int tp) ∧ fld f1 q 8 (.int tk1) ∧ fld f1 q 12 (.int bd) ∧ sp.toInt ≤ sp1.toInt ∧ sp1.toInt ≤ tp.toInt ∧ (tk1 = 0 ∨ sp.toInt + 1 ≤ sp1.toInt))))) [.ref q].toArray s (gRm (1) 0 0).cells (gRm (1) 0 0).slots A) (F0 m 102 ls []) := by
        intro n
        induction n with
        | zero =>
          intro fh102 H locs ls v102_1 g102_0 hfu102 hI hH F102_hi102 F102_lo102 F102_pr102 P102_0 P102_1 P102_2 Gr102_0 G102_0 hl
          exact (fu_0 hfu102 Gr102_0).elim
        | succ n ih102 =>
          intro fh102 H locs ls v102_1 g102_0 hfu102 hI hH F102_hi102 F102_lo102 F102_pr102 P102_0 P102_1 P102_2 Gr102_0 G102_0 hl
          refine lv_aload_n hx hb dX10_next_102 rfl (lv_at hl 0 rfl) ?_
          refine lv_aload_n hx hb dX10_next_103 rfl (lv_at hl 0 rfl) ?_
          refine t_getX C hH hI.1 mq tq td_40 iX10 rfl 7 (by decide) wd1051 rfl G102_0 dX10_next_104 ?_
          refine lv_bipush (v := (97 : Int32)) hx hb dX10_next_107 (by decide) ?_
          refine lv_bipush (v := (122 : Int32)) hx hb dX10_next_109 (by decide) ?_
          refine t_Vi C hO hl.1 hA hH hI.1 (As := [.int g102_0, .int (97 : Int32), .int (122 : Int32)]) (rest := []) (t_isByte l E J τ L fh102 hI.1 mq tq g102_0 Gr102_0 (97 : Int32) (122 : Int32)) my_X10_isByte wd1055 mq tq td_40 rfl rfl rfl (Nat.le_of_ble_eq_true rfl) ⟨Nat.le_of_ble_eq_true rfl, Nat.le_of_ble_eq_true rfl⟩ ⟨rfl, rfl⟩ dX10_next_111 (fun r2 L1 f1 H locs hp hH => ?_)
          obtain ⟨rfl, s3, h4⟩ := hp
          have hJ := hI
          have hI := hI.call s3 (by decide)
          have k5 : fld f1 q 6 (.int tp) := fld.eq P102_0 (s3.fr q mq (t_lim tq rfl))
          have k6 : fld f1 q 12 (.int bd) := fld.eq P102_1 (s3.fr q mq (t_lim tq rfl))
          have k7 : fld f1 q 8 (.int (1 : Int32)) := fld.eq P102_2 (s3.fr q mq (t_lim tq rfl))
          have k8 : fld f1 q 7 (.int g102_0) := fld.eq G102_0 (s3.fr q mq (t_lim tq rfl))
          have w9 := h4.2 tp q_5 vt P102_0 (hJ.rf kq_5) ((hJ.fr q_5 mq_5 (t_lim tq_5 rfl)).trans hvt)
          refine lv_if_eq (tgt := 185) hx hb dX10_next_114 (by decide) (fun c10 => ?_) (fun c10 => ?_)
          · skip
            have r11 : rg r2 0 0 := rf_eql (c_eq c10) h4.1 rl_0 (by decide)
            have F12 := fun q => w9.mpr q c10
            refine lv_goto (tgt := 307) hx hb dX10_next_185 (by decide) ?_
            exact g_vret C hr hH (Nat.zero_le _) (Nat.zero_le _) dX10_next_307 ⟨rfl, hI, ⟨_, _, k8, k5, k7, k6, F102_lo102, F102_hi102, (Or.inr (F102_pr102.resolve_right F12))⟩⟩
          · skip
            have r13 : rg r2 1 1 := rf_nel (n_eq c10) h4.1 rl_0 (by decide)
            have F14 := w9.mp c10
            have r15 : rg g102_0 0 799 := sp_lt (b := 800) F14.1 Gr102_0 rtp
            refine lv_aload_n hx hb dX10_next_117 rfl (lv_at hl 0 rfl) ?_
            refine lv_iload_n hx hb dX10_next_118 rfl (lv_at hl 1 rfl) ?_
            refine lv_bipush (v := (11 : Int32)) hx hb dX10_next_119 (by decide) ?_
            refine lv_icmp_le (tgt := 130) hx hb dX10_next_121 (by decide) (fun c16 => ?_) (fun c16 => ?_)
            · skip
              have r17 : rg v102_1 (-2147483648) 11 := rf_lel (c_le c16) (rg_all _) rl_11 (by decide)
              refine lv_ldc2 hx hb C.2.2.2.1 (C.2.2.2.2.1 _ wd1056) dX10_next_130 ?_
              refine lv_aload_n hx hb dX10_next_133 rfl (lv_at hl 0 rfl) ?_
              refine t_getl C hH hI.1 mq tq td_40 iX10 rfl 11 (by decide) wd1057 rfl rfl dX10_next_134 (fun z18 => ?_)
              refine lv_lmul hx hb dX10_next_137 ?_
              refine lv_topl (fun z19 ez19 => ?_)
              refine lv_aload_n hx hb dX10_next_138 rfl (lv_at hl 0 rfl) ?_
              refine t_getX C hH hI.1 mq tq td_40 iX10 rfl 5 (by decide) wd1046 rfl (hI.rf kq_5) dX10_next_139 ?_
              refine lv_aload_n hx hb dX10_next_142 rfl (lv_at hl 0 rfl) ?_
              refine t_getX C hH hI.1 mq tq td_40 iX10 rfl 7 (by decide) wd1051 rfl k8 dX10_next_143 ?_
              refine t_bald C hH hI.1 mq_5 tq_5 td_45 (rg_in r15 (by decide)) dX10_next_146 (fun z20 => ?_)
              refine lv_i2l (v := (z20).toInt64) hx hb dX10_next_147 rfl ?_
              refine lv_ladd hx hb dX10_next_148 ?_
              refine lv_topl (fun z21 ez21 => ?_)
              refine lv_ldc2 hx hb C.2.2.2.1 (C.2.2.2.2.1 _ wd1058) dX10_next_149 ?_
              refine lv_lsub hx hb dX10_next_152 ?_
              refine lv_topl (fun z22 ez22 => ?_)
              refine t_put C hH hI mq tq (by decide) td_40 iX10 tyX10 tyX10_ok nmX10 rfl 11 (by decide) wd1057 rfl rfl (v := .long z22) rfl rfl rfl ⟨_, rfl⟩ (fun _ h => nomatch h) dX10_next_153 (fun f23 H locs hH hI nf23 of23 bf23 => ?_)
              have k24 : fld f23 q 6 (.int tp) := of23 6 _ (by decide) k5
              have k25 : fld f23 q 12 (.int bd) := of23 12 _ (by decide) k6
              have k26 : fld f23 q 8 (.int (1 : Int32)) := of23 8 _ (by decide) k7
              have k27 : fld f23 q 7 (.int g102_0) := of23 7 _ (by decide) k8
              refine lv_iload_n hx hb dX10_next_156 rfl (lv_at hl 1 rfl) ?_
              refine lv_bipush (v := (11 : Int32)) hx hb dX10_next_157 (by decide) ?_
              refine lv_icmp_le (tgt := 169) hx hb dX10_next_159 (by decide) (fun c28 => ?_) (fun c28 => ?_)
              · skip
                refine lv_aload_n hx hb dX10_next_169 rfl (lv_at hl 0 rfl) ?_
                refine lv_dup hx hb dX10_next_170 rfl ?_
                refine t_getX C hH hI.1 mq tq td_40 iX10 rfl 7 (by decide) wd1051 rfl k27 dX10_next_171 ?_
                refine lv_iconst (v := (1 : Int32)) hx hb dX10_next_174 (by decide) ?_
                refine lv_iadd hx hb dX10_next_175 ?_
                refine lv_topi (fun z29 ez29 => ?_)
                have r30 : rg z29 1 800 := rg_add ez29 r15 rl_1 (by decide)
                have a31 : z29.toInt = g102_0.toInt + 1 := ai_add ez29 r15 tl_1 (by decide)
                refine t_put C hH hI mq tq (by decide) td_40 iX10 tyX10 tyX10_ok nmX10 rfl 7 (by decide) wd1051 rfl rfl (v := .int z29) rfl rfl rfl ⟨_, rfl, (rg_w r30 (by decide))⟩ (fun _ h => nomatch h) dX10_next_176 (fun f32 H locs hH hI nf32 of32 bf32 => ?_)
                have k33 : fld f32 q 6 (.int tp) := of32 6 _ (by decide) k24
                have k34 : fld f32 q 12 (.int bd) := of32 12 _ (by decide) k25
                have k35 : fld f32 q 8 (.int (1 : Int32)) := of32 8 _ (by decide) k26
                have k36 : fld f32 q 11 (.long z22) := of32 11 _ (by decide) nf23
                obtain ⟨z37, ez37⟩ : ∃ y : Int32, y = v102_1 + (1 : Int32) := ⟨_, rfl⟩
                have r38 : rg z37 (-2147483647) 12 := rg_add ez37 r17 rl_1 (by decide)
                have a39 : z37.toInt = v102_1.toInt + 1 := ai_add ez37 r17 tl_1 (by decide)
                refine lv_iinc (v := z37) (lv' := [(1, .int z37), (0, .ref q)]) hx hb dX10_next_179 hl (k := 1) rfl (by rw [ez37]; rfl) (by decide) rfl (fun ls hl => ?_)
                refine lv_goto (tgt := 102) hx hb dX10_next_182 (by decide) ?_
                exact ih102 _ _ _ _ z37 z29 (fu_s hfu102 a31 (by decide)) hI hH (by have h1 := F14.1; have h2 := a31; omega) (by have h1 := F102_lo102; have h2 := a31; omega) (Or.inl (by have h1 := F102_lo102; have h2 := a31; omega)) k33 k34 k35 (rg_w r30 (by decide)) nf32 (lv_sub hl [1, 0] rfl)
              · skip
                exact (rg_no (show rg (11 : Int32) 11 10 from rf_ltl (n_le c28) rl_11 r17 (by decide)) (by decide)).elim
            · skip
              have r40 : rg v102_1 12 2147483647 := rf_ltr (n_le c16) rl_11 (rg_all _) (by decide)
              refine lv_ldc2 hx hb C.2.2.2.1 (C.2.2.2.2.1 _ wd990) dX10_next_124 ?_
              refine lv_goto (tgt := 153) hx hb dX10_next_127 (by decide) ?_
              refine t_put C hH hI mq tq (by decide) td_40 iX10 tyX10 tyX10_ok nmX10 rfl 11 (by decide) wd1057 rfl rfl (v := .long (-1 : Int64)) rfl rfl rfl ⟨_, rfl⟩ (fun _ h => nomatch h) dX10_next_153 (fun f41 H locs hH hI nf41 of41 bf41 => ?_)
              have k42 : fld f41 q 6 (.int tp) := of41 6 _ (by decide) k5
              have k43 : fld f41 q 12 (.int bd) := of41 12 _ (by decide) k6
              have k44 : fld f41 q 8 (.int (1 : Int32)) := of41 8 _ (by decide) k7
              have k45 : fld f41 q 7 (.int g102_0) := of41 7 _ (by decide) k8
              refine lv_iload_n hx hb dX10_next_156 rfl (lv_at hl 1 rfl) ?_
              refine lv_bipush (v := (11 : Int32)) hx hb dX10_next_157 (by decide) ?_
              refine lv_icmp_le (tgt := 169) hx hb dX10_next_159 (by decide) (fun c46 => ?_) (fun c46 => ?_)
              · skip
                exact (rg_no (show rg v102_1 12 11 from rf_lel (c_le c46) r40 rl_11 (by decide)) (by decide)).elim
              · skip
                refine lv_aload_n hx hb dX10_next_162 rfl (lv_at hl 0 rfl) ?_
                refine lv_ldc2 hx hb C.2.2.2.1 (C.2.2.2.2.1 _ wd990) dX10_next_163 ?_
                refine t_put C hH hI mq tq (by decide) td_40 iX10 tyX10 tyX10_ok nmX10 rfl 11 (by decide) wd1057 rfl rfl (v := .long (-1 : Int64)) rfl rfl rfl ⟨_, rfl⟩ (fun _ h => nomatch h) dX10_next_166 (fun f47 H locs hH hI nf47 of47 bf47 => ?_)
                have k48 : fld f47 q 6 (.int tp) := of47 6 _ (by decide) k42
                have k49 : fld f47 q 12 (.int bd) := of47 12 _ (by decide) k43
                have k50 : fld f47 q 8 (.int (1 : Int32)) := of47 8 _ (by decide) k44
                have k51 : fld f47 q 7 (.int g102_0) := of47 7 _ (by decide) k45
                refine lv_aload_n hx hb dX10_next_169 rfl (lv_at hl 0 rfl) ?_
                refine lv_dup hx hb dX10_next_170 rfl ?_
                refine t_getX C hH hI.1 mq tq td_40 iX10 rfl 7 (by decide) wd1051 rfl k51 dX10_next_171 ?_
                refine lv_iconst (v := (1 : Int32)) hx hb dX10_next_174 (by decide) ?_
                refine lv_iadd hx hb dX10_next_175 ?_
                refine lv_topi (fun z52 ez52 => ?_)
                have r53 : rg z52 1 800 := rg_add ez52 r15 rl_1 (by decide)
                have a54 : z52.toInt = g102_0.toInt + 1 := ai_add ez52 r15 tl_1 (by decide)
                refine t_put C hH hI mq tq (by decide) td_40 iX10 tyX10 tyX10_ok nmX10 rfl 7 (by decide) wd1051 rfl rfl (v := .int z52) rfl rfl rfl ⟨_, rfl, (rg_w r53 (by decide))⟩ (fun _ h => nomatch h) dX10_next_176 (fun f55 H locs hH hI nf55 of55 bf55 => ?_)
                have k56 : fld f55 q 6 (.int tp) := of55 6 _ (by decide) k48
                have k57 : fld f55 q 12 (.int bd) := of55 12 _ (by decide) k49
                have k58 : fld f55 q 8 (.int (1 : Int32)) := of55 8 _ (by decide) k50
                have k59 : fld f55 q 11 (.long (-1 : Int64)) := of55 11 _ (by decide) nf47
                obtain ⟨z60, ez60⟩ : ∃ y : Int32, y = v102_1 + (1 : Int32) := ⟨_, rfl⟩
                refine lv_iinc (v := z60) (lv' := [(1, .int z60), (0, .ref q)]) hx hb dX10_next_179 hl (k := 1) rfl (by rw [ez60]; rfl) (by decide) rfl (fun ls hl => ?_)
                refine lv_goto (tgt := 102) hx hb dX10_next_182 (by decide) ?_
                exact ih102 _ _ _ _ z60 z52 (fu_s hfu102 a54 (by decide)) hI hH (by have h1 := F14.1; have h2 := a54; omega) (by have h1 := F102_lo102; have h2 := a54; omega) (Or.inl (by have h1 := F102_lo102; have h2 := a54; omega)) k56 k57 k58 (rg_w r53 (by decide)) nf55 (lv_sub hl [1, 0] rfl)
      have cut208 : ∀ (n : Nat) (fh208 : gF) (H : Heap) (locs : List Loc) (ls : Array Slot) (g208_0 : Int32), 800 - g208_0.toInt < (n : Int) → tS E L τ [40] f fh208 → gH E A L fh208 s.heap H locs → g208_0.toInt ≤ tp.toInt → sp.toInt ≤ g208_0.toInt → sp.toInt + 1 ≤ g208_0.toInt ∨ isBv tp vt g208_0 48 57 → fld fh208 q 6 (.int tp) → fld fh208 q 12 (.int bd) → fld fh208 q 8 (.int (2 : Int32)) → rg g208_0 0 800 → fld fh208 q 7 (.int g208_0) → lv_has ls 2 [(0, .ref q)] → W p l e (gRm (1) 0 0) s m [.ref q].toArray below meth c H locs 0 0 (MQ below (gQv E A (tPv E L τ [40] f (fun f1 => (∃ sp1 tk1 : Int32, fld f1 q 7 (.int sp1) ∧ fld f1 q 6 (.int tp) ∧ fld f1 q 8 (.int tk1) ∧ fld f1 q 12 (.int bd) ∧ sp.toInt ≤ sp1.toInt ∧ sp1.toInt ≤ tp.toInt ∧ (tk1 = 0 ∨ sp.toInt + 1 ≤ sp1.toInt))))) [.ref q].toArray s (gRm (1) 0 0).cells (gRm (1) 0 0).slots A) (F0 m 208 ls []) := by
        intro n
        induction n with
        | zero =>
          intro fh208 H locs ls g208_0 hfu208 hI hH F208_hi208 F208_lo208 F208_pr208 P208_0 P208_1 P208_2 Gr208_0 G208_0 hl
          exact (fu_0 hfu208 Gr208_0).elim
        | succ n ih208 =>
          intro fh208 H locs ls g208_0 hfu208 hI hH F208_hi208 F208_lo208 F208_pr208 P208_0 P208_1 P208_2 Gr208_0 G208_0 hl
          refine lv_aload_n hx hb dX10_next_208 rfl (lv_at hl 0 rfl) ?_
          refine lv_aload_n hx hb dX10_next_209 rfl (lv_at hl 0 rfl) ?_
          refine t_getX C hH hI.1 mq tq td_40 iX10 rfl 7 (by decide) wd1051 rfl G208_0 dX10_next_210 ?_
          refine lv_bipush (v := (48 : Int32)) hx hb dX10_next_213 (by decide) ?_
          refine lv_bipush (v := (57 : Int32)) hx hb dX10_next_215 (by decide) ?_
          refine t_Vi C hO hl.1 hA hH hI.1 (As := [.int g208_0, .int (48 : Int32), .int (57 : Int32)]) (rest := []) (t_isByte l E J τ L fh208 hI.1 mq tq g208_0 Gr208_0 (48 : Int32) (57 : Int32)) my_X10_isByte wd1055 mq tq td_40 rfl rfl rfl (Nat.le_of_ble_eq_true rfl) ⟨Nat.le_of_ble_eq_true rfl, Nat.le_of_ble_eq_true rfl⟩ ⟨rfl, rfl⟩ dX10_next_217 (fun r62 L1 f61 H locs hp hH => ?_)
          obtain ⟨rfl, s63, h64⟩ := hp
          have hJ := hI
          have hI := hI.call s63 (by decide)
          have k65 : fld f61 q 6 (.int tp) := fld.eq P208_0 (s63.fr q mq (t_lim tq rfl))
          have k66 : fld f61 q 12 (.int bd) := fld.eq P208_1 (s63.fr q mq (t_lim tq rfl))
          have k67 : fld f61 q 8 (.int (2 : Int32)) := fld.eq P208_2 (s63.fr q mq (t_lim tq rfl))
          have k68 : fld f61 q 7 (.int g208_0) := fld.eq G208_0 (s63.fr q mq (t_lim tq rfl))
          have w69 := h64.2 tp q_5 vt P208_0 (hJ.rf kq_5) ((hJ.fr q_5 mq_5 (t_lim tq_5 rfl)).trans hvt)
          refine lv_if_eq (tgt := 307) hx hb dX10_next_220 (by decide) (fun c70 => ?_) (fun c70 => ?_)
          · skip
            have r71 : rg r62 0 0 := rf_eql (c_eq c70) h64.1 rl_0 (by decide)
            have F72 := fun q => w69.mpr q c70
            exact g_vret C hr hH (Nat.zero_le _) (Nat.zero_le _) dX10_next_307 ⟨rfl, hI, ⟨_, _, k68, k65, k67, k66, F208_lo208, F208_hi208, (Or.inr (F208_pr208.resolve_right F72))⟩⟩
          · skip
            have r73 : rg r62 1 1 := rf_nel (n_eq c70) h64.1 rl_0 (by decide)
            have F74 := w69.mp c70
            have r75 : rg g208_0 0 799 := sp_lt (b := 800) F74.1 Gr208_0 rtp
            refine lv_aload_n hx hb dX10_next_223 rfl (lv_at hl 0 rfl) ?_
            refine lv_aload_n hx hb dX10_next_224 rfl (lv_at hl 0 rfl) ?_
            obtain ⟨z76, rz76, kz76⟩ := t_fldi hI.1 mq tq td_40 (k := 10) rfl
            refine t_getX C hH hI.1 mq tq td_40 iX10 rfl 10 (by decide) wd1059 rfl kz76 dX10_next_225 ?_
            refine lv_ldc hx hb C.2.2.2.1 (C.2.2.2.2.1 _ wd938) dX10_next_228 ?_
            refine lv_icmp_le (tgt := 238) hx hb dX10_next_230 (by decide) (fun c77 => ?_) (fun c77 => ?_)
            · skip
              have r78 : rg z76 (-2147483648) 100000 := rf_lel (c_le c77) rz76 rl_100000 (by decide)
              refine lv_bipush (v := (10 : Int32)) hx hb dX10_next_238 (by decide) ?_
              refine lv_aload_n hx hb dX10_next_240 rfl (lv_at hl 0 rfl) ?_
              refine t_getX C hH hI.1 mq tq td_40 iX10 rfl 10 (by decide) wd1059 rfl kz76 dX10_next_241 ?_
              refine lv_imul hx hb dX10_next_244 ?_
              refine lv_topi (fun z79 ez79 => ?_)
              refine lv_aload_n hx hb dX10_next_245 rfl (lv_at hl 0 rfl) ?_
              refine t_getX C hH hI.1 mq tq td_40 iX10 rfl 5 (by decide) wd1046 rfl (hI.rf kq_5) dX10_next_246 ?_
              refine lv_aload_n hx hb dX10_next_249 rfl (lv_at hl 0 rfl) ?_
              refine t_getX C hH hI.1 mq tq td_40 iX10 rfl 7 (by decide) wd1051 rfl k68 dX10_next_250 ?_
              refine t_bald C hH hI.1 mq_5 tq_5 td_45 (rg_in r75 (by decide)) dX10_next_253 (fun z80 => ?_)
              refine lv_iadd hx hb dX10_next_254 ?_
              refine lv_topi (fun z81 ez81 => ?_)
              refine lv_bipush (v := (48 : Int32)) hx hb dX10_next_255 (by decide) ?_
              refine lv_isub hx hb dX10_next_257 ?_
              refine lv_topi (fun z82 ez82 => ?_)
              refine t_put C hH hI mq tq (by decide) td_40 iX10 tyX10 tyX10_ok nmX10 rfl 10 (by decide) wd1059 rfl rfl (v := .int z82) rfl rfl rfl ⟨_, rfl, (rg_all _)⟩ (fun _ h => nomatch h) dX10_next_258 (fun f83 H locs hH hI nf83 of83 bf83 => ?_)
              have k84 : fld f83 q 6 (.int tp) := of83 6 _ (by decide) k65
              have k85 : fld f83 q 12 (.int bd) := of83 12 _ (by decide) k66
              have k86 : fld f83 q 8 (.int (2 : Int32)) := of83 8 _ (by decide) k67
              have k87 : fld f83 q 7 (.int g208_0) := of83 7 _ (by decide) k68
              refine lv_aload_n hx hb dX10_next_261 rfl (lv_at hl 0 rfl) ?_
              refine lv_dup hx hb dX10_next_262 rfl ?_
              refine t_getX C hH hI.1 mq tq td_40 iX10 rfl 7 (by decide) wd1051 rfl k87 dX10_next_263 ?_
              refine lv_iconst (v := (1 : Int32)) hx hb dX10_next_266 (by decide) ?_
              refine lv_iadd hx hb dX10_next_267 ?_
              refine lv_topi (fun z88 ez88 => ?_)
              have r89 : rg z88 1 800 := rg_add ez88 r75 rl_1 (by decide)
              have a90 : z88.toInt = g208_0.toInt + 1 := ai_add ez88 r75 tl_1 (by decide)
              refine t_put C hH hI mq tq (by decide) td_40 iX10 tyX10 tyX10_ok nmX10 rfl 7 (by decide) wd1051 rfl rfl (v := .int z88) rfl rfl rfl ⟨_, rfl, (rg_w r89 (by decide))⟩ (fun _ h => nomatch h) dX10_next_268 (fun f91 H locs hH hI nf91 of91 bf91 => ?_)
              have k92 : fld f91 q 6 (.int tp) := of91 6 _ (by decide) k84
              have k93 : fld f91 q 12 (.int bd) := of91 12 _ (by decide) k85
              have k94 : fld f91 q 8 (.int (2 : Int32)) := of91 8 _ (by decide) k86
              have k95 : fld f91 q 10 (.int z82) := of91 10 _ (by decide) nf83
              refine lv_goto (tgt := 208) hx hb dX10_next_271 (by decide) ?_
              exact ih208 _ _ _ _ z88 (fu_s hfu208 a90 (by decide)) hI hH (by have h1 := F74.1; have h2 := a90; omega) (by have h1 := F208_lo208; have h2 := a90; omega) (Or.inl (by have h1 := F208_lo208; have h2 := a90; omega)) k92 k93 k94 (rg_w r89 (by decide)) nf91 (lv_sub hl [0] rfl)
            · skip
              have r96 : rg z76 100001 2147483647 := rf_ltr (n_le c77) rl_100000 rz76 (by decide)
              refine lv_ldc hx hb C.2.2.2.1 (C.2.2.2.2.1 _ wd1060) dX10_next_233 ?_
              refine lv_goto (tgt := 258) hx hb dX10_next_235 (by decide) ?_
              refine t_put C hH hI mq tq (by decide) td_40 iX10 tyX10 tyX10_ok nmX10 rfl 10 (by decide) wd1059 rfl rfl (v := .int (1000000 : Int32)) rfl rfl rfl ⟨_, rfl, (rg_w rl_1000000 (by decide))⟩ (fun _ h => nomatch h) dX10_next_258 (fun f97 H locs hH hI nf97 of97 bf97 => ?_)
              have k98 : fld f97 q 6 (.int tp) := of97 6 _ (by decide) k65
              have k99 : fld f97 q 12 (.int bd) := of97 12 _ (by decide) k66
              have k100 : fld f97 q 8 (.int (2 : Int32)) := of97 8 _ (by decide) k67
              have k101 : fld f97 q 7 (.int g208_0) := of97 7 _ (by decide) k68
              refine lv_aload_n hx hb dX10_next_261 rfl (lv_at hl 0 rfl) ?_
              refine lv_dup hx hb dX10_next_262 rfl ?_
              refine t_getX C hH hI.1 mq tq td_40 iX10 rfl 7 (by decide) wd1051 rfl k101 dX10_next_263 ?_
              refine lv_iconst (v := (1 : Int32)) hx hb dX10_next_266 (by decide) ?_
              refine lv_iadd hx hb dX10_next_267 ?_
              refine lv_topi (fun z102 ez102 => ?_)
              have r103 : rg z102 1 800 := rg_add ez102 r75 rl_1 (by decide)
              have a104 : z102.toInt = g208_0.toInt + 1 := ai_add ez102 r75 tl_1 (by decide)
              refine t_put C hH hI mq tq (by decide) td_40 iX10 tyX10 tyX10_ok nmX10 rfl 7 (by decide) wd1051 rfl rfl (v := .int z102) rfl rfl rfl ⟨_, rfl, (rg_w r103 (by decide))⟩ (fun _ h => nomatch h) dX10_next_268 (fun f105 H locs hH hI nf105 of105 bf105 => ?_)
              have k106 : fld f105 q 6 (.int tp) := of105 6 _ (by decide) k98
              have k107 : fld f105 q 12 (.int bd) := of105 12 _ (by decide) k99
              have k108 : fld f105 q 8 (.int (2 : Int32)) := of105 8 _ (by decide) k100
              have k109 : fld f105 q 10 (.int (1000000 : Int32)) := of105 10 _ (by decide) nf97
              refine lv_goto (tgt := 208) hx hb dX10_next_271 (by decide) ?_
              exact ih208 _ _ _ _ z102 (fu_s hfu208 a104 (by decide)) hI hH (by have h1 := F74.1; have h2 := a104; omega) (by have h1 := F208_lo208; have h2 := a104; omega) (Or.inl (by have h1 := F208_lo208; have h2 := a104; omega)) k106 k107 k108 (rg_w r103 (by decide)) nf105 (lv_sub hl [0] rfl)
      refine lv_aload_n hx hb dX10_next_0 rfl (lv_at hl 0 rfl) ?_
      refine lv_aload_n hx hb dX10_next_1 rfl (lv_at hl 0 rfl) ?_
      refine t_getX C hH hI.1 mq tq td_40 iX10 rfl 7 (by decide) wd1051 rfl G0_0 dX10_next_2 ?_
      refine lv_bipush (v := (32 : Int32)) hx hb dX10_next_5 (by decide) ?_
      refine lv_bipush (v := (32 : Int32)) hx hb dX10_next_7 (by decide) ?_
      refine t_Vi C hO hl.1 hA hH hI.1 (As := [.int g0_0, .int (32 : Int32), .int (32 : Int32)]) (rest := []) (t_isByte l E J τ L fh0 hI.1 mq tq g0_0 Gr0_0 (32 : Int32) (32 : Int32)) my_X10_isByte wd1055 mq tq td_40 rfl rfl rfl (Nat.le_of_ble_eq_true rfl) ⟨Nat.le_of_ble_eq_true rfl, Nat.le_of_ble_eq_true rfl⟩ ⟨rfl, rfl⟩ dX10_next_9 (fun r111 L1 f110 H locs hp hH => ?_)
      obtain ⟨rfl, s112, h113⟩ := hp
      have hJ := hI
      have hI := hI.call s112 (by decide)
      have k114 : fld f110 q 6 (.int tp) := fld.eq P0_0 (s112.fr q mq (t_lim tq rfl))
      have k115 : fld f110 q 12 (.int bd) := fld.eq P0_1 (s112.fr q mq (t_lim tq rfl))
      have k116 : fld f110 q 7 (.int g0_0) := fld.eq G0_0 (s112.fr q mq (t_lim tq rfl))
      have w117 := h113.2 tp q_5 vt P0_0 (hJ.rf kq_5) ((hJ.fr q_5 mq_5 (t_lim tq_5 rfl)).trans hvt)
      refine lv_if_ne (tgt := 30) hx hb dX10_next_12 (by decide) (fun c118 => ?_) (fun c118 => ?_)
      · skip
        have r119 : rg r111 1 1 := rf_nel (n_eq c118) h113.1 rl_0 (by decide)
        have F120 := w117.mp c118
        have r121 : rg g0_0 0 799 := sp_lt (b := 800) F120.1 Gr0_0 rtp
        refine lv_aload_n hx hb dX10_next_30 rfl (lv_at hl 0 rfl) ?_
        refine lv_dup hx hb dX10_next_31 rfl ?_
        refine t_getX C hH hI.1 mq tq td_40 iX10 rfl 7 (by decide) wd1051 rfl k116 dX10_next_32 ?_
        refine lv_iconst (v := (1 : Int32)) hx hb dX10_next_35 (by decide) ?_
        refine lv_iadd hx hb dX10_next_36 ?_
        refine lv_topi (fun z122 ez122 => ?_)
        have r123 : rg z122 1 800 := rg_add ez122 r121 rl_1 (by decide)
        have a124 : z122.toInt = g0_0.toInt + 1 := ai_add ez122 r121 tl_1 (by decide)
        refine t_put C hH hI mq tq (by decide) td_40 iX10 tyX10 tyX10_ok nmX10 rfl 7 (by decide) wd1051 rfl rfl (v := .int z122) rfl rfl rfl ⟨_, rfl, (rg_w r123 (by decide))⟩ (fun _ h => nomatch h) dX10_next_37 (fun f125 H locs hH hI nf125 of125 bf125 => ?_)
        have k126 : fld f125 q 6 (.int tp) := of125 6 _ (by decide) k114
        have k127 : fld f125 q 12 (.int bd) := of125 12 _ (by decide) k115
        refine lv_goto (tgt := 0) hx hb dX10_next_40 (by decide) ?_
        exact ih0 _ _ _ _ z122 (fu_s hfu0 a124 (by decide)) hI hH (by have h1 := F120.1; have h2 := a124; omega) (by have h1 := F0_lo0; have h2 := a124; omega) k126 k127 (rg_w r123 (by decide)) nf125 (lv_sub hl [0] rfl)
      · skip
        have r128 : rg r111 0 0 := rf_eql (c_eq c118) h113.1 rl_0 (by decide)
        have F129 := fun q => w117.mpr q c118
        refine lv_aload_n hx hb dX10_next_15 rfl (lv_at hl 0 rfl) ?_
        refine lv_aload_n hx hb dX10_next_16 rfl (lv_at hl 0 rfl) ?_
        refine t_getX C hH hI.1 mq tq td_40 iX10 rfl 7 (by decide) wd1051 rfl k116 dX10_next_17 ?_
        refine lv_bipush (v := (10 : Int32)) hx hb dX10_next_20 (by decide) ?_
        refine lv_bipush (v := (10 : Int32)) hx hb dX10_next_22 (by decide) ?_
        refine t_Vi C hO hl.1 hA hH hI.1 (As := [.int g0_0, .int (10 : Int32), .int (10 : Int32)]) (rest := []) (t_isByte l E J τ L f110 hI.1 mq tq g0_0 Gr0_0 (10 : Int32) (10 : Int32)) my_X10_isByte wd1055 mq tq td_40 rfl rfl rfl (Nat.le_of_ble_eq_true rfl) ⟨Nat.le_of_ble_eq_true rfl, Nat.le_of_ble_eq_true rfl⟩ ⟨rfl, rfl⟩ dX10_next_24 (fun r131 L1 f130 H locs hp hH => ?_)
        obtain ⟨rfl, s132, h133⟩ := hp
        have hJ := hI
        have hI := hI.call s132 (by decide)
        have k134 : fld f130 q 6 (.int tp) := fld.eq k114 (s132.fr q mq (t_lim tq rfl))
        have k135 : fld f130 q 12 (.int bd) := fld.eq k115 (s132.fr q mq (t_lim tq rfl))
        have k136 : fld f130 q 7 (.int g0_0) := fld.eq k116 (s132.fr q mq (t_lim tq rfl))
        have w137 := h133.2 tp q_5 vt k114 (hJ.rf kq_5) ((hJ.fr q_5 mq_5 (t_lim tq_5 rfl)).trans hvt)
        refine lv_if_eq (tgt := 43) hx hb dX10_next_27 (by decide) (fun c138 => ?_) (fun c138 => ?_)
        · skip
          have r139 : rg r131 0 0 := rf_eql (c_eq c138) h133.1 rl_0 (by decide)
          have F140 := fun q => w137.mpr q c138
          refine lv_aload_n hx hb dX10_next_43 rfl (lv_at hl 0 rfl) ?_
          refine lv_aload_n hx hb dX10_next_44 rfl (lv_at hl 0 rfl) ?_
          refine t_getX C hH hI.1 mq tq td_40 iX10 rfl 7 (by decide) wd1051 rfl k136 dX10_next_45 ?_
          refine t_put C hH hI mq tq (by decide) td_40 iX10 tyX10 tyX10_ok nmX10 rfl 9 (by decide) wd1061 rfl rfl (v := .int g0_0) rfl rfl rfl ⟨_, rfl, (rg_w Gr0_0 (by decide))⟩ (fun _ h => nomatch h) dX10_next_48 (fun f141 H locs hH hI nf141 of141 bf141 => ?_)
          have k142 : fld f141 q 6 (.int tp) := of141 6 _ (by decide) k134
          have k143 : fld f141 q 12 (.int bd) := of141 12 _ (by decide) k135
          have k144 : fld f141 q 7 (.int g0_0) := of141 7 _ (by decide) k136
          refine lv_aload_n hx hb dX10_next_51 rfl (lv_at hl 0 rfl) ?_
          refine lv_iconst (v := (0 : Int32)) hx hb dX10_next_52 (by decide) ?_
          refine t_put C hH hI mq tq (by decide) td_40 iX10 tyX10 tyX10_ok nmX10 rfl 10 (by decide) wd1059 rfl rfl (v := .int (0 : Int32)) rfl rfl rfl ⟨_, rfl, (rg_w rl_0 (by decide))⟩ (fun _ h => nomatch h) dX10_next_53 (fun f145 H locs hH hI nf145 of145 bf145 => ?_)
          have k146 : fld f145 q 6 (.int tp) := of145 6 _ (by decide) k142
          have k147 : fld f145 q 12 (.int bd) := of145 12 _ (by decide) k143
          have k148 : fld f145 q 7 (.int g0_0) := of145 7 _ (by decide) k144
          have k149 : fld f145 q 9 (.int g0_0) := of145 9 _ (by decide) nf141
          refine lv_aload_n hx hb dX10_next_56 rfl (lv_at hl 0 rfl) ?_
          refine lv_lconst (v := (0 : Int64)) hx hb dX10_next_57 (by decide) ?_
          refine t_put C hH hI mq tq (by decide) td_40 iX10 tyX10 tyX10_ok nmX10 rfl 11 (by decide) wd1057 rfl rfl (v := .long (0 : Int64)) rfl rfl rfl ⟨_, rfl⟩ (fun _ h => nomatch h) dX10_next_58 (fun f150 H locs hH hI nf150 of150 bf150 => ?_)
          have k151 : fld f150 q 6 (.int tp) := of150 6 _ (by decide) k146
          have k152 : fld f150 q 12 (.int bd) := of150 12 _ (by decide) k147
          have k153 : fld f150 q 7 (.int g0_0) := of150 7 _ (by decide) k148
          have k154 : fld f150 q 9 (.int g0_0) := of150 9 _ (by decide) k149
          have k155 : fld f150 q 10 (.int (0 : Int32)) := of150 10 _ (by decide) nf145
          refine lv_aload_n hx hb dX10_next_61 rfl (lv_at hl 0 rfl) ?_
          refine t_getX C hH hI.1 mq tq td_40 iX10 rfl 7 (by decide) wd1051 rfl k153 dX10_next_62 ?_
          refine lv_aload_n hx hb dX10_next_65 rfl (lv_at hl 0 rfl) ?_
          refine t_getX C hH hI.1 mq tq td_40 iX10 rfl 6 (by decide) wd919 rfl k151 dX10_next_66 ?_
          refine lv_icmp_ne (tgt := 80) hx hb dX10_next_69 (by decide) (fun c156 => ?_) (fun c156 => ?_)
          · skip
            have F157 := sp_ne (n_eq c156) F0_hi0
            have r158 : rg g0_0 0 799 := sp_lt (b := 800) F157 Gr0_0 rtp
            refine lv_aload_n hx hb dX10_next_80 rfl (lv_at hl 0 rfl) ?_
            refine lv_aload_n hx hb dX10_next_81 rfl (lv_at hl 0 rfl) ?_
            refine t_getX C hH hI.1 mq tq td_40 iX10 rfl 7 (by decide) wd1051 rfl k153 dX10_next_82 ?_
            refine lv_bipush (v := (97 : Int32)) hx hb dX10_next_85 (by decide) ?_
            refine lv_bipush (v := (122 : Int32)) hx hb dX10_next_87 (by decide) ?_
            refine t_Vi C hO hl.1 hA hH hI.1 (As := [.int g0_0, .int (97 : Int32), .int (122 : Int32)]) (rest := []) (t_isByte l E J τ L f150 hI.1 mq tq g0_0 (rg_w r158 (by decide)) (97 : Int32) (122 : Int32)) my_X10_isByte wd1055 mq tq td_40 rfl rfl rfl (Nat.le_of_ble_eq_true rfl) ⟨Nat.le_of_ble_eq_true rfl, Nat.le_of_ble_eq_true rfl⟩ ⟨rfl, rfl⟩ dX10_next_89 (fun r160 L1 f159 H locs hp hH => ?_)
            obtain ⟨rfl, s161, h162⟩ := hp
            have hJ := hI
            have hI := hI.call s161 (by decide)
            have k163 : fld f159 q 6 (.int tp) := fld.eq k151 (s161.fr q mq (t_lim tq rfl))
            have k164 : fld f159 q 12 (.int bd) := fld.eq k152 (s161.fr q mq (t_lim tq rfl))
            have k165 : fld f159 q 7 (.int g0_0) := fld.eq k153 (s161.fr q mq (t_lim tq rfl))
            have k166 : fld f159 q 9 (.int g0_0) := fld.eq k154 (s161.fr q mq (t_lim tq rfl))
            have k167 : fld f159 q 10 (.int (0 : Int32)) := fld.eq k155 (s161.fr q mq (t_lim tq rfl))
            have k168 : fld f159 q 11 (.long (0 : Int64)) := fld.eq nf150 (s161.fr q mq (t_lim tq rfl))
            have w169 := h162.2 tp q_5 vt k151 (hJ.rf kq_5) ((hJ.fr q_5 mq_5 (t_lim tq_5 rfl)).trans hvt)
            refine lv_if_eq (tgt := 188) hx hb dX10_next_92 (by decide) (fun c170 => ?_) (fun c170 => ?_)
            · skip
              have r171 : rg r160 0 0 := rf_eql (c_eq c170) h162.1 rl_0 (by decide)
              have F172 := fun q => w169.mpr q c170
              refine lv_aload_n hx hb dX10_next_188 rfl (lv_at hl 0 rfl) ?_
              refine lv_aload_n hx hb dX10_next_189 rfl (lv_at hl 0 rfl) ?_
              refine t_getX C hH hI.1 mq tq td_40 iX10 rfl 7 (by decide) wd1051 rfl k165 dX10_next_190 ?_
              refine lv_bipush (v := (48 : Int32)) hx hb dX10_next_193 (by decide) ?_
              refine lv_bipush (v := (57 : Int32)) hx hb dX10_next_195 (by decide) ?_
              refine t_Vi C hO hl.1 hA hH hI.1 (As := [.int g0_0, .int (48 : Int32), .int (57 : Int32)]) (rest := []) (t_isByte l E J τ L f159 hI.1 mq tq g0_0 (rg_w r158 (by decide)) (48 : Int32) (57 : Int32)) my_X10_isByte wd1055 mq tq td_40 rfl rfl rfl (Nat.le_of_ble_eq_true rfl) ⟨Nat.le_of_ble_eq_true rfl, Nat.le_of_ble_eq_true rfl⟩ ⟨rfl, rfl⟩ dX10_next_197 (fun r174 L1 f173 H locs hp hH => ?_)
              obtain ⟨rfl, s175, h176⟩ := hp
              have hJ := hI
              have hI := hI.call s175 (by decide)
              have k177 : fld f173 q 6 (.int tp) := fld.eq k163 (s175.fr q mq (t_lim tq rfl))
              have k178 : fld f173 q 12 (.int bd) := fld.eq k164 (s175.fr q mq (t_lim tq rfl))
              have k179 : fld f173 q 7 (.int g0_0) := fld.eq k165 (s175.fr q mq (t_lim tq rfl))
              have k180 : fld f173 q 9 (.int g0_0) := fld.eq k166 (s175.fr q mq (t_lim tq rfl))
              have k181 : fld f173 q 10 (.int (0 : Int32)) := fld.eq k167 (s175.fr q mq (t_lim tq rfl))
              have k182 : fld f173 q 11 (.long (0 : Int64)) := fld.eq k168 (s175.fr q mq (t_lim tq rfl))
              have w183 := h176.2 tp q_5 vt k163 (hJ.rf kq_5) ((hJ.fr q_5 mq_5 (t_lim tq_5 rfl)).trans hvt)
              refine lv_if_eq (tgt := 274) hx hb dX10_next_200 (by decide) (fun c184 => ?_) (fun c184 => ?_)
              · skip
                have r185 : rg r174 0 0 := rf_eql (c_eq c184) h176.1 rl_0 (by decide)
                have F186 := fun q => w183.mpr q c184
                refine lv_aload_n hx hb dX10_next_274 rfl (lv_at hl 0 rfl) ?_
                refine lv_aload_n hx hb dX10_next_275 rfl (lv_at hl 0 rfl) ?_
                refine t_getX C hH hI.1 mq tq td_40 iX10 rfl 5 (by decide) wd1046 rfl (hI.rf kq_5) dX10_next_276 ?_
                refine lv_aload_n hx hb dX10_next_279 rfl (lv_at hl 0 rfl) ?_
                refine t_getX C hH hI.1 mq tq td_40 iX10 rfl 7 (by decide) wd1051 rfl k179 dX10_next_280 ?_
                refine t_bald C hH hI.1 mq_5 tq_5 td_45 (rg_in r158 (by decide)) dX10_next_283 (fun z187 => ?_)
                refine lv_bipush (v := (59 : Int32)) hx hb dX10_next_284 (by decide) ?_
                refine lv_icmp_ne (tgt := 293) hx hb dX10_next_286 (by decide) (fun c188 => ?_) (fun c188 => ?_)
                · skip
                  refine lv_iconst (v := (4 : Int32)) hx hb dX10_next_293 (by decide) ?_
                  refine t_put C hH hI mq tq (by decide) td_40 iX10 tyX10 tyX10_ok nmX10 rfl 8 (by decide) wd1062 rfl rfl (v := .int (4 : Int32)) rfl rfl rfl ⟨_, rfl, (rg_w rl_4 (by decide))⟩ (fun _ h => nomatch h) dX10_next_294 (fun f189 H locs hH hI nf189 of189 bf189 => ?_)
                  have k190 : fld f189 q 6 (.int tp) := of189 6 _ (by decide) k177
                  have k191 : fld f189 q 12 (.int bd) := of189 12 _ (by decide) k178
                  have k192 : fld f189 q 7 (.int g0_0) := of189 7 _ (by decide) k179
                  have k193 : fld f189 q 9 (.int g0_0) := of189 9 _ (by decide) k180
                  have k194 : fld f189 q 10 (.int (0 : Int32)) := of189 10 _ (by decide) k181
                  have k195 : fld f189 q 11 (.long (0 : Int64)) := of189 11 _ (by decide) k182
                  refine lv_aload_n hx hb dX10_next_297 rfl (lv_at hl 0 rfl) ?_
                  refine lv_dup hx hb dX10_next_298 rfl ?_
                  refine t_getX C hH hI.1 mq tq td_40 iX10 rfl 7 (by decide) wd1051 rfl k192 dX10_next_299 ?_
                  refine lv_iconst (v := (1 : Int32)) hx hb dX10_next_302 (by decide) ?_
                  refine lv_iadd hx hb dX10_next_303 ?_
                  refine lv_topi (fun z196 ez196 => ?_)
                  have r197 : rg z196 1 800 := rg_add ez196 r158 rl_1 (by decide)
                  have a198 : z196.toInt = g0_0.toInt + 1 := ai_add ez196 r158 tl_1 (by decide)
                  refine t_put C hH hI mq tq (by decide) td_40 iX10 tyX10 tyX10_ok nmX10 rfl 7 (by decide) wd1051 rfl rfl (v := .int z196) rfl rfl rfl ⟨_, rfl, (rg_w r197 (by decide))⟩ (fun _ h => nomatch h) dX10_next_304 (fun f199 H locs hH hI nf199 of199 bf199 => ?_)
                  have k200 : fld f199 q 6 (.int tp) := of199 6 _ (by decide) k190
                  have k201 : fld f199 q 12 (.int bd) := of199 12 _ (by decide) k191
                  have k202 : fld f199 q 9 (.int g0_0) := of199 9 _ (by decide) k193
                  have k203 : fld f199 q 10 (.int (0 : Int32)) := of199 10 _ (by decide) k194
                  have k204 : fld f199 q 11 (.long (0 : Int64)) := of199 11 _ (by decide) k195
                  have k205 : fld f199 q 8 (.int (4 : Int32)) := of199 8 _ (by decide) nf189
                  exact g_vret C hr hH (Nat.zero_le _) (Nat.zero_le _) dX10_next_307 ⟨rfl, hI, ⟨_, _, nf199, k200, k205, k201, (by have h1 := F0_lo0; have h2 := a198; omega), (by have h1 := F157; have h2 := a198; omega), (Or.inr (by have h1 := F0_lo0; have h2 := a198; omega))⟩⟩
                · skip
                  have r206 : rg z187 59 59 := rf_eql (c_eq c188) (rg_all _) rl_59 (by decide)
                  refine lv_iconst (v := (3 : Int32)) hx hb dX10_next_289 (by decide) ?_
                  refine lv_goto (tgt := 294) hx hb dX10_next_290 (by decide) ?_
                  refine t_put C hH hI mq tq (by decide) td_40 iX10 tyX10 tyX10_ok nmX10 rfl 8 (by decide) wd1062 rfl rfl (v := .int (3 : Int32)) rfl rfl rfl ⟨_, rfl, (rg_w rl_3 (by decide))⟩ (fun _ h => nomatch h) dX10_next_294 (fun f207 H locs hH hI nf207 of207 bf207 => ?_)
                  have k208 : fld f207 q 6 (.int tp) := of207 6 _ (by decide) k177
                  have k209 : fld f207 q 12 (.int bd) := of207 12 _ (by decide) k178
                  have k210 : fld f207 q 7 (.int g0_0) := of207 7 _ (by decide) k179
                  have k211 : fld f207 q 9 (.int g0_0) := of207 9 _ (by decide) k180
                  have k212 : fld f207 q 10 (.int (0 : Int32)) := of207 10 _ (by decide) k181
                  have k213 : fld f207 q 11 (.long (0 : Int64)) := of207 11 _ (by decide) k182
                  refine lv_aload_n hx hb dX10_next_297 rfl (lv_at hl 0 rfl) ?_
                  refine lv_dup hx hb dX10_next_298 rfl ?_
                  refine t_getX C hH hI.1 mq tq td_40 iX10 rfl 7 (by decide) wd1051 rfl k210 dX10_next_299 ?_
                  refine lv_iconst (v := (1 : Int32)) hx hb dX10_next_302 (by decide) ?_
                  refine lv_iadd hx hb dX10_next_303 ?_
                  refine lv_topi (fun z214 ez214 => ?_)
                  have r215 : rg z214 1 800 := rg_add ez214 r158 rl_1 (by decide)
                  have a216 : z214.toInt = g0_0.toInt + 1 := ai_add ez214 r158 tl_1 (by decide)
                  refine t_put C hH hI mq tq (by decide) td_40 iX10 tyX10 tyX10_ok nmX10 rfl 7 (by decide) wd1051 rfl rfl (v := .int z214) rfl rfl rfl ⟨_, rfl, (rg_w r215 (by decide))⟩ (fun _ h => nomatch h) dX10_next_304 (fun f217 H locs hH hI nf217 of217 bf217 => ?_)
                  have k218 : fld f217 q 6 (.int tp) := of217 6 _ (by decide) k208
                  have k219 : fld f217 q 12 (.int bd) := of217 12 _ (by decide) k209
                  have k220 : fld f217 q 9 (.int g0_0) := of217 9 _ (by decide) k211
                  have k221 : fld f217 q 10 (.int (0 : Int32)) := of217 10 _ (by decide) k212
                  have k222 : fld f217 q 11 (.long (0 : Int64)) := of217 11 _ (by decide) k213
                  have k223 : fld f217 q 8 (.int (3 : Int32)) := of217 8 _ (by decide) nf207
                  exact g_vret C hr hH (Nat.zero_le _) (Nat.zero_le _) dX10_next_307 ⟨rfl, hI, ⟨_, _, nf217, k218, k223, k219, (by have h1 := F0_lo0; have h2 := a216; omega), (by have h1 := F157; have h2 := a216; omega), (Or.inr (by have h1 := F0_lo0; have h2 := a216; omega))⟩⟩
              · skip
                have r224 : rg r174 1 1 := rf_nel (n_eq c184) h176.1 rl_0 (by decide)
                have F225 := w183.mp c184
                have r226 : rg g0_0 0 799 := sp_lt (b := 800) F225.1 (rg_w r158 (by decide)) rtp
                refine lv_aload_n hx hb dX10_next_203 rfl (lv_at hl 0 rfl) ?_
                refine lv_iconst (v := (2 : Int32)) hx hb dX10_next_204 (by decide) ?_
                refine t_put C hH hI mq tq (by decide) td_40 iX10 tyX10 tyX10_ok nmX10 rfl 8 (by decide) wd1062 rfl rfl (v := .int (2 : Int32)) rfl rfl rfl ⟨_, rfl, (rg_w rl_2 (by decide))⟩ (fun _ h => nomatch h) dX10_next_205 (fun f227 H locs hH hI nf227 of227 bf227 => ?_)
                have k228 : fld f227 q 6 (.int tp) := of227 6 _ (by decide) k177
                have k229 : fld f227 q 12 (.int bd) := of227 12 _ (by decide) k178
                have k230 : fld f227 q 7 (.int g0_0) := of227 7 _ (by decide) k179
                have k231 : fld f227 q 9 (.int g0_0) := of227 9 _ (by decide) k180
                have k232 : fld f227 q 10 (.int (0 : Int32)) := of227 10 _ (by decide) k181
                have k233 : fld f227 q 11 (.long (0 : Int64)) := of227 11 _ (by decide) k182
                exact cut208 801 _ _ _ _ g0_0 (fu_i 801 r226 (by decide)) hI hH F0_hi0 F0_lo0 (Or.inr F225) k228 k229 nf227 (rg_w r226 (by decide)) k230 (lv_sub hl [0] rfl)
            · skip
              have r234 : rg r160 1 1 := rf_nel (n_eq c170) h162.1 rl_0 (by decide)
              have F235 := w169.mp c170
              have r236 : rg g0_0 0 799 := sp_lt (b := 800) F235.1 (rg_w r158 (by decide)) rtp
              refine lv_aload_n hx hb dX10_next_95 rfl (lv_at hl 0 rfl) ?_
              refine lv_iconst (v := (1 : Int32)) hx hb dX10_next_96 (by decide) ?_
              refine t_put C hH hI mq tq (by decide) td_40 iX10 tyX10 tyX10_ok nmX10 rfl 8 (by decide) wd1062 rfl rfl (v := .int (1 : Int32)) rfl rfl rfl ⟨_, rfl, (rg_w rl_1 (by decide))⟩ (fun _ h => nomatch h) dX10_next_97 (fun f237 H locs hH hI nf237 of237 bf237 => ?_)
              have k238 : fld f237 q 6 (.int tp) := of237 6 _ (by decide) k163
              have k239 : fld f237 q 12 (.int bd) := of237 12 _ (by decide) k164
              have k240 : fld f237 q 7 (.int g0_0) := of237 7 _ (by decide) k165
              have k241 : fld f237 q 9 (.int g0_0) := of237 9 _ (by decide) k166
              have k242 : fld f237 q 10 (.int (0 : Int32)) := of237 10 _ (by decide) k167
              have k243 : fld f237 q 11 (.long (0 : Int64)) := of237 11 _ (by decide) k168
              refine lv_iconst (v := (0 : Int32)) hx hb dX10_next_100 (by decide) ?_
              refine lv_istore_n (lv' := [(1, .int (0 : Int32)), (0, .ref q)]) hx hb dX10_next_101 rfl hl (by decide) rfl (fun ls hl => ?_)
              exact cut102 801 _ _ _ _ (0 : Int32) g0_0 (fu_i 801 r236 (by decide)) hI hH F0_hi0 F0_lo0 (Or.inr F235) k238 k239 nf237 (rg_w r236 (by decide)) k240 (lv_sub hl [1, 0] rfl)
          · skip
            refine lv_aload_n hx hb dX10_next_72 rfl (lv_at hl 0 rfl) ?_
            refine lv_iconst (v := (0 : Int32)) hx hb dX10_next_73 (by decide) ?_
            refine t_put C hH hI mq tq (by decide) td_40 iX10 tyX10 tyX10_ok nmX10 rfl 8 (by decide) wd1062 rfl rfl (v := .int (0 : Int32)) rfl rfl rfl ⟨_, rfl, (rg_w rl_0 (by decide))⟩ (fun _ h => nomatch h) dX10_next_74 (fun f244 H locs hH hI nf244 of244 bf244 => ?_)
            have k245 : fld f244 q 6 (.int tp) := of244 6 _ (by decide) k151
            have k246 : fld f244 q 12 (.int bd) := of244 12 _ (by decide) k152
            have k247 : fld f244 q 7 (.int g0_0) := of244 7 _ (by decide) k153
            have k248 : fld f244 q 9 (.int g0_0) := of244 9 _ (by decide) k154
            have k249 : fld f244 q 10 (.int (0 : Int32)) := of244 10 _ (by decide) k155
            have k250 : fld f244 q 11 (.long (0 : Int64)) := of244 11 _ (by decide) nf150
            refine lv_goto (tgt := 307) hx hb dX10_next_77 (by decide) ?_
            exact g_vret C hr hH (Nat.zero_le _) (Nat.zero_le _) dX10_next_307 ⟨rfl, hI, ⟨_, _, k247, k245, nf244, k246, F0_lo0, F0_hi0, (Or.inl rfl)⟩⟩
        · skip
          have r251 : rg r131 1 1 := rf_nel (n_eq c138) h133.1 rl_0 (by decide)
          have F252 := w137.mp c138
          have r253 : rg g0_0 0 799 := sp_lt (b := 800) F252.1 Gr0_0 rtp
          refine lv_aload_n hx hb dX10_next_30 rfl (lv_at hl 0 rfl) ?_
          refine lv_dup hx hb dX10_next_31 rfl ?_
          refine t_getX C hH hI.1 mq tq td_40 iX10 rfl 7 (by decide) wd1051 rfl k136 dX10_next_32 ?_
          refine lv_iconst (v := (1 : Int32)) hx hb dX10_next_35 (by decide) ?_
          refine lv_iadd hx hb dX10_next_36 ?_
          refine lv_topi (fun z254 ez254 => ?_)
          have r255 : rg z254 1 800 := rg_add ez254 r253 rl_1 (by decide)
          have a256 : z254.toInt = g0_0.toInt + 1 := ai_add ez254 r253 tl_1 (by decide)
          refine t_put C hH hI mq tq (by decide) td_40 iX10 tyX10 tyX10_ok nmX10 rfl 7 (by decide) wd1051 rfl rfl (v := .int z254) rfl rfl rfl ⟨_, rfl, (rg_w r255 (by decide))⟩ (fun _ h => nomatch h) dX10_next_37 (fun f257 H locs hH hI nf257 of257 bf257 => ?_)
          have k258 : fld f257 q 6 (.int tp) := of257 6 _ (by decide) k134
          have k259 : fld f257 q 12 (.int bd) := of257 12 _ (by decide) k135
          refine lv_goto (tgt := 0) hx hb dX10_next_40 (by decide) ?_
          exact ih0 _ _ _ _ z254 (fu_s hfu0 a256 (by decide)) hI hH (by have h1 := F252.1; have h2 := a256; omega) (by have h1 := F0_lo0; have h2 := a256; omega) k258 k259 (rg_w r255 (by decide)) nf257 (lv_sub hl [0] rfl)
  exact cut0 801 _ _ _ _ sp (fu_i 801 rsp (by decide)) hI hH hle (Int.le_refl _) htp hbd rsp hsp (lv_sub hl [0] rfl)
set_option maxHeartbeats 4000000 in
set_option maxRecDepth 100000 in
theorem t_X10_isGood (l : Launch) (E : gE) (J : Nat → Nat) (τ : Nat → Nat) (L : List Nat) (f : gF) (hI : tI E L τ f) {q : Nat} (mq : q ∈ L) (tq : τ q = 40) : tMi l E J yX10_isGood cX10_isGood 1 .boolean (gRm (1) 0 0) [.ref q] L f (tPi E L τ [] f (fun r f1 => rg r 0 1 ∧ (∀ b : Int32, fld f q 12 (.int b) → (¬ r = 0 ↔ b = 0)))) := by
  refine tMi.intro (by decide) (Nat.le_of_ble_eq_true rfl) ?_
  intro p e s m below meth c A ls C hr hA hO hH hl
  have C : gC E cX10_isGood 1 RX10 p s m _ meth c := C
  have hl : lv_has ls 1 [(0, .ref q)] := hl
  have hx := C.1
  have hb := C.2.1
  have hI := hI.S []
  refine lv_aload_n hx hb dX10_isGood_0 rfl (lv_at hl 0 rfl) ?_
  obtain ⟨z1, rz1, kz1⟩ := t_fldi hI.1 mq tq td_40 (k := 12) rfl
  refine t_getX C hH hI.1 mq tq td_40 iX10 rfl 12 (by decide) wd1063 rfl kz1 dX10_isGood_1 ?_
  refine lv_if_ne (tgt := 11) hx hb dX10_isGood_4 (by decide) (fun c2 => ?_) (fun c2 => ?_)
  · skip
    refine lv_iconst (v := (0 : Int32)) hx hb dX10_isGood_11 (by decide) ?_
    exact g_zret C hr (rg_z (rg_w rl_0 (by decide))) hH (Nat.zero_le _) (Nat.zero_le _) dX10_isGood_12 ⟨rfl, hI, ⟨(rg_w rl_0 (by decide)), (fun b h => by have e := fld_inj h kz1; subst e; exact ⟨fun h => absurd rfl h, fun h => absurd h c2⟩)⟩⟩
  · skip
    have r3 : rg z1 0 0 := rf_eql (c_eq c2) rz1 rl_0 (by decide)
    refine lv_iconst (v := (1 : Int32)) hx hb dX10_isGood_7 (by decide) ?_
    refine lv_goto (tgt := 12) hx hb dX10_isGood_8 (by decide) ?_
    exact g_zret C hr (rg_z (rg_w rl_1 (by decide))) hH (Nat.zero_le _) (Nat.zero_le _) dX10_isGood_12 ⟨rfl, hI, ⟨(rg_w rl_1 (by decide)), (fun b h => by have e := fld_inj h kz1; subst e; exact ⟨fun _ => c2, fun _ => by decide⟩)⟩⟩
set_option maxHeartbeats 4000000 in
set_option maxRecDepth 100000 in
theorem t_X10_fails (l : Launch) (E : gE) (J : Nat → Nat) (τ : Nat → Nat) (L : List Nat) (f : gF) (hI : tI E L τ f) {q : Nat} (mq : q ∈ L) (tq : τ q = 40) (p1 : Int32) (rp1 : rg p1 1 3) {sp tp bd : Int32} (hsp : fld f q 7 (.int sp)) (htp : fld f q 6 (.int tp)) (hbd : fld f q 12 (.int bd)) (hle : sp.toInt ≤ tp.toInt) (rsp : rg sp 0 800) (rtp : rg tp 0 800) : tMv l E J yX10_fails cX10_fails 2 (gRm (1) 0 0) [.ref q, .int p1] L f (tPv E L τ [40] f (fun f1 => (∃ sp1 bd1 : Int32, fld f1 q 7 (.int sp1) ∧ fld f1 q 6 (.int tp) ∧ fld f1 q 12 (.int bd1) ∧ sp.toInt ≤ sp1.toInt ∧ sp1.toInt ≤ tp.toInt ∧ ¬ bd1 = 0))) := by
  refine tMv.intro (by decide) (Nat.le_of_ble_eq_true rfl) ?_
  intro p e s m below meth c A ls C hr hA hO hH hl
  have C : gC E cX10_fails 2 RX10 p s m _ meth c := C
  have hl : lv_has ls 2 [(0, .ref q), (1, .int p1)] := hl
  have hx := C.1
  have hb := C.2.1
  have hI := hI.S [40]
  refine lv_aload_n hx hb dX10_fails_0 rfl (lv_at hl 0 rfl) ?_
  refine t_getX C hH hI.1 mq tq td_40 iX10 rfl 12 (by decide) wd1063 rfl hbd dX10_fails_1 ?_
  refine lv_if_eq (tgt := 8) hx hb dX10_fails_4 (by decide) (fun c1 => ?_) (fun c1 => ?_)
  · skip
    have r2 : rg bd 0 0 := rf_eql (c_eq c1) (rg_all _) rl_0 (by decide)
    refine lv_aload_n hx hb dX10_fails_8 rfl (lv_at hl 0 rfl) ?_
    refine lv_iload_n hx hb dX10_fails_9 rfl (lv_at hl 1 rfl) ?_
    refine t_put C hH hI mq tq (by decide) td_40 iX10 tyX10 tyX10_ok nmX10 rfl 12 (by decide) wd1063 rfl rfl (v := .int p1) rfl rfl rfl ⟨_, rfl, (rg_w rp1 (by decide))⟩ (fun _ h => nomatch h) dX10_fails_10 (fun f3 H locs hH hI nf3 of3 bf3 => ?_)
    have k4 : fld f3 q 7 (.int sp) := of3 7 _ (by decide) hsp
    have k5 : fld f3 q 6 (.int tp) := of3 6 _ (by decide) htp
    refine lv_aload_n hx hb dX10_fails_13 rfl (lv_at hl 0 rfl) ?_
    refine lv_aload_n hx hb dX10_fails_14 rfl (lv_at hl 0 rfl) ?_
    obtain ⟨z6, rz6, kz6⟩ := t_fldi hI.1 mq tq td_40 (k := 9) rfl
    refine t_getX C hH hI.1 mq tq td_40 iX10 rfl 9 (by decide) wd1061 rfl kz6 dX10_fails_15 ?_
    refine t_put C hH hI mq tq (by decide) td_40 iX10 tyX10 tyX10_ok nmX10 rfl 13 (by decide) wd1064 rfl rfl (v := .int z6) rfl rfl rfl ⟨_, rfl, rz6⟩ (fun _ h => nomatch h) dX10_fails_18 (fun f7 H locs hH hI nf7 of7 bf7 => ?_)
    have k8 : fld f7 q 7 (.int sp) := of7 7 _ (by decide) k4
    have k9 : fld f7 q 6 (.int tp) := of7 6 _ (by decide) k5
    have k10 : fld f7 q 12 (.int p1) := of7 12 _ (by decide) nf3
    have k11 : fld f7 q 9 (.int z6) := of7 9 _ (by decide) kz6
    exact g_vret C hr hH (Nat.zero_le _) (Nat.zero_le _) dX10_fails_21 ⟨rfl, hI, ⟨_, _, k8, k9, k10, (Int.le_refl sp.toInt), hle, rg_ne0 rp1 (by decide)⟩⟩
  · skip
    exact g_vret C hr hH (Nat.zero_le _) (Nat.zero_le _) dX10_fails_7 ⟨rfl, hI, ⟨_, _, hsp, htp, hbd, (Int.le_refl sp.toInt), hle, c1⟩⟩
set_option maxHeartbeats 4000000 in
set_option maxRecDepth 100000 in
theorem t_X10_is (l : Launch) (E : gE) (J : Nat → Nat) (τ : Nat → Nat) (L : List Nat) (f : gF) (hI : tI E L τ f) {q : Nat} (mq : q ∈ L) (tq : τ q = 40) (p1 : Int64) : tMi l E J yX10_is cX10_is 3 .boolean (gRm (1) 0 0) [.ref q, .long p1] L f (tPi E L τ [] f (fun r f1 => rg r 0 1)) := by
  refine tMi.intro (by decide) (Nat.le_of_ble_eq_true rfl) ?_
  intro p e s m below meth c A ls C hr hA hO hH hl
  have C : gC E cX10_is 3 RX10 p s m _ meth c := C
  have hl : lv_has ls 3 [(0, .ref q), (1, .long p1)] := hl
  have hx := C.1
  have hb := C.2.1
  have hI := hI.S []
  refine lv_aload_n hx hb dX10_is_0 rfl (lv_at hl 0 rfl) ?_
  refine t_geti C hH hI.1 mq tq td_40 iX10 rfl 12 (by decide) wd1063 rfl rfl dX10_is_1 (fun z1 rz1 => ?_)
  refine lv_if_ne (tgt := 28) hx hb dX10_is_4 (by decide) (fun c2 => ?_) (fun c2 => ?_)
  · skip
    refine lv_iconst (v := (0 : Int32)) hx hb dX10_is_28 (by decide) ?_
    exact g_zret C hr (rg_z (rg_w rl_0 (by decide))) hH (Nat.zero_le _) (Nat.zero_le _) dX10_is_29 ⟨rfl, hI, (rg_w rl_0 (by decide))⟩
  · skip
    have r3 : rg z1 0 0 := rf_eql (c_eq c2) rz1 rl_0 (by decide)
    refine lv_aload_n hx hb dX10_is_7 rfl (lv_at hl 0 rfl) ?_
    refine t_geti C hH hI.1 mq tq td_40 iX10 rfl 8 (by decide) wd1062 rfl rfl dX10_is_8 (fun z4 rz4 => ?_)
    refine lv_iconst (v := (1 : Int32)) hx hb dX10_is_11 (by decide) ?_
    refine lv_icmp_ne (tgt := 28) hx hb dX10_is_12 (by decide) (fun c5 => ?_) (fun c5 => ?_)
    · skip
      refine lv_iconst (v := (0 : Int32)) hx hb dX10_is_28 (by decide) ?_
      exact g_zret C hr (rg_z (rg_w rl_0 (by decide))) hH (Nat.zero_le _) (Nat.zero_le _) dX10_is_29 ⟨rfl, hI, (rg_w rl_0 (by decide))⟩
    · skip
      have r6 : rg z4 1 1 := rf_eql (c_eq c5) rz4 rl_1 (by decide)
      refine lv_aload_n hx hb dX10_is_15 rfl (lv_at hl 0 rfl) ?_
      refine t_getl C hH hI.1 mq tq td_40 iX10 rfl 11 (by decide) wd1057 rfl rfl dX10_is_16 (fun z7 => ?_)
      refine lv_lload_n hx hb dX10_is_19 rfl (lv_at hl 1 rfl) ?_
      refine W.lcmp hx hb dX10_is_20 ?_
      refine lv_topi (fun z8 ez8 => ?_)
      refine lv_if_ne (tgt := 28) hx hb dX10_is_21 (by decide) (fun c9 => ?_) (fun c9 => ?_)
      · skip
        refine lv_iconst (v := (0 : Int32)) hx hb dX10_is_28 (by decide) ?_
        exact g_zret C hr (rg_z (rg_w rl_0 (by decide))) hH (Nat.zero_le _) (Nat.zero_le _) dX10_is_29 ⟨rfl, hI, (rg_w rl_0 (by decide))⟩
      · skip
        have r10 : rg z8 0 0 := rf_eql (c_eq c9) (rg_all _) rl_0 (by decide)
        refine lv_iconst (v := (1 : Int32)) hx hb dX10_is_24 (by decide) ?_
        refine lv_goto (tgt := 29) hx hb dX10_is_25 (by decide) ?_
        exact g_zret C hr (rg_z (rg_w rl_1 (by decide))) hH (Nat.zero_le _) (Nat.zero_le _) dX10_is_29 ⟨rfl, hI, (rg_w rl_1 (by decide))⟩
set_option maxHeartbeats 4000000 in
set_option maxRecDepth 100000 in
theorem t_X10_takes (l : Launch) (E : gE) (J : Nat → Nat) (τ : Nat → Nat) (L : List Nat) (f : gF) (hI : tI E L τ f) {q : Nat} (mq : q ∈ L) (tq : τ q = 40) (p1 : Int64) {sp tp bd : Int32} (hsp : fld f q 7 (.int sp)) (htp : fld f q 6 (.int tp)) (hbd : fld f q 12 (.int bd)) (hle : sp.toInt ≤ tp.toInt) (rsp : rg sp 0 800) (rtp : rg tp 0 800) : tMi l E J yX10_takes cX10_takes 3 .boolean (gRm (2) 0 0) [.ref q, .long p1] L f (tPi E L τ [40] f (fun r f1 => rg r 0 1 ∧ (∃ sp1 bd1 : Int32, fld f1 q 7 (.int sp1) ∧ fld f1 q 6 (.int tp) ∧ fld f1 q 12 (.int bd1) ∧ sp.toInt ≤ sp1.toInt ∧ sp1.toInt ≤ tp.toInt))) := by
  refine tMi.intro (by decide) (Nat.le_of_ble_eq_true rfl) ?_
  intro p e s m below meth c A ls C hr hA hO hH hl
  have C : gC E cX10_takes 3 RX10 p s m _ meth c := C
  have hl : lv_has ls 3 [(0, .ref q), (1, .long p1)] := hl
  have hx := C.1
  have hb := C.2.1
  have hI := hI.S [40]
  refine lv_aload_n hx hb dX10_takes_0 rfl (lv_at hl 0 rfl) ?_
  refine lv_lload_n hx hb dX10_takes_1 rfl (lv_at hl 1 rfl) ?_
  refine t_Vi C hO hl.1 hA hH hI.1 (As := [.long p1]) (rest := []) (t_X10_is l E J τ L f hI.1 mq tq p1) my_X10_is wd1068 mq tq td_40 rfl rfl rfl (Nat.le_of_ble_eq_true rfl) ⟨Nat.le_of_ble_eq_true rfl, Nat.le_of_ble_eq_true rfl⟩ ⟨rfl, rfl⟩ dX10_takes_2 (fun r2 L1 f1 H locs hp hH => ?_)
  obtain ⟨rfl, s3, h4⟩ := hp
  have hI := hI.call s3 (by decide)
  have k5 : fld f1 q 7 (.int sp) := fld.eq hsp (s3.fr q mq (t_lim tq rfl))
  have k6 : fld f1 q 6 (.int tp) := fld.eq htp (s3.fr q mq (t_lim tq rfl))
  have k7 : fld f1 q 12 (.int bd) := fld.eq hbd (s3.fr q mq (t_lim tq rfl))
  refine lv_if_ne (tgt := 10) hx hb dX10_takes_5 (by decide) (fun c8 => ?_) (fun c8 => ?_)
  · skip
    have r9 : rg r2 1 1 := rf_nel (n_eq c8) h4 rl_0 (by decide)
    refine lv_aload_n hx hb dX10_takes_10 rfl (lv_at hl 0 rfl) ?_
    refine t_Vv C hO hl.1 hA hH hI.1 (As := []) (rest := []) (t_X10_next l E J τ L f1 hI.1 mq tq k5 k6 k7 hle rsp rtp) my_X10_next wd1072 mq tq td_40 rfl rfl rfl (Nat.le_of_ble_eq_true rfl) ⟨Nat.le_of_ble_eq_true rfl, Nat.le_of_ble_eq_true rfl⟩ ⟨rfl, rfl⟩ dX10_takes_11 (fun L1 f10 H locs hp hH => ?_)
    obtain ⟨rfl, s12, h13⟩ := hp
    have hJ := hI
    have hI := hI.call s12 (by decide)
    obtain ⟨sp14, tk15, k16, k17, k18, k19, lo20, hi21, pr22⟩ := h13
    have r23 : rg sp14 0 800 := sp_rg rsp lo20 hi21 rtp
    have lo24 : sp.toInt ≤ sp14.toInt := Int.le_trans (Int.le_refl sp.toInt) lo20
    refine lv_iconst (v := (1 : Int32)) hx hb dX10_takes_14 (by decide) ?_
    exact g_zret C hr (rg_z (rg_w rl_1 (by decide))) hH (Nat.zero_le _) (Nat.zero_le _) dX10_takes_15 ⟨rfl, hI, ⟨(rg_w rl_1 (by decide)), ⟨_, _, k16, k17, k19, lo24, hi21⟩⟩⟩
  · skip
    have r25 : rg r2 0 0 := rf_eql (c_eq c8) h4 rl_0 (by decide)
    refine lv_iconst (v := (0 : Int32)) hx hb dX10_takes_8 (by decide) ?_
    exact g_zret C hr (rg_z (rg_w rl_0 (by decide))) hH (Nat.zero_le _) (Nat.zero_le _) dX10_takes_9 ⟨rfl, hI, ⟨(rg_w rl_0 (by decide)), ⟨_, _, k5, k6, k7, (Int.le_refl sp.toInt), hle⟩⟩⟩
set_option maxHeartbeats 4000000 in
set_option maxRecDepth 100000 in
theorem t_X10_asks (l : Launch) (E : gE) (J : Nat → Nat) (τ : Nat → Nat) (L : List Nat) (f : gF) (hI : tI E L τ f) {q : Nat} (mq : q ∈ L) (tq : τ q = 40) (p1 : Int64) {sp tp bd : Int32} (hsp : fld f q 7 (.int sp)) (htp : fld f q 6 (.int tp)) (hbd : fld f q 12 (.int bd)) (hle : sp.toInt ≤ tp.toInt) (rsp : rg sp 0 800) (rtp : rg tp 0 800) : tMv l E J yX10_asks cX10_asks 3 (gRm (3) 0 0) [.ref q, .long p1] L f (tPv E L τ [40] f (fun f1 => (∃ sp1 bd1 : Int32, fld f1 q 7 (.int sp1) ∧ fld f1 q 6 (.int tp) ∧ fld f1 q 12 (.int bd1) ∧ sp.toInt ≤ sp1.toInt ∧ sp1.toInt ≤ tp.toInt))) := by
  refine tMv.intro (by decide) (Nat.le_of_ble_eq_true rfl) ?_
  intro p e s m below meth c A ls C hr hA hO hH hl
  have C : gC E cX10_asks 3 RX10 p s m _ meth c := C
  have hl : lv_has ls 3 [(0, .ref q), (1, .long p1)] := hl
  have hx := C.1
  have hb := C.2.1
  have hI := hI.S [40]
  refine lv_aload_n hx hb dX10_asks_0 rfl (lv_at hl 0 rfl) ?_
  refine lv_lload_n hx hb dX10_asks_1 rfl (lv_at hl 1 rfl) ?_
  refine t_Vi C hO hl.1 hA hH hI.1 (As := [.long p1]) (rest := []) (t_X10_takes l E J τ L f hI.1 mq tq p1 hsp htp hbd hle rsp rtp) my_X10_takes wd1076 mq tq td_40 rfl rfl rfl (Nat.le_of_ble_eq_true rfl) ⟨Nat.le_of_ble_eq_true rfl, Nat.le_of_ble_eq_true rfl⟩ ⟨rfl, rfl⟩ dX10_asks_2 (fun r2 L1 f1 H locs hp hH => ?_)
  obtain ⟨rfl, s3, h4⟩ := hp
  have hJ := hI
  have hI := hI.call s3 (by decide)
  obtain ⟨sp5, bd6, k7, k8, k9, lo10, hi11⟩ := h4.2
  have r12 : rg sp5 0 800 := sp_rg rsp lo10 hi11 rtp
  have lo13 : sp.toInt ≤ sp5.toInt := Int.le_trans (Int.le_refl sp.toInt) lo10
  refine lv_if_ne (tgt := 13) hx hb dX10_asks_5 (by decide) (fun c14 => ?_) (fun c14 => ?_)
  · skip
    have r15 : rg r2 1 1 := rf_nel (n_eq c14) h4.1 rl_0 (by decide)
    exact g_vret C hr hH (Nat.zero_le _) (Nat.zero_le _) dX10_asks_13 ⟨rfl, hI, ⟨_, _, k7, k8, k9, lo13, hi11⟩⟩
  · skip
    have r16 : rg r2 0 0 := rf_eql (c_eq c14) h4.1 rl_0 (by decide)
    refine lv_aload_n hx hb dX10_asks_8 rfl (lv_at hl 0 rfl) ?_
    refine lv_iconst (v := (1 : Int32)) hx hb dX10_asks_9 (by decide) ?_
    refine t_Vv C hO hl.1 hA hH hI.1 (As := [.int (1 : Int32)]) (rest := []) (t_X10_fails l E J τ L f1 hI.1 mq tq (1 : Int32) (rg_w rl_1 (by decide)) k7 k8 k9 hi11 r12 rtp) my_X10_fails wd1080 mq tq td_40 rfl rfl rfl (Nat.le_of_ble_eq_true rfl) ⟨Nat.le_of_ble_eq_true rfl, Nat.le_of_ble_eq_true rfl⟩ ⟨rfl, rfl⟩ dX10_asks_10 (fun L1 f17 H locs hp hH => ?_)
    obtain ⟨rfl, s19, h20⟩ := hp
    have hJ := hI
    have hI := hI.call s19 (by decide)
    obtain ⟨sp21, bd22, k23, k24, k25, lo26, hi27, x28⟩ := h20
    have r29 : rg sp21 0 800 := sp_rg r12 lo26 hi27 rtp
    have lo30 : sp.toInt ≤ sp21.toInt := Int.le_trans lo13 lo26
    exact g_vret C hr hH (Nat.zero_le _) (Nat.zero_le _) dX10_asks_13 ⟨rfl, hI, ⟨_, _, k23, k24, k25, lo30, hi27⟩⟩
set_option maxHeartbeats 4000000 in
set_option maxRecDepth 100000 in
theorem t_X10_number (l : Launch) (E : gE) (J : Nat → Nat) (τ : Nat → Nat) (L : List Nat) (f : gF) (hI : tI E L τ f) {q : Nat} (mq : q ∈ L) (tq : τ q = 40) (p1 : Int32) (p2 : Int32) {sp tp bd : Int32} (hsp : fld f q 7 (.int sp)) (htp : fld f q 6 (.int tp)) (hbd : fld f q 12 (.int bd)) (hle : sp.toInt ≤ tp.toInt) (rsp : rg sp 0 800) (rtp : rg tp 0 800) : tMi l E J yX10_number cX10_number 4 .int (gRm (2) 0 0) [.ref q, .int p1, .int p2] L f (tPi E L τ [40] f (fun r f1 => rg r (-2147483648) 2147483647 ∧ ((p1.toInt ≤ r.toInt ∧ (r = p1 ∨ r.toInt ≤ p2.toInt)) ∧ ∃ sp1 bd1 : Int32, fld f1 q 7 (.int sp1) ∧ fld f1 q 6 (.int tp) ∧ fld f1 q 12 (.int bd1) ∧ sp.toInt ≤ sp1.toInt ∧ sp1.toInt ≤ tp.toInt))) := by
  refine tMi.intro (by decide) (Nat.le_of_ble_eq_true rfl) ?_
  intro p e s m below meth c A ls C hr hA hO hH hl
  have C : gC E cX10_number 4 RX10 p s m _ meth c := C
  have hl : lv_has ls 4 [(0, .ref q), (1, .int p1), (2, .int p2)] := hl
  have hx := C.1
  have hb := C.2.1
  have hI := hI.S [40]
  refine lv_aload_n hx hb dX10_number_0 rfl (lv_at hl 0 rfl) ?_
  refine t_getX C hH hI.1 mq tq td_40 iX10 rfl 12 (by decide) wd1063 rfl hbd dX10_number_1 ?_
  refine lv_if_eq (tgt := 9) hx hb dX10_number_4 (by decide) (fun c1 => ?_) (fun c1 => ?_)
  · skip
    have r2 : rg bd 0 0 := rf_eql (c_eq c1) (rg_all _) rl_0 (by decide)
    refine lv_aload_n hx hb dX10_number_9 rfl (lv_at hl 0 rfl) ?_
    obtain ⟨z3, rz3, kz3⟩ := t_fldi hI.1 mq tq td_40 (k := 8) rfl
    refine t_getX C hH hI.1 mq tq td_40 iX10 rfl 8 (by decide) wd1062 rfl kz3 dX10_number_10 ?_
    refine lv_iconst (v := (2 : Int32)) hx hb dX10_number_13 (by decide) ?_
    refine lv_icmp_eq (tgt := 24) hx hb dX10_number_14 (by decide) (fun c4 => ?_) (fun c4 => ?_)
    · skip
      have r5 : rg z3 2 2 := rf_eql (c_eq c4) rz3 rl_2 (by decide)
      refine lv_aload_n hx hb dX10_number_24 rfl (lv_at hl 0 rfl) ?_
      obtain ⟨z6, rz6, kz6⟩ := t_fldi hI.1 mq tq td_40 (k := 10) rfl
      refine t_getX C hH hI.1 mq tq td_40 iX10 rfl 10 (by decide) wd1059 rfl kz6 dX10_number_25 ?_
      refine lv_i2l (v := (z6).toInt64) hx hb dX10_number_28 rfl ?_
      refine lv_iload_n hx hb dX10_number_29 rfl (lv_at hl 1 rfl) ?_
      refine lv_i2l (v := (p1).toInt64) hx hb dX10_number_30 rfl ?_
      refine lv_iload_n hx hb dX10_number_31 rfl (lv_at hl 2 rfl) ?_
      refine lv_i2l (v := (p2).toInt64) hx hb dX10_number_32 rfl ?_
      refine t_Si C hO hl.1 hA hH (As := [.long (z6).toInt64, .long (p1).toInt64, .long (p2).toInt64]) (rest := []) (t_X10_in l E J τ L f hI.1 ((z6).toInt64) ((p1).toInt64) ((p2).toInt64)) my_X10_in wd744 rfl rfl (Nat.le_of_ble_eq_true rfl) ⟨Nat.le_of_ble_eq_true rfl, Nat.le_of_ble_eq_true rfl⟩ ⟨rfl, rfl⟩ dX10_number_33 (fun r8 L1 f7 H locs hp hH => ?_)
      obtain ⟨rfl, s9, h10⟩ := hp
      have hJ := hI
      have hI := hI.call s9 (by decide)
      have k11 : fld f7 q 7 (.int sp) := fld.eq hsp (s9.fr q mq (t_lim tq rfl))
      have k12 : fld f7 q 6 (.int tp) := fld.eq htp (s9.fr q mq (t_lim tq rfl))
      have k13 : fld f7 q 12 (.int bd) := fld.eq hbd (s9.fr q mq (t_lim tq rfl))
      have k14 : fld f7 q 8 (.int z3) := fld.eq kz3 (s9.fr q mq (t_lim tq rfl))
      have k15 : fld f7 q 10 (.int z6) := fld.eq kz6 (s9.fr q mq (t_lim tq rfl))
      refine lv_if_ne (tgt := 46) hx hb dX10_number_36 (by decide) (fun c16 => ?_) (fun c16 => ?_)
      · skip
        have r17 : rg r8 1 1 := rf_nel (n_eq c16) h10.1 rl_0 (by decide)
        refine lv_aload_n hx hb dX10_number_46 rfl (lv_at hl 0 rfl) ?_
        refine t_getX C hH hI.1 mq tq td_40 iX10 rfl 10 (by decide) wd1059 rfl k15 dX10_number_47 ?_
        refine lv_istore_n (lv' := [(3, .int z6), (0, .ref q), (1, .int p1), (2, .int p2)]) hx hb dX10_number_50 rfl hl (by decide) rfl (fun ls hl => ?_)
        refine lv_aload_n hx hb dX10_number_51 rfl (lv_at hl 1 rfl) ?_
        refine t_Vv C hO hl.1 hA hH hI.1 (As := []) (rest := []) (t_X10_next l E J τ L f7 hI.1 mq tq k11 k12 k13 hle rsp rtp) my_X10_next wd1072 mq tq td_40 rfl rfl rfl (Nat.le_of_ble_eq_true rfl) ⟨Nat.le_of_ble_eq_true rfl, Nat.le_of_ble_eq_true rfl⟩ ⟨rfl, rfl⟩ dX10_number_52 (fun L1 f18 H locs hp hH => ?_)
        obtain ⟨rfl, s20, h21⟩ := hp
        have hJ := hI
        have hI := hI.call s20 (by decide)
        obtain ⟨sp22, tk23, k24, k25, k26, k27, lo28, hi29, pr30⟩ := h21
        have r31 : rg sp22 0 800 := sp_rg rsp lo28 hi29 rtp
        have lo32 : sp.toInt ≤ sp22.toInt := Int.le_trans (Int.le_refl sp.toInt) lo28
        refine lv_iload_n hx hb dX10_number_55 rfl (lv_at hl 0 rfl) ?_
        exact g_iret C hr hH (Nat.zero_le _) (Nat.zero_le _) dX10_number_56 ⟨rfl, hI, ⟨rz6, ⟨num_in (h10.2 c16), ⟨_, _, k24, k25, k27, lo32, hi29⟩⟩⟩⟩
      · skip
        have r33 : rg r8 0 0 := rf_eql (c_eq c16) h10.1 rl_0 (by decide)
        refine lv_aload_n hx hb dX10_number_39 rfl (lv_at hl 0 rfl) ?_
        refine lv_iconst (v := (2 : Int32)) hx hb dX10_number_40 (by decide) ?_
        refine t_Vv C hO hl.1 hA hH hI.1 (As := [.int (2 : Int32)]) (rest := []) (t_X10_fails l E J τ L f7 hI.1 mq tq (2 : Int32) (rg_w rl_2 (by decide)) k11 k12 k13 hle rsp rtp) my_X10_fails wd1080 mq tq td_40 rfl rfl rfl (Nat.le_of_ble_eq_true rfl) ⟨Nat.le_of_ble_eq_true rfl, Nat.le_of_ble_eq_true rfl⟩ ⟨rfl, rfl⟩ dX10_number_41 (fun L1 f34 H locs hp hH => ?_)
        obtain ⟨rfl, s36, h37⟩ := hp
        have hJ := hI
        have hI := hI.call s36 (by decide)
        obtain ⟨sp38, bd39, k40, k41, k42, lo43, hi44, x45⟩ := h37
        have r46 : rg sp38 0 800 := sp_rg rsp lo43 hi44 rtp
        have lo47 : sp.toInt ≤ sp38.toInt := Int.le_trans (Int.le_refl sp.toInt) lo43
        refine lv_iload_n hx hb dX10_number_44 rfl (lv_at hl 1 rfl) ?_
        exact g_iret C hr hH (Nat.zero_le _) (Nat.zero_le _) dX10_number_45 ⟨rfl, hI, ⟨(rg_all _), ⟨⟨Int.le_refl _, Or.inl rfl⟩, ⟨_, _, k40, k41, k42, lo47, hi44⟩⟩⟩⟩
    · skip
      refine lv_aload_n hx hb dX10_number_17 rfl (lv_at hl 0 rfl) ?_
      refine lv_iconst (v := (1 : Int32)) hx hb dX10_number_18 (by decide) ?_
      refine t_Vv C hO hl.1 hA hH hI.1 (As := [.int (1 : Int32)]) (rest := []) (t_X10_fails l E J τ L f hI.1 mq tq (1 : Int32) (rg_w rl_1 (by decide)) hsp htp hbd hle rsp rtp) my_X10_fails wd1080 mq tq td_40 rfl rfl rfl (Nat.le_of_ble_eq_true rfl) ⟨Nat.le_of_ble_eq_true rfl, Nat.le_of_ble_eq_true rfl⟩ ⟨rfl, rfl⟩ dX10_number_19 (fun L1 f48 H locs hp hH => ?_)
      obtain ⟨rfl, s50, h51⟩ := hp
      have hJ := hI
      have hI := hI.call s50 (by decide)
      obtain ⟨sp52, bd53, k54, k55, k56, lo57, hi58, x59⟩ := h51
      have r60 : rg sp52 0 800 := sp_rg rsp lo57 hi58 rtp
      have lo61 : sp.toInt ≤ sp52.toInt := Int.le_trans (Int.le_refl sp.toInt) lo57
      refine lv_iload_n hx hb dX10_number_22 rfl (lv_at hl 1 rfl) ?_
      exact g_iret C hr hH (Nat.zero_le _) (Nat.zero_le _) dX10_number_23 ⟨rfl, hI, ⟨(rg_all _), ⟨⟨Int.le_refl _, Or.inl rfl⟩, ⟨_, _, k54, k55, k56, lo61, hi58⟩⟩⟩⟩
  · skip
    refine lv_iload_n hx hb dX10_number_7 rfl (lv_at hl 1 rfl) ?_
    exact g_iret C hr hH (Nat.zero_le _) (Nat.zero_le _) dX10_number_8 ⟨rfl, hI, ⟨(rg_all _), ⟨⟨Int.le_refl _, Or.inl rfl⟩, ⟨_, _, hsp, htp, hbd, (Int.le_refl sp.toInt), hle⟩⟩⟩⟩
set_option maxHeartbeats 4000000 in
set_option maxRecDepth 100000 in
theorem t_X10_number_ (l : Launch) (E : gE) (J : Nat → Nat) (τ : Nat → Nat) (L : List Nat) (f : gF) (hI : tI E L τ f) {q : Nat} (mq : q ∈ L) (tq : τ q = 40) (p1 : Int64) (p2 : Int32) (p3 : Int32) {sp tp bd : Int32} (hsp : fld f q 7 (.int sp)) (htp : fld f q 6 (.int tp)) (hbd : fld f q 12 (.int bd)) (hle : sp.toInt ≤ tp.toInt) (rsp : rg sp 0 800) (rtp : rg tp 0 800) : tMi l E J yX10_number_ cX10_number_ 5 .int (gRm (4) 0 0) [.ref q, .long p1, .int p2, .int p3] L f (tPi E L τ [40] f (fun r f1 => rg r (-2147483648) 2147483647 ∧ ((p2.toInt ≤ r.toInt ∧ (r = p2 ∨ r.toInt ≤ p3.toInt)) ∧ ∃ sp1 bd1 : Int32, fld f1 q 7 (.int sp1) ∧ fld f1 q 6 (.int tp) ∧ fld f1 q 12 (.int bd1) ∧ sp.toInt ≤ sp1.toInt ∧ sp1.toInt ≤ tp.toInt))) := by
  refine tMi.intro (by decide) (Nat.le_of_ble_eq_true rfl) ?_
  intro p e s m below meth c A ls C hr hA hO hH hl
  have C : gC E cX10_number_ 5 RX10 p s m _ meth c := C
  have hl : lv_has ls 5 [(0, .ref q), (1, .long p1), (3, .int p2), (4, .int p3)] := hl
  have hx := C.1
  have hb := C.2.1
  have hI := hI.S [40]
  refine lv_aload_n hx hb dX10_number__0 rfl (lv_at hl 0 rfl) ?_
  refine lv_lload_n hx hb dX10_number__1 rfl (lv_at hl 1 rfl) ?_
  refine t_Vv C hO hl.1 hA hH hI.1 (As := [.long p1]) (rest := []) (t_X10_asks l E J τ L f hI.1 mq tq p1 hsp htp hbd hle rsp rtp) my_X10_asks wd1084 mq tq td_40 rfl rfl rfl (Nat.le_of_ble_eq_true rfl) ⟨Nat.le_of_ble_eq_true rfl, Nat.le_of_ble_eq_true rfl⟩ ⟨rfl, rfl⟩ dX10_number__2 (fun L1 f1 H locs hp hH => ?_)
  obtain ⟨rfl, s3, h4⟩ := hp
  have hJ := hI
  have hI := hI.call s3 (by decide)
  obtain ⟨sp5, bd6, k7, k8, k9, lo10, hi11⟩ := h4
  have r12 : rg sp5 0 800 := sp_rg rsp lo10 hi11 rtp
  have lo13 : sp.toInt ≤ sp5.toInt := Int.le_trans (Int.le_refl sp.toInt) lo10
  refine lv_aload_n hx hb dX10_number__5 rfl (lv_at hl 0 rfl) ?_
  refine lv_iload_n hx hb dX10_number__6 rfl (lv_at hl 2 rfl) ?_
  refine lv_iload hx hb dX10_number__7 (lv_at hl 3 rfl) ?_
  refine t_Vi C hO hl.1 hA hH hI.1 (As := [.int p2, .int p3]) (rest := []) (t_X10_number l E J τ L f1 hI.1 mq tq p2 p3 k7 k8 k9 hi11 r12 rtp) my_X10_number wd1088 mq tq td_40 rfl rfl rfl (Nat.le_of_ble_eq_true rfl) ⟨Nat.le_of_ble_eq_true rfl, Nat.le_of_ble_eq_true rfl⟩ ⟨rfl, rfl⟩ dX10_number__9 (fun r15 L1 f14 H locs hp hH => ?_)
  obtain ⟨rfl, s16, h17⟩ := hp
  have hJ := hI
  have hI := hI.call s16 (by decide)
  obtain ⟨sp18, bd19, k20, k21, k22, lo23, hi24⟩ := h17.2.2
  have r25 : rg sp18 0 800 := sp_rg r12 lo23 hi24 rtp
  have lo26 : sp.toInt ≤ sp18.toInt := Int.le_trans lo13 lo23
  exact g_iret C hr hH (Nat.zero_le _) (Nat.zero_le _) dX10_number__12 ⟨rfl, hI, ⟨h17.1, ⟨h17.2.1, ⟨_, _, k20, k21, k22, lo26, hi24⟩⟩⟩⟩
set_option maxHeartbeats 4000000 in
set_option maxRecDepth 100000 in
theorem t_X10_ends (l : Launch) (E : gE) (J : Nat → Nat) (τ : Nat → Nat) (L : List Nat) (f : gF) (hI : tI E L τ f) {q : Nat} (mq : q ∈ L) (tq : τ q = 40) {sp tp bd : Int32} (hsp : fld f q 7 (.int sp)) (htp : fld f q 6 (.int tp)) (hbd : fld f q 12 (.int bd)) (hle : sp.toInt ≤ tp.toInt) (rsp : rg sp 0 800) (rtp : rg tp 0 800) : tMv l E J yX10_ends cX10_ends 1 (gRm (2) 0 0) [.ref q] L f (tPv E L τ [40] f (fun f1 => (∃ sp1 bd1 tk1 : Int32, fld f1 q 7 (.int sp1) ∧ fld f1 q 6 (.int tp) ∧ fld f1 q 12 (.int bd1) ∧ sp.toInt ≤ sp1.toInt ∧ sp1.toInt ≤ tp.toInt ∧ fld f1 q 8 (.int tk1) ∧ (bd1 = 0 → tk1 = 0 ∨ sp.toInt + 1 ≤ sp1.toInt)))) := by
  refine tMv.intro (by decide) (Nat.le_of_ble_eq_true rfl) ?_
  intro p e s m below meth c A ls C hr hA hO hH hl
  have C : gC E cX10_ends 1 RX10 p s m _ meth c := C
  have hl : lv_has ls 1 [(0, .ref q)] := hl
  have hx := C.1
  have hb := C.2.1
  have hI := hI.S [40]
  refine lv_aload_n hx hb dX10_ends_0 rfl (lv_at hl 0 rfl) ?_
  obtain ⟨z1, rz1, kz1⟩ := t_fldi hI.1 mq tq td_40 (k := 8) rfl
  refine t_getX C hH hI.1 mq tq td_40 iX10 rfl 8 (by decide) wd1062 rfl kz1 dX10_ends_1 ?_
  refine lv_iconst (v := (3 : Int32)) hx hb dX10_ends_4 (by decide) ?_
  refine lv_icmp_eq (tgt := 13) hx hb dX10_ends_5 (by decide) (fun c2 => ?_) (fun c2 => ?_)
  · skip
    have r3 : rg z1 3 3 := rf_eql (c_eq c2) rz1 rl_3 (by decide)
    refine lv_aload_n hx hb dX10_ends_13 rfl (lv_at hl 0 rfl) ?_
    refine t_getX C hH hI.1 mq tq td_40 iX10 rfl 12 (by decide) wd1063 rfl hbd dX10_ends_14 ?_
    refine lv_if_ne (tgt := 24) hx hb dX10_ends_17 (by decide) (fun c4 => ?_) (fun c4 => ?_)
    · skip
      exact g_vret C hr hH (Nat.zero_le _) (Nat.zero_le _) dX10_ends_24 ⟨rfl, hI, ⟨_, _, _, hsp, htp, hbd, (Int.le_refl sp.toInt), hle, kz1, fun h => absurd h c4⟩⟩
    · skip
      have r5 : rg bd 0 0 := rf_eql (c_eq c4) (rg_all _) rl_0 (by decide)
      refine lv_aload_n hx hb dX10_ends_20 rfl (lv_at hl 0 rfl) ?_
      refine t_Vv C hO hl.1 hA hH hI.1 (As := []) (rest := []) (t_X10_next l E J τ L f hI.1 mq tq hsp htp hbd hle rsp rtp) my_X10_next wd1072 mq tq td_40 rfl rfl rfl (Nat.le_of_ble_eq_true rfl) ⟨Nat.le_of_ble_eq_true rfl, Nat.le_of_ble_eq_true rfl⟩ ⟨rfl, rfl⟩ dX10_ends_21 (fun L1 f6 H locs hp hH => ?_)
      obtain ⟨rfl, s8, h9⟩ := hp
      have hJ := hI
      have hI := hI.call s8 (by decide)
      obtain ⟨sp10, tk11, k12, k13, k14, k15, lo16, hi17, pr18⟩ := h9
      have r19 : rg sp10 0 800 := sp_rg rsp lo16 hi17 rtp
      have lo20 : sp.toInt ≤ sp10.toInt := Int.le_trans (Int.le_refl sp.toInt) lo16
      exact g_vret C hr hH (Nat.zero_le _) (Nat.zero_le _) dX10_ends_24 ⟨rfl, hI, ⟨_, _, _, k12, k13, k15, lo20, hi17, k14, fun _ => pr18.imp id (fun h => by have h1 := (Int.le_refl sp.toInt); omega)⟩⟩
  · skip
    refine lv_aload_n hx hb dX10_ends_8 rfl (lv_at hl 0 rfl) ?_
    refine lv_iconst (v := (1 : Int32)) hx hb dX10_ends_9 (by decide) ?_
    refine t_Vv C hO hl.1 hA hH hI.1 (As := [.int (1 : Int32)]) (rest := []) (t_X10_fails l E J τ L f hI.1 mq tq (1 : Int32) (rg_w rl_1 (by decide)) hsp htp hbd hle rsp rtp) my_X10_fails wd1080 mq tq td_40 rfl rfl rfl (Nat.le_of_ble_eq_true rfl) ⟨Nat.le_of_ble_eq_true rfl, Nat.le_of_ble_eq_true rfl⟩ ⟨rfl, rfl⟩ dX10_ends_10 (fun L1 f21 H locs hp hH => ?_)
    obtain ⟨rfl, s23, h24⟩ := hp
    have hJ := hI
    have hI := hI.call s23 (by decide)
    obtain ⟨sp25, bd26, k27, k28, k29, lo30, hi31, x32⟩ := h24
    have r33 : rg sp25 0 800 := sp_rg rsp lo30 hi31 rtp
    have lo34 : sp.toInt ≤ sp25.toInt := Int.le_trans (Int.le_refl sp.toInt) lo30
    refine lv_aload_n hx hb dX10_ends_13 rfl (lv_at hl 0 rfl) ?_
    refine t_getX C hH hI.1 mq tq td_40 iX10 rfl 12 (by decide) wd1063 rfl k29 dX10_ends_14 ?_
    refine lv_if_ne (tgt := 24) hx hb dX10_ends_17 (by decide) (fun c35 => ?_) (fun c35 => ?_)
    · skip
      obtain ⟨tk36, rtk36, ktk36⟩ := t_fldi hI.1 mq tq td_40 (k := 8) rfl
      exact g_vret C hr hH (Nat.zero_le _) (Nat.zero_le _) dX10_ends_24 ⟨rfl, hI, ⟨_, _, _, k27, k28, k29, lo34, hi31, ktk36, fun h => absurd h c35⟩⟩
    · skip
      have r37 : rg bd26 0 0 := rf_eql (c_eq c35) (rg_all _) rl_0 (by decide)
      refine lv_aload_n hx hb dX10_ends_20 rfl (lv_at hl 0 rfl) ?_
      refine t_Vv C hO hl.1 hA hH hI.1 (As := []) (rest := []) (t_X10_next l E J τ L f21 hI.1 mq tq k27 k28 k29 hi31 r33 rtp) my_X10_next wd1072 mq tq td_40 rfl rfl rfl (Nat.le_of_ble_eq_true rfl) ⟨Nat.le_of_ble_eq_true rfl, Nat.le_of_ble_eq_true rfl⟩ ⟨rfl, rfl⟩ dX10_ends_21 (fun L1 f38 H locs hp hH => ?_)
      obtain ⟨rfl, s40, h41⟩ := hp
      have hJ := hI
      have hI := hI.call s40 (by decide)
      obtain ⟨sp42, tk43, k44, k45, k46, k47, lo48, hi49, pr50⟩ := h41
      have r51 : rg sp42 0 800 := sp_rg r33 lo48 hi49 rtp
      have lo52 : sp.toInt ≤ sp42.toInt := Int.le_trans lo34 lo48
      exact g_vret C hr hH (Nat.zero_le _) (Nat.zero_le _) dX10_ends_24 ⟨rfl, hI, ⟨_, _, _, k44, k45, k47, lo52, hi49, k46, fun h => absurd h x32⟩⟩
set_option maxHeartbeats 4000000 in
set_option maxRecDepth 100000 in
theorem t_X10_begins (l : Launch) (E : gE) (J : Nat → Nat) (τ : Nat → Nat) (L : List Nat) (f : gF) (hI : tI E L τ f) {q : Nat} (mq : q ∈ L) (tq : τ q = 40) {tp : Int32} (htp : fld f q 6 (.int tp)) (rtp : rg tp 0 800) : tMv l E J yX10_begins cX10_begins 1 (gRm (2) 0 0) [.ref q] L f (tPv E L τ [40] f (fun f1 => (∃ sp1 tk1 : Int32, fld f1 q 7 (.int sp1) ∧ fld f1 q 6 (.int tp) ∧ fld f1 q 12 (.int (0 : Int32)) ∧ fld f1 q 8 (.int tk1) ∧ sp1.toInt ≤ tp.toInt))) := by
  refine tMv.intro (by decide) (Nat.le_of_ble_eq_true rfl) ?_
  intro p e s m below meth c A ls C hr hA hO hH hl
  have C : gC E cX10_begins 1 RX10 p s m _ meth c := C
  have hl : lv_has ls 1 [(0, .ref q)] := hl
  have hx := C.1
  have hb := C.2.1
  have hI := hI.S [40]
  refine lv_aload_n hx hb dX10_begins_0 rfl (lv_at hl 0 rfl) ?_
  refine lv_iconst (v := (0 : Int32)) hx hb dX10_begins_1 (by decide) ?_
  refine t_put C hH hI mq tq (by decide) td_40 iX10 tyX10 tyX10_ok nmX10 rfl 12 (by decide) wd1063 rfl rfl (v := .int (0 : Int32)) rfl rfl rfl ⟨_, rfl, (rg_w rl_0 (by decide))⟩ (fun _ h => nomatch h) dX10_begins_2 (fun f1 H locs hH hI nf1 of1 bf1 => ?_)
  have k2 : fld f1 q 6 (.int tp) := of1 6 _ (by decide) htp
  refine lv_aload_n hx hb dX10_begins_5 rfl (lv_at hl 0 rfl) ?_
  refine lv_iconst (v := (-1 : Int32)) hx hb dX10_begins_6 (by decide) ?_
  refine t_put C hH hI mq tq (by decide) td_40 iX10 tyX10 tyX10_ok nmX10 rfl 13 (by decide) wd1064 rfl rfl (v := .int (-1 : Int32)) rfl rfl rfl ⟨_, rfl, (rg_w rl_m1 (by decide))⟩ (fun _ h => nomatch h) dX10_begins_7 (fun f3 H locs hH hI nf3 of3 bf3 => ?_)
  have k4 : fld f3 q 6 (.int tp) := of3 6 _ (by decide) k2
  have k5 : fld f3 q 12 (.int (0 : Int32)) := of3 12 _ (by decide) nf1
  refine lv_aload_n hx hb dX10_begins_10 rfl (lv_at hl 0 rfl) ?_
  refine lv_iconst (v := (0 : Int32)) hx hb dX10_begins_11 (by decide) ?_
  refine t_put C hH hI mq tq (by decide) td_40 iX10 tyX10 tyX10_ok nmX10 rfl 7 (by decide) wd1051 rfl rfl (v := .int (0 : Int32)) rfl rfl rfl ⟨_, rfl, (rg_w rl_0 (by decide))⟩ (fun _ h => nomatch h) dX10_begins_12 (fun f6 H locs hH hI nf6 of6 bf6 => ?_)
  have k7 : fld f6 q 6 (.int tp) := of6 6 _ (by decide) k4
  have k8 : fld f6 q 12 (.int (0 : Int32)) := of6 12 _ (by decide) k5
  have k9 : fld f6 q 13 (.int (-1 : Int32)) := of6 13 _ (by decide) nf3
  refine lv_aload_n hx hb dX10_begins_15 rfl (lv_at hl 0 rfl) ?_
  refine t_Vv C hO hl.1 hA hH hI.1 (As := []) (rest := []) (t_X10_next l E J τ L f6 hI.1 mq tq nf6 k7 k8 (sp_0 rtp) (rg_w rl_0 (by decide)) rtp) my_X10_next wd1072 mq tq td_40 rfl rfl rfl (Nat.le_of_ble_eq_true rfl) ⟨Nat.le_of_ble_eq_true rfl, Nat.le_of_ble_eq_true rfl⟩ ⟨rfl, rfl⟩ dX10_begins_16 (fun L1 f10 H locs hp hH => ?_)
  obtain ⟨rfl, s12, h13⟩ := hp
  have hJ := hI
  have hI := hI.call s12 (by decide)
  obtain ⟨sp14, tk15, k16, k17, k18, k19, lo20, hi21, pr22⟩ := h13
  have r23 : rg sp14 0 800 := sp_rg (rg_w rl_0 (by decide)) lo20 hi21 rtp
  have lo24 : (0 : Int32).toInt ≤ sp14.toInt := Int.le_trans (Int.le_refl (0 : Int32).toInt) lo20
  exact g_vret C hr hH (Nat.zero_le _) (Nat.zero_le _) dX10_begins_19 ⟨rfl, hI, ⟨_, _, k16, k17, k19, k18, hi21⟩⟩
set_option maxHeartbeats 4000000 in
set_option maxRecDepth 100000 in
theorem t_X10_isOver (l : Launch) (E : gE) (J : Nat → Nat) (τ : Nat → Nat) (L : List Nat) (f : gF) (hI : tI E L τ f) {q : Nat} (mq : q ∈ L) (tq : τ q = 40) : tMv l E J yX10_isOver cX10_isOver 1 (gRm (1) 0 0) [.ref q] L f (tPv E L τ [40] f (fun f1 => True)) := by
  refine tMv.intro (by decide) (Nat.le_of_ble_eq_true rfl) ?_
  intro p e s m below meth c A ls C hr hA hO hH hl
  have C : gC E cX10_isOver 1 RX10 p s m _ meth c := C
  have hl : lv_has ls 1 [(0, .ref q)] := hl
  have hx := C.1
  have hb := C.2.1
  have hI := hI.S [40]
  refine lv_aload_n hx hb dX10_isOver_0 rfl (lv_at hl 0 rfl) ?_
  refine lv_iconst (v := (0 : Int32)) hx hb dX10_isOver_1 (by decide) ?_
  refine t_put C hH hI mq tq (by decide) td_40 iX10 tyX10 tyX10_ok nmX10 rfl 6 (by decide) wd919 rfl rfl (v := .int (0 : Int32)) rfl rfl rfl ⟨_, rfl, (rg_w rl_0 (by decide))⟩ (fun _ h => nomatch h) dX10_isOver_2 (fun f1 H locs hH hI nf1 of1 bf1 => ?_)
  refine lv_aload_n hx hb dX10_isOver_5 rfl (lv_at hl 0 rfl) ?_
  refine lv_aload_n hx hb dX10_isOver_6 rfl (lv_at hl 0 rfl) ?_
  refine t_geti C hH hI.1 mq tq td_40 iX10 rfl 12 (by decide) wd1063 rfl rfl dX10_isOver_7 (fun z2 rz2 => ?_)
  refine t_put C hH hI mq tq (by decide) td_40 iX10 tyX10 tyX10_ok nmX10 rfl 14 (by decide) wd921 rfl rfl (v := .int z2) rfl rfl rfl ⟨_, rfl, rz2⟩ (fun _ h => nomatch h) dX10_isOver_10 (fun f3 H locs hH hI nf3 of3 bf3 => ?_)
  refine lv_aload_n hx hb dX10_isOver_13 rfl (lv_at hl 0 rfl) ?_
  refine lv_aload_n hx hb dX10_isOver_14 rfl (lv_at hl 0 rfl) ?_
  refine t_geti C hH hI.1 mq tq td_40 iX10 rfl 12 (by decide) wd1063 rfl rfl dX10_isOver_15 (fun z4 rz4 => ?_)
  refine lv_if_ne (tgt := 25) hx hb dX10_isOver_18 (by decide) (fun c5 => ?_) (fun c5 => ?_)
  · skip
    refine lv_aload_n hx hb dX10_isOver_25 rfl (lv_at hl 0 rfl) ?_
    refine t_geti C hH hI.1 mq tq td_40 iX10 rfl 13 (by decide) wd1064 rfl rfl dX10_isOver_26 (fun z6 rz6 => ?_)
    refine t_put C hH hI mq tq (by decide) td_40 iX10 tyX10 tyX10_ok nmX10 rfl 15 (by decide) wd920 rfl rfl (v := .int z6) rfl rfl rfl ⟨_, rfl, rz6⟩ (fun _ h => nomatch h) dX10_isOver_29 (fun f7 H locs hH hI nf7 of7 bf7 => ?_)
    exact g_vret C hr hH (Nat.zero_le _) (Nat.zero_le _) dX10_isOver_32 ⟨rfl, hI, trivial⟩
  · skip
    have r8 : rg z4 0 0 := rf_eql (c_eq c5) rz4 rl_0 (by decide)
    refine lv_iconst (v := (-1 : Int32)) hx hb dX10_isOver_21 (by decide) ?_
    refine lv_goto (tgt := 29) hx hb dX10_isOver_22 (by decide) ?_
    refine t_put C hH hI mq tq (by decide) td_40 iX10 tyX10 tyX10_ok nmX10 rfl 15 (by decide) wd920 rfl rfl (v := .int (-1 : Int32)) rfl rfl rfl ⟨_, rfl, (rg_w rl_m1 (by decide))⟩ (fun _ h => nomatch h) dX10_isOver_29 (fun f9 H locs hH hI nf9 of9 bf9 => ?_)
    exact g_vret C hr hH (Nat.zero_le _) (Nat.zero_le _) dX10_isOver_32 ⟨rfl, hI, trivial⟩
set_option maxHeartbeats 4000000 in
set_option maxRecDepth 100000 in
theorem t_hasRead_0 (l : Launch) (E : gE) (J : Nat → Nat) (τ : Nat → Nat) (L : List Nat) (f : gF) (hI : tI E L τ f) {q : Nat} (mq : q ∈ L) (tq : τ q = 40) (p1 : Int32) (rp1 : rg p1 0 0) : tMi l E J yX10_hasRead cX10_hasRead 2 .int (gRm (1) 0 0) [.ref q, .int p1] L f (tPi E L τ [] f (fun r f1 => rg r 0 5 ∧ (∀ vh : Nat → Int32, isA E L τ f 47 45 vh → r = vh 36))) := by
  refine tMi.intro (by decide) (Nat.le_of_ble_eq_true rfl) ?_
  intro p e s m below meth c A ls C hr hA hO hH hl
  have C : gC E cX10_hasRead 2 RX10 p s m _ meth c := C
  obtain rfl : p1 = (0 : Int32) := Int32.toInt_inj.mp (Int.le_antisymm (by rw [tl_0]; exact rp1.2) (by rw [tl_0]; exact rp1.1))
  have hl : lv_has ls 2 [(0, .ref q), (1, .int (0 : Int32))] := hl
  have hx := C.1
  have hb := C.2.1
  have hI := hI.S []
  obtain ⟨q_17, mq_17, tq_17, kq_17⟩ := t_fldr hI.1 mq tq td_40 (k := 17) rfl
  refine lv_aload_n hx hb dX10_hasRead_0 rfl (lv_at hl 0 rfl) ?_
  refine t_getX C hH hI.1 mq tq td_40 iX10 rfl 17 (by decide) wd747 rfl (hI.rf kq_17) dX10_hasRead_1 ?_
  refine lv_bipush (v := (36 : Int32)) hx hb dX10_hasRead_4 (by decide) ?_
  refine lv_iload_n hx hb dX10_hasRead_6 rfl (lv_at hl 1 rfl) ?_
  refine lv_iadd hx hb dX10_hasRead_7 ?_
  refine lv_topi (fun z1 ez1 => ?_)
  obtain rfl : z1 = (36 : Int32) := ez1.trans (by decide)
  refine t_ald C hH hI.1 mq_17 tq_17 td_47 (rg_in rl_36 (by decide)) dX10_hasRead_8 (fun z2v az2 pz2 => ?_)
  refine lv_topi (fun z2 ez2 => ?_)
  have r3 : rg z2 0 5 := has_rg pz2 (i := (36 : Int32)) 36 rfl (by decide) ez2
  exact g_iret C hr hH (Nat.zero_le _) (Nat.zero_le _) dX10_hasRead_9 ⟨rfl, hI, ⟨r3, (fun vh h => by rw [ez2, arr_inj az2 (h _ mq_17 tq_17)]; rfl)⟩⟩
set_option maxHeartbeats 4000000 in
set_option maxRecDepth 100000 in
theorem t_hasRead_1 (l : Launch) (E : gE) (J : Nat → Nat) (τ : Nat → Nat) (L : List Nat) (f : gF) (hI : tI E L τ f) {q : Nat} (mq : q ∈ L) (tq : τ q = 40) (p1 : Int32) (rp1 : rg p1 1 1) : tMi l E J yX10_hasRead cX10_hasRead 2 .int (gRm (1) 0 0) [.ref q, .int p1] L f (tPi E L τ [] f (fun r f1 => rg r 0 4 ∧ (∀ vh : Nat → Int32, isA E L τ f 47 45 vh → r = vh 37))) := by
  refine tMi.intro (by decide) (Nat.le_of_ble_eq_true rfl) ?_
  intro p e s m below meth c A ls C hr hA hO hH hl
  have C : gC E cX10_hasRead 2 RX10 p s m _ meth c := C
  obtain rfl : p1 = (1 : Int32) := Int32.toInt_inj.mp (Int.le_antisymm (by rw [tl_1]; exact rp1.2) (by rw [tl_1]; exact rp1.1))
  have hl : lv_has ls 2 [(0, .ref q), (1, .int (1 : Int32))] := hl
  have hx := C.1
  have hb := C.2.1
  have hI := hI.S []
  obtain ⟨q_17, mq_17, tq_17, kq_17⟩ := t_fldr hI.1 mq tq td_40 (k := 17) rfl
  refine lv_aload_n hx hb dX10_hasRead_0 rfl (lv_at hl 0 rfl) ?_
  refine t_getX C hH hI.1 mq tq td_40 iX10 rfl 17 (by decide) wd747 rfl (hI.rf kq_17) dX10_hasRead_1 ?_
  refine lv_bipush (v := (36 : Int32)) hx hb dX10_hasRead_4 (by decide) ?_
  refine lv_iload_n hx hb dX10_hasRead_6 rfl (lv_at hl 1 rfl) ?_
  refine lv_iadd hx hb dX10_hasRead_7 ?_
  refine lv_topi (fun z1 ez1 => ?_)
  obtain rfl : z1 = (37 : Int32) := ez1.trans (by decide)
  refine t_ald C hH hI.1 mq_17 tq_17 td_47 (rg_in rl_37 (by decide)) dX10_hasRead_8 (fun z2v az2 pz2 => ?_)
  refine lv_topi (fun z2 ez2 => ?_)
  have r3 : rg z2 0 4 := has_rg pz2 (i := (37 : Int32)) 37 rfl (by decide) ez2
  exact g_iret C hr hH (Nat.zero_le _) (Nat.zero_le _) dX10_hasRead_9 ⟨rfl, hI, ⟨r3, (fun vh h => by rw [ez2, arr_inj az2 (h _ mq_17 tq_17)]; rfl)⟩⟩
set_option maxHeartbeats 4000000 in
set_option maxRecDepth 100000 in
theorem t_hasRead_5 (l : Launch) (E : gE) (J : Nat → Nat) (τ : Nat → Nat) (L : List Nat) (f : gF) (hI : tI E L τ f) {q : Nat} (mq : q ∈ L) (tq : τ q = 40) (p1 : Int32) (rp1 : rg p1 5 5) : tMi l E J yX10_hasRead cX10_hasRead 2 .int (gRm (1) 0 0) [.ref q, .int p1] L f (tPi E L τ [] f (fun r f1 => rg r 0 4 ∧ (∀ vh : Nat → Int32, isA E L τ f 47 45 vh → r = vh 41))) := by
  refine tMi.intro (by decide) (Nat.le_of_ble_eq_true rfl) ?_
  intro p e s m below meth c A ls C hr hA hO hH hl
  have C : gC E cX10_hasRead 2 RX10 p s m _ meth c := C
  obtain rfl : p1 = (5 : Int32) := Int32.toInt_inj.mp (Int.le_antisymm (by rw [tl_5]; exact rp1.2) (by rw [tl_5]; exact rp1.1))
  have hl : lv_has ls 2 [(0, .ref q), (1, .int (5 : Int32))] := hl
  have hx := C.1
  have hb := C.2.1
  have hI := hI.S []
  obtain ⟨q_17, mq_17, tq_17, kq_17⟩ := t_fldr hI.1 mq tq td_40 (k := 17) rfl
  refine lv_aload_n hx hb dX10_hasRead_0 rfl (lv_at hl 0 rfl) ?_
  refine t_getX C hH hI.1 mq tq td_40 iX10 rfl 17 (by decide) wd747 rfl (hI.rf kq_17) dX10_hasRead_1 ?_
  refine lv_bipush (v := (36 : Int32)) hx hb dX10_hasRead_4 (by decide) ?_
  refine lv_iload_n hx hb dX10_hasRead_6 rfl (lv_at hl 1 rfl) ?_
  refine lv_iadd hx hb dX10_hasRead_7 ?_
  refine lv_topi (fun z1 ez1 => ?_)
  obtain rfl : z1 = (41 : Int32) := ez1.trans (by decide)
  refine t_ald C hH hI.1 mq_17 tq_17 td_47 (rg_in rl_41 (by decide)) dX10_hasRead_8 (fun z2v az2 pz2 => ?_)
  refine lv_topi (fun z2 ez2 => ?_)
  have r3 : rg z2 0 4 := has_rg pz2 (i := (41 : Int32)) 41 rfl (by decide) ez2
  exact g_iret C hr hH (Nat.zero_le _) (Nat.zero_le _) dX10_hasRead_9 ⟨rfl, hI, ⟨r3, (fun vh h => by rw [ez2, arr_inj az2 (h _ mq_17 tq_17)]; rfl)⟩⟩
set_option maxHeartbeats 4000000 in
set_option maxRecDepth 100000 in
theorem t_hasRead_6 (l : Launch) (E : gE) (J : Nat → Nat) (τ : Nat → Nat) (L : List Nat) (f : gF) (hI : tI E L τ f) {q : Nat} (mq : q ∈ L) (tq : τ q = 40) (p1 : Int32) (rp1 : rg p1 6 6) : tMi l E J yX10_hasRead cX10_hasRead 2 .int (gRm (1) 0 0) [.ref q, .int p1] L f (tPi E L τ [] f (fun r f1 => rg r 0 6 ∧ (∀ vh : Nat → Int32, isA E L τ f 47 45 vh → r = vh 42))) := by
  refine tMi.intro (by decide) (Nat.le_of_ble_eq_true rfl) ?_
  intro p e s m below meth c A ls C hr hA hO hH hl
  have C : gC E cX10_hasRead 2 RX10 p s m _ meth c := C
  obtain rfl : p1 = (6 : Int32) := Int32.toInt_inj.mp (Int.le_antisymm (by rw [tl_6]; exact rp1.2) (by rw [tl_6]; exact rp1.1))
  have hl : lv_has ls 2 [(0, .ref q), (1, .int (6 : Int32))] := hl
  have hx := C.1
  have hb := C.2.1
  have hI := hI.S []
  obtain ⟨q_17, mq_17, tq_17, kq_17⟩ := t_fldr hI.1 mq tq td_40 (k := 17) rfl
  refine lv_aload_n hx hb dX10_hasRead_0 rfl (lv_at hl 0 rfl) ?_
  refine t_getX C hH hI.1 mq tq td_40 iX10 rfl 17 (by decide) wd747 rfl (hI.rf kq_17) dX10_hasRead_1 ?_
  refine lv_bipush (v := (36 : Int32)) hx hb dX10_hasRead_4 (by decide) ?_
  refine lv_iload_n hx hb dX10_hasRead_6 rfl (lv_at hl 1 rfl) ?_
  refine lv_iadd hx hb dX10_hasRead_7 ?_
  refine lv_topi (fun z1 ez1 => ?_)
  obtain rfl : z1 = (42 : Int32) := ez1.trans (by decide)
  refine t_ald C hH hI.1 mq_17 tq_17 td_47 (rg_in rl_42 (by decide)) dX10_hasRead_8 (fun z2v az2 pz2 => ?_)
  refine lv_topi (fun z2 ez2 => ?_)
  have r3 : rg z2 0 6 := has_rg pz2 (i := (42 : Int32)) 42 rfl (by decide) ez2
  exact g_iret C hr hH (Nat.zero_le _) (Nat.zero_le _) dX10_hasRead_9 ⟨rfl, hI, ⟨r3, (fun vh h => by rw [ez2, arr_inj az2 (h _ mq_17 tq_17)]; rfl)⟩⟩
set_option maxHeartbeats 4000000 in
set_option maxRecDepth 100000 in
theorem t_hasRead_8 (l : Launch) (E : gE) (J : Nat → Nat) (τ : Nat → Nat) (L : List Nat) (f : gF) (hI : tI E L τ f) {q : Nat} (mq : q ∈ L) (tq : τ q = 40) (p1 : Int32) (rp1 : rg p1 8 8) : tMi l E J yX10_hasRead cX10_hasRead 2 .int (gRm (1) 0 0) [.ref q, .int p1] L f (tPi E L τ [] f (fun r f1 => rg r (-2147483648) 2147483647 ∧ (∀ vh : Nat → Int32, isA E L τ f 47 45 vh → r = vh 44))) := by
  refine tMi.intro (by decide) (Nat.le_of_ble_eq_true rfl) ?_
  intro p e s m below meth c A ls C hr hA hO hH hl
  have C : gC E cX10_hasRead 2 RX10 p s m _ meth c := C
  obtain rfl : p1 = (8 : Int32) := Int32.toInt_inj.mp (Int.le_antisymm (by rw [tl_8]; exact rp1.2) (by rw [tl_8]; exact rp1.1))
  have hl : lv_has ls 2 [(0, .ref q), (1, .int (8 : Int32))] := hl
  have hx := C.1
  have hb := C.2.1
  have hI := hI.S []
  obtain ⟨q_17, mq_17, tq_17, kq_17⟩ := t_fldr hI.1 mq tq td_40 (k := 17) rfl
  refine lv_aload_n hx hb dX10_hasRead_0 rfl (lv_at hl 0 rfl) ?_
  refine t_getX C hH hI.1 mq tq td_40 iX10 rfl 17 (by decide) wd747 rfl (hI.rf kq_17) dX10_hasRead_1 ?_
  refine lv_bipush (v := (36 : Int32)) hx hb dX10_hasRead_4 (by decide) ?_
  refine lv_iload_n hx hb dX10_hasRead_6 rfl (lv_at hl 1 rfl) ?_
  refine lv_iadd hx hb dX10_hasRead_7 ?_
  refine lv_topi (fun z1 ez1 => ?_)
  obtain rfl : z1 = (44 : Int32) := ez1.trans (by decide)
  refine t_ald C hH hI.1 mq_17 tq_17 td_47 (rg_in rl_44 (by decide)) dX10_hasRead_8 (fun z2v az2 pz2 => ?_)
  refine lv_topi (fun z2 ez2 => ?_)
  exact g_iret C hr hH (Nat.zero_le _) (Nat.zero_le _) dX10_hasRead_9 ⟨rfl, hI, ⟨(rg_all _), (fun vh h => by rw [ez2, arr_inj az2 (h _ mq_17 tq_17)]; rfl)⟩⟩
set_option maxHeartbeats 4000000 in
set_option maxRecDepth 100000 in
theorem t_tells_0 (l : Launch) (E : gE) (J : Nat → Nat) (τ : Nat → Nat) (L : List Nat) (f : gF) (hI : tI E L τ f) {q : Nat} (mq : q ∈ L) (tq : τ q = 40) (p1 : Int32) (rp1 : rg p1 0 0) (p2 : Int32) (rp2 : rg p2 0 5) {vh : Nat → Int32} (hh : isA E L τ f 47 45 vh) (hUh : uq L τ 47) : tMv l E J yX10_tells cX10_tells 3 (gRm (1) 0 0) [.ref q, .int p1, .int p2] L f (tPv E L τ [47] f (fun f1 => (isA E L τ f1 47 45 (upd vh 36 p2)))) := by
  refine tMv.intro (by decide) (Nat.le_of_ble_eq_true rfl) ?_
  intro p e s m below meth c A ls C hr hA hO hH hl
  have C : gC E cX10_tells 3 RX10 p s m _ meth c := C
  obtain rfl : p1 = (0 : Int32) := Int32.toInt_inj.mp (Int.le_antisymm (by rw [tl_0]; exact rp1.2) (by rw [tl_0]; exact rp1.1))
  have hl : lv_has ls 3 [(0, .ref q), (1, .int (0 : Int32)), (2, .int p2)] := hl
  have hx := C.1
  have hb := C.2.1
  have hI := hI.S [47]
  obtain ⟨q_17, mq_17, tq_17, kq_17⟩ := t_fldr hI.1 mq tq td_40 (k := 17) rfl
  refine lv_aload_n hx hb dX10_tells_0 rfl (lv_at hl 0 rfl) ?_
  refine t_getX C hH hI.1 mq tq td_40 iX10 rfl 17 (by decide) wd747 rfl (hI.rf kq_17) dX10_tells_1 ?_
  refine lv_bipush (v := (36 : Int32)) hx hb dX10_tells_4 (by decide) ?_
  refine lv_iload_n hx hb dX10_tells_6 rfl (lv_at hl 1 rfl) ?_
  refine lv_iadd hx hb dX10_tells_7 ?_
  refine lv_topi (fun z1 ez1 => ?_)
  obtain rfl : z1 = (36 : Int32) := ez1.trans (by decide)
  refine lv_iload_n hx hb dX10_tells_8 rfl (lv_at hl 2 rfl) ?_
  refine t_ast C hH hI mq_17 tq_17 (by decide) td_47 (rg_in rl_36 (by decide)) (fun _ _ h => hasP_up h (j := 36) (by decide) (lo := 0) (hi := 5) rfl rp2) dX10_tells_9 (fun f2 H locs hH hI bf2 uf2 => ?_)
  have hh := isA_w hUh mq_17 tq_17 (uf2 _ (hh q_17 mq_17 tq_17))
  exact g_vret C hr hH (Nat.zero_le _) (Nat.zero_le _) dX10_tells_10 ⟨rfl, hI, hh⟩
set_option maxHeartbeats 4000000 in
set_option maxRecDepth 100000 in
theorem t_tells_1 (l : Launch) (E : gE) (J : Nat → Nat) (τ : Nat → Nat) (L : List Nat) (f : gF) (hI : tI E L τ f) {q : Nat} (mq : q ∈ L) (tq : τ q = 40) (p1 : Int32) (rp1 : rg p1 1 1) (p2 : Int32) (rp2 : rg p2 0 4) {vh : Nat → Int32} (hh : isA E L τ f 47 45 vh) (hUh : uq L τ 47) : tMv l E J yX10_tells cX10_tells 3 (gRm (1) 0 0) [.ref q, .int p1, .int p2] L f (tPv E L τ [47] f (fun f1 => (isA E L τ f1 47 45 (upd vh 37 p2)))) := by
  refine tMv.intro (by decide) (Nat.le_of_ble_eq_true rfl) ?_
  intro p e s m below meth c A ls C hr hA hO hH hl
  have C : gC E cX10_tells 3 RX10 p s m _ meth c := C
  obtain rfl : p1 = (1 : Int32) := Int32.toInt_inj.mp (Int.le_antisymm (by rw [tl_1]; exact rp1.2) (by rw [tl_1]; exact rp1.1))
  have hl : lv_has ls 3 [(0, .ref q), (1, .int (1 : Int32)), (2, .int p2)] := hl
  have hx := C.1
  have hb := C.2.1
  have hI := hI.S [47]
  obtain ⟨q_17, mq_17, tq_17, kq_17⟩ := t_fldr hI.1 mq tq td_40 (k := 17) rfl
  refine lv_aload_n hx hb dX10_tells_0 rfl (lv_at hl 0 rfl) ?_
  refine t_getX C hH hI.1 mq tq td_40 iX10 rfl 17 (by decide) wd747 rfl (hI.rf kq_17) dX10_tells_1 ?_
  refine lv_bipush (v := (36 : Int32)) hx hb dX10_tells_4 (by decide) ?_
  refine lv_iload_n hx hb dX10_tells_6 rfl (lv_at hl 1 rfl) ?_
  refine lv_iadd hx hb dX10_tells_7 ?_
  refine lv_topi (fun z1 ez1 => ?_)
  obtain rfl : z1 = (37 : Int32) := ez1.trans (by decide)
  refine lv_iload_n hx hb dX10_tells_8 rfl (lv_at hl 2 rfl) ?_
  refine t_ast C hH hI mq_17 tq_17 (by decide) td_47 (rg_in rl_37 (by decide)) (fun _ _ h => hasP_up h (j := 37) (by decide) (lo := 0) (hi := 4) rfl rp2) dX10_tells_9 (fun f2 H locs hH hI bf2 uf2 => ?_)
  have hh := isA_w hUh mq_17 tq_17 (uf2 _ (hh q_17 mq_17 tq_17))
  exact g_vret C hr hH (Nat.zero_le _) (Nat.zero_le _) dX10_tells_10 ⟨rfl, hI, hh⟩
set_option maxHeartbeats 4000000 in
set_option maxRecDepth 100000 in
theorem t_tells_2 (l : Launch) (E : gE) (J : Nat → Nat) (τ : Nat → Nat) (L : List Nat) (f : gF) (hI : tI E L τ f) {q : Nat} (mq : q ∈ L) (tq : τ q = 40) (p1 : Int32) (rp1 : rg p1 2 2) (p2 : Int32) {vh : Nat → Int32} (hh : isA E L τ f 47 45 vh) (hUh : uq L τ 47) : tMv l E J yX10_tells cX10_tells 3 (gRm (1) 0 0) [.ref q, .int p1, .int p2] L f (tPv E L τ [47] f (fun f1 => (isA E L τ f1 47 45 (upd vh 38 p2)))) := by
  refine tMv.intro (by decide) (Nat.le_of_ble_eq_true rfl) ?_
  intro p e s m below meth c A ls C hr hA hO hH hl
  have C : gC E cX10_tells 3 RX10 p s m _ meth c := C
  obtain rfl : p1 = (2 : Int32) := Int32.toInt_inj.mp (Int.le_antisymm (by rw [tl_2]; exact rp1.2) (by rw [tl_2]; exact rp1.1))
  have hl : lv_has ls 3 [(0, .ref q), (1, .int (2 : Int32)), (2, .int p2)] := hl
  have hx := C.1
  have hb := C.2.1
  have hI := hI.S [47]
  obtain ⟨q_17, mq_17, tq_17, kq_17⟩ := t_fldr hI.1 mq tq td_40 (k := 17) rfl
  refine lv_aload_n hx hb dX10_tells_0 rfl (lv_at hl 0 rfl) ?_
  refine t_getX C hH hI.1 mq tq td_40 iX10 rfl 17 (by decide) wd747 rfl (hI.rf kq_17) dX10_tells_1 ?_
  refine lv_bipush (v := (36 : Int32)) hx hb dX10_tells_4 (by decide) ?_
  refine lv_iload_n hx hb dX10_tells_6 rfl (lv_at hl 1 rfl) ?_
  refine lv_iadd hx hb dX10_tells_7 ?_
  refine lv_topi (fun z1 ez1 => ?_)
  obtain rfl : z1 = (38 : Int32) := ez1.trans (by decide)
  refine lv_iload_n hx hb dX10_tells_8 rfl (lv_at hl 2 rfl) ?_
  refine t_ast C hH hI mq_17 tq_17 (by decide) td_47 (rg_in rl_38 (by decide)) (fun _ _ h => hasP_up h (j := 38) (by decide) (lo := (-2147483648)) (hi := 2147483647) rfl (rg_all _)) dX10_tells_9 (fun f2 H locs hH hI bf2 uf2 => ?_)
  have hh := isA_w hUh mq_17 tq_17 (uf2 _ (hh q_17 mq_17 tq_17))
  exact g_vret C hr hH (Nat.zero_le _) (Nat.zero_le _) dX10_tells_10 ⟨rfl, hI, hh⟩
set_option maxHeartbeats 4000000 in
set_option maxRecDepth 100000 in
theorem t_tells_3 (l : Launch) (E : gE) (J : Nat → Nat) (τ : Nat → Nat) (L : List Nat) (f : gF) (hI : tI E L τ f) {q : Nat} (mq : q ∈ L) (tq : τ q = 40) (p1 : Int32) (rp1 : rg p1 3 3) (p2 : Int32) {vh : Nat → Int32} (hh : isA E L τ f 47 45 vh) (hUh : uq L τ 47) : tMv l E J yX10_tells cX10_tells 3 (gRm (1) 0 0) [.ref q, .int p1, .int p2] L f (tPv E L τ [47] f (fun f1 => (isA E L τ f1 47 45 (upd vh 39 p2)))) := by
  refine tMv.intro (by decide) (Nat.le_of_ble_eq_true rfl) ?_
  intro p e s m below meth c A ls C hr hA hO hH hl
  have C : gC E cX10_tells 3 RX10 p s m _ meth c := C
  obtain rfl : p1 = (3 : Int32) := Int32.toInt_inj.mp (Int.le_antisymm (by rw [tl_3]; exact rp1.2) (by rw [tl_3]; exact rp1.1))
  have hl : lv_has ls 3 [(0, .ref q), (1, .int (3 : Int32)), (2, .int p2)] := hl
  have hx := C.1
  have hb := C.2.1
  have hI := hI.S [47]
  obtain ⟨q_17, mq_17, tq_17, kq_17⟩ := t_fldr hI.1 mq tq td_40 (k := 17) rfl
  refine lv_aload_n hx hb dX10_tells_0 rfl (lv_at hl 0 rfl) ?_
  refine t_getX C hH hI.1 mq tq td_40 iX10 rfl 17 (by decide) wd747 rfl (hI.rf kq_17) dX10_tells_1 ?_
  refine lv_bipush (v := (36 : Int32)) hx hb dX10_tells_4 (by decide) ?_
  refine lv_iload_n hx hb dX10_tells_6 rfl (lv_at hl 1 rfl) ?_
  refine lv_iadd hx hb dX10_tells_7 ?_
  refine lv_topi (fun z1 ez1 => ?_)
  obtain rfl : z1 = (39 : Int32) := ez1.trans (by decide)
  refine lv_iload_n hx hb dX10_tells_8 rfl (lv_at hl 2 rfl) ?_
  refine t_ast C hH hI mq_17 tq_17 (by decide) td_47 (rg_in rl_39 (by decide)) (fun _ _ h => hasP_up h (j := 39) (by decide) (lo := (-2147483648)) (hi := 2147483647) rfl (rg_all _)) dX10_tells_9 (fun f2 H locs hH hI bf2 uf2 => ?_)
  have hh := isA_w hUh mq_17 tq_17 (uf2 _ (hh q_17 mq_17 tq_17))
  exact g_vret C hr hH (Nat.zero_le _) (Nat.zero_le _) dX10_tells_10 ⟨rfl, hI, hh⟩
set_option maxHeartbeats 4000000 in
set_option maxRecDepth 100000 in
theorem t_tells_4 (l : Launch) (E : gE) (J : Nat → Nat) (τ : Nat → Nat) (L : List Nat) (f : gF) (hI : tI E L τ f) {q : Nat} (mq : q ∈ L) (tq : τ q = 40) (p1 : Int32) (rp1 : rg p1 4 4) (p2 : Int32) {vh : Nat → Int32} (hh : isA E L τ f 47 45 vh) (hUh : uq L τ 47) : tMv l E J yX10_tells cX10_tells 3 (gRm (1) 0 0) [.ref q, .int p1, .int p2] L f (tPv E L τ [47] f (fun f1 => (isA E L τ f1 47 45 (upd vh 40 p2)))) := by
  refine tMv.intro (by decide) (Nat.le_of_ble_eq_true rfl) ?_
  intro p e s m below meth c A ls C hr hA hO hH hl
  have C : gC E cX10_tells 3 RX10 p s m _ meth c := C
  obtain rfl : p1 = (4 : Int32) := Int32.toInt_inj.mp (Int.le_antisymm (by rw [tl_4]; exact rp1.2) (by rw [tl_4]; exact rp1.1))
  have hl : lv_has ls 3 [(0, .ref q), (1, .int (4 : Int32)), (2, .int p2)] := hl
  have hx := C.1
  have hb := C.2.1
  have hI := hI.S [47]
  obtain ⟨q_17, mq_17, tq_17, kq_17⟩ := t_fldr hI.1 mq tq td_40 (k := 17) rfl
  refine lv_aload_n hx hb dX10_tells_0 rfl (lv_at hl 0 rfl) ?_
  refine t_getX C hH hI.1 mq tq td_40 iX10 rfl 17 (by decide) wd747 rfl (hI.rf kq_17) dX10_tells_1 ?_
  refine lv_bipush (v := (36 : Int32)) hx hb dX10_tells_4 (by decide) ?_
  refine lv_iload_n hx hb dX10_tells_6 rfl (lv_at hl 1 rfl) ?_
  refine lv_iadd hx hb dX10_tells_7 ?_
  refine lv_topi (fun z1 ez1 => ?_)
  obtain rfl : z1 = (40 : Int32) := ez1.trans (by decide)
  refine lv_iload_n hx hb dX10_tells_8 rfl (lv_at hl 2 rfl) ?_
  refine t_ast C hH hI mq_17 tq_17 (by decide) td_47 (rg_in rl_40 (by decide)) (fun _ _ h => hasP_up h (j := 40) (by decide) (lo := (-2147483648)) (hi := 2147483647) rfl (rg_all _)) dX10_tells_9 (fun f2 H locs hH hI bf2 uf2 => ?_)
  have hh := isA_w hUh mq_17 tq_17 (uf2 _ (hh q_17 mq_17 tq_17))
  exact g_vret C hr hH (Nat.zero_le _) (Nat.zero_le _) dX10_tells_10 ⟨rfl, hI, hh⟩
set_option maxHeartbeats 4000000 in
set_option maxRecDepth 100000 in
theorem t_tells_5 (l : Launch) (E : gE) (J : Nat → Nat) (τ : Nat → Nat) (L : List Nat) (f : gF) (hI : tI E L τ f) {q : Nat} (mq : q ∈ L) (tq : τ q = 40) (p1 : Int32) (rp1 : rg p1 5 5) (p2 : Int32) (rp2 : rg p2 0 4) {vh : Nat → Int32} (hh : isA E L τ f 47 45 vh) (hUh : uq L τ 47) : tMv l E J yX10_tells cX10_tells 3 (gRm (1) 0 0) [.ref q, .int p1, .int p2] L f (tPv E L τ [47] f (fun f1 => (isA E L τ f1 47 45 (upd vh 41 p2)))) := by
  refine tMv.intro (by decide) (Nat.le_of_ble_eq_true rfl) ?_
  intro p e s m below meth c A ls C hr hA hO hH hl
  have C : gC E cX10_tells 3 RX10 p s m _ meth c := C
  obtain rfl : p1 = (5 : Int32) := Int32.toInt_inj.mp (Int.le_antisymm (by rw [tl_5]; exact rp1.2) (by rw [tl_5]; exact rp1.1))
  have hl : lv_has ls 3 [(0, .ref q), (1, .int (5 : Int32)), (2, .int p2)] := hl
  have hx := C.1
  have hb := C.2.1
  have hI := hI.S [47]
  obtain ⟨q_17, mq_17, tq_17, kq_17⟩ := t_fldr hI.1 mq tq td_40 (k := 17) rfl
  refine lv_aload_n hx hb dX10_tells_0 rfl (lv_at hl 0 rfl) ?_
  refine t_getX C hH hI.1 mq tq td_40 iX10 rfl 17 (by decide) wd747 rfl (hI.rf kq_17) dX10_tells_1 ?_
  refine lv_bipush (v := (36 : Int32)) hx hb dX10_tells_4 (by decide) ?_
  refine lv_iload_n hx hb dX10_tells_6 rfl (lv_at hl 1 rfl) ?_
  refine lv_iadd hx hb dX10_tells_7 ?_
  refine lv_topi (fun z1 ez1 => ?_)
  obtain rfl : z1 = (41 : Int32) := ez1.trans (by decide)
  refine lv_iload_n hx hb dX10_tells_8 rfl (lv_at hl 2 rfl) ?_
  refine t_ast C hH hI mq_17 tq_17 (by decide) td_47 (rg_in rl_41 (by decide)) (fun _ _ h => hasP_up h (j := 41) (by decide) (lo := 0) (hi := 4) rfl rp2) dX10_tells_9 (fun f2 H locs hH hI bf2 uf2 => ?_)
  have hh := isA_w hUh mq_17 tq_17 (uf2 _ (hh q_17 mq_17 tq_17))
  exact g_vret C hr hH (Nat.zero_le _) (Nat.zero_le _) dX10_tells_10 ⟨rfl, hI, hh⟩
set_option maxHeartbeats 4000000 in
set_option maxRecDepth 100000 in
theorem t_tells_6 (l : Launch) (E : gE) (J : Nat → Nat) (τ : Nat → Nat) (L : List Nat) (f : gF) (hI : tI E L τ f) {q : Nat} (mq : q ∈ L) (tq : τ q = 40) (p1 : Int32) (rp1 : rg p1 6 6) (p2 : Int32) (rp2 : rg p2 0 6) {vh : Nat → Int32} (hh : isA E L τ f 47 45 vh) (hUh : uq L τ 47) : tMv l E J yX10_tells cX10_tells 3 (gRm (1) 0 0) [.ref q, .int p1, .int p2] L f (tPv E L τ [47] f (fun f1 => (isA E L τ f1 47 45 (upd vh 42 p2)))) := by
  refine tMv.intro (by decide) (Nat.le_of_ble_eq_true rfl) ?_
  intro p e s m below meth c A ls C hr hA hO hH hl
  have C : gC E cX10_tells 3 RX10 p s m _ meth c := C
  obtain rfl : p1 = (6 : Int32) := Int32.toInt_inj.mp (Int.le_antisymm (by rw [tl_6]; exact rp1.2) (by rw [tl_6]; exact rp1.1))
  have hl : lv_has ls 3 [(0, .ref q), (1, .int (6 : Int32)), (2, .int p2)] := hl
  have hx := C.1
  have hb := C.2.1
  have hI := hI.S [47]
  obtain ⟨q_17, mq_17, tq_17, kq_17⟩ := t_fldr hI.1 mq tq td_40 (k := 17) rfl
  refine lv_aload_n hx hb dX10_tells_0 rfl (lv_at hl 0 rfl) ?_
  refine t_getX C hH hI.1 mq tq td_40 iX10 rfl 17 (by decide) wd747 rfl (hI.rf kq_17) dX10_tells_1 ?_
  refine lv_bipush (v := (36 : Int32)) hx hb dX10_tells_4 (by decide) ?_
  refine lv_iload_n hx hb dX10_tells_6 rfl (lv_at hl 1 rfl) ?_
  refine lv_iadd hx hb dX10_tells_7 ?_
  refine lv_topi (fun z1 ez1 => ?_)
  obtain rfl : z1 = (42 : Int32) := ez1.trans (by decide)
  refine lv_iload_n hx hb dX10_tells_8 rfl (lv_at hl 2 rfl) ?_
  refine t_ast C hH hI mq_17 tq_17 (by decide) td_47 (rg_in rl_42 (by decide)) (fun _ _ h => hasP_up h (j := 42) (by decide) (lo := 0) (hi := 6) rfl rp2) dX10_tells_9 (fun f2 H locs hH hI bf2 uf2 => ?_)
  have hh := isA_w hUh mq_17 tq_17 (uf2 _ (hh q_17 mq_17 tq_17))
  exact g_vret C hr hH (Nat.zero_le _) (Nat.zero_le _) dX10_tells_10 ⟨rfl, hI, hh⟩
set_option maxHeartbeats 4000000 in
set_option maxRecDepth 100000 in
theorem t_tells_7 (l : Launch) (E : gE) (J : Nat → Nat) (τ : Nat → Nat) (L : List Nat) (f : gF) (hI : tI E L τ f) {q : Nat} (mq : q ∈ L) (tq : τ q = 40) (p1 : Int32) (rp1 : rg p1 7 7) (p2 : Int32) (rp2 : rg p2 0 40) {vh : Nat → Int32} (hh : isA E L τ f 47 45 vh) (hUh : uq L τ 47) : tMv l E J yX10_tells cX10_tells 3 (gRm (1) 0 0) [.ref q, .int p1, .int p2] L f (tPv E L τ [47] f (fun f1 => (isA E L τ f1 47 45 (upd vh 43 p2)))) := by
  refine tMv.intro (by decide) (Nat.le_of_ble_eq_true rfl) ?_
  intro p e s m below meth c A ls C hr hA hO hH hl
  have C : gC E cX10_tells 3 RX10 p s m _ meth c := C
  obtain rfl : p1 = (7 : Int32) := Int32.toInt_inj.mp (Int.le_antisymm (by rw [tl_7]; exact rp1.2) (by rw [tl_7]; exact rp1.1))
  have hl : lv_has ls 3 [(0, .ref q), (1, .int (7 : Int32)), (2, .int p2)] := hl
  have hx := C.1
  have hb := C.2.1
  have hI := hI.S [47]
  obtain ⟨q_17, mq_17, tq_17, kq_17⟩ := t_fldr hI.1 mq tq td_40 (k := 17) rfl
  refine lv_aload_n hx hb dX10_tells_0 rfl (lv_at hl 0 rfl) ?_
  refine t_getX C hH hI.1 mq tq td_40 iX10 rfl 17 (by decide) wd747 rfl (hI.rf kq_17) dX10_tells_1 ?_
  refine lv_bipush (v := (36 : Int32)) hx hb dX10_tells_4 (by decide) ?_
  refine lv_iload_n hx hb dX10_tells_6 rfl (lv_at hl 1 rfl) ?_
  refine lv_iadd hx hb dX10_tells_7 ?_
  refine lv_topi (fun z1 ez1 => ?_)
  obtain rfl : z1 = (43 : Int32) := ez1.trans (by decide)
  refine lv_iload_n hx hb dX10_tells_8 rfl (lv_at hl 2 rfl) ?_
  refine t_ast C hH hI mq_17 tq_17 (by decide) td_47 (rg_in rl_43 (by decide)) (fun _ _ h => hasP_up h (j := 43) (by decide) (lo := 0) (hi := 40) rfl rp2) dX10_tells_9 (fun f2 H locs hH hI bf2 uf2 => ?_)
  have hh := isA_w hUh mq_17 tq_17 (uf2 _ (hh q_17 mq_17 tq_17))
  exact g_vret C hr hH (Nat.zero_le _) (Nat.zero_le _) dX10_tells_10 ⟨rfl, hI, hh⟩
set_option maxHeartbeats 4000000 in
set_option maxRecDepth 100000 in
theorem t_tells_8 (l : Launch) (E : gE) (J : Nat → Nat) (τ : Nat → Nat) (L : List Nat) (f : gF) (hI : tI E L τ f) {q : Nat} (mq : q ∈ L) (tq : τ q = 40) (p1 : Int32) (rp1 : rg p1 8 8) (p2 : Int32) {vh : Nat → Int32} (hh : isA E L τ f 47 45 vh) (hUh : uq L τ 47) : tMv l E J yX10_tells cX10_tells 3 (gRm (1) 0 0) [.ref q, .int p1, .int p2] L f (tPv E L τ [47] f (fun f1 => (isA E L τ f1 47 45 (upd vh 44 p2)))) := by
  refine tMv.intro (by decide) (Nat.le_of_ble_eq_true rfl) ?_
  intro p e s m below meth c A ls C hr hA hO hH hl
  have C : gC E cX10_tells 3 RX10 p s m _ meth c := C
  obtain rfl : p1 = (8 : Int32) := Int32.toInt_inj.mp (Int.le_antisymm (by rw [tl_8]; exact rp1.2) (by rw [tl_8]; exact rp1.1))
  have hl : lv_has ls 3 [(0, .ref q), (1, .int (8 : Int32)), (2, .int p2)] := hl
  have hx := C.1
  have hb := C.2.1
  have hI := hI.S [47]
  obtain ⟨q_17, mq_17, tq_17, kq_17⟩ := t_fldr hI.1 mq tq td_40 (k := 17) rfl
  refine lv_aload_n hx hb dX10_tells_0 rfl (lv_at hl 0 rfl) ?_
  refine t_getX C hH hI.1 mq tq td_40 iX10 rfl 17 (by decide) wd747 rfl (hI.rf kq_17) dX10_tells_1 ?_
  refine lv_bipush (v := (36 : Int32)) hx hb dX10_tells_4 (by decide) ?_
  refine lv_iload_n hx hb dX10_tells_6 rfl (lv_at hl 1 rfl) ?_
  refine lv_iadd hx hb dX10_tells_7 ?_
  refine lv_topi (fun z1 ez1 => ?_)
  obtain rfl : z1 = (44 : Int32) := ez1.trans (by decide)
  refine lv_iload_n hx hb dX10_tells_8 rfl (lv_at hl 2 rfl) ?_
  refine t_ast C hH hI mq_17 tq_17 (by decide) td_47 (rg_in rl_44 (by decide)) (fun _ _ h => hasP_up h (j := 44) (by decide) (lo := (-2147483648)) (hi := 2147483647) rfl (rg_all _)) dX10_tells_9 (fun f2 H locs hH hI bf2 uf2 => ?_)
  have hh := isA_w hUh mq_17 tq_17 (uf2 _ (hh q_17 mq_17 tq_17))
  exact g_vret C hr hH (Nat.zero_le _) (Nat.zero_le _) dX10_tells_10 ⟨rfl, hI, hh⟩
set_option maxHeartbeats 4000000 in
set_option maxRecDepth 100000 in
theorem t_X10_cellHere (l : Launch) (E : gE) (J : Nat → Nat) (τ : Nat → Nat) (L : List Nat) (f : gF) (hI : tI E L τ f) {q : Nat} (mq : q ∈ L) (tq : τ q = 40) {sp tp bd : Int32} (hsp : fld f q 7 (.int sp)) (htp : fld f q 6 (.int tp)) (hbd : fld f q 12 (.int bd)) (hle : sp.toInt ≤ tp.toInt) (rsp : rg sp 0 800) (rtp : rg tp 0 800) : tMi l E J yX10_cellHere cX10_cellHere 1 .int (gRm (5) 0 0) [.ref q] L f (tPi E L τ [40] f (fun r f1 => rg r 0 19 ∧ (∃ sp1 bd1 : Int32, fld f1 q 7 (.int sp1) ∧ fld f1 q 6 (.int tp) ∧ fld f1 q 12 (.int bd1) ∧ sp.toInt ≤ sp1.toInt ∧ sp1.toInt ≤ tp.toInt))) := by
  refine tMi.intro (by decide) (Nat.le_of_ble_eq_true rfl) ?_
  intro p e s m below meth c A ls C hr hA hO hH hl
  have C : gC E cX10_cellHere 1 RX10 p s m _ meth c := C
  have hl : lv_has ls 1 [(0, .ref q)] := hl
  have hx := C.1
  have hb := C.2.1
  have hI := hI.S [40]
  refine lv_aload_n hx hb dX10_cellHere_0 rfl (lv_at hl 0 rfl) ?_
  refine lv_ldc2 hx hb C.2.2.2.1 (C.2.2.2.2.1 _ wd1089) dX10_cellHere_1 ?_
  refine lv_iconst (v := (0 : Int32)) hx hb dX10_cellHere_4 (by decide) ?_
  refine lv_aload_n hx hb dX10_cellHere_5 rfl (lv_at hl 0 rfl) ?_
  refine lv_iconst (v := (0 : Int32)) hx hb dX10_cellHere_6 (by decide) ?_
  refine t_Vi C hO hl.1 hA hH hI.1 (As := [.int (0 : Int32)]) (rest := [.int (0 : Int32), .long (47 : Int64), .ref q]) (t_hasRead_0 l E J τ L f hI.1 mq tq (0 : Int32) rl_0) my_X10_hasRead wd1093 mq tq td_40 rfl rfl rfl (Nat.le_of_ble_eq_true rfl) ⟨Nat.le_of_ble_eq_true rfl, Nat.le_of_ble_eq_true rfl⟩ ⟨rfl, rfl⟩ dX10_cellHere_7 (fun r2 L1 f1 H locs hp hH => ?_)
  obtain ⟨rfl, s3, h4⟩ := hp
  have hJ := hI
  have hI := hI.call s3 (by decide)
  have k5 : fld f1 q 7 (.int sp) := fld.eq hsp (s3.fr q mq (t_lim tq rfl))
  have k6 : fld f1 q 6 (.int tp) := fld.eq htp (s3.fr q mq (t_lim tq rfl))
  have k7 : fld f1 q 12 (.int bd) := fld.eq hbd (s3.fr q mq (t_lim tq rfl))
  refine lv_aload_n hx hb dX10_cellHere_10 rfl (lv_at hl 0 rfl) ?_
  refine lv_iconst (v := (1 : Int32)) hx hb dX10_cellHere_11 (by decide) ?_
  refine t_Vi C hO hl.1 hA hH hI.1 (As := [.int (1 : Int32)]) (rest := [.int r2, .int (0 : Int32), .long (47 : Int64), .ref q]) (t_hasRead_1 l E J τ L f1 hI.1 mq tq (1 : Int32) rl_1) my_X10_hasRead wd1093 mq tq td_40 rfl rfl rfl (Nat.le_of_ble_eq_true rfl) ⟨Nat.le_of_ble_eq_true rfl, Nat.le_of_ble_eq_true rfl⟩ ⟨rfl, rfl⟩ dX10_cellHere_12 (fun r9 L1 f8 H locs hp hH => ?_)
  obtain ⟨rfl, s10, h11⟩ := hp
  have hJ := hI
  have hI := hI.call s10 (by decide)
  have k12 : fld f8 q 7 (.int sp) := fld.eq k5 (s10.fr q mq (t_lim tq rfl))
  have k13 : fld f8 q 6 (.int tp) := fld.eq k6 (s10.fr q mq (t_lim tq rfl))
  have k14 : fld f8 q 12 (.int bd) := fld.eq k7 (s10.fr q mq (t_lim tq rfl))
  refine lv_imul hx hb dX10_cellHere_15 ?_
  refine lv_topi (fun z15 ez15 => ?_)
  have r16 : rg z15 0 20 := rg_mul ez15 h4.1 h11.1 (by decide)
  refine lv_iconst (v := (1 : Int32)) hx hb dX10_cellHere_16 (by decide) ?_
  refine lv_isub hx hb dX10_cellHere_17 ?_
  refine lv_topi (fun z17 ez17 => ?_)
  have r18 : rg z17 (-1) 19 := rg_sub ez17 r16 rl_1 (by decide)
  refine t_Vi C hO hl.1 hA hH hI.1 (As := [.long (47 : Int64), .int (0 : Int32), .int z17]) (rest := []) (t_X10_number_ l E J τ L f8 hI.1 mq tq ((47 : Int64)) (0 : Int32) z17 k12 k13 k14 hle rsp rtp) my_X10_number_ wd1097 mq tq td_40 rfl rfl rfl (Nat.le_of_ble_eq_true rfl) ⟨Nat.le_of_ble_eq_true rfl, Nat.le_of_ble_eq_true rfl⟩ ⟨rfl, rfl⟩ dX10_cellHere_18 (fun r20 L1 f19 H locs hp hH => ?_)
  obtain ⟨rfl, s21, h22⟩ := hp
  have hJ := hI
  have hI := hI.call s21 (by decide)
  obtain ⟨sp23, bd24, k25, k26, k27, lo28, hi29⟩ := h22.2.2
  have r30 : rg sp23 0 800 := sp_rg rsp lo28 hi29 rtp
  have lo31 : sp.toInt ≤ sp23.toInt := Int.le_trans (Int.le_refl sp.toInt) lo28
  have r32 : rg r20 0 19 := num_rg h22.2.1 rl_0 r18 (by decide)
  exact g_iret C hr hH (Nat.zero_le _) (Nat.zero_le _) dX10_cellHere_21 ⟨rfl, hI, ⟨r32, ⟨_, _, k25, k26, k27, lo31, hi29⟩⟩⟩
set_option maxHeartbeats 4000000 in
set_option maxRecDepth 100000 in
theorem t_X10_flightLine (l : Launch) (E : gE) (J : Nat → Nat) (τ : Nat → Nat) (L : List Nat) (f : gF) (hI : tI E L τ f) {q : Nat} (mq : q ∈ L) (tq : τ q = 40) {sp tp bd : Int32} (hsp : fld f q 7 (.int sp)) (htp : fld f q 6 (.int tp)) (hbd : fld f q 12 (.int bd)) (hle : sp.toInt ≤ tp.toInt) (rsp : rg sp 0 800) (rtp : rg tp 0 800) {vh : Nat → Int32} (hh : isA E L τ f 47 45 vh) (hUh : uq L τ 47) (h5 : rg (vh 41) 0 3) : tMv l E J yX10_flightLine cX10_flightLine 2 (gRm (6) 0 0) [.ref q] L f (tPv E L τ [40, 47, 48] f (fun f1 => (∃ sp1 bd1 : Int32, fld f1 q 7 (.int sp1) ∧ fld f1 q 6 (.int tp) ∧ fld f1 q 12 (.int bd1) ∧ sp.toInt ≤ sp1.toInt ∧ sp1.toInt ≤ tp.toInt ∧ ∃ x : Int32, isA E L τ f1 47 45 (upd vh 41 x)))) := by
  refine tMv.intro (by decide) (Nat.le_of_ble_eq_true rfl) ?_
  intro p e s m below meth c A ls C hr hA hO hH hl
  have C : gC E cX10_flightLine 2 RX10 p s m _ meth c := C
  have hl : lv_has ls 2 [(0, .ref q)] := hl
  have hx := C.1
  have hb := C.2.1
  have hI := hI.S [40, 47, 48]
  obtain ⟨q_18, mq_18, tq_18, kq_18⟩ := t_fldr hI.1 mq tq td_40 (k := 18) rfl
  refine lv_iconst (v := (3 : Int32)) hx hb dX10_flightLine_0 (by decide) ?_
  refine lv_bipush (v := (16 : Int32)) hx hb dX10_flightLine_1 (by decide) ?_
  refine lv_aload_n hx hb dX10_flightLine_3 rfl (lv_at hl 0 rfl) ?_
  refine lv_iconst (v := (5 : Int32)) hx hb dX10_flightLine_4 (by decide) ?_
  refine t_Vi C hO hl.1 hA hH hI.1 (As := [.int (5 : Int32)]) (rest := [.int (16 : Int32), .int (3 : Int32)]) (t_hasRead_5 l E J τ L f hI.1 mq tq (5 : Int32) rl_5) my_X10_hasRead wd1093 mq tq td_40 rfl rfl rfl (Nat.le_of_ble_eq_true rfl) ⟨Nat.le_of_ble_eq_true rfl, Nat.le_of_ble_eq_true rfl⟩ ⟨rfl, rfl⟩ dX10_flightLine_5 (fun r2 L1 f1 H locs hp hH => ?_)
  obtain ⟨rfl, s3, h4⟩ := hp
  have hJ := hI
  have hI := hI.call s3 (by decide)
  have k5 : fld f1 q 7 (.int sp) := fld.eq hsp (s3.fr q mq (t_lim tq rfl))
  have k6 : fld f1 q 6 (.int tp) := fld.eq htp (s3.fr q mq (t_lim tq rfl))
  have k7 : fld f1 q 12 (.int bd) := fld.eq hbd (s3.fr q mq (t_lim tq rfl))
  have hh_ := hh
  have hh := hh.S s3 rfl
  have hx8 := h4.2 _ hh_
  have r9 : rg r2 0 3 := eq_rg h5 hx8 rfl
  refine lv_iadd hx hb dX10_flightLine_8 ?_
  refine lv_topi (fun z10 ez10 => ?_)
  have r11 : rg z10 16 19 := rg_add ez10 rl_16 r9 (by decide)
  refine lv_imul hx hb dX10_flightLine_9 ?_
  refine lv_topi (fun z12 ez12 => ?_)
  have r13 : rg z12 48 57 := rg_mul ez12 rl_3 r11 (by decide)
  have m14 := mul3 ez12 r11 (by decide)
  refine lv_istore_n (lv' := [(1, .int z12), (0, .ref q)]) hx hb dX10_flightLine_10 rfl hl (by decide) rfl (fun ls hl => ?_)
  refine lv_aload_n hx hb dX10_flightLine_11 rfl (lv_at hl 1 rfl) ?_
  refine t_getX C hH hI.1 mq tq td_40 iX10 rfl 18 (by decide) wd773 rfl (hI.rf kq_18) dX10_flightLine_12 ?_
  refine lv_iload_n hx hb dX10_flightLine_15 rfl (lv_at hl 0 rfl) ?_
  refine lv_aload_n hx hb dX10_flightLine_16 rfl (lv_at hl 1 rfl) ?_
  refine t_Vi C hO hl.1 hA hH hI.1 (As := []) (rest := [.int z12, .ref q_18]) (t_X10_cellHere l E J τ L f1 hI.1 mq tq k5 k6 k7 hle rsp rtp) my_X10_cellHere wd1101 mq tq td_40 rfl rfl rfl (Nat.le_of_ble_eq_true rfl) ⟨Nat.le_of_ble_eq_true rfl, Nat.le_of_ble_eq_true rfl⟩ ⟨rfl, rfl⟩ dX10_flightLine_17 (fun r16 L1 f15 H locs hp hH => ?_)
  obtain ⟨rfl, s17, h18⟩ := hp
  have hJ := hI
  have hI := hI.call s17 (by decide)
  have hh_ := hh
  have hh := hh.S s17 rfl
  obtain ⟨sp19, bd20, k21, k22, k23, lo24, hi25⟩ := h18.2
  have r26 : rg sp19 0 800 := sp_rg rsp lo24 hi25 rtp
  have lo27 : sp.toInt ≤ sp19.toInt := Int.le_trans (Int.le_refl sp.toInt) lo24
  refine t_ast C hH hI mq_18 tq_18 (by decide) td_48 (rg_in r13 (by decide)) (fun _ _ _ => trivial) dX10_flightLine_20 (fun f28 H locs hH hI bf28 uf28 => ?_)
  have hh := isA_st hh tq_18 rfl bf28
  have k29 : fld f28 q 7 (.int sp19) := fld.eq k21 (bf28 q (ty_ne tq tq_18 rfl))
  have k30 : fld f28 q 6 (.int tp) := fld.eq k22 (bf28 q (ty_ne tq tq_18 rfl))
  have k31 : fld f28 q 12 (.int bd20) := fld.eq k23 (bf28 q (ty_ne tq tq_18 rfl))
  refine lv_aload_n hx hb dX10_flightLine_21 rfl (lv_at hl 1 rfl) ?_
  refine t_getX C hH hI.1 mq tq td_40 iX10 rfl 18 (by decide) wd773 rfl (hI.rf kq_18) dX10_flightLine_22 ?_
  refine lv_iload_n hx hb dX10_flightLine_25 rfl (lv_at hl 0 rfl) ?_
  refine lv_iconst (v := (1 : Int32)) hx hb dX10_flightLine_26 (by decide) ?_
  refine lv_iadd hx hb dX10_flightLine_27 ?_
  refine lv_topi (fun z32 ez32 => ?_)
  have r33 : rg z32 49 58 := rg_add ez32 r13 rl_1 (by decide)
  have a34 : z32.toInt = z12.toInt + 1 := ai_add ez32 r13 tl_1 (by decide)
  refine lv_aload_n hx hb dX10_flightLine_28 rfl (lv_at hl 1 rfl) ?_
  refine lv_ldc2 hx hb C.2.2.2.1 (C.2.2.2.2.1 _ wd1102) dX10_flightLine_29 ?_
  refine lv_iconst (v := (0 : Int32)) hx hb dX10_flightLine_32 (by decide) ?_
  refine lv_iconst (v := (3 : Int32)) hx hb dX10_flightLine_33 (by decide) ?_
  refine t_Vi C hO hl.1 hA hH hI.1 (As := [.long (4350799 : Int64), .int (0 : Int32), .int (3 : Int32)]) (rest := [.int z32, .ref q_18]) (t_X10_number_ l E J τ L f28 hI.1 mq tq ((4350799 : Int64)) (0 : Int32) (3 : Int32) k29 k30 k31 hi25 r26 rtp) my_X10_number_ wd1097 mq tq td_40 rfl rfl rfl (Nat.le_of_ble_eq_true rfl) ⟨Nat.le_of_ble_eq_true rfl, Nat.le_of_ble_eq_true rfl⟩ ⟨rfl, rfl⟩ dX10_flightLine_34 (fun r36 L1 f35 H locs hp hH => ?_)
  obtain ⟨rfl, s37, h38⟩ := hp
  have hJ := hI
  have hI := hI.call s37 (by decide)
  have hh_ := hh
  have hh := hh.S s37 rfl
  obtain ⟨sp39, bd40, k41, k42, k43, lo44, hi45⟩ := h38.2.2
  have r46 : rg sp39 0 800 := sp_rg r26 lo44 hi45 rtp
  have lo47 : sp.toInt ≤ sp39.toInt := Int.le_trans lo27 lo44
  have r48 : rg r36 0 3 := num_rg h38.2.1 rl_0 rl_3 (by decide)
  refine t_ast C hH hI mq_18 tq_18 (by decide) td_48 (rg_in r33 (by decide)) (fun _ _ _ => trivial) dX10_flightLine_37 (fun f49 H locs hH hI bf49 uf49 => ?_)
  have hh := isA_st hh tq_18 rfl bf49
  have k50 : fld f49 q 7 (.int sp39) := fld.eq k41 (bf49 q (ty_ne tq tq_18 rfl))
  have k51 : fld f49 q 6 (.int tp) := fld.eq k42 (bf49 q (ty_ne tq tq_18 rfl))
  have k52 : fld f49 q 12 (.int bd40) := fld.eq k43 (bf49 q (ty_ne tq tq_18 rfl))
  refine lv_aload_n hx hb dX10_flightLine_38 rfl (lv_at hl 1 rfl) ?_
  refine t_getX C hH hI.1 mq tq td_40 iX10 rfl 18 (by decide) wd773 rfl (hI.rf kq_18) dX10_flightLine_39 ?_
  refine lv_iload_n hx hb dX10_flightLine_42 rfl (lv_at hl 0 rfl) ?_
  refine lv_iconst (v := (2 : Int32)) hx hb dX10_flightLine_43 (by decide) ?_
  refine lv_iadd hx hb dX10_flightLine_44 ?_
  refine lv_topi (fun z53 ez53 => ?_)
  have r54 : rg z53 50 59 := rg_add ez53 r13 rl_2 (by decide)
  have a55 : z53.toInt = z12.toInt + 2 := ai_add ez53 r13 tl_2 (by decide)
  refine lv_aload_n hx hb dX10_flightLine_45 rfl (lv_at hl 1 rfl) ?_
  refine lv_ldc2 hx hb C.2.2.2.1 (C.2.2.2.2.1 _ wd1103) dX10_flightLine_46 ?_
  refine lv_iconst (v := (1 : Int32)) hx hb dX10_flightLine_49 (by decide) ?_
  refine lv_bipush (v := (20 : Int32)) hx hb dX10_flightLine_50 (by decide) ?_
  refine t_Vi C hO hl.1 hA hH hI.1 (As := [.long (3822665 : Int64), .int (1 : Int32), .int (20 : Int32)]) (rest := [.int z53, .ref q_18]) (t_X10_number_ l E J τ L f49 hI.1 mq tq ((3822665 : Int64)) (1 : Int32) (20 : Int32) k50 k51 k52 hi45 r46 rtp) my_X10_number_ wd1097 mq tq td_40 rfl rfl rfl (Nat.le_of_ble_eq_true rfl) ⟨Nat.le_of_ble_eq_true rfl, Nat.le_of_ble_eq_true rfl⟩ ⟨rfl, rfl⟩ dX10_flightLine_52 (fun r57 L1 f56 H locs hp hH => ?_)
  obtain ⟨rfl, s58, h59⟩ := hp
  have hJ := hI
  have hI := hI.call s58 (by decide)
  have hh_ := hh
  have hh := hh.S s58 rfl
  obtain ⟨sp60, bd61, k62, k63, k64, lo65, hi66⟩ := h59.2.2
  have r67 : rg sp60 0 800 := sp_rg r46 lo65 hi66 rtp
  have lo68 : sp.toInt ≤ sp60.toInt := Int.le_trans lo47 lo65
  have r69 : rg r57 1 20 := num_rg h59.2.1 rl_1 rl_20 (by decide)
  refine t_ast C hH hI mq_18 tq_18 (by decide) td_48 (rg_in r54 (by decide)) (fun _ _ _ => trivial) dX10_flightLine_55 (fun f70 H locs hH hI bf70 uf70 => ?_)
  have hh := isA_st hh tq_18 rfl bf70
  have k71 : fld f70 q 7 (.int sp60) := fld.eq k62 (bf70 q (ty_ne tq tq_18 rfl))
  have k72 : fld f70 q 6 (.int tp) := fld.eq k63 (bf70 q (ty_ne tq tq_18 rfl))
  have k73 : fld f70 q 12 (.int bd61) := fld.eq k64 (bf70 q (ty_ne tq tq_18 rfl))
  refine lv_aload_n hx hb dX10_flightLine_56 rfl (lv_at hl 1 rfl) ?_
  refine lv_iconst (v := (5 : Int32)) hx hb dX10_flightLine_57 (by decide) ?_
  refine lv_aload_n hx hb dX10_flightLine_58 rfl (lv_at hl 1 rfl) ?_
  refine lv_iconst (v := (5 : Int32)) hx hb dX10_flightLine_59 (by decide) ?_
  refine t_Vi C hO hl.1 hA hH hI.1 (As := [.int (5 : Int32)]) (rest := [.int (5 : Int32), .ref q]) (t_hasRead_5 l E J τ L f70 hI.1 mq tq (5 : Int32) rl_5) my_X10_hasRead wd1093 mq tq td_40 rfl rfl rfl (Nat.le_of_ble_eq_true rfl) ⟨Nat.le_of_ble_eq_true rfl, Nat.le_of_ble_eq_true rfl⟩ ⟨rfl, rfl⟩ dX10_flightLine_60 (fun r75 L1 f74 H locs hp hH => ?_)
  obtain ⟨rfl, s76, h77⟩ := hp
  have hJ := hI
  have hI := hI.call s76 (by decide)
  have k78 : fld f74 q 7 (.int sp60) := fld.eq k71 (s76.fr q mq (t_lim tq rfl))
  have k79 : fld f74 q 6 (.int tp) := fld.eq k72 (s76.fr q mq (t_lim tq rfl))
  have k80 : fld f74 q 12 (.int bd61) := fld.eq k73 (s76.fr q mq (t_lim tq rfl))
  have hh_ := hh
  have hh := hh.S s76 rfl
  have hx81 := h77.2 _ hh_
  have r82 : rg r75 0 3 := eq_rg h5 hx81 rfl
  refine lv_iconst (v := (1 : Int32)) hx hb dX10_flightLine_63 (by decide) ?_
  refine lv_iadd hx hb dX10_flightLine_64 ?_
  refine lv_topi (fun z83 ez83 => ?_)
  have r84 : rg z83 1 4 := rg_add ez83 r82 rl_1 (by decide)
  have a85 : z83.toInt = r75.toInt + 1 := ai_add ez83 r82 tl_1 (by decide)
  refine t_Vv C hO hl.1 hA hH hI.1 (As := [.int (5 : Int32), .int z83]) (rest := []) (t_tells_5 l E J τ L f74 hI.1 mq tq (5 : Int32) rl_5 z83 (rg_w r84 (by decide)) hh hUh) my_X10_tells wd1107 mq tq td_40 rfl rfl rfl (Nat.le_of_ble_eq_true rfl) ⟨Nat.le_of_ble_eq_true rfl, Nat.le_of_ble_eq_true rfl⟩ ⟨rfl, rfl⟩ dX10_flightLine_65 (fun L1 f86 H locs hp hH => ?_)
  obtain ⟨rfl, s88, h89⟩ := hp
  have hJ := hI
  have hI := hI.call s88 (by decide)
  have k90 : fld f86 q 7 (.int sp60) := fld.eq k78 (s88.fr q mq (t_lim tq rfl))
  have k91 : fld f86 q 6 (.int tp) := fld.eq k79 (s88.fr q mq (t_lim tq rfl))
  have k92 : fld f86 q 12 (.int bd61) := fld.eq k80 (s88.fr q mq (t_lim tq rfl))
  have hh_ := hh
  have hh := h89
  exact g_vret C hr hH (Nat.zero_le _) (Nat.zero_le _) dX10_flightLine_68 ⟨rfl, hI, ⟨_, _, k90, k91, k92, lo68, hi66, ⟨_, hh⟩⟩⟩
set_option maxHeartbeats 4000000 in
set_option maxRecDepth 100000 in
theorem t_X10_memberLine (l : Launch) (E : gE) (J : Nat → Nat) (τ : Nat → Nat) (L : List Nat) (f : gF) (hI : tI E L τ f) {q : Nat} (mq : q ∈ L) (tq : τ q = 40) {sp tp bd : Int32} (hsp : fld f q 7 (.int sp)) (htp : fld f q 6 (.int tp)) (hbd : fld f q 12 (.int bd)) (hle : sp.toInt ≤ tp.toInt) (rsp : rg sp 0 800) (rtp : rg tp 0 800) {vh : Nat → Int32} (hh : isA E L τ f 47 45 vh) (hUh : uq L τ 47) (h6 : rg (vh 42) 0 5) : tMv l E J yX10_memberLine cX10_memberLine 2 (gRm (6) 0 0) [.ref q] L f (tPv E L τ [40, 47, 49] f (fun f1 => (∃ sp1 bd1 : Int32, fld f1 q 7 (.int sp1) ∧ fld f1 q 6 (.int tp) ∧ fld f1 q 12 (.int bd1) ∧ sp.toInt ≤ sp1.toInt ∧ sp1.toInt ≤ tp.toInt ∧ ∃ x : Int32, isA E L τ f1 47 45 (upd vh 42 x)))) := by
  refine tMv.intro (by decide) (Nat.le_of_ble_eq_true rfl) ?_
  intro p e s m below meth c A ls C hr hA hO hH hl
  have C : gC E cX10_memberLine 2 RX10 p s m _ meth c := C
  have hl : lv_has ls 2 [(0, .ref q)] := hl
  have hx := C.1
  have hb := C.2.1
  have hI := hI.S [40, 47, 49]
  obtain ⟨q_19, mq_19, tq_19, kq_19⟩ := t_fldr hI.1 mq tq td_40 (k := 19) rfl
  refine lv_iconst (v := (3 : Int32)) hx hb dX10_memberLine_0 (by decide) ?_
  refine lv_bipush (v := (24 : Int32)) hx hb dX10_memberLine_1 (by decide) ?_
  refine lv_aload_n hx hb dX10_memberLine_3 rfl (lv_at hl 0 rfl) ?_
  refine lv_bipush (v := (6 : Int32)) hx hb dX10_memberLine_4 (by decide) ?_
  refine t_Vi C hO hl.1 hA hH hI.1 (As := [.int (6 : Int32)]) (rest := [.int (24 : Int32), .int (3 : Int32)]) (t_hasRead_6 l E J τ L f hI.1 mq tq (6 : Int32) rl_6) my_X10_hasRead wd1093 mq tq td_40 rfl rfl rfl (Nat.le_of_ble_eq_true rfl) ⟨Nat.le_of_ble_eq_true rfl, Nat.le_of_ble_eq_true rfl⟩ ⟨rfl, rfl⟩ dX10_memberLine_6 (fun r2 L1 f1 H locs hp hH => ?_)
  obtain ⟨rfl, s3, h4⟩ := hp
  have hJ := hI
  have hI := hI.call s3 (by decide)
  have k5 : fld f1 q 7 (.int sp) := fld.eq hsp (s3.fr q mq (t_lim tq rfl))
  have k6 : fld f1 q 6 (.int tp) := fld.eq htp (s3.fr q mq (t_lim tq rfl))
  have k7 : fld f1 q 12 (.int bd) := fld.eq hbd (s3.fr q mq (t_lim tq rfl))
  have hh_ := hh
  have hh := hh.S s3 rfl
  have hx8 := h4.2 _ hh_
  have r9 : rg r2 0 5 := eq_rg h6 hx8 rfl
  refine lv_iadd hx hb dX10_memberLine_9 ?_
  refine lv_topi (fun z10 ez10 => ?_)
  have r11 : rg z10 24 29 := rg_add ez10 rl_24 r9 (by decide)
  refine lv_imul hx hb dX10_memberLine_10 ?_
  refine lv_topi (fun z12 ez12 => ?_)
  have r13 : rg z12 72 87 := rg_mul ez12 rl_3 r11 (by decide)
  have m14 := mul3 ez12 r11 (by decide)
  refine lv_istore_n (lv' := [(1, .int z12), (0, .ref q)]) hx hb dX10_memberLine_11 rfl hl (by decide) rfl (fun ls hl => ?_)
  refine lv_aload_n hx hb dX10_memberLine_12 rfl (lv_at hl 1 rfl) ?_
  refine t_getX C hH hI.1 mq tq td_40 iX10 rfl 19 (by decide) wd818 rfl (hI.rf kq_19) dX10_memberLine_13 ?_
  refine lv_iload_n hx hb dX10_memberLine_16 rfl (lv_at hl 0 rfl) ?_
  refine lv_aload_n hx hb dX10_memberLine_17 rfl (lv_at hl 1 rfl) ?_
  refine t_Vi C hO hl.1 hA hH hI.1 (As := []) (rest := [.int z12, .ref q_19]) (t_X10_cellHere l E J τ L f1 hI.1 mq tq k5 k6 k7 hle rsp rtp) my_X10_cellHere wd1101 mq tq td_40 rfl rfl rfl (Nat.le_of_ble_eq_true rfl) ⟨Nat.le_of_ble_eq_true rfl, Nat.le_of_ble_eq_true rfl⟩ ⟨rfl, rfl⟩ dX10_memberLine_18 (fun r16 L1 f15 H locs hp hH => ?_)
  obtain ⟨rfl, s17, h18⟩ := hp
  have hJ := hI
  have hI := hI.call s17 (by decide)
  have hh_ := hh
  have hh := hh.S s17 rfl
  obtain ⟨sp19, bd20, k21, k22, k23, lo24, hi25⟩ := h18.2
  have r26 : rg sp19 0 800 := sp_rg rsp lo24 hi25 rtp
  have lo27 : sp.toInt ≤ sp19.toInt := Int.le_trans (Int.le_refl sp.toInt) lo24
  refine t_ast C hH hI mq_19 tq_19 (by decide) td_49 (rg_in r13 (by decide)) (fun _ _ h => memP_0 h h18.1) dX10_memberLine_21 (fun f28 H locs hH hI bf28 uf28 => ?_)
  have hh := isA_st hh tq_19 rfl bf28
  have k29 : fld f28 q 7 (.int sp19) := fld.eq k21 (bf28 q (ty_ne tq tq_19 rfl))
  have k30 : fld f28 q 6 (.int tp) := fld.eq k22 (bf28 q (ty_ne tq tq_19 rfl))
  have k31 : fld f28 q 12 (.int bd20) := fld.eq k23 (bf28 q (ty_ne tq tq_19 rfl))
  refine lv_aload_n hx hb dX10_memberLine_22 rfl (lv_at hl 1 rfl) ?_
  refine t_getX C hH hI.1 mq tq td_40 iX10 rfl 19 (by decide) wd818 rfl (hI.rf kq_19) dX10_memberLine_23 ?_
  refine lv_iload_n hx hb dX10_memberLine_26 rfl (lv_at hl 0 rfl) ?_
  refine lv_iconst (v := (1 : Int32)) hx hb dX10_memberLine_27 (by decide) ?_
  refine lv_iadd hx hb dX10_memberLine_28 ?_
  refine lv_topi (fun z32 ez32 => ?_)
  have r33 : rg z32 73 88 := rg_add ez32 r13 rl_1 (by decide)
  have a34 : z32.toInt = z12.toInt + 1 := ai_add ez32 r13 tl_1 (by decide)
  refine lv_aload_n hx hb dX10_memberLine_29 rfl (lv_at hl 1 rfl) ?_
  refine lv_ldc2 hx hb C.2.2.2.1 (C.2.2.2.2.1 _ wd1108) dX10_memberLine_30 ?_
  refine lv_iconst (v := (0 : Int32)) hx hb dX10_memberLine_33 (by decide) ?_
  refine lv_bipush (v := (99 : Int32)) hx hb dX10_memberLine_34 (by decide) ?_
  refine t_Vi C hO hl.1 hA hH hI.1 (As := [.long (12253591 : Int64), .int (0 : Int32), .int (99 : Int32)]) (rest := [.int z32, .ref q_19]) (t_X10_number_ l E J τ L f28 hI.1 mq tq ((12253591 : Int64)) (0 : Int32) (99 : Int32) k29 k30 k31 hi25 r26 rtp) my_X10_number_ wd1097 mq tq td_40 rfl rfl rfl (Nat.le_of_ble_eq_true rfl) ⟨Nat.le_of_ble_eq_true rfl, Nat.le_of_ble_eq_true rfl⟩ ⟨rfl, rfl⟩ dX10_memberLine_36 (fun r36 L1 f35 H locs hp hH => ?_)
  obtain ⟨rfl, s37, h38⟩ := hp
  have hJ := hI
  have hI := hI.call s37 (by decide)
  have hh_ := hh
  have hh := hh.S s37 rfl
  obtain ⟨sp39, bd40, k41, k42, k43, lo44, hi45⟩ := h38.2.2
  have r46 : rg sp39 0 800 := sp_rg r26 lo44 hi45 rtp
  have lo47 : sp.toInt ≤ sp39.toInt := Int.le_trans lo27 lo44
  have r48 : rg r36 0 99 := num_rg h38.2.1 rl_0 rl_99 (by decide)
  refine t_ast C hH hI mq_19 tq_19 (by decide) td_49 (rg_in r33 (by decide)) (fun _ _ h => memP_n h (mem_n (n := 1) m14 ez32 (rg_w r13 (by decide)) (by decide) (by decide)) r48) dX10_memberLine_39 (fun f49 H locs hH hI bf49 uf49 => ?_)
  have hh := isA_st hh tq_19 rfl bf49
  have k50 : fld f49 q 7 (.int sp39) := fld.eq k41 (bf49 q (ty_ne tq tq_19 rfl))
  have k51 : fld f49 q 6 (.int tp) := fld.eq k42 (bf49 q (ty_ne tq tq_19 rfl))
  have k52 : fld f49 q 12 (.int bd40) := fld.eq k43 (bf49 q (ty_ne tq tq_19 rfl))
  refine lv_aload_n hx hb dX10_memberLine_40 rfl (lv_at hl 1 rfl) ?_
  refine t_getX C hH hI.1 mq tq td_40 iX10 rfl 19 (by decide) wd818 rfl (hI.rf kq_19) dX10_memberLine_41 ?_
  refine lv_iload_n hx hb dX10_memberLine_44 rfl (lv_at hl 0 rfl) ?_
  refine lv_iconst (v := (2 : Int32)) hx hb dX10_memberLine_45 (by decide) ?_
  refine lv_iadd hx hb dX10_memberLine_46 ?_
  refine lv_topi (fun z53 ez53 => ?_)
  have r54 : rg z53 74 89 := rg_add ez53 r13 rl_2 (by decide)
  have a55 : z53.toInt = z12.toInt + 2 := ai_add ez53 r13 tl_2 (by decide)
  refine lv_aload_n hx hb dX10_memberLine_47 rfl (lv_at hl 1 rfl) ?_
  refine lv_ldc2 hx hb C.2.2.2.1 (C.2.2.2.2.1 _ wd1109) dX10_memberLine_48 ?_
  refine lv_iconst (v := (0 : Int32)) hx hb dX10_memberLine_51 (by decide) ?_
  refine lv_bipush (v := (99 : Int32)) hx hb dX10_memberLine_52 (by decide) ?_
  refine t_Vi C hO hl.1 hA hH hI.1 (As := [.long (316351 : Int64), .int (0 : Int32), .int (99 : Int32)]) (rest := [.int z53, .ref q_19]) (t_X10_number_ l E J τ L f49 hI.1 mq tq ((316351 : Int64)) (0 : Int32) (99 : Int32) k50 k51 k52 hi45 r46 rtp) my_X10_number_ wd1097 mq tq td_40 rfl rfl rfl (Nat.le_of_ble_eq_true rfl) ⟨Nat.le_of_ble_eq_true rfl, Nat.le_of_ble_eq_true rfl⟩ ⟨rfl, rfl⟩ dX10_memberLine_54 (fun r57 L1 f56 H locs hp hH => ?_)
  obtain ⟨rfl, s58, h59⟩ := hp
  have hJ := hI
  have hI := hI.call s58 (by decide)
  have hh_ := hh
  have hh := hh.S s58 rfl
  obtain ⟨sp60, bd61, k62, k63, k64, lo65, hi66⟩ := h59.2.2
  have r67 : rg sp60 0 800 := sp_rg r46 lo65 hi66 rtp
  have lo68 : sp.toInt ≤ sp60.toInt := Int.le_trans lo47 lo65
  have r69 : rg r57 0 99 := num_rg h59.2.1 rl_0 rl_99 (by decide)
  refine t_ast C hH hI mq_19 tq_19 (by decide) td_49 (rg_in r54 (by decide)) (fun _ _ h => memP_n h (mem_n (n := 2) m14 ez53 (rg_w r13 (by decide)) (by decide) (by decide)) r69) dX10_memberLine_57 (fun f70 H locs hH hI bf70 uf70 => ?_)
  have hh := isA_st hh tq_19 rfl bf70
  have k71 : fld f70 q 7 (.int sp60) := fld.eq k62 (bf70 q (ty_ne tq tq_19 rfl))
  have k72 : fld f70 q 6 (.int tp) := fld.eq k63 (bf70 q (ty_ne tq tq_19 rfl))
  have k73 : fld f70 q 12 (.int bd61) := fld.eq k64 (bf70 q (ty_ne tq tq_19 rfl))
  refine lv_aload_n hx hb dX10_memberLine_58 rfl (lv_at hl 1 rfl) ?_
  refine lv_bipush (v := (6 : Int32)) hx hb dX10_memberLine_59 (by decide) ?_
  refine lv_aload_n hx hb dX10_memberLine_61 rfl (lv_at hl 1 rfl) ?_
  refine lv_bipush (v := (6 : Int32)) hx hb dX10_memberLine_62 (by decide) ?_
  refine t_Vi C hO hl.1 hA hH hI.1 (As := [.int (6 : Int32)]) (rest := [.int (6 : Int32), .ref q]) (t_hasRead_6 l E J τ L f70 hI.1 mq tq (6 : Int32) rl_6) my_X10_hasRead wd1093 mq tq td_40 rfl rfl rfl (Nat.le_of_ble_eq_true rfl) ⟨Nat.le_of_ble_eq_true rfl, Nat.le_of_ble_eq_true rfl⟩ ⟨rfl, rfl⟩ dX10_memberLine_64 (fun r75 L1 f74 H locs hp hH => ?_)
  obtain ⟨rfl, s76, h77⟩ := hp
  have hJ := hI
  have hI := hI.call s76 (by decide)
  have k78 : fld f74 q 7 (.int sp60) := fld.eq k71 (s76.fr q mq (t_lim tq rfl))
  have k79 : fld f74 q 6 (.int tp) := fld.eq k72 (s76.fr q mq (t_lim tq rfl))
  have k80 : fld f74 q 12 (.int bd61) := fld.eq k73 (s76.fr q mq (t_lim tq rfl))
  have hh_ := hh
  have hh := hh.S s76 rfl
  have hx81 := h77.2 _ hh_
  have r82 : rg r75 0 5 := eq_rg h6 hx81 rfl
  refine lv_iconst (v := (1 : Int32)) hx hb dX10_memberLine_67 (by decide) ?_
  refine lv_iadd hx hb dX10_memberLine_68 ?_
  refine lv_topi (fun z83 ez83 => ?_)
  have r84 : rg z83 1 6 := rg_add ez83 r82 rl_1 (by decide)
  have a85 : z83.toInt = r75.toInt + 1 := ai_add ez83 r82 tl_1 (by decide)
  refine t_Vv C hO hl.1 hA hH hI.1 (As := [.int (6 : Int32), .int z83]) (rest := []) (t_tells_6 l E J τ L f74 hI.1 mq tq (6 : Int32) rl_6 z83 (rg_w r84 (by decide)) hh hUh) my_X10_tells wd1107 mq tq td_40 rfl rfl rfl (Nat.le_of_ble_eq_true rfl) ⟨Nat.le_of_ble_eq_true rfl, Nat.le_of_ble_eq_true rfl⟩ ⟨rfl, rfl⟩ dX10_memberLine_69 (fun L1 f86 H locs hp hH => ?_)
  obtain ⟨rfl, s88, h89⟩ := hp
  have hJ := hI
  have hI := hI.call s88 (by decide)
  have k90 : fld f86 q 7 (.int sp60) := fld.eq k78 (s88.fr q mq (t_lim tq rfl))
  have k91 : fld f86 q 6 (.int tp) := fld.eq k79 (s88.fr q mq (t_lim tq rfl))
  have k92 : fld f86 q 12 (.int bd61) := fld.eq k80 (s88.fr q mq (t_lim tq rfl))
  have hh_ := hh
  have hh := h89
  exact g_vret C hr hH (Nat.zero_le _) (Nat.zero_le _) dX10_memberLine_72 ⟨rfl, hI, ⟨_, _, k90, k91, k92, lo68, hi66, ⟨_, hh⟩⟩⟩
set_option maxHeartbeats 4000000 in
set_option maxRecDepth 100000 in
theorem t_isRoom_5 (l : Launch) (E : gE) (J : Nat → Nat) (τ : Nat → Nat) (L : List Nat) (f : gF) (hI : tI E L τ f) {q : Nat} (mq : q ∈ L) (tq : τ q = 40) (p1 : Int32) (rp1 : rg p1 0 1) (p2 : Int32) (rp2 : rg p2 5 5) (p3 : Int32) (rp3 : rg p3 4 4) {sp tp bd : Int32} (hsp : fld f q 7 (.int sp)) (htp : fld f q 6 (.int tp)) (hbd : fld f q 12 (.int bd)) (hle : sp.toInt ≤ tp.toInt) (rsp : rg sp 0 800) (rtp : rg tp 0 800) {vh : Nat → Int32} (hh : isA E L τ f 47 45 vh) (hUh : uq L τ 47) : tMi l E J yX10_isRoom cX10_isRoom 4 .boolean (gRm (2) 0 0) [.ref q, .int p1, .int p2, .int p3] L f (tPi E L τ [40] f (fun r f1 => rg r 0 1 ∧ (∃ sp1 bd1 : Int32, fld f1 q 7 (.int sp1) ∧ fld f1 q 6 (.int tp) ∧ fld f1 q 12 (.int bd1) ∧ sp.toInt ≤ sp1.toInt ∧ sp1.toInt ≤ tp.toInt ∧ (¬ r = 0 → ¬ vh 41 = 4)))) := by
  refine tMi.intro (by decide) (Nat.le_of_ble_eq_true rfl) ?_
  intro p e s m below meth c A ls C hr hA hO hH hl
  have C : gC E cX10_isRoom 4 RX10 p s m _ meth c := C
  obtain rfl : p2 = (5 : Int32) := Int32.toInt_inj.mp (Int.le_antisymm (by rw [tl_5]; exact rp2.2) (by rw [tl_5]; exact rp2.1))
  obtain rfl : p3 = (4 : Int32) := Int32.toInt_inj.mp (Int.le_antisymm (by rw [tl_4]; exact rp3.2) (by rw [tl_4]; exact rp3.1))
  have hl : lv_has ls 4 [(0, .ref q), (1, .int p1), (2, .int (5 : Int32)), (3, .int (4 : Int32))] := hl
  have hx := C.1
  have hb := C.2.1
  have hI := hI.S [40]
  refine lv_iload_n hx hb dX10_isRoom_0 rfl (lv_at hl 1 rfl) ?_
  refine lv_if_eq (tgt := 18) hx hb dX10_isRoom_1 (by decide) (fun c1 => ?_) (fun c1 => ?_)
  · skip
    have r2 : rg p1 0 0 := rf_eql (c_eq c1) rp1 rl_0 (by decide)
    refine lv_iload_n hx hb dX10_isRoom_18 rfl (lv_at hl 1 rfl) ?_
    refine lv_if_eq (tgt := 33) hx hb dX10_isRoom_19 (by decide) (fun c3 => ?_) (fun c3 => ?_)
    · skip
      refine lv_iload_n hx hb dX10_isRoom_33 rfl (lv_at hl 1 rfl) ?_
      refine lv_if_eq (tgt := 48) hx hb dX10_isRoom_34 (by decide) (fun c4 => ?_) (fun c4 => ?_)
      · skip
        refine lv_iconst (v := (0 : Int32)) hx hb dX10_isRoom_48 (by decide) ?_
        exact g_zret C hr (rg_z (rg_w rl_0 (by decide))) hH (Nat.zero_le _) (Nat.zero_le _) dX10_isRoom_49 ⟨rfl, hI, ⟨(rg_w rl_0 (by decide)), ⟨_, _, hsp, htp, hbd, (Int.le_refl sp.toInt), hle, fun h => absurd rfl h⟩⟩⟩
      · skip
        exact (rg_no (show rg p1 1 (-1) from rf_nel (n_eq c4) r2 rl_0 (by decide)) (by decide)).elim
    · skip
      exact (rg_no (show rg p1 1 (-1) from rf_nel (n_eq c3) r2 rl_0 (by decide)) (by decide)).elim
  · skip
    have r5 : rg p1 1 1 := rf_nel (n_eq c1) rp1 rl_0 (by decide)
    refine lv_aload_n hx hb dX10_isRoom_4 rfl (lv_at hl 0 rfl) ?_
    refine lv_iload_n hx hb dX10_isRoom_5 rfl (lv_at hl 2 rfl) ?_
    refine t_Vi C hO hl.1 hA hH hI.1 (As := [.int (5 : Int32)]) (rest := []) (t_hasRead_5 l E J τ L f hI.1 mq tq (5 : Int32) rl_5) my_X10_hasRead wd1093 mq tq td_40 rfl rfl rfl (Nat.le_of_ble_eq_true rfl) ⟨Nat.le_of_ble_eq_true rfl, Nat.le_of_ble_eq_true rfl⟩ ⟨rfl, rfl⟩ dX10_isRoom_6 (fun r7 L1 f6 H locs hp hH => ?_)
    obtain ⟨rfl, s8, h9⟩ := hp
    have hJ := hI
    have hI := hI.call s8 (by decide)
    have k10 : fld f6 q 7 (.int sp) := fld.eq hsp (s8.fr q mq (t_lim tq rfl))
    have k11 : fld f6 q 6 (.int tp) := fld.eq htp (s8.fr q mq (t_lim tq rfl))
    have k12 : fld f6 q 12 (.int bd) := fld.eq hbd (s8.fr q mq (t_lim tq rfl))
    have hh_ := hh
    have hh := hh.S s8 rfl
    have hx13 := h9.2 _ hh_
    refine lv_iload_n hx hb dX10_isRoom_9 rfl (lv_at hl 3 rfl) ?_
    refine lv_icmp_ne (tgt := 18) hx hb dX10_isRoom_10 (by decide) (fun c14 => ?_) (fun c14 => ?_)
    · skip
      have r15 : rg r7 0 3 := rf_nel (n_eq c14) h9.1 rl_4 (by decide)
      refine lv_iload_n hx hb dX10_isRoom_18 rfl (lv_at hl 1 rfl) ?_
      refine lv_if_eq (tgt := 33) hx hb dX10_isRoom_19 (by decide) (fun c16 => ?_) (fun c16 => ?_)
      · skip
        exact absurd c16 c1
      · skip
        refine lv_aload_n hx hb dX10_isRoom_22 rfl (lv_at hl 0 rfl) ?_
        refine t_getX C hH hI.1 mq tq td_40 iX10 rfl 12 (by decide) wd1063 rfl k12 dX10_isRoom_23 ?_
        refine lv_if_ne (tgt := 33) hx hb dX10_isRoom_26 (by decide) (fun c17 => ?_) (fun c17 => ?_)
        · skip
          refine lv_iload_n hx hb dX10_isRoom_33 rfl (lv_at hl 1 rfl) ?_
          refine lv_if_eq (tgt := 48) hx hb dX10_isRoom_34 (by decide) (fun c18 => ?_) (fun c18 => ?_)
          · skip
            exact absurd c18 c16
          · skip
            refine lv_aload_n hx hb dX10_isRoom_37 rfl (lv_at hl 0 rfl) ?_
            refine t_getX C hH hI.1 mq tq td_40 iX10 rfl 12 (by decide) wd1063 rfl k12 dX10_isRoom_38 ?_
            refine lv_if_ne (tgt := 48) hx hb dX10_isRoom_41 (by decide) (fun c19 => ?_) (fun c19 => ?_)
            · skip
              refine lv_iconst (v := (0 : Int32)) hx hb dX10_isRoom_48 (by decide) ?_
              exact g_zret C hr (rg_z (rg_w rl_0 (by decide))) hH (Nat.zero_le _) (Nat.zero_le _) dX10_isRoom_49 ⟨rfl, hI, ⟨(rg_w rl_0 (by decide)), ⟨_, _, k10, k11, k12, (Int.le_refl sp.toInt), hle, fun h => absurd rfl h⟩⟩⟩
            · skip
              exact absurd c19 c17
        · skip
          have r20 : rg bd 0 0 := rf_eql (c_eq c17) (rg_all _) rl_0 (by decide)
          refine lv_aload_n hx hb dX10_isRoom_29 rfl (lv_at hl 0 rfl) ?_
          refine t_Vv C hO hl.1 hA hH hI.1 (As := []) (rest := []) (t_X10_next l E J τ L f6 hI.1 mq tq k10 k11 k12 hle rsp rtp) my_X10_next wd1072 mq tq td_40 rfl rfl rfl (Nat.le_of_ble_eq_true rfl) ⟨Nat.le_of_ble_eq_true rfl, Nat.le_of_ble_eq_true rfl⟩ ⟨rfl, rfl⟩ dX10_isRoom_30 (fun L1 f21 H locs hp hH => ?_)
          obtain ⟨rfl, s23, h24⟩ := hp
          have hJ := hI
          have hI := hI.call s23 (by decide)
          have hh_ := hh
          have hh := hh.S s23 rfl
          obtain ⟨sp25, tk26, k27, k28, k29, k30, lo31, hi32, pr33⟩ := h24
          have r34 : rg sp25 0 800 := sp_rg rsp lo31 hi32 rtp
          have lo35 : sp.toInt ≤ sp25.toInt := Int.le_trans (Int.le_refl sp.toInt) lo31
          refine lv_iload_n hx hb dX10_isRoom_33 rfl (lv_at hl 1 rfl) ?_
          refine lv_if_eq (tgt := 48) hx hb dX10_isRoom_34 (by decide) (fun c36 => ?_) (fun c36 => ?_)
          · skip
            exact absurd c36 c16
          · skip
            refine lv_aload_n hx hb dX10_isRoom_37 rfl (lv_at hl 0 rfl) ?_
            refine t_getX C hH hI.1 mq tq td_40 iX10 rfl 12 (by decide) wd1063 rfl k30 dX10_isRoom_38 ?_
            refine lv_if_ne (tgt := 48) hx hb dX10_isRoom_41 (by decide) (fun c37 => ?_) (fun c37 => ?_)
            · skip
              exact (rg_no (show rg bd 1 (-1) from rf_nel (n_eq c37) r20 rl_0 (by decide)) (by decide)).elim
            · skip
              refine lv_iconst (v := (1 : Int32)) hx hb dX10_isRoom_44 (by decide) ?_
              refine lv_goto (tgt := 49) hx hb dX10_isRoom_45 (by decide) ?_
              exact g_zret C hr (rg_z (rg_w rl_1 (by decide))) hH (Nat.zero_le _) (Nat.zero_le _) dX10_isRoom_49 ⟨rfl, hI, ⟨(rg_w rl_1 (by decide)), ⟨_, _, k27, k28, k30, lo35, hi32, fun _ e => absurd (hx13.trans e) c14⟩⟩⟩
    · skip
      have r38 : rg r7 4 4 := rf_eql (c_eq c14) h9.1 rl_4 (by decide)
      refine lv_aload_n hx hb dX10_isRoom_13 rfl (lv_at hl 0 rfl) ?_
      refine lv_iconst (v := (3 : Int32)) hx hb dX10_isRoom_14 (by decide) ?_
      refine t_Vv C hO hl.1 hA hH hI.1 (As := [.int (3 : Int32)]) (rest := []) (t_X10_fails l E J τ L f6 hI.1 mq tq (3 : Int32) (rg_w rl_3 (by decide)) k10 k11 k12 hle rsp rtp) my_X10_fails wd1080 mq tq td_40 rfl rfl rfl (Nat.le_of_ble_eq_true rfl) ⟨Nat.le_of_ble_eq_true rfl, Nat.le_of_ble_eq_true rfl⟩ ⟨rfl, rfl⟩ dX10_isRoom_15 (fun L1 f39 H locs hp hH => ?_)
      obtain ⟨rfl, s41, h42⟩ := hp
      have hJ := hI
      have hI := hI.call s41 (by decide)
      have hh_ := hh
      have hh := hh.S s41 rfl
      obtain ⟨sp43, bd44, k45, k46, k47, lo48, hi49, x50⟩ := h42
      have r51 : rg sp43 0 800 := sp_rg rsp lo48 hi49 rtp
      have lo52 : sp.toInt ≤ sp43.toInt := Int.le_trans (Int.le_refl sp.toInt) lo48
      refine lv_iload_n hx hb dX10_isRoom_18 rfl (lv_at hl 1 rfl) ?_
      refine lv_if_eq (tgt := 33) hx hb dX10_isRoom_19 (by decide) (fun c53 => ?_) (fun c53 => ?_)
      · skip
        exact absurd c53 c1
      · skip
        refine lv_aload_n hx hb dX10_isRoom_22 rfl (lv_at hl 0 rfl) ?_
        refine t_getX C hH hI.1 mq tq td_40 iX10 rfl 12 (by decide) wd1063 rfl k47 dX10_isRoom_23 ?_
        refine lv_if_ne (tgt := 33) hx hb dX10_isRoom_26 (by decide) (fun c54 => ?_) (fun c54 => ?_)
        · skip
          refine lv_iload_n hx hb dX10_isRoom_33 rfl (lv_at hl 1 rfl) ?_
          refine lv_if_eq (tgt := 48) hx hb dX10_isRoom_34 (by decide) (fun c55 => ?_) (fun c55 => ?_)
          · skip
            exact absurd c55 c53
          · skip
            refine lv_aload_n hx hb dX10_isRoom_37 rfl (lv_at hl 0 rfl) ?_
            refine t_getX C hH hI.1 mq tq td_40 iX10 rfl 12 (by decide) wd1063 rfl k47 dX10_isRoom_38 ?_
            refine lv_if_ne (tgt := 48) hx hb dX10_isRoom_41 (by decide) (fun c56 => ?_) (fun c56 => ?_)
            · skip
              refine lv_iconst (v := (0 : Int32)) hx hb dX10_isRoom_48 (by decide) ?_
              exact g_zret C hr (rg_z (rg_w rl_0 (by decide))) hH (Nat.zero_le _) (Nat.zero_le _) dX10_isRoom_49 ⟨rfl, hI, ⟨(rg_w rl_0 (by decide)), ⟨_, _, k45, k46, k47, lo52, hi49, fun h => absurd rfl h⟩⟩⟩
            · skip
              exact absurd c56 c54
        · skip
          exact absurd c54 x50
set_option maxHeartbeats 4000000 in
set_option maxRecDepth 100000 in
theorem t_isRoom_6 (l : Launch) (E : gE) (J : Nat → Nat) (τ : Nat → Nat) (L : List Nat) (f : gF) (hI : tI E L τ f) {q : Nat} (mq : q ∈ L) (tq : τ q = 40) (p1 : Int32) (rp1 : rg p1 0 1) (p2 : Int32) (rp2 : rg p2 6 6) (p3 : Int32) (rp3 : rg p3 6 6) {sp tp bd : Int32} (hsp : fld f q 7 (.int sp)) (htp : fld f q 6 (.int tp)) (hbd : fld f q 12 (.int bd)) (hle : sp.toInt ≤ tp.toInt) (rsp : rg sp 0 800) (rtp : rg tp 0 800) {vh : Nat → Int32} (hh : isA E L τ f 47 45 vh) (hUh : uq L τ 47) : tMi l E J yX10_isRoom cX10_isRoom 4 .boolean (gRm (2) 0 0) [.ref q, .int p1, .int p2, .int p3] L f (tPi E L τ [40] f (fun r f1 => rg r 0 1 ∧ (∃ sp1 bd1 : Int32, fld f1 q 7 (.int sp1) ∧ fld f1 q 6 (.int tp) ∧ fld f1 q 12 (.int bd1) ∧ sp.toInt ≤ sp1.toInt ∧ sp1.toInt ≤ tp.toInt ∧ (¬ r = 0 → ¬ vh 42 = 6)))) := by
  refine tMi.intro (by decide) (Nat.le_of_ble_eq_true rfl) ?_
  intro p e s m below meth c A ls C hr hA hO hH hl
  have C : gC E cX10_isRoom 4 RX10 p s m _ meth c := C
  obtain rfl : p2 = (6 : Int32) := Int32.toInt_inj.mp (Int.le_antisymm (by rw [tl_6]; exact rp2.2) (by rw [tl_6]; exact rp2.1))
  obtain rfl : p3 = (6 : Int32) := Int32.toInt_inj.mp (Int.le_antisymm (by rw [tl_6]; exact rp3.2) (by rw [tl_6]; exact rp3.1))
  have hl : lv_has ls 4 [(0, .ref q), (1, .int p1), (2, .int (6 : Int32)), (3, .int (6 : Int32))] := hl
  have hx := C.1
  have hb := C.2.1
  have hI := hI.S [40]
  refine lv_iload_n hx hb dX10_isRoom_0 rfl (lv_at hl 1 rfl) ?_
  refine lv_if_eq (tgt := 18) hx hb dX10_isRoom_1 (by decide) (fun c1 => ?_) (fun c1 => ?_)
  · skip
    have r2 : rg p1 0 0 := rf_eql (c_eq c1) rp1 rl_0 (by decide)
    refine lv_iload_n hx hb dX10_isRoom_18 rfl (lv_at hl 1 rfl) ?_
    refine lv_if_eq (tgt := 33) hx hb dX10_isRoom_19 (by decide) (fun c3 => ?_) (fun c3 => ?_)
    · skip
      refine lv_iload_n hx hb dX10_isRoom_33 rfl (lv_at hl 1 rfl) ?_
      refine lv_if_eq (tgt := 48) hx hb dX10_isRoom_34 (by decide) (fun c4 => ?_) (fun c4 => ?_)
      · skip
        refine lv_iconst (v := (0 : Int32)) hx hb dX10_isRoom_48 (by decide) ?_
        exact g_zret C hr (rg_z (rg_w rl_0 (by decide))) hH (Nat.zero_le _) (Nat.zero_le _) dX10_isRoom_49 ⟨rfl, hI, ⟨(rg_w rl_0 (by decide)), ⟨_, _, hsp, htp, hbd, (Int.le_refl sp.toInt), hle, fun h => absurd rfl h⟩⟩⟩
      · skip
        exact (rg_no (show rg p1 1 (-1) from rf_nel (n_eq c4) r2 rl_0 (by decide)) (by decide)).elim
    · skip
      exact (rg_no (show rg p1 1 (-1) from rf_nel (n_eq c3) r2 rl_0 (by decide)) (by decide)).elim
  · skip
    have r5 : rg p1 1 1 := rf_nel (n_eq c1) rp1 rl_0 (by decide)
    refine lv_aload_n hx hb dX10_isRoom_4 rfl (lv_at hl 0 rfl) ?_
    refine lv_iload_n hx hb dX10_isRoom_5 rfl (lv_at hl 2 rfl) ?_
    refine t_Vi C hO hl.1 hA hH hI.1 (As := [.int (6 : Int32)]) (rest := []) (t_hasRead_6 l E J τ L f hI.1 mq tq (6 : Int32) rl_6) my_X10_hasRead wd1093 mq tq td_40 rfl rfl rfl (Nat.le_of_ble_eq_true rfl) ⟨Nat.le_of_ble_eq_true rfl, Nat.le_of_ble_eq_true rfl⟩ ⟨rfl, rfl⟩ dX10_isRoom_6 (fun r7 L1 f6 H locs hp hH => ?_)
    obtain ⟨rfl, s8, h9⟩ := hp
    have hJ := hI
    have hI := hI.call s8 (by decide)
    have k10 : fld f6 q 7 (.int sp) := fld.eq hsp (s8.fr q mq (t_lim tq rfl))
    have k11 : fld f6 q 6 (.int tp) := fld.eq htp (s8.fr q mq (t_lim tq rfl))
    have k12 : fld f6 q 12 (.int bd) := fld.eq hbd (s8.fr q mq (t_lim tq rfl))
    have hh_ := hh
    have hh := hh.S s8 rfl
    have hx13 := h9.2 _ hh_
    refine lv_iload_n hx hb dX10_isRoom_9 rfl (lv_at hl 3 rfl) ?_
    refine lv_icmp_ne (tgt := 18) hx hb dX10_isRoom_10 (by decide) (fun c14 => ?_) (fun c14 => ?_)
    · skip
      have r15 : rg r7 0 5 := rf_nel (n_eq c14) h9.1 rl_6 (by decide)
      refine lv_iload_n hx hb dX10_isRoom_18 rfl (lv_at hl 1 rfl) ?_
      refine lv_if_eq (tgt := 33) hx hb dX10_isRoom_19 (by decide) (fun c16 => ?_) (fun c16 => ?_)
      · skip
        exact absurd c16 c1
      · skip
        refine lv_aload_n hx hb dX10_isRoom_22 rfl (lv_at hl 0 rfl) ?_
        refine t_getX C hH hI.1 mq tq td_40 iX10 rfl 12 (by decide) wd1063 rfl k12 dX10_isRoom_23 ?_
        refine lv_if_ne (tgt := 33) hx hb dX10_isRoom_26 (by decide) (fun c17 => ?_) (fun c17 => ?_)
        · skip
          refine lv_iload_n hx hb dX10_isRoom_33 rfl (lv_at hl 1 rfl) ?_
          refine lv_if_eq (tgt := 48) hx hb dX10_isRoom_34 (by decide) (fun c18 => ?_) (fun c18 => ?_)
          · skip
            exact absurd c18 c16
          · skip
            refine lv_aload_n hx hb dX10_isRoom_37 rfl (lv_at hl 0 rfl) ?_
            refine t_getX C hH hI.1 mq tq td_40 iX10 rfl 12 (by decide) wd1063 rfl k12 dX10_isRoom_38 ?_
            refine lv_if_ne (tgt := 48) hx hb dX10_isRoom_41 (by decide) (fun c19 => ?_) (fun c19 => ?_)
            · skip
              refine lv_iconst (v := (0 : Int32)) hx hb dX10_isRoom_48 (by decide) ?_
              exact g_zret C hr (rg_z (rg_w rl_0 (by decide))) hH (Nat.zero_le _) (Nat.zero_le _) dX10_isRoom_49 ⟨rfl, hI, ⟨(rg_w rl_0 (by decide)), ⟨_, _, k10, k11, k12, (Int.le_refl sp.toInt), hle, fun h => absurd rfl h⟩⟩⟩
            · skip
              exact absurd c19 c17
        · skip
          have r20 : rg bd 0 0 := rf_eql (c_eq c17) (rg_all _) rl_0 (by decide)
          refine lv_aload_n hx hb dX10_isRoom_29 rfl (lv_at hl 0 rfl) ?_
          refine t_Vv C hO hl.1 hA hH hI.1 (As := []) (rest := []) (t_X10_next l E J τ L f6 hI.1 mq tq k10 k11 k12 hle rsp rtp) my_X10_next wd1072 mq tq td_40 rfl rfl rfl (Nat.le_of_ble_eq_true rfl) ⟨Nat.le_of_ble_eq_true rfl, Nat.le_of_ble_eq_true rfl⟩ ⟨rfl, rfl⟩ dX10_isRoom_30 (fun L1 f21 H locs hp hH => ?_)
          obtain ⟨rfl, s23, h24⟩ := hp
          have hJ := hI
          have hI := hI.call s23 (by decide)
          have hh_ := hh
          have hh := hh.S s23 rfl
          obtain ⟨sp25, tk26, k27, k28, k29, k30, lo31, hi32, pr33⟩ := h24
          have r34 : rg sp25 0 800 := sp_rg rsp lo31 hi32 rtp
          have lo35 : sp.toInt ≤ sp25.toInt := Int.le_trans (Int.le_refl sp.toInt) lo31
          refine lv_iload_n hx hb dX10_isRoom_33 rfl (lv_at hl 1 rfl) ?_
          refine lv_if_eq (tgt := 48) hx hb dX10_isRoom_34 (by decide) (fun c36 => ?_) (fun c36 => ?_)
          · skip
            exact absurd c36 c16
          · skip
            refine lv_aload_n hx hb dX10_isRoom_37 rfl (lv_at hl 0 rfl) ?_
            refine t_getX C hH hI.1 mq tq td_40 iX10 rfl 12 (by decide) wd1063 rfl k30 dX10_isRoom_38 ?_
            refine lv_if_ne (tgt := 48) hx hb dX10_isRoom_41 (by decide) (fun c37 => ?_) (fun c37 => ?_)
            · skip
              exact (rg_no (show rg bd 1 (-1) from rf_nel (n_eq c37) r20 rl_0 (by decide)) (by decide)).elim
            · skip
              refine lv_iconst (v := (1 : Int32)) hx hb dX10_isRoom_44 (by decide) ?_
              refine lv_goto (tgt := 49) hx hb dX10_isRoom_45 (by decide) ?_
              exact g_zret C hr (rg_z (rg_w rl_1 (by decide))) hH (Nat.zero_le _) (Nat.zero_le _) dX10_isRoom_49 ⟨rfl, hI, ⟨(rg_w rl_1 (by decide)), ⟨_, _, k27, k28, k30, lo35, hi32, fun _ e => absurd (hx13.trans e) c14⟩⟩⟩
    · skip
      have r38 : rg r7 6 6 := rf_eql (c_eq c14) h9.1 rl_6 (by decide)
      refine lv_aload_n hx hb dX10_isRoom_13 rfl (lv_at hl 0 rfl) ?_
      refine lv_iconst (v := (3 : Int32)) hx hb dX10_isRoom_14 (by decide) ?_
      refine t_Vv C hO hl.1 hA hH hI.1 (As := [.int (3 : Int32)]) (rest := []) (t_X10_fails l E J τ L f6 hI.1 mq tq (3 : Int32) (rg_w rl_3 (by decide)) k10 k11 k12 hle rsp rtp) my_X10_fails wd1080 mq tq td_40 rfl rfl rfl (Nat.le_of_ble_eq_true rfl) ⟨Nat.le_of_ble_eq_true rfl, Nat.le_of_ble_eq_true rfl⟩ ⟨rfl, rfl⟩ dX10_isRoom_15 (fun L1 f39 H locs hp hH => ?_)
      obtain ⟨rfl, s41, h42⟩ := hp
      have hJ := hI
      have hI := hI.call s41 (by decide)
      have hh_ := hh
      have hh := hh.S s41 rfl
      obtain ⟨sp43, bd44, k45, k46, k47, lo48, hi49, x50⟩ := h42
      have r51 : rg sp43 0 800 := sp_rg rsp lo48 hi49 rtp
      have lo52 : sp.toInt ≤ sp43.toInt := Int.le_trans (Int.le_refl sp.toInt) lo48
      refine lv_iload_n hx hb dX10_isRoom_18 rfl (lv_at hl 1 rfl) ?_
      refine lv_if_eq (tgt := 33) hx hb dX10_isRoom_19 (by decide) (fun c53 => ?_) (fun c53 => ?_)
      · skip
        exact absurd c53 c1
      · skip
        refine lv_aload_n hx hb dX10_isRoom_22 rfl (lv_at hl 0 rfl) ?_
        refine t_getX C hH hI.1 mq tq td_40 iX10 rfl 12 (by decide) wd1063 rfl k47 dX10_isRoom_23 ?_
        refine lv_if_ne (tgt := 33) hx hb dX10_isRoom_26 (by decide) (fun c54 => ?_) (fun c54 => ?_)
        · skip
          refine lv_iload_n hx hb dX10_isRoom_33 rfl (lv_at hl 1 rfl) ?_
          refine lv_if_eq (tgt := 48) hx hb dX10_isRoom_34 (by decide) (fun c55 => ?_) (fun c55 => ?_)
          · skip
            exact absurd c55 c53
          · skip
            refine lv_aload_n hx hb dX10_isRoom_37 rfl (lv_at hl 0 rfl) ?_
            refine t_getX C hH hI.1 mq tq td_40 iX10 rfl 12 (by decide) wd1063 rfl k47 dX10_isRoom_38 ?_
            refine lv_if_ne (tgt := 48) hx hb dX10_isRoom_41 (by decide) (fun c56 => ?_) (fun c56 => ?_)
            · skip
              refine lv_iconst (v := (0 : Int32)) hx hb dX10_isRoom_48 (by decide) ?_
              exact g_zret C hr (rg_z (rg_w rl_0 (by decide))) hH (Nat.zero_le _) (Nat.zero_le _) dX10_isRoom_49 ⟨rfl, hI, ⟨(rg_w rl_0 (by decide)), ⟨_, _, k45, k46, k47, lo52, hi49, fun h => absurd rfl h⟩⟩⟩
            · skip
              exact absurd c56 c54
        · skip
          exact absurd c54 x50
set_option maxHeartbeats 4000000 in
set_option maxRecDepth 100000 in
theorem t_X10_line (l : Launch) (E : gE) (J : Nat → Nat) (τ : Nat → Nat) (L : List Nat) (f : gF) (hI : tI E L τ f) {q : Nat} (mq : q ∈ L) (tq : τ q = 40) {sp tp bd : Int32} (hsp : fld f q 7 (.int sp)) (htp : fld f q 6 (.int tp)) (hbd : fld f q 12 (.int bd)) (hle : sp.toInt ≤ tp.toInt) (rsp : rg sp 0 800) (rtp : rg tp 0 800) {vh : Nat → Int32} (hh : isA E L τ f 47 45 vh) (hUh : uq L τ 47) : tMv l E J yX10_line cX10_line 2 (gRm (7) 0 0) [.ref q] L f (tPv E L τ [40, 47, 48, 49] f (fun f1 => (∃ sp1 bd1 : Int32, fld f1 q 7 (.int sp1) ∧ fld f1 q 6 (.int tp) ∧ fld f1 q 12 (.int bd1) ∧ sp.toInt ≤ sp1.toInt ∧ sp1.toInt ≤ tp.toInt ∧ ∃ vh1 : Nat → Int32, isA E L τ f1 47 45 vh1 ∧ ∀ i, i ≤ 36 → vh1 i = vh i))) := by
  refine tMv.intro (by decide) (Nat.le_of_ble_eq_true rfl) ?_
  intro p e s m below meth c A ls C hr hA hO hH hl
  have C : gC E cX10_line 2 RX10 p s m _ meth c := C
  have hl : lv_has ls 2 [(0, .ref q)] := hl
  have hx := C.1
  have hb := C.2.1
  have hI := hI.S [40, 47, 48, 49]
  refine lv_aload_n hx hb dX10_line_0 rfl (lv_at hl 0 rfl) ?_
  refine lv_aload_n hx hb dX10_line_1 rfl (lv_at hl 0 rfl) ?_
  refine lv_ldc2 hx hb C.2.2.2.1 (C.2.2.2.2.1 _ wd1110) dX10_line_2 ?_
  refine t_Vi C hO hl.1 hA hH hI.1 (As := [.long (92653220 : Int64)]) (rest := [.ref q]) (t_X10_is l E J τ L f hI.1 mq tq ((92653220 : Int64))) my_X10_is wd1068 mq tq td_40 rfl rfl rfl (Nat.le_of_ble_eq_true rfl) ⟨Nat.le_of_ble_eq_true rfl, Nat.le_of_ble_eq_true rfl⟩ ⟨rfl, rfl⟩ dX10_line_5 (fun r2 L1 f1 H locs hp hH => ?_)
  obtain ⟨rfl, s3, h4⟩ := hp
  have hI := hI.call s3 (by decide)
  have k5 : fld f1 q 7 (.int sp) := fld.eq hsp (s3.fr q mq (t_lim tq rfl))
  have k6 : fld f1 q 6 (.int tp) := fld.eq htp (s3.fr q mq (t_lim tq rfl))
  have k7 : fld f1 q 12 (.int bd) := fld.eq hbd (s3.fr q mq (t_lim tq rfl))
  have hh_ := hh
  have hh := hh.S s3 rfl
  refine lv_iconst (v := (5 : Int32)) hx hb dX10_line_8 (by decide) ?_
  refine lv_iconst (v := (4 : Int32)) hx hb dX10_line_9 (by decide) ?_
  refine t_Vi C hO hl.1 hA hH hI.1 (As := [.int r2, .int (5 : Int32), .int (4 : Int32)]) (rest := []) (t_isRoom_5 l E J τ L f1 hI.1 mq tq r2 h4 (5 : Int32) rl_5 (4 : Int32) rl_4 k5 k6 k7 hle rsp rtp hh hUh) my_X10_isRoom wd1114 mq tq td_40 rfl rfl rfl (Nat.le_of_ble_eq_true rfl) ⟨Nat.le_of_ble_eq_true rfl, Nat.le_of_ble_eq_true rfl⟩ ⟨rfl, rfl⟩ dX10_line_10 (fun r9 L1 f8 H locs hp hH => ?_)
  obtain ⟨rfl, s10, h11⟩ := hp
  have hJ := hI
  have hI := hI.call s10 (by decide)
  have hh_ := hh
  have hh := hh.S s10 rfl
  obtain ⟨sp12, bd13, k14, k15, k16, lo17, hi18, x19⟩ := h11.2
  have r20 : rg sp12 0 800 := sp_rg rsp lo17 hi18 rtp
  have lo21 : sp.toInt ≤ sp12.toInt := Int.le_trans (Int.le_refl sp.toInt) lo17
  refine lv_if_eq (tgt := 23) hx hb dX10_line_13 (by decide) (fun c22 => ?_) (fun c22 => ?_)
  · skip
    have r23 : rg r9 0 0 := rf_eql (c_eq c22) h11.1 rl_0 (by decide)
    refine lv_aload_n hx hb dX10_line_23 rfl (lv_at hl 0 rfl) ?_
    refine t_getX C hH hI.1 mq tq td_40 iX10 rfl 12 (by decide) wd1063 rfl k16 dX10_line_24 ?_
    refine lv_if_ne (tgt := 55) hx hb dX10_line_27 (by decide) (fun c24 => ?_) (fun c24 => ?_)
    · skip
      refine lv_aload_n hx hb dX10_line_55 rfl (lv_at hl 0 rfl) ?_
      refine t_getX C hH hI.1 mq tq td_40 iX10 rfl 12 (by decide) wd1063 rfl k16 dX10_line_56 ?_
      refine lv_if_ne (tgt := 97) hx hb dX10_line_59 (by decide) (fun c25 => ?_) (fun c25 => ?_)
      · skip
        exact g_vret C hr hH (Nat.zero_le _) (Nat.zero_le _) dX10_line_97 ⟨rfl, hI, ⟨_, _, k14, k15, k16, lo21, hi18, ⟨_, hh, fun _ _ => rfl⟩⟩⟩
      · skip
        exact absurd c25 c24
    · skip
      have r26 : rg bd13 0 0 := rf_eql (c_eq c24) (rg_all _) rl_0 (by decide)
      refine lv_aload_n hx hb dX10_line_30 rfl (lv_at hl 0 rfl) ?_
      refine lv_aload_n hx hb dX10_line_31 rfl (lv_at hl 0 rfl) ?_
      refine lv_ldc2 hx hb C.2.2.2.1 (C.2.2.2.2.1 _ wd1115) dX10_line_32 ?_
      refine t_Vi C hO hl.1 hA hH hI.1 (As := [.long (189450486 : Int64)]) (rest := [.ref q]) (t_X10_is l E J τ L f8 hI.1 mq tq ((189450486 : Int64))) my_X10_is wd1068 mq tq td_40 rfl rfl rfl (Nat.le_of_ble_eq_true rfl) ⟨Nat.le_of_ble_eq_true rfl, Nat.le_of_ble_eq_true rfl⟩ ⟨rfl, rfl⟩ dX10_line_35 (fun r28 L1 f27 H locs hp hH => ?_)
      obtain ⟨rfl, s29, h30⟩ := hp
      have hI := hI.call s29 (by decide)
      have k31 : fld f27 q 7 (.int sp12) := fld.eq k14 (s29.fr q mq (t_lim tq rfl))
      have k32 : fld f27 q 6 (.int tp) := fld.eq k15 (s29.fr q mq (t_lim tq rfl))
      have k33 : fld f27 q 12 (.int bd13) := fld.eq k16 (s29.fr q mq (t_lim tq rfl))
      have hh_ := hh
      have hh := hh.S s29 rfl
      refine lv_bipush (v := (6 : Int32)) hx hb dX10_line_38 (by decide) ?_
      refine lv_bipush (v := (6 : Int32)) hx hb dX10_line_40 (by decide) ?_
      refine t_Vi C hO hl.1 hA hH hI.1 (As := [.int r28, .int (6 : Int32), .int (6 : Int32)]) (rest := []) (t_isRoom_6 l E J τ L f27 hI.1 mq tq r28 h30 (6 : Int32) rl_6 (6 : Int32) rl_6 k31 k32 k33 hi18 r20 rtp hh hUh) my_X10_isRoom wd1114 mq tq td_40 rfl rfl rfl (Nat.le_of_ble_eq_true rfl) ⟨Nat.le_of_ble_eq_true rfl, Nat.le_of_ble_eq_true rfl⟩ ⟨rfl, rfl⟩ dX10_line_42 (fun r35 L1 f34 H locs hp hH => ?_)
      obtain ⟨rfl, s36, h37⟩ := hp
      have hJ := hI
      have hI := hI.call s36 (by decide)
      have hh_ := hh
      have hh := hh.S s36 rfl
      obtain ⟨sp38, bd39, k40, k41, k42, lo43, hi44, x45⟩ := h37.2
      have r46 : rg sp38 0 800 := sp_rg r20 lo43 hi44 rtp
      have lo47 : sp.toInt ≤ sp38.toInt := Int.le_trans lo21 lo43
      refine lv_if_eq (tgt := 55) hx hb dX10_line_45 (by decide) (fun c48 => ?_) (fun c48 => ?_)
      · skip
        have r49 : rg r35 0 0 := rf_eql (c_eq c48) h37.1 rl_0 (by decide)
        refine lv_aload_n hx hb dX10_line_55 rfl (lv_at hl 0 rfl) ?_
        refine t_getX C hH hI.1 mq tq td_40 iX10 rfl 12 (by decide) wd1063 rfl k42 dX10_line_56 ?_
        refine lv_if_ne (tgt := 97) hx hb dX10_line_59 (by decide) (fun c50 => ?_) (fun c50 => ?_)
        · skip
          exact g_vret C hr hH (Nat.zero_le _) (Nat.zero_le _) dX10_line_97 ⟨rfl, hI, ⟨_, _, k40, k41, k42, lo47, hi44, ⟨_, hh, fun _ _ => rfl⟩⟩⟩
        · skip
          have r51 : rg bd39 0 0 := rf_eql (c_eq c50) (rg_all _) rl_0 (by decide)
          refine lv_aload_n hx hb dX10_line_62 rfl (lv_at hl 0 rfl) ?_
          refine lv_ldc2 hx hb C.2.2.2.1 (C.2.2.2.2.1 _ wd1116) dX10_line_63 ?_
          refine t_Vv C hO hl.1 hA hH hI.1 (As := [.long (237292 : Int64)]) (rest := []) (t_X10_asks l E J τ L f34 hI.1 mq tq ((237292 : Int64)) k40 k41 k42 hi44 r46 rtp) my_X10_asks wd1084 mq tq td_40 rfl rfl rfl (Nat.le_of_ble_eq_true rfl) ⟨Nat.le_of_ble_eq_true rfl, Nat.le_of_ble_eq_true rfl⟩ ⟨rfl, rfl⟩ dX10_line_66 (fun L1 f52 H locs hp hH => ?_)
          obtain ⟨rfl, s54, h55⟩ := hp
          have hJ := hI
          have hI := hI.call s54 (by decide)
          have hh_ := hh
          have hh := hh.S s54 rfl
          obtain ⟨sp56, bd57, k58, k59, k60, lo61, hi62⟩ := h55
          have r63 : rg sp56 0 800 := sp_rg r46 lo61 hi62 rtp
          have lo64 : sp.toInt ≤ sp56.toInt := Int.le_trans lo47 lo61
          refine lv_aload_n hx hb dX10_line_69 rfl (lv_at hl 0 rfl) ?_
          refine t_Vi C hO hl.1 hA hH hI.1 (As := []) (rest := []) (t_X10_cellHere l E J τ L f52 hI.1 mq tq k58 k59 k60 hi62 r63 rtp) my_X10_cellHere wd1101 mq tq td_40 rfl rfl rfl (Nat.le_of_ble_eq_true rfl) ⟨Nat.le_of_ble_eq_true rfl, Nat.le_of_ble_eq_true rfl⟩ ⟨rfl, rfl⟩ dX10_line_70 (fun r66 L1 f65 H locs hp hH => ?_)
          obtain ⟨rfl, s67, h68⟩ := hp
          have hJ := hI
          have hI := hI.call s67 (by decide)
          have hh_ := hh
          have hh := hh.S s67 rfl
          obtain ⟨sp69, bd70, k71, k72, k73, lo74, hi75⟩ := h68.2
          have r76 : rg sp69 0 800 := sp_rg r63 lo74 hi75 rtp
          have lo77 : sp.toInt ≤ sp69.toInt := Int.le_trans lo64 lo74
          refine lv_istore_n (lv' := [(1, .int r66), (0, .ref q)]) hx hb dX10_line_73 rfl hl (by decide) rfl (fun ls hl => ?_)
          refine lv_aload_n hx hb dX10_line_74 rfl (lv_at hl 1 rfl) ?_
          refine t_Vi C hO hl.1 hA hH hI.1 (As := []) (rest := []) (t_X10_isGood l E J τ L f65 hI.1 mq tq) my_X10_isGood wd1120 mq tq td_40 rfl rfl rfl (Nat.le_of_ble_eq_true rfl) ⟨Nat.le_of_ble_eq_true rfl, Nat.le_of_ble_eq_true rfl⟩ ⟨rfl, rfl⟩ dX10_line_75 (fun r79 L1 f78 H locs hp hH => ?_)
          obtain ⟨rfl, s80, h81⟩ := hp
          have hJ := hI
          have hI := hI.call s80 (by decide)
          have k82 : fld f78 q 7 (.int sp69) := fld.eq k71 (s80.fr q mq (t_lim tq rfl))
          have k83 : fld f78 q 6 (.int tp) := fld.eq k72 (s80.fr q mq (t_lim tq rfl))
          have k84 : fld f78 q 12 (.int bd70) := fld.eq k73 (s80.fr q mq (t_lim tq rfl))
          have hh_ := hh
          have hh := hh.S s80 rfl
          refine lv_if_eq (tgt := 97) hx hb dX10_line_78 (by decide) (fun c85 => ?_) (fun c85 => ?_)
          · skip
            have r86 : rg r79 0 0 := rf_eql (c_eq c85) h81.1 rl_0 (by decide)
            exact g_vret C hr hH (Nat.zero_le _) (Nat.zero_le _) dX10_line_97 ⟨rfl, hI, ⟨_, _, k82, k83, k84, lo77, hi75, ⟨_, hh, fun _ _ => rfl⟩⟩⟩
          · skip
            have r87 : rg r79 1 1 := rf_nel (n_eq c85) h81.1 rl_0 (by decide)
            refine lv_aload_n hx hb dX10_line_81 rfl (lv_at hl 1 rfl) ?_
            refine lv_bipush (v := (8 : Int32)) hx hb dX10_line_82 (by decide) ?_
            refine lv_aload_n hx hb dX10_line_84 rfl (lv_at hl 1 rfl) ?_
            refine lv_bipush (v := (8 : Int32)) hx hb dX10_line_85 (by decide) ?_
            refine t_Vi C hO hl.1 hA hH hI.1 (As := [.int (8 : Int32)]) (rest := [.int (8 : Int32), .ref q]) (t_hasRead_8 l E J τ L f78 hI.1 mq tq (8 : Int32) rl_8) my_X10_hasRead wd1093 mq tq td_40 rfl rfl rfl (Nat.le_of_ble_eq_true rfl) ⟨Nat.le_of_ble_eq_true rfl, Nat.le_of_ble_eq_true rfl⟩ ⟨rfl, rfl⟩ dX10_line_87 (fun r89 L1 f88 H locs hp hH => ?_)
            obtain ⟨rfl, s90, h91⟩ := hp
            have hJ := hI
            have hI := hI.call s90 (by decide)
            have k92 : fld f88 q 7 (.int sp69) := fld.eq k82 (s90.fr q mq (t_lim tq rfl))
            have k93 : fld f88 q 6 (.int tp) := fld.eq k83 (s90.fr q mq (t_lim tq rfl))
            have k94 : fld f88 q 12 (.int bd70) := fld.eq k84 (s90.fr q mq (t_lim tq rfl))
            have hh_ := hh
            have hh := hh.S s90 rfl
            have hx95 := h91.2 _ hh_
            refine lv_iconst (v := (1 : Int32)) hx hb dX10_line_90 (by decide) ?_
            refine lv_iload_n hx hb dX10_line_91 rfl (lv_at hl 0 rfl) ?_
            refine lv_ishl hx hb dX10_line_92 ?_
            refine lv_topi (fun z96 ez96 => ?_)
            have r97 : rg z96 1 524288 := rg_shl 0 19 ez96 h68.1 (by decide)
            refine lv_ior hx hb dX10_line_93 ?_
            refine lv_topi (fun z98 ez98 => ?_)
            refine t_Vv C hO hl.1 hA hH hI.1 (As := [.int (8 : Int32), .int z98]) (rest := []) (t_tells_8 l E J τ L f88 hI.1 mq tq (8 : Int32) rl_8 z98 hh hUh) my_X10_tells wd1107 mq tq td_40 rfl rfl rfl (Nat.le_of_ble_eq_true rfl) ⟨Nat.le_of_ble_eq_true rfl, Nat.le_of_ble_eq_true rfl⟩ ⟨rfl, rfl⟩ dX10_line_94 (fun L1 f99 H locs hp hH => ?_)
            obtain ⟨rfl, s101, h102⟩ := hp
            have hJ := hI
            have hI := hI.call s101 (by decide)
            have k103 : fld f99 q 7 (.int sp69) := fld.eq k92 (s101.fr q mq (t_lim tq rfl))
            have k104 : fld f99 q 6 (.int tp) := fld.eq k93 (s101.fr q mq (t_lim tq rfl))
            have k105 : fld f99 q 12 (.int bd70) := fld.eq k94 (s101.fr q mq (t_lim tq rfl))
            have hh_ := hh
            have hh := h102
            exact g_vret C hr hH (Nat.zero_le _) (Nat.zero_le _) dX10_line_97 ⟨rfl, hI, ⟨_, _, k103, k104, k105, lo77, hi75, ⟨_, hh, fun i hi => pk_un (by omega)⟩⟩⟩
      · skip
        have r106 : rg r35 1 1 := rf_nel (n_eq c48) h37.1 rl_0 (by decide)
        refine lv_aload_n hx hb dX10_line_48 rfl (lv_at hl 0 rfl) ?_
        refine t_Vv C hO hl.1 hA hH hI.1 (As := []) (rest := []) (t_X10_memberLine l E J τ L f34 hI.1 mq tq k40 k41 k42 hi44 r46 rtp hh hUh (room_6 (hasP_of hI.1 mq tq hh) (x45 c48))) my_X10_memberLine wd1124 mq tq td_40 rfl rfl rfl (Nat.le_of_ble_eq_true rfl) ⟨Nat.le_of_ble_eq_true rfl, Nat.le_of_ble_eq_true rfl⟩ ⟨rfl, rfl⟩ dX10_line_49 (fun L1 f107 H locs hp hH => ?_)
        obtain ⟨rfl, s109, h110⟩ := hp
        have hJ := hI
        have hI := hI.call s109 (by decide)
        have hh_ := hh
        obtain ⟨sp111, bd112, k113, k114, k115, lo116, hi117, x118⟩ := h110
        have r119 : rg sp111 0 800 := sp_rg r46 lo116 hi117 rtp
        have lo120 : sp.toInt ≤ sp111.toInt := Int.le_trans lo47 lo116
        obtain ⟨_, hh⟩ := x118
        refine lv_goto (tgt := 97) hx hb dX10_line_52 (by decide) ?_
        exact g_vret C hr hH (Nat.zero_le _) (Nat.zero_le _) dX10_line_97 ⟨rfl, hI, ⟨_, _, k113, k114, k115, lo120, hi117, ⟨_, hh, fun i hi => pk_un (by omega)⟩⟩⟩
  · skip
    have r121 : rg r9 1 1 := rf_nel (n_eq c22) h11.1 rl_0 (by decide)
    refine lv_aload_n hx hb dX10_line_16 rfl (lv_at hl 0 rfl) ?_
    refine t_Vv C hO hl.1 hA hH hI.1 (As := []) (rest := []) (t_X10_flightLine l E J τ L f8 hI.1 mq tq k14 k15 k16 hi18 r20 rtp hh hUh (room_5 (hasP_of hI.1 mq tq hh) (x19 c22))) my_X10_flightLine wd1128 mq tq td_40 rfl rfl rfl (Nat.le_of_ble_eq_true rfl) ⟨Nat.le_of_ble_eq_true rfl, Nat.le_of_ble_eq_true rfl⟩ ⟨rfl, rfl⟩ dX10_line_17 (fun L1 f122 H locs hp hH => ?_)
    obtain ⟨rfl, s124, h125⟩ := hp
    have hJ := hI
    have hI := hI.call s124 (by decide)
    have hh_ := hh
    obtain ⟨sp126, bd127, k128, k129, k130, lo131, hi132, x133⟩ := h125
    have r134 : rg sp126 0 800 := sp_rg r20 lo131 hi132 rtp
    have lo135 : sp.toInt ≤ sp126.toInt := Int.le_trans lo21 lo131
    obtain ⟨_, hh⟩ := x133
    refine lv_goto (tgt := 97) hx hb dX10_line_20 (by decide) ?_
    exact g_vret C hr hH (Nat.zero_le _) (Nat.zero_le _) dX10_line_97 ⟨rfl, hI, ⟨_, _, k128, k129, k130, lo135, hi132, ⟨_, hh, fun i hi => pk_un (by omega)⟩⟩⟩
set_option maxHeartbeats 4000000 in
set_option maxRecDepth 100000 in
theorem t_X10_landLine (l : Launch) (E : gE) (J : Nat → Nat) (τ : Nat → Nat) (L : List Nat) (f : gF) (hI : tI E L τ f) {q : Nat} (mq : q ∈ L) (tq : τ q = 40) {sp tp bd : Int32} (hsp : fld f q 7 (.int sp)) (htp : fld f q 6 (.int tp)) (hbd : fld f q 12 (.int bd)) (hle : sp.toInt ≤ tp.toInt) (rsp : rg sp 0 800) (rtp : rg tp 0 800) {vh : Nat → Int32} (hh : isA E L τ f 47 45 vh) (hUh : uq L τ 47) : tMv l E J yX10_landLine cX10_landLine 1 (gRm (5) 0 0) [.ref q] L f (tPv E L τ [40, 47] f (fun f1 => (∃ sp1 bd1 : Int32, fld f1 q 7 (.int sp1) ∧ fld f1 q 6 (.int tp) ∧ fld f1 q 12 (.int bd1) ∧ sp.toInt ≤ sp1.toInt ∧ sp1.toInt ≤ tp.toInt ∧ ∃ vh1 : Nat → Int32, isA E L τ f1 47 45 vh1 ∧ (∀ i, i ≤ 35 → vh1 i = vh i) ∧ 1 ≤ (vh1 36).toInt))) := by
  refine tMv.intro (by decide) (Nat.le_of_ble_eq_true rfl) ?_
  intro p e s m below meth c A ls C hr hA hO hH hl
  have C : gC E cX10_landLine 1 RX10 p s m _ meth c := C
  have hl : lv_has ls 1 [(0, .ref q)] := hl
  have hx := C.1
  have hb := C.2.1
  have hI := hI.S [40, 47]
  refine lv_aload_n hx hb dX10_landLine_0 rfl (lv_at hl 0 rfl) ?_
  refine lv_ldc2 hx hb C.2.2.2.1 (C.2.2.2.2.1 _ wd1129) dX10_landLine_1 ?_
  refine t_Vv C hO hl.1 hA hH hI.1 (As := [.long (237307 : Int64)]) (rest := []) (t_X10_asks l E J τ L f hI.1 mq tq ((237307 : Int64)) hsp htp hbd hle rsp rtp) my_X10_asks wd1084 mq tq td_40 rfl rfl rfl (Nat.le_of_ble_eq_true rfl) ⟨Nat.le_of_ble_eq_true rfl, Nat.le_of_ble_eq_true rfl⟩ ⟨rfl, rfl⟩ dX10_landLine_4 (fun L1 f1 H locs hp hH => ?_)
  obtain ⟨rfl, s3, h4⟩ := hp
  have hJ := hI
  have hI := hI.call s3 (by decide)
  have hh_ := hh
  have hh := hh.S s3 rfl
  obtain ⟨sp5, bd6, k7, k8, k9, lo10, hi11⟩ := h4
  have r12 : rg sp5 0 800 := sp_rg rsp lo10 hi11 rtp
  have lo13 : sp.toInt ≤ sp5.toInt := Int.le_trans (Int.le_refl sp.toInt) lo10
  refine lv_aload_n hx hb dX10_landLine_7 rfl (lv_at hl 0 rfl) ?_
  refine lv_iconst (v := (0 : Int32)) hx hb dX10_landLine_8 (by decide) ?_
  refine lv_aload_n hx hb dX10_landLine_9 rfl (lv_at hl 0 rfl) ?_
  refine lv_ldc2 hx hb C.2.2.2.1 (C.2.2.2.2.1 _ wd1130) dX10_landLine_10 ?_
  refine lv_iconst (v := (1 : Int32)) hx hb dX10_landLine_13 (by decide) ?_
  refine lv_iconst (v := (5 : Int32)) hx hb dX10_landLine_14 (by decide) ?_
  refine t_Vi C hO hl.1 hA hH hI.1 (As := [.long (459383 : Int64), .int (1 : Int32), .int (5 : Int32)]) (rest := [.int (0 : Int32), .ref q]) (t_X10_number_ l E J τ L f1 hI.1 mq tq ((459383 : Int64)) (1 : Int32) (5 : Int32) k7 k8 k9 hi11 r12 rtp) my_X10_number_ wd1097 mq tq td_40 rfl rfl rfl (Nat.le_of_ble_eq_true rfl) ⟨Nat.le_of_ble_eq_true rfl, Nat.le_of_ble_eq_true rfl⟩ ⟨rfl, rfl⟩ dX10_landLine_15 (fun r15 L1 f14 H locs hp hH => ?_)
  obtain ⟨rfl, s16, h17⟩ := hp
  have hJ := hI
  have hI := hI.call s16 (by decide)
  have hh_ := hh
  have hh := hh.S s16 rfl
  obtain ⟨sp18, bd19, k20, k21, k22, lo23, hi24⟩ := h17.2.2
  have r25 : rg sp18 0 800 := sp_rg r12 lo23 hi24 rtp
  have lo26 : sp.toInt ≤ sp18.toInt := Int.le_trans lo13 lo23
  have r27 : rg r15 1 5 := num_rg h17.2.1 rl_1 rl_5 (by decide)
  refine t_Vv C hO hl.1 hA hH hI.1 (As := [.int (0 : Int32), .int r15]) (rest := []) (t_tells_0 l E J τ L f14 hI.1 mq tq (0 : Int32) rl_0 r15 (rg_w r27 (by decide)) hh hUh) my_X10_tells wd1107 mq tq td_40 rfl rfl rfl (Nat.le_of_ble_eq_true rfl) ⟨Nat.le_of_ble_eq_true rfl, Nat.le_of_ble_eq_true rfl⟩ ⟨rfl, rfl⟩ dX10_landLine_18 (fun L1 f28 H locs hp hH => ?_)
  obtain ⟨rfl, s30, h31⟩ := hp
  have hJ := hI
  have hI := hI.call s30 (by decide)
  have k32 : fld f28 q 7 (.int sp18) := fld.eq k20 (s30.fr q mq (t_lim tq rfl))
  have k33 : fld f28 q 6 (.int tp) := fld.eq k21 (s30.fr q mq (t_lim tq rfl))
  have k34 : fld f28 q 12 (.int bd19) := fld.eq k22 (s30.fr q mq (t_lim tq rfl))
  have hh_ := hh
  have hh := h31
  refine lv_aload_n hx hb dX10_landLine_21 rfl (lv_at hl 0 rfl) ?_
  refine lv_iconst (v := (1 : Int32)) hx hb dX10_landLine_22 (by decide) ?_
  refine lv_aload_n hx hb dX10_landLine_23 rfl (lv_at hl 0 rfl) ?_
  refine lv_ldc2 hx hb C.2.2.2.1 (C.2.2.2.2.1 _ wd1131) dX10_landLine_24 ?_
  refine lv_iconst (v := (1 : Int32)) hx hb dX10_landLine_27 (by decide) ?_
  refine lv_iconst (v := (4 : Int32)) hx hb dX10_landLine_28 (by decide) ?_
  refine t_Vi C hO hl.1 hA hH hI.1 (As := [.long (164222 : Int64), .int (1 : Int32), .int (4 : Int32)]) (rest := [.int (1 : Int32), .ref q]) (t_X10_number_ l E J τ L f28 hI.1 mq tq ((164222 : Int64)) (1 : Int32) (4 : Int32) k32 k33 k34 hi24 r25 rtp) my_X10_number_ wd1097 mq tq td_40 rfl rfl rfl (Nat.le_of_ble_eq_true rfl) ⟨Nat.le_of_ble_eq_true rfl, Nat.le_of_ble_eq_true rfl⟩ ⟨rfl, rfl⟩ dX10_landLine_29 (fun r36 L1 f35 H locs hp hH => ?_)
  obtain ⟨rfl, s37, h38⟩ := hp
  have hJ := hI
  have hI := hI.call s37 (by decide)
  have hh_ := hh
  have hh := hh.S s37 rfl
  obtain ⟨sp39, bd40, k41, k42, k43, lo44, hi45⟩ := h38.2.2
  have r46 : rg sp39 0 800 := sp_rg r25 lo44 hi45 rtp
  have lo47 : sp.toInt ≤ sp39.toInt := Int.le_trans lo26 lo44
  have r48 : rg r36 1 4 := num_rg h38.2.1 rl_1 rl_4 (by decide)
  refine t_Vv C hO hl.1 hA hH hI.1 (As := [.int (1 : Int32), .int r36]) (rest := []) (t_tells_1 l E J τ L f35 hI.1 mq tq (1 : Int32) rl_1 r36 (rg_w r48 (by decide)) hh hUh) my_X10_tells wd1107 mq tq td_40 rfl rfl rfl (Nat.le_of_ble_eq_true rfl) ⟨Nat.le_of_ble_eq_true rfl, Nat.le_of_ble_eq_true rfl⟩ ⟨rfl, rfl⟩ dX10_landLine_32 (fun L1 f49 H locs hp hH => ?_)
  obtain ⟨rfl, s51, h52⟩ := hp
  have hJ := hI
  have hI := hI.call s51 (by decide)
  have k53 : fld f49 q 7 (.int sp39) := fld.eq k41 (s51.fr q mq (t_lim tq rfl))
  have k54 : fld f49 q 6 (.int tp) := fld.eq k42 (s51.fr q mq (t_lim tq rfl))
  have k55 : fld f49 q 12 (.int bd40) := fld.eq k43 (s51.fr q mq (t_lim tq rfl))
  have hh_ := hh
  have hh := h52
  refine lv_aload_n hx hb dX10_landLine_35 rfl (lv_at hl 0 rfl) ?_
  refine lv_iconst (v := (2 : Int32)) hx hb dX10_landLine_36 (by decide) ?_
  refine lv_aload_n hx hb dX10_landLine_37 rfl (lv_at hl 0 rfl) ?_
  refine lv_ldc2 hx hb C.2.2.2.1 (C.2.2.2.2.1 _ wd1132) dX10_landLine_38 ?_
  refine lv_iconst (v := (0 : Int32)) hx hb dX10_landLine_41 (by decide) ?_
  refine lv_iconst (v := (3 : Int32)) hx hb dX10_landLine_42 (by decide) ?_
  refine t_Vi C hO hl.1 hA hH hI.1 (As := [.long (8798 : Int64), .int (0 : Int32), .int (3 : Int32)]) (rest := [.int (2 : Int32), .ref q]) (t_X10_number_ l E J τ L f49 hI.1 mq tq ((8798 : Int64)) (0 : Int32) (3 : Int32) k53 k54 k55 hi45 r46 rtp) my_X10_number_ wd1097 mq tq td_40 rfl rfl rfl (Nat.le_of_ble_eq_true rfl) ⟨Nat.le_of_ble_eq_true rfl, Nat.le_of_ble_eq_true rfl⟩ ⟨rfl, rfl⟩ dX10_landLine_43 (fun r57 L1 f56 H locs hp hH => ?_)
  obtain ⟨rfl, s58, h59⟩ := hp
  have hJ := hI
  have hI := hI.call s58 (by decide)
  have hh_ := hh
  have hh := hh.S s58 rfl
  obtain ⟨sp60, bd61, k62, k63, k64, lo65, hi66⟩ := h59.2.2
  have r67 : rg sp60 0 800 := sp_rg r46 lo65 hi66 rtp
  have lo68 : sp.toInt ≤ sp60.toInt := Int.le_trans lo47 lo65
  have r69 : rg r57 0 3 := num_rg h59.2.1 rl_0 rl_3 (by decide)
  refine t_Vv C hO hl.1 hA hH hI.1 (As := [.int (2 : Int32), .int r57]) (rest := []) (t_tells_2 l E J τ L f56 hI.1 mq tq (2 : Int32) rl_2 r57 hh hUh) my_X10_tells wd1107 mq tq td_40 rfl rfl rfl (Nat.le_of_ble_eq_true rfl) ⟨Nat.le_of_ble_eq_true rfl, Nat.le_of_ble_eq_true rfl⟩ ⟨rfl, rfl⟩ dX10_landLine_46 (fun L1 f70 H locs hp hH => ?_)
  obtain ⟨rfl, s72, h73⟩ := hp
  have hJ := hI
  have hI := hI.call s72 (by decide)
  have k74 : fld f70 q 7 (.int sp60) := fld.eq k62 (s72.fr q mq (t_lim tq rfl))
  have k75 : fld f70 q 6 (.int tp) := fld.eq k63 (s72.fr q mq (t_lim tq rfl))
  have k76 : fld f70 q 12 (.int bd61) := fld.eq k64 (s72.fr q mq (t_lim tq rfl))
  have hh_ := hh
  have hh := h73
  refine lv_aload_n hx hb dX10_landLine_49 rfl (lv_at hl 0 rfl) ?_
  refine lv_iconst (v := (3 : Int32)) hx hb dX10_landLine_50 (by decide) ?_
  refine lv_aload_n hx hb dX10_landLine_51 rfl (lv_at hl 0 rfl) ?_
  refine lv_ldc2 hx hb C.2.2.2.1 (C.2.2.2.2.1 _ wd1133) dX10_landLine_52 ?_
  refine lv_iconst (v := (0 : Int32)) hx hb dX10_landLine_55 (by decide) ?_
  refine lv_bipush (v := (8 : Int32)) hx hb dX10_landLine_56 (by decide) ?_
  refine t_Vi C hO hl.1 hA hH hI.1 (As := [.long (3690 : Int64), .int (0 : Int32), .int (8 : Int32)]) (rest := [.int (3 : Int32), .ref q]) (t_X10_number_ l E J τ L f70 hI.1 mq tq ((3690 : Int64)) (0 : Int32) (8 : Int32) k74 k75 k76 hi66 r67 rtp) my_X10_number_ wd1097 mq tq td_40 rfl rfl rfl (Nat.le_of_ble_eq_true rfl) ⟨Nat.le_of_ble_eq_true rfl, Nat.le_of_ble_eq_true rfl⟩ ⟨rfl, rfl⟩ dX10_landLine_58 (fun r78 L1 f77 H locs hp hH => ?_)
  obtain ⟨rfl, s79, h80⟩ := hp
  have hJ := hI
  have hI := hI.call s79 (by decide)
  have hh_ := hh
  have hh := hh.S s79 rfl
  obtain ⟨sp81, bd82, k83, k84, k85, lo86, hi87⟩ := h80.2.2
  have r88 : rg sp81 0 800 := sp_rg r67 lo86 hi87 rtp
  have lo89 : sp.toInt ≤ sp81.toInt := Int.le_trans lo68 lo86
  have r90 : rg r78 0 8 := num_rg h80.2.1 rl_0 rl_8 (by decide)
  refine t_Vv C hO hl.1 hA hH hI.1 (As := [.int (3 : Int32), .int r78]) (rest := []) (t_tells_3 l E J τ L f77 hI.1 mq tq (3 : Int32) rl_3 r78 hh hUh) my_X10_tells wd1107 mq tq td_40 rfl rfl rfl (Nat.le_of_ble_eq_true rfl) ⟨Nat.le_of_ble_eq_true rfl, Nat.le_of_ble_eq_true rfl⟩ ⟨rfl, rfl⟩ dX10_landLine_61 (fun L1 f91 H locs hp hH => ?_)
  obtain ⟨rfl, s93, h94⟩ := hp
  have hJ := hI
  have hI := hI.call s93 (by decide)
  have k95 : fld f91 q 7 (.int sp81) := fld.eq k83 (s93.fr q mq (t_lim tq rfl))
  have k96 : fld f91 q 6 (.int tp) := fld.eq k84 (s93.fr q mq (t_lim tq rfl))
  have k97 : fld f91 q 12 (.int bd82) := fld.eq k85 (s93.fr q mq (t_lim tq rfl))
  have hh_ := hh
  have hh := h94
  refine lv_aload_n hx hb dX10_landLine_64 rfl (lv_at hl 0 rfl) ?_
  refine lv_iconst (v := (4 : Int32)) hx hb dX10_landLine_65 (by decide) ?_
  refine lv_aload_n hx hb dX10_landLine_66 rfl (lv_at hl 0 rfl) ?_
  refine lv_ldc2 hx hb C.2.2.2.1 (C.2.2.2.2.1 _ wd1134) dX10_landLine_67 ?_
  refine lv_iconst (v := (0 : Int32)) hx hb dX10_landLine_70 (by decide) ?_
  refine lv_bipush (v := (10 : Int32)) hx hb dX10_landLine_71 (by decide) ?_
  refine t_Vi C hO hl.1 hA hH hI.1 (As := [.long (298288 : Int64), .int (0 : Int32), .int (10 : Int32)]) (rest := [.int (4 : Int32), .ref q]) (t_X10_number_ l E J τ L f91 hI.1 mq tq ((298288 : Int64)) (0 : Int32) (10 : Int32) k95 k96 k97 hi87 r88 rtp) my_X10_number_ wd1097 mq tq td_40 rfl rfl rfl (Nat.le_of_ble_eq_true rfl) ⟨Nat.le_of_ble_eq_true rfl, Nat.le_of_ble_eq_true rfl⟩ ⟨rfl, rfl⟩ dX10_landLine_73 (fun r99 L1 f98 H locs hp hH => ?_)
  obtain ⟨rfl, s100, h101⟩ := hp
  have hJ := hI
  have hI := hI.call s100 (by decide)
  have hh_ := hh
  have hh := hh.S s100 rfl
  obtain ⟨sp102, bd103, k104, k105, k106, lo107, hi108⟩ := h101.2.2
  have r109 : rg sp102 0 800 := sp_rg r88 lo107 hi108 rtp
  have lo110 : sp.toInt ≤ sp102.toInt := Int.le_trans lo89 lo107
  have r111 : rg r99 0 10 := num_rg h101.2.1 rl_0 rl_10 (by decide)
  refine t_Vv C hO hl.1 hA hH hI.1 (As := [.int (4 : Int32), .int r99]) (rest := []) (t_tells_4 l E J τ L f98 hI.1 mq tq (4 : Int32) rl_4 r99 hh hUh) my_X10_tells wd1107 mq tq td_40 rfl rfl rfl (Nat.le_of_ble_eq_true rfl) ⟨Nat.le_of_ble_eq_true rfl, Nat.le_of_ble_eq_true rfl⟩ ⟨rfl, rfl⟩ dX10_landLine_76 (fun L1 f112 H locs hp hH => ?_)
  obtain ⟨rfl, s114, h115⟩ := hp
  have hJ := hI
  have hI := hI.call s114 (by decide)
  have k116 : fld f112 q 7 (.int sp102) := fld.eq k104 (s114.fr q mq (t_lim tq rfl))
  have k117 : fld f112 q 6 (.int tp) := fld.eq k105 (s114.fr q mq (t_lim tq rfl))
  have k118 : fld f112 q 12 (.int bd103) := fld.eq k106 (s114.fr q mq (t_lim tq rfl))
  have hh_ := hh
  have hh := h115
  exact g_vret C hr hH (Nat.zero_le _) (Nat.zero_le _) dX10_landLine_79 ⟨rfl, hI, ⟨_, _, k116, k117, k118, lo110, hi108, ⟨_, hh, ll_up, ll_36 r27⟩⟩⟩
set_option maxHeartbeats 4000000 in
set_option maxRecDepth 100000 in
theorem t_X10_clears (l : Launch) (E : gE) (J : Nat → Nat) (τ : Nat → Nat) (L : List Nat) (f : gF) (hI : tI E L τ f) {q : Nat} (mq : q ∈ L) (tq : τ q = 40) {vl vh : Nat → Int32} (hl0 : isA E L τ f 46 5 vl) (hh : isA E L τ f 47 45 vh) (hUl : uq L τ 46) (hUh : uq L τ 47) : tMv l E J yX10_clears cX10_clears 2 (gRm (2) 0 0) [.ref q] L f (tPv E L τ [46, 47] f (fun f1 => (∃ vl1 vh1 : Nat → Int32, isA E L τ f1 46 5 vl1 ∧ isA E L τ f1 47 45 vh1 ∧ (∀ i, i < 4 → vl1 i = vl i) ∧ vl1 4 = 0 ∧ (∀ i, i < 36 → vh1 i = vh i) ∧ vh1 41 = 0 ∧ vh1 42 = 0))) := by
  refine tMv.intro (by decide) (Nat.le_of_ble_eq_true rfl) ?_
  intro p e s m below meth c A ls C hr hA hO hH hl
  have C : gC E cX10_clears 2 RX10 p s m _ meth c := C
  have hl : lv_has ls 2 [(0, .ref q)] := hl
  have hx := C.1
  have hb := C.2.1
  have hI := hI.S [46, 47]
  obtain ⟨q_16, mq_16, tq_16, kq_16⟩ := t_fldr hI.1 mq tq td_40 (k := 16) rfl
  refine lv_aload_n hx hb dX10_clears_0 rfl (lv_at hl 0 rfl) ?_
  refine t_getX C hH hI.1 mq tq td_40 iX10 rfl 16 (by decide) wd748 rfl (hI.rf kq_16) dX10_clears_1 ?_
  refine lv_iconst (v := (4 : Int32)) hx hb dX10_clears_4 (by decide) ?_
  refine lv_iconst (v := (0 : Int32)) hx hb dX10_clears_5 (by decide) ?_
  refine t_ast C hH hI mq_16 tq_16 (by decide) td_46 (rg_in rl_4 (by decide)) (fun _ _ _ => trivial) dX10_clears_6 (fun f1 H locs hH hI bf1 uf1 => ?_)
  have hh := isA_st hh tq_16 rfl bf1
  have hl0 := isA_w hUl mq_16 tq_16 (uf1 _ (hl0 q_16 mq_16 tq_16))
  refine lv_iconst (v := (0 : Int32)) hx hb dX10_clears_7 (by decide) ?_
  refine lv_istore_n (lv' := [(1, .int (0 : Int32)), (0, .ref q)]) hx hb dX10_clears_8 rfl hl (by decide) rfl (fun ls hl => ?_)
  refine lv_iload_n hx hb dX10_clears_9 rfl (lv_at hl 0 rfl) ?_
  refine lv_bipush (v := (9 : Int32)) hx hb dX10_clears_10 (by decide) ?_
  refine lv_icmp_ge (tgt := 27) hx hb dX10_clears_12 (by decide) (fun h => absurd h (by decide)) (fun _ => ?_)
  refine lv_aload_n hx hb dX10_clears_15 rfl (lv_at hl 1 rfl) ?_
  refine lv_iload_n hx hb dX10_clears_16 rfl (lv_at hl 0 rfl) ?_
  refine lv_iconst (v := (0 : Int32)) hx hb dX10_clears_17 (by decide) ?_
  refine t_Vv C hO hl.1 hA hH hI.1 (As := [.int (0 : Int32), .int (0 : Int32)]) (rest := []) (t_tells_0 l E J τ L f1 hI.1 mq tq (0 : Int32) rl_0 (0 : Int32) (rg_w rl_0 (by decide)) hh hUh) my_X10_tells wd1107 mq tq td_40 rfl rfl rfl (Nat.le_of_ble_eq_true rfl) ⟨Nat.le_of_ble_eq_true rfl, Nat.le_of_ble_eq_true rfl⟩ ⟨rfl, rfl⟩ dX10_clears_18 (fun L1 f2 H locs hp hH => ?_)
  obtain ⟨rfl, s4, h5⟩ := hp
  have hJ := hI
  have hI := hI.call s4 (by decide)
  have hl0_ := hl0
  have hl0 := hl0.S s4 rfl
  have hh_ := hh
  have hh := h5
  refine lv_iinc (v := (1 : Int32)) (lv' := [(1, .int (1 : Int32)), (0, .ref q)]) hx hb dX10_clears_21 hl (k := 0) rfl (by decide) (by decide) rfl (fun ls hl => ?_)
  refine lv_goto (tgt := 9) hx hb dX10_clears_24 (by decide) ?_
  refine lv_iload_n hx hb dX10_clears_9 rfl (lv_at hl 0 rfl) ?_
  refine lv_bipush (v := (9 : Int32)) hx hb dX10_clears_10 (by decide) ?_
  refine lv_icmp_ge (tgt := 27) hx hb dX10_clears_12 (by decide) (fun h => absurd h (by decide)) (fun _ => ?_)
  refine lv_aload_n hx hb dX10_clears_15 rfl (lv_at hl 1 rfl) ?_
  refine lv_iload_n hx hb dX10_clears_16 rfl (lv_at hl 0 rfl) ?_
  refine lv_iconst (v := (0 : Int32)) hx hb dX10_clears_17 (by decide) ?_
  refine t_Vv C hO hl.1 hA hH hI.1 (As := [.int (1 : Int32), .int (0 : Int32)]) (rest := []) (t_tells_1 l E J τ L f2 hI.1 mq tq (1 : Int32) rl_1 (0 : Int32) (rg_w rl_0 (by decide)) hh hUh) my_X10_tells wd1107 mq tq td_40 rfl rfl rfl (Nat.le_of_ble_eq_true rfl) ⟨Nat.le_of_ble_eq_true rfl, Nat.le_of_ble_eq_true rfl⟩ ⟨rfl, rfl⟩ dX10_clears_18 (fun L1 f6 H locs hp hH => ?_)
  obtain ⟨rfl, s8, h9⟩ := hp
  have hJ := hI
  have hI := hI.call s8 (by decide)
  have hl0_ := hl0
  have hl0 := hl0.S s8 rfl
  have hh_ := hh
  have hh := h9
  refine lv_iinc (v := (2 : Int32)) (lv' := [(1, .int (2 : Int32)), (0, .ref q)]) hx hb dX10_clears_21 hl (k := 0) rfl (by decide) (by decide) rfl (fun ls hl => ?_)
  refine lv_goto (tgt := 9) hx hb dX10_clears_24 (by decide) ?_
  refine lv_iload_n hx hb dX10_clears_9 rfl (lv_at hl 0 rfl) ?_
  refine lv_bipush (v := (9 : Int32)) hx hb dX10_clears_10 (by decide) ?_
  refine lv_icmp_ge (tgt := 27) hx hb dX10_clears_12 (by decide) (fun h => absurd h (by decide)) (fun _ => ?_)
  refine lv_aload_n hx hb dX10_clears_15 rfl (lv_at hl 1 rfl) ?_
  refine lv_iload_n hx hb dX10_clears_16 rfl (lv_at hl 0 rfl) ?_
  refine lv_iconst (v := (0 : Int32)) hx hb dX10_clears_17 (by decide) ?_
  refine t_Vv C hO hl.1 hA hH hI.1 (As := [.int (2 : Int32), .int (0 : Int32)]) (rest := []) (t_tells_2 l E J τ L f6 hI.1 mq tq (2 : Int32) rl_2 (0 : Int32) hh hUh) my_X10_tells wd1107 mq tq td_40 rfl rfl rfl (Nat.le_of_ble_eq_true rfl) ⟨Nat.le_of_ble_eq_true rfl, Nat.le_of_ble_eq_true rfl⟩ ⟨rfl, rfl⟩ dX10_clears_18 (fun L1 f10 H locs hp hH => ?_)
  obtain ⟨rfl, s12, h13⟩ := hp
  have hJ := hI
  have hI := hI.call s12 (by decide)
  have hl0_ := hl0
  have hl0 := hl0.S s12 rfl
  have hh_ := hh
  have hh := h13
  refine lv_iinc (v := (3 : Int32)) (lv' := [(1, .int (3 : Int32)), (0, .ref q)]) hx hb dX10_clears_21 hl (k := 0) rfl (by decide) (by decide) rfl (fun ls hl => ?_)
  refine lv_goto (tgt := 9) hx hb dX10_clears_24 (by decide) ?_
  refine lv_iload_n hx hb dX10_clears_9 rfl (lv_at hl 0 rfl) ?_
  refine lv_bipush (v := (9 : Int32)) hx hb dX10_clears_10 (by decide) ?_
  refine lv_icmp_ge (tgt := 27) hx hb dX10_clears_12 (by decide) (fun h => absurd h (by decide)) (fun _ => ?_)
  refine lv_aload_n hx hb dX10_clears_15 rfl (lv_at hl 1 rfl) ?_
  refine lv_iload_n hx hb dX10_clears_16 rfl (lv_at hl 0 rfl) ?_
  refine lv_iconst (v := (0 : Int32)) hx hb dX10_clears_17 (by decide) ?_
  refine t_Vv C hO hl.1 hA hH hI.1 (As := [.int (3 : Int32), .int (0 : Int32)]) (rest := []) (t_tells_3 l E J τ L f10 hI.1 mq tq (3 : Int32) rl_3 (0 : Int32) hh hUh) my_X10_tells wd1107 mq tq td_40 rfl rfl rfl (Nat.le_of_ble_eq_true rfl) ⟨Nat.le_of_ble_eq_true rfl, Nat.le_of_ble_eq_true rfl⟩ ⟨rfl, rfl⟩ dX10_clears_18 (fun L1 f14 H locs hp hH => ?_)
  obtain ⟨rfl, s16, h17⟩ := hp
  have hJ := hI
  have hI := hI.call s16 (by decide)
  have hl0_ := hl0
  have hl0 := hl0.S s16 rfl
  have hh_ := hh
  have hh := h17
  refine lv_iinc (v := (4 : Int32)) (lv' := [(1, .int (4 : Int32)), (0, .ref q)]) hx hb dX10_clears_21 hl (k := 0) rfl (by decide) (by decide) rfl (fun ls hl => ?_)
  refine lv_goto (tgt := 9) hx hb dX10_clears_24 (by decide) ?_
  refine lv_iload_n hx hb dX10_clears_9 rfl (lv_at hl 0 rfl) ?_
  refine lv_bipush (v := (9 : Int32)) hx hb dX10_clears_10 (by decide) ?_
  refine lv_icmp_ge (tgt := 27) hx hb dX10_clears_12 (by decide) (fun h => absurd h (by decide)) (fun _ => ?_)
  refine lv_aload_n hx hb dX10_clears_15 rfl (lv_at hl 1 rfl) ?_
  refine lv_iload_n hx hb dX10_clears_16 rfl (lv_at hl 0 rfl) ?_
  refine lv_iconst (v := (0 : Int32)) hx hb dX10_clears_17 (by decide) ?_
  refine t_Vv C hO hl.1 hA hH hI.1 (As := [.int (4 : Int32), .int (0 : Int32)]) (rest := []) (t_tells_4 l E J τ L f14 hI.1 mq tq (4 : Int32) rl_4 (0 : Int32) hh hUh) my_X10_tells wd1107 mq tq td_40 rfl rfl rfl (Nat.le_of_ble_eq_true rfl) ⟨Nat.le_of_ble_eq_true rfl, Nat.le_of_ble_eq_true rfl⟩ ⟨rfl, rfl⟩ dX10_clears_18 (fun L1 f18 H locs hp hH => ?_)
  obtain ⟨rfl, s20, h21⟩ := hp
  have hJ := hI
  have hI := hI.call s20 (by decide)
  have hl0_ := hl0
  have hl0 := hl0.S s20 rfl
  have hh_ := hh
  have hh := h21
  refine lv_iinc (v := (5 : Int32)) (lv' := [(1, .int (5 : Int32)), (0, .ref q)]) hx hb dX10_clears_21 hl (k := 0) rfl (by decide) (by decide) rfl (fun ls hl => ?_)
  refine lv_goto (tgt := 9) hx hb dX10_clears_24 (by decide) ?_
  refine lv_iload_n hx hb dX10_clears_9 rfl (lv_at hl 0 rfl) ?_
  refine lv_bipush (v := (9 : Int32)) hx hb dX10_clears_10 (by decide) ?_
  refine lv_icmp_ge (tgt := 27) hx hb dX10_clears_12 (by decide) (fun h => absurd h (by decide)) (fun _ => ?_)
  refine lv_aload_n hx hb dX10_clears_15 rfl (lv_at hl 1 rfl) ?_
  refine lv_iload_n hx hb dX10_clears_16 rfl (lv_at hl 0 rfl) ?_
  refine lv_iconst (v := (0 : Int32)) hx hb dX10_clears_17 (by decide) ?_
  refine t_Vv C hO hl.1 hA hH hI.1 (As := [.int (5 : Int32), .int (0 : Int32)]) (rest := []) (t_tells_5 l E J τ L f18 hI.1 mq tq (5 : Int32) rl_5 (0 : Int32) (rg_w rl_0 (by decide)) hh hUh) my_X10_tells wd1107 mq tq td_40 rfl rfl rfl (Nat.le_of_ble_eq_true rfl) ⟨Nat.le_of_ble_eq_true rfl, Nat.le_of_ble_eq_true rfl⟩ ⟨rfl, rfl⟩ dX10_clears_18 (fun L1 f22 H locs hp hH => ?_)
  obtain ⟨rfl, s24, h25⟩ := hp
  have hJ := hI
  have hI := hI.call s24 (by decide)
  have hl0_ := hl0
  have hl0 := hl0.S s24 rfl
  have hh_ := hh
  have hh := h25
  refine lv_iinc (v := (6 : Int32)) (lv' := [(1, .int (6 : Int32)), (0, .ref q)]) hx hb dX10_clears_21 hl (k := 0) rfl (by decide) (by decide) rfl (fun ls hl => ?_)
  refine lv_goto (tgt := 9) hx hb dX10_clears_24 (by decide) ?_
  refine lv_iload_n hx hb dX10_clears_9 rfl (lv_at hl 0 rfl) ?_
  refine lv_bipush (v := (9 : Int32)) hx hb dX10_clears_10 (by decide) ?_
  refine lv_icmp_ge (tgt := 27) hx hb dX10_clears_12 (by decide) (fun h => absurd h (by decide)) (fun _ => ?_)
  refine lv_aload_n hx hb dX10_clears_15 rfl (lv_at hl 1 rfl) ?_
  refine lv_iload_n hx hb dX10_clears_16 rfl (lv_at hl 0 rfl) ?_
  refine lv_iconst (v := (0 : Int32)) hx hb dX10_clears_17 (by decide) ?_
  refine t_Vv C hO hl.1 hA hH hI.1 (As := [.int (6 : Int32), .int (0 : Int32)]) (rest := []) (t_tells_6 l E J τ L f22 hI.1 mq tq (6 : Int32) rl_6 (0 : Int32) (rg_w rl_0 (by decide)) hh hUh) my_X10_tells wd1107 mq tq td_40 rfl rfl rfl (Nat.le_of_ble_eq_true rfl) ⟨Nat.le_of_ble_eq_true rfl, Nat.le_of_ble_eq_true rfl⟩ ⟨rfl, rfl⟩ dX10_clears_18 (fun L1 f26 H locs hp hH => ?_)
  obtain ⟨rfl, s28, h29⟩ := hp
  have hJ := hI
  have hI := hI.call s28 (by decide)
  have hl0_ := hl0
  have hl0 := hl0.S s28 rfl
  have hh_ := hh
  have hh := h29
  refine lv_iinc (v := (7 : Int32)) (lv' := [(1, .int (7 : Int32)), (0, .ref q)]) hx hb dX10_clears_21 hl (k := 0) rfl (by decide) (by decide) rfl (fun ls hl => ?_)
  refine lv_goto (tgt := 9) hx hb dX10_clears_24 (by decide) ?_
  refine lv_iload_n hx hb dX10_clears_9 rfl (lv_at hl 0 rfl) ?_
  refine lv_bipush (v := (9 : Int32)) hx hb dX10_clears_10 (by decide) ?_
  refine lv_icmp_ge (tgt := 27) hx hb dX10_clears_12 (by decide) (fun h => absurd h (by decide)) (fun _ => ?_)
  refine lv_aload_n hx hb dX10_clears_15 rfl (lv_at hl 1 rfl) ?_
  refine lv_iload_n hx hb dX10_clears_16 rfl (lv_at hl 0 rfl) ?_
  refine lv_iconst (v := (0 : Int32)) hx hb dX10_clears_17 (by decide) ?_
  refine t_Vv C hO hl.1 hA hH hI.1 (As := [.int (7 : Int32), .int (0 : Int32)]) (rest := []) (t_tells_7 l E J τ L f26 hI.1 mq tq (7 : Int32) rl_7 (0 : Int32) (rg_w rl_0 (by decide)) hh hUh) my_X10_tells wd1107 mq tq td_40 rfl rfl rfl (Nat.le_of_ble_eq_true rfl) ⟨Nat.le_of_ble_eq_true rfl, Nat.le_of_ble_eq_true rfl⟩ ⟨rfl, rfl⟩ dX10_clears_18 (fun L1 f30 H locs hp hH => ?_)
  obtain ⟨rfl, s32, h33⟩ := hp
  have hJ := hI
  have hI := hI.call s32 (by decide)
  have hl0_ := hl0
  have hl0 := hl0.S s32 rfl
  have hh_ := hh
  have hh := h33
  refine lv_iinc (v := (8 : Int32)) (lv' := [(1, .int (8 : Int32)), (0, .ref q)]) hx hb dX10_clears_21 hl (k := 0) rfl (by decide) (by decide) rfl (fun ls hl => ?_)
  refine lv_goto (tgt := 9) hx hb dX10_clears_24 (by decide) ?_
  refine lv_iload_n hx hb dX10_clears_9 rfl (lv_at hl 0 rfl) ?_
  refine lv_bipush (v := (9 : Int32)) hx hb dX10_clears_10 (by decide) ?_
  refine lv_icmp_ge (tgt := 27) hx hb dX10_clears_12 (by decide) (fun h => absurd h (by decide)) (fun _ => ?_)
  refine lv_aload_n hx hb dX10_clears_15 rfl (lv_at hl 1 rfl) ?_
  refine lv_iload_n hx hb dX10_clears_16 rfl (lv_at hl 0 rfl) ?_
  refine lv_iconst (v := (0 : Int32)) hx hb dX10_clears_17 (by decide) ?_
  refine t_Vv C hO hl.1 hA hH hI.1 (As := [.int (8 : Int32), .int (0 : Int32)]) (rest := []) (t_tells_8 l E J τ L f30 hI.1 mq tq (8 : Int32) rl_8 (0 : Int32) hh hUh) my_X10_tells wd1107 mq tq td_40 rfl rfl rfl (Nat.le_of_ble_eq_true rfl) ⟨Nat.le_of_ble_eq_true rfl, Nat.le_of_ble_eq_true rfl⟩ ⟨rfl, rfl⟩ dX10_clears_18 (fun L1 f34 H locs hp hH => ?_)
  obtain ⟨rfl, s36, h37⟩ := hp
  have hJ := hI
  have hI := hI.call s36 (by decide)
  have hl0_ := hl0
  have hl0 := hl0.S s36 rfl
  have hh_ := hh
  have hh := h37
  refine lv_iinc (v := (9 : Int32)) (lv' := [(1, .int (9 : Int32)), (0, .ref q)]) hx hb dX10_clears_21 hl (k := 0) rfl (by decide) (by decide) rfl (fun ls hl => ?_)
  refine lv_goto (tgt := 9) hx hb dX10_clears_24 (by decide) ?_
  refine lv_iload_n hx hb dX10_clears_9 rfl (lv_at hl 0 rfl) ?_
  refine lv_bipush (v := (9 : Int32)) hx hb dX10_clears_10 (by decide) ?_
  refine lv_icmp_ge (tgt := 27) hx hb dX10_clears_12 (by decide) (fun _ => ?_) (fun h => absurd (by decide) h)
  exact g_vret C hr hH (Nat.zero_le _) (Nat.zero_le _) dX10_clears_27 ⟨rfl, hI, ⟨_, _, hl0, hh, (fun i hi => pk_un (by show i ≠ 4; omega)), pk_us, cl_up, cl_41, cl_42⟩⟩
set_option maxHeartbeats 4000000 in
set_option maxRecDepth 100000 in
theorem t_X10_land (l : Launch) (E : gE) (J : Nat → Nat) (τ : Nat → Nat) (L : List Nat) (f : gF) (hI : tI E L τ f) {q : Nat} (mq : q ∈ L) (tq : τ q = 40) {vl vh : Nat → Int32} (hl0 : isA E L τ f 46 5 vl) (hh : isA E L τ f 47 45 vh) (hUl : uq L τ 46) (hUh : uq L τ 47) (hRR : rowsR vl vh) : tMi l E J yX10_land cX10_land 1 .int (gRm (8) 0 0) [.ref q] L f (tPi E L τ [40, 46, 47, 48, 49, 50] f (fun r f1 => rg r (-2147483648) 2147483647 ∧ (∃ vl1 vh1 : Nat → Int32, isA E L τ f1 46 5 vl1 ∧ isA E L τ f1 47 45 vh1 ∧ rowsR vl1 vh1))) := by
  refine tMi.intro (by decide) (Nat.le_of_ble_eq_true rfl) ?_
  intro p e s m below meth c A ls C hr hA hO hH hl
  have C : gC E cX10_land 1 RX10 p s m _ meth c := C
  have hl : lv_has ls 1 [(0, .ref q)] := hl
  have hx := C.1
  have hb := C.2.1
  have hI := hI.S [40, 46, 47, 48, 49, 50]
  obtain ⟨q_16, mq_16, tq_16, kq_16⟩ := t_fldr hI.1 mq tq td_40 (k := 16) rfl
  obtain ⟨tp, rtp, htp⟩ := t_fldi hI.1 mq tq td_40 (k := 6) rfl
  have cut13 : ∀ (n : Nat) (fh13 : gF) (H : Heap) (locs : List Loc) (ls : Array Slot) (g13_0 : Int32) (g13_1 : Int32) (g13_2 : Int32), (1 ≤ n ∧ (g13_1 = 0 → ¬ g13_2 = 0 → 802 - g13_0.toInt < (n : Int))) → tS E L τ [40, 46, 47, 48, 49, 50] f fh13 → gH E A L fh13 s.heap H locs → g13_0.toInt ≤ tp.toInt → (∃ vl vh : Nat → Int32, isA E L τ fh13 46 5 vl ∧ isA E L τ fh13 47 45 vh ∧ rowsR vl vh ∧ ((vl 4 = 0 ∧ vh 41 = 0 ∧ vh 42 = 0) ∨ 1 ≤ (vh 36).toInt)) → fld fh13 q 6 (.int tp) → rg g13_0 0 800 → fld fh13 q 7 (.int g13_0) → rg g13_1 (-2147483648) 2147483647 → fld fh13 q 12 (.int g13_1) → rg g13_2 (-2147483648) 2147483647 → fld fh13 q 8 (.int g13_2) → lv_has ls 1 [(0, .ref q)] → W p l e (gRm (8) 0 0) s m [.ref q].toArray below meth c H locs 0 0 (MQ below (gQi E A (tPi E L τ [40, 46, 47, 48, 49, 50] f (fun r f1 => rg r (-2147483648) 2147483647 ∧ (∃ vl1 vh1 : Nat → Int32, isA E L τ f1 46 5 vl1 ∧ isA E L τ f1 47 45 vh1 ∧ rowsR vl1 vh1)))) [.ref q].toArray s (gRm (8) 0 0).cells (gRm (8) 0 0).slots A) (F0 m 13 ls []) := by
    intro n
    induction n with
    | zero =>
      intro fh13 H locs ls g13_0 g13_1 g13_2 hfu13 hI hH F13_le F13_rw P13_0 Gr13_0 G13_0 Gr13_1 G13_1 Gr13_2 G13_2 hl
      exact absurd hfu13.1 (by decide)
    | succ n ih13 =>
      intro fh13 H locs ls g13_0 g13_1 g13_2 hfu13 hI hH F13_le F13_rw P13_0 Gr13_0 G13_0 Gr13_1 G13_1 Gr13_2 G13_2 hl
      obtain ⟨vl, vh, hl0, hh, hRR, hrow4⟩ := F13_rw
      refine lv_aload_n hx hb dX10_land_13 rfl (lv_at hl 0 rfl) ?_
      refine t_Vi C hO hl.1 hA hH hI.1 (As := []) (rest := []) (t_X10_isGood l E J τ L fh13 hI.1 mq tq) my_X10_isGood wd1120 mq tq td_40 rfl rfl rfl (Nat.le_of_ble_eq_true rfl) ⟨Nat.le_of_ble_eq_true rfl, Nat.le_of_ble_eq_true rfl⟩ ⟨rfl, rfl⟩ dX10_land_14 (fun r2 L1 f1 H locs hp hH => ?_)
      obtain ⟨rfl, s3, h4⟩ := hp
      have hJ := hI
      have hI := hI.call s3 (by decide)
      have k5 : fld f1 q 6 (.int tp) := fld.eq P13_0 (s3.fr q mq (t_lim tq rfl))
      have k6 : fld f1 q 7 (.int g13_0) := fld.eq G13_0 (s3.fr q mq (t_lim tq rfl))
      have k7 : fld f1 q 12 (.int g13_1) := fld.eq G13_1 (s3.fr q mq (t_lim tq rfl))
      have k8 : fld f1 q 8 (.int g13_2) := fld.eq G13_2 (s3.fr q mq (t_lim tq rfl))
      have hh_ := hh
      have hh := hh.S s3 rfl
      have hl0 := hl0.S s3 rfl
      have w9 := h4.2 _ G13_1
      refine lv_if_eq (tgt := 71) hx hb dX10_land_17 (by decide) (fun c10 => ?_) (fun c10 => ?_)
      · skip
        have r11 : rg r2 0 0 := rf_eql (c_eq c10) h4.1 rl_0 (by decide)
        refine lv_aload_n hx hb dX10_land_71 rfl (lv_at hl 0 rfl) ?_
        refine t_Vv C hO hl.1 hA hH hI.1 (As := []) (rest := []) (t_X10_isOver l E J τ L f1 hI.1 mq tq) my_X10_isOver wd1138 mq tq td_40 rfl rfl rfl (Nat.le_of_ble_eq_true rfl) ⟨Nat.le_of_ble_eq_true rfl, Nat.le_of_ble_eq_true rfl⟩ ⟨rfl, rfl⟩ dX10_land_72 (fun L1 f12 H locs hp hH => ?_)
        obtain ⟨rfl, s14, h15⟩ := hp
        have hI := hI.call s14 (by decide)
        have hh_ := hh
        have hh := hh.S s14 rfl
        have hl0 := hl0.S s14 rfl
        refine lv_aload_n hx hb dX10_land_75 rfl (lv_at hl 0 rfl) ?_
        obtain ⟨z16, rz16, kz16⟩ := t_fldi hI.1 mq tq td_40 (k := 12) rfl
        refine t_getX C hH hI.1 mq tq td_40 iX10 rfl 12 (by decide) wd1063 rfl kz16 dX10_land_76 ?_
        refine lv_if_eq (tgt := 85) hx hb dX10_land_79 (by decide) (fun c17 => ?_) (fun c17 => ?_)
        · skip
          have r18 : rg z16 0 0 := rf_eql (c_eq c17) rz16 rl_0 (by decide)
          refine lv_aload_n hx hb dX10_land_85 rfl (lv_at hl 0 rfl) ?_
          refine lv_iconst (v := (4 : Int32)) hx hb dX10_land_86 (by decide) ?_
          refine lv_iconst (v := (0 : Int32)) hx hb dX10_land_87 (by decide) ?_
          refine t_Vv C hO hl.1 hA hH hI.1 (As := [.int (4 : Int32), .int (0 : Int32)]) (rest := []) (t_copyLand l E J τ L f12 hI.1 mq tq (4 : Int32) (rg_w rl_4 (by decide)) (0 : Int32) (rg_w rl_0 (by decide)) hl0 hh hUl hUh) my_X10_copyLand wd1035 mq tq td_40 rfl rfl rfl (Nat.le_of_ble_eq_true rfl) ⟨Nat.le_of_ble_eq_true rfl, Nat.le_of_ble_eq_true rfl⟩ ⟨rfl, rfl⟩ dX10_land_88 (fun L1 f19 H locs hp hH => ?_)
          obtain ⟨rfl, s21, h22⟩ := hp
          have hJ := hI
          have hI := hI.call s21 (by decide)
          have k23 : fld f19 q 12 (.int z16) := fld.eq kz16 (s21.fr q mq (t_lim tq rfl))
          have hh_ := hh
          have hl0 := h22.1
          have hh := h22.2
          refine lv_aload_n hx hb dX10_land_91 rfl (lv_at hl 0 rfl) ?_
          refine t_getX C hH hI.1 mq tq td_40 iX10 rfl 16 (by decide) wd748 rfl (hI.rf kq_16) dX10_land_92 ?_
          refine lv_iconst (v := (0 : Int32)) hx hb dX10_land_95 (by decide) ?_
          refine t_ald C hH hI.1 mq_16 tq_16 td_46 (rg_in rl_0 (by decide)) dX10_land_96 (fun z24v az24 pz24 => ?_)
          refine lv_topi (fun z24 ez24 => ?_)
          rw [arr_inj az24 (hl0 q_16 mq_16 tq_16)] at ez24
          exact g_iret C hr hH (Nat.zero_le _) (Nat.zero_le _) dX10_land_97 ⟨rfl, hI, ⟨(rg_all _), ⟨_, _, hl0, hh, (rowsR_cp hRR (row4 hrow4))⟩⟩⟩
        · skip
          refine lv_bipush (v := (-4 : Int32)) hx hb dX10_land_82 (by decide) ?_
          exact g_iret C hr hH (Nat.zero_le _) (Nat.zero_le _) dX10_land_84 ⟨rfl, hI, ⟨(rg_w rl_m4 (by decide)), ⟨_, _, hl0, hh, hRR⟩⟩⟩
      · skip
        have r25 : rg r2 1 1 := rf_nel (n_eq c10) h4.1 rl_0 (by decide)
        refine lv_aload_n hx hb dX10_land_20 rfl (lv_at hl 0 rfl) ?_
        refine t_getX C hH hI.1 mq tq td_40 iX10 rfl 8 (by decide) wd1062 rfl k8 dX10_land_21 ?_
        refine lv_if_eq (tgt := 71) hx hb dX10_land_24 (by decide) (fun c26 => ?_) (fun c26 => ?_)
        · skip
          have r27 : rg g13_2 0 0 := rf_eql (c_eq c26) Gr13_2 rl_0 (by decide)
          refine lv_aload_n hx hb dX10_land_71 rfl (lv_at hl 0 rfl) ?_
          refine t_Vv C hO hl.1 hA hH hI.1 (As := []) (rest := []) (t_X10_isOver l E J τ L f1 hI.1 mq tq) my_X10_isOver wd1138 mq tq td_40 rfl rfl rfl (Nat.le_of_ble_eq_true rfl) ⟨Nat.le_of_ble_eq_true rfl, Nat.le_of_ble_eq_true rfl⟩ ⟨rfl, rfl⟩ dX10_land_72 (fun L1 f28 H locs hp hH => ?_)
          obtain ⟨rfl, s30, h31⟩ := hp
          have hI := hI.call s30 (by decide)
          have hh_ := hh
          have hh := hh.S s30 rfl
          have hl0 := hl0.S s30 rfl
          refine lv_aload_n hx hb dX10_land_75 rfl (lv_at hl 0 rfl) ?_
          obtain ⟨z32, rz32, kz32⟩ := t_fldi hI.1 mq tq td_40 (k := 12) rfl
          refine t_getX C hH hI.1 mq tq td_40 iX10 rfl 12 (by decide) wd1063 rfl kz32 dX10_land_76 ?_
          refine lv_if_eq (tgt := 85) hx hb dX10_land_79 (by decide) (fun c33 => ?_) (fun c33 => ?_)
          · skip
            have r34 : rg z32 0 0 := rf_eql (c_eq c33) rz32 rl_0 (by decide)
            refine lv_aload_n hx hb dX10_land_85 rfl (lv_at hl 0 rfl) ?_
            refine lv_iconst (v := (4 : Int32)) hx hb dX10_land_86 (by decide) ?_
            refine lv_iconst (v := (0 : Int32)) hx hb dX10_land_87 (by decide) ?_
            refine t_Vv C hO hl.1 hA hH hI.1 (As := [.int (4 : Int32), .int (0 : Int32)]) (rest := []) (t_copyLand l E J τ L f28 hI.1 mq tq (4 : Int32) (rg_w rl_4 (by decide)) (0 : Int32) (rg_w rl_0 (by decide)) hl0 hh hUl hUh) my_X10_copyLand wd1035 mq tq td_40 rfl rfl rfl (Nat.le_of_ble_eq_true rfl) ⟨Nat.le_of_ble_eq_true rfl, Nat.le_of_ble_eq_true rfl⟩ ⟨rfl, rfl⟩ dX10_land_88 (fun L1 f35 H locs hp hH => ?_)
            obtain ⟨rfl, s37, h38⟩ := hp
            have hJ := hI
            have hI := hI.call s37 (by decide)
            have k39 : fld f35 q 12 (.int z32) := fld.eq kz32 (s37.fr q mq (t_lim tq rfl))
            have hh_ := hh
            have hl0 := h38.1
            have hh := h38.2
            refine lv_aload_n hx hb dX10_land_91 rfl (lv_at hl 0 rfl) ?_
            refine t_getX C hH hI.1 mq tq td_40 iX10 rfl 16 (by decide) wd748 rfl (hI.rf kq_16) dX10_land_92 ?_
            refine lv_iconst (v := (0 : Int32)) hx hb dX10_land_95 (by decide) ?_
            refine t_ald C hH hI.1 mq_16 tq_16 td_46 (rg_in rl_0 (by decide)) dX10_land_96 (fun z40v az40 pz40 => ?_)
            refine lv_topi (fun z40 ez40 => ?_)
            rw [arr_inj az40 (hl0 q_16 mq_16 tq_16)] at ez40
            exact g_iret C hr hH (Nat.zero_le _) (Nat.zero_le _) dX10_land_97 ⟨rfl, hI, ⟨(rg_all _), ⟨_, _, hl0, hh, (rowsR_cp hRR (row4 hrow4))⟩⟩⟩
          · skip
            refine lv_bipush (v := (-4 : Int32)) hx hb dX10_land_82 (by decide) ?_
            exact g_iret C hr hH (Nat.zero_le _) (Nat.zero_le _) dX10_land_84 ⟨rfl, hI, ⟨(rg_w rl_m4 (by decide)), ⟨_, _, hl0, hh, hRR⟩⟩⟩
        · skip
          refine lv_aload_n hx hb dX10_land_27 rfl (lv_at hl 0 rfl) ?_
          refine t_getX C hH hI.1 mq tq td_40 iX10 rfl 16 (by decide) wd748 rfl (hI.rf kq_16) dX10_land_28 ?_
          refine lv_iconst (v := (4 : Int32)) hx hb dX10_land_31 (by decide) ?_
          refine t_ald C hH hI.1 mq_16 tq_16 td_46 (rg_in rl_4 (by decide)) dX10_land_32 (fun z41v az41 pz41 => ?_)
          refine lv_topi (fun z41 ez41 => ?_)
          rw [arr_inj az41 (hl0 q_16 mq_16 tq_16)] at ez41
          refine lv_if_ne (tgt := 43) hx hb dX10_land_33 (by decide) (fun c42 => ?_) (fun c42 => ?_)
          · skip
            refine lv_aload_n hx hb dX10_land_43 rfl (lv_at hl 0 rfl) ?_
            refine t_Vv C hO hl.1 hA hH hI.1 (As := []) (rest := []) (t_X10_line l E J τ L f1 hI.1 mq tq k6 k5 k7 F13_le Gr13_0 rtp hh hUh) my_X10_line wd1142 mq tq td_40 rfl rfl rfl (Nat.le_of_ble_eq_true rfl) ⟨Nat.le_of_ble_eq_true rfl, Nat.le_of_ble_eq_true rfl⟩ ⟨rfl, rfl⟩ dX10_land_44 (fun L1 f43 H locs hp hH => ?_)
            obtain ⟨rfl, s45, h46⟩ := hp
            have hJ := hI
            have hI := hI.call s45 (by decide)
            have hh_ := hh
            have hl0 := hl0.S s45 rfl
            obtain ⟨sp47, bd48, k49, k50, k51, lo52, hi53, x54⟩ := h46
            have r55 : rg sp47 0 800 := sp_rg Gr13_0 lo52 hi53 rtp
            have lo56 : g13_0.toInt ≤ sp47.toInt := Int.le_trans (Int.le_refl g13_0.toInt) lo52
            obtain ⟨vh1, hh, b1⟩ := x54
            refine lv_aload_n hx hb dX10_land_47 rfl (lv_at hl 0 rfl) ?_
            refine t_Vi C hO hl.1 hA hH hI.1 (As := []) (rest := []) (t_X10_isGood l E J τ L f43 hI.1 mq tq) my_X10_isGood wd1120 mq tq td_40 rfl rfl rfl (Nat.le_of_ble_eq_true rfl) ⟨Nat.le_of_ble_eq_true rfl, Nat.le_of_ble_eq_true rfl⟩ ⟨rfl, rfl⟩ dX10_land_48 (fun r58 L1 f57 H locs hp hH => ?_)
            obtain ⟨rfl, s59, h60⟩ := hp
            have hJ := hI
            have hI := hI.call s59 (by decide)
            have k61 : fld f57 q 7 (.int sp47) := fld.eq k49 (s59.fr q mq (t_lim tq rfl))
            have k62 : fld f57 q 6 (.int tp) := fld.eq k50 (s59.fr q mq (t_lim tq rfl))
            have k63 : fld f57 q 12 (.int bd48) := fld.eq k51 (s59.fr q mq (t_lim tq rfl))
            have hh_ := hh
            have hh := hh.S s59 rfl
            have hl0 := hl0.S s59 rfl
            have w64 := h60.2 _ k51
            refine lv_if_eq (tgt := 58) hx hb dX10_land_51 (by decide) (fun c65 => ?_) (fun c65 => ?_)
            · skip
              have r66 : rg r58 0 0 := rf_eql (c_eq c65) h60.1 rl_0 (by decide)
              refine lv_aload_n hx hb dX10_land_58 rfl (lv_at hl 0 rfl) ?_
              refine t_getX C hH hI.1 mq tq td_40 iX10 rfl 16 (by decide) wd748 rfl (hI.rf kq_16) dX10_land_59 ?_
              refine lv_iconst (v := (4 : Int32)) hx hb dX10_land_62 (by decide) ?_
              refine lv_dup2_11 hx hb dX10_land_63 rfl rfl ?_
              refine t_ald C hH hI.1 mq_16 tq_16 td_46 (rg_in rl_4 (by decide)) dX10_land_64 (fun z67v az67 pz67 => ?_)
              refine lv_topi (fun z67 ez67 => ?_)
              rw [arr_inj az67 (hl0 q_16 mq_16 tq_16)] at ez67
              refine lv_iconst (v := (1 : Int32)) hx hb dX10_land_65 (by decide) ?_
              refine lv_iadd hx hb dX10_land_66 ?_
              refine lv_topi (fun z68 ez68 => ?_)
              refine t_ast C hH hI mq_16 tq_16 (by decide) td_46 (rg_in rl_4 (by decide)) (fun _ _ _ => trivial) dX10_land_67 (fun f69 H locs hH hI bf69 uf69 => ?_)
              have hh := isA_st hh tq_16 rfl bf69
              have hl0 := isA_w hUl mq_16 tq_16 (uf69 _ (hl0 q_16 mq_16 tq_16))
              have k70 : fld f69 q 7 (.int sp47) := fld.eq k61 (bf69 q (ty_ne tq tq_16 rfl))
              have k71 : fld f69 q 6 (.int tp) := fld.eq k62 (bf69 q (ty_ne tq tq_16 rfl))
              have k72 : fld f69 q 12 (.int bd48) := fld.eq k63 (bf69 q (ty_ne tq tq_16 rfl))
              refine lv_goto (tgt := 13) hx hb dX10_land_68 (by decide) ?_
              obtain ⟨tk73, rtk73, ktk73⟩ := t_fldi hI.1 mq tq td_40 (k := 8) rfl
              exact ih13 _ _ _ _ sp47 bd48 tk73 (ld_no (hfu13.2 (w9.mp c10) c26) Gr13_0 (fun e => w64.mpr e c65)) hI hH hi53 ⟨_, _, hl0, hh, rowsR_l4 (rowsR_lo hRR (fun i hi => b1 i (by omega))), (Or.inr (by rw [b1 36 (by omega)]; exact hrow4.resolve_left (fun h => absurd (ez41.trans h.1) c42)))⟩ k71 r55 k70 (rg_all _) k72 (rg_all _) ktk73 (lv_sub hl [0] rfl)
            · skip
              have r74 : rg r58 1 1 := rf_nel (n_eq c65) h60.1 rl_0 (by decide)
              refine lv_aload_n hx hb dX10_land_54 rfl (lv_at hl 0 rfl) ?_
              refine t_Vv C hO hl.1 hA hH hI.1 (As := []) (rest := []) (t_X10_ends l E J τ L f57 hI.1 mq tq k61 k62 k63 hi53 r55 rtp) my_X10_ends wd1146 mq tq td_40 rfl rfl rfl (Nat.le_of_ble_eq_true rfl) ⟨Nat.le_of_ble_eq_true rfl, Nat.le_of_ble_eq_true rfl⟩ ⟨rfl, rfl⟩ dX10_land_55 (fun L1 f75 H locs hp hH => ?_)
              obtain ⟨rfl, s77, h78⟩ := hp
              have hJ := hI
              have hI := hI.call s77 (by decide)
              have hh_ := hh
              have hh := hh.S s77 rfl
              have hl0 := hl0.S s77 rfl
              obtain ⟨sp79, bd80, tk87, k81, k82, k83, lo84, hi85, k88, x86⟩ := h78
              have r89 : rg sp79 0 800 := sp_rg r55 lo84 hi85 rtp
              have lo90 : g13_0.toInt ≤ sp79.toInt := Int.le_trans lo56 lo84
              refine lv_aload_n hx hb dX10_land_58 rfl (lv_at hl 0 rfl) ?_
              refine t_getX C hH hI.1 mq tq td_40 iX10 rfl 16 (by decide) wd748 rfl (hI.rf kq_16) dX10_land_59 ?_
              refine lv_iconst (v := (4 : Int32)) hx hb dX10_land_62 (by decide) ?_
              refine lv_dup2_11 hx hb dX10_land_63 rfl rfl ?_
              refine t_ald C hH hI.1 mq_16 tq_16 td_46 (rg_in rl_4 (by decide)) dX10_land_64 (fun z91v az91 pz91 => ?_)
              refine lv_topi (fun z91 ez91 => ?_)
              rw [arr_inj az91 (hl0 q_16 mq_16 tq_16)] at ez91
              refine lv_iconst (v := (1 : Int32)) hx hb dX10_land_65 (by decide) ?_
              refine lv_iadd hx hb dX10_land_66 ?_
              refine lv_topi (fun z92 ez92 => ?_)
              refine t_ast C hH hI mq_16 tq_16 (by decide) td_46 (rg_in rl_4 (by decide)) (fun _ _ _ => trivial) dX10_land_67 (fun f93 H locs hH hI bf93 uf93 => ?_)
              have hh := isA_st hh tq_16 rfl bf93
              have hl0 := isA_w hUl mq_16 tq_16 (uf93 _ (hl0 q_16 mq_16 tq_16))
              have k94 : fld f93 q 7 (.int sp79) := fld.eq k81 (bf93 q (ty_ne tq tq_16 rfl))
              have k95 : fld f93 q 6 (.int tp) := fld.eq k82 (bf93 q (ty_ne tq tq_16 rfl))
              have k96 : fld f93 q 12 (.int bd80) := fld.eq k83 (bf93 q (ty_ne tq tq_16 rfl))
              have k97 : fld f93 q 8 (.int tk87) := fld.eq k88 (bf93 q (ty_ne tq tq_16 rfl))
              refine lv_goto (tgt := 13) hx hb dX10_land_68 (by decide) ?_
              exact ih13 _ _ _ _ sp79 bd80 tk87 (ld_fu (hfu13.2 (w9.mp c10) c26) Gr13_0 lo56 x86) hI hH hi85 ⟨_, _, hl0, hh, rowsR_l4 (rowsR_lo hRR (fun i hi => b1 i (by omega))), (Or.inr (by rw [b1 36 (by omega)]; exact hrow4.resolve_left (fun h => absurd (ez41.trans h.1) c42)))⟩ k95 r89 k94 (rg_all _) k96 (rg_all _) k97 (lv_sub hl [0] rfl)
          · skip
            have r98 : rg z41 0 0 := rf_eql (c_eq c42) (rg_all _) rl_0 (by decide)
            refine lv_aload_n hx hb dX10_land_36 rfl (lv_at hl 0 rfl) ?_
            refine t_Vv C hO hl.1 hA hH hI.1 (As := []) (rest := []) (t_X10_landLine l E J τ L f1 hI.1 mq tq k6 k5 k7 F13_le Gr13_0 rtp hh hUh) my_X10_landLine wd1150 mq tq td_40 rfl rfl rfl (Nat.le_of_ble_eq_true rfl) ⟨Nat.le_of_ble_eq_true rfl, Nat.le_of_ble_eq_true rfl⟩ ⟨rfl, rfl⟩ dX10_land_37 (fun L1 f99 H locs hp hH => ?_)
            obtain ⟨rfl, s101, h102⟩ := hp
            have hJ := hI
            have hI := hI.call s101 (by decide)
            have hh_ := hh
            have hl0 := hl0.S s101 rfl
            obtain ⟨sp103, bd104, k105, k106, k107, lo108, hi109, x110⟩ := h102
            have r111 : rg sp103 0 800 := sp_rg Gr13_0 lo108 hi109 rtp
            have lo112 : g13_0.toInt ≤ sp103.toInt := Int.le_trans (Int.le_refl g13_0.toInt) lo108
            obtain ⟨vh1, hh, b1, b2⟩ := x110
            refine lv_goto (tgt := 47) hx hb dX10_land_40 (by decide) ?_
            refine lv_aload_n hx hb dX10_land_47 rfl (lv_at hl 0 rfl) ?_
            refine t_Vi C hO hl.1 hA hH hI.1 (As := []) (rest := []) (t_X10_isGood l E J τ L f99 hI.1 mq tq) my_X10_isGood wd1120 mq tq td_40 rfl rfl rfl (Nat.le_of_ble_eq_true rfl) ⟨Nat.le_of_ble_eq_true rfl, Nat.le_of_ble_eq_true rfl⟩ ⟨rfl, rfl⟩ dX10_land_48 (fun r114 L1 f113 H locs hp hH => ?_)
            obtain ⟨rfl, s115, h116⟩ := hp
            have hJ := hI
            have hI := hI.call s115 (by decide)
            have k117 : fld f113 q 7 (.int sp103) := fld.eq k105 (s115.fr q mq (t_lim tq rfl))
            have k118 : fld f113 q 6 (.int tp) := fld.eq k106 (s115.fr q mq (t_lim tq rfl))
            have k119 : fld f113 q 12 (.int bd104) := fld.eq k107 (s115.fr q mq (t_lim tq rfl))
            have hh_ := hh
            have hh := hh.S s115 rfl
            have hl0 := hl0.S s115 rfl
            have w120 := h116.2 _ k107
            refine lv_if_eq (tgt := 58) hx hb dX10_land_51 (by decide) (fun c121 => ?_) (fun c121 => ?_)
            · skip
              have r122 : rg r114 0 0 := rf_eql (c_eq c121) h116.1 rl_0 (by decide)
              refine lv_aload_n hx hb dX10_land_58 rfl (lv_at hl 0 rfl) ?_
              refine t_getX C hH hI.1 mq tq td_40 iX10 rfl 16 (by decide) wd748 rfl (hI.rf kq_16) dX10_land_59 ?_
              refine lv_iconst (v := (4 : Int32)) hx hb dX10_land_62 (by decide) ?_
              refine lv_dup2_11 hx hb dX10_land_63 rfl rfl ?_
              refine t_ald C hH hI.1 mq_16 tq_16 td_46 (rg_in rl_4 (by decide)) dX10_land_64 (fun z123v az123 pz123 => ?_)
              refine lv_topi (fun z123 ez123 => ?_)
              rw [arr_inj az123 (hl0 q_16 mq_16 tq_16)] at ez123
              refine lv_iconst (v := (1 : Int32)) hx hb dX10_land_65 (by decide) ?_
              refine lv_iadd hx hb dX10_land_66 ?_
              refine lv_topi (fun z124 ez124 => ?_)
              refine t_ast C hH hI mq_16 tq_16 (by decide) td_46 (rg_in rl_4 (by decide)) (fun _ _ _ => trivial) dX10_land_67 (fun f125 H locs hH hI bf125 uf125 => ?_)
              have hh := isA_st hh tq_16 rfl bf125
              have hl0 := isA_w hUl mq_16 tq_16 (uf125 _ (hl0 q_16 mq_16 tq_16))
              have k126 : fld f125 q 7 (.int sp103) := fld.eq k117 (bf125 q (ty_ne tq tq_16 rfl))
              have k127 : fld f125 q 6 (.int tp) := fld.eq k118 (bf125 q (ty_ne tq tq_16 rfl))
              have k128 : fld f125 q 12 (.int bd104) := fld.eq k119 (bf125 q (ty_ne tq tq_16 rfl))
              refine lv_goto (tgt := 13) hx hb dX10_land_68 (by decide) ?_
              obtain ⟨tk129, rtk129, ktk129⟩ := t_fldi hI.1 mq tq td_40 (k := 8) rfl
              exact ih13 _ _ _ _ sp103 bd104 tk129 (ld_no (hfu13.2 (w9.mp c10) c26) Gr13_0 (fun e => w120.mpr e c121)) hI hH hi109 ⟨_, _, hl0, hh, rowsR_l4 (rowsR_lo hRR b1), (Or.inr b2)⟩ k127 r111 k126 (rg_all _) k128 (rg_all _) ktk129 (lv_sub hl [0] rfl)
            · skip
              have r130 : rg r114 1 1 := rf_nel (n_eq c121) h116.1 rl_0 (by decide)
              refine lv_aload_n hx hb dX10_land_54 rfl (lv_at hl 0 rfl) ?_
              refine t_Vv C hO hl.1 hA hH hI.1 (As := []) (rest := []) (t_X10_ends l E J τ L f113 hI.1 mq tq k117 k118 k119 hi109 r111 rtp) my_X10_ends wd1146 mq tq td_40 rfl rfl rfl (Nat.le_of_ble_eq_true rfl) ⟨Nat.le_of_ble_eq_true rfl, Nat.le_of_ble_eq_true rfl⟩ ⟨rfl, rfl⟩ dX10_land_55 (fun L1 f131 H locs hp hH => ?_)
              obtain ⟨rfl, s133, h134⟩ := hp
              have hJ := hI
              have hI := hI.call s133 (by decide)
              have hh_ := hh
              have hh := hh.S s133 rfl
              have hl0 := hl0.S s133 rfl
              obtain ⟨sp135, bd136, tk143, k137, k138, k139, lo140, hi141, k144, x142⟩ := h134
              have r145 : rg sp135 0 800 := sp_rg r111 lo140 hi141 rtp
              have lo146 : g13_0.toInt ≤ sp135.toInt := Int.le_trans lo112 lo140
              refine lv_aload_n hx hb dX10_land_58 rfl (lv_at hl 0 rfl) ?_
              refine t_getX C hH hI.1 mq tq td_40 iX10 rfl 16 (by decide) wd748 rfl (hI.rf kq_16) dX10_land_59 ?_
              refine lv_iconst (v := (4 : Int32)) hx hb dX10_land_62 (by decide) ?_
              refine lv_dup2_11 hx hb dX10_land_63 rfl rfl ?_
              refine t_ald C hH hI.1 mq_16 tq_16 td_46 (rg_in rl_4 (by decide)) dX10_land_64 (fun z147v az147 pz147 => ?_)
              refine lv_topi (fun z147 ez147 => ?_)
              rw [arr_inj az147 (hl0 q_16 mq_16 tq_16)] at ez147
              refine lv_iconst (v := (1 : Int32)) hx hb dX10_land_65 (by decide) ?_
              refine lv_iadd hx hb dX10_land_66 ?_
              refine lv_topi (fun z148 ez148 => ?_)
              refine t_ast C hH hI mq_16 tq_16 (by decide) td_46 (rg_in rl_4 (by decide)) (fun _ _ _ => trivial) dX10_land_67 (fun f149 H locs hH hI bf149 uf149 => ?_)
              have hh := isA_st hh tq_16 rfl bf149
              have hl0 := isA_w hUl mq_16 tq_16 (uf149 _ (hl0 q_16 mq_16 tq_16))
              have k150 : fld f149 q 7 (.int sp135) := fld.eq k137 (bf149 q (ty_ne tq tq_16 rfl))
              have k151 : fld f149 q 6 (.int tp) := fld.eq k138 (bf149 q (ty_ne tq tq_16 rfl))
              have k152 : fld f149 q 12 (.int bd136) := fld.eq k139 (bf149 q (ty_ne tq tq_16 rfl))
              have k153 : fld f149 q 8 (.int tk143) := fld.eq k144 (bf149 q (ty_ne tq tq_16 rfl))
              refine lv_goto (tgt := 13) hx hb dX10_land_68 (by decide) ?_
              exact ih13 _ _ _ _ sp135 bd136 tk143 (ld_fu (hfu13.2 (w9.mp c10) c26) Gr13_0 lo112 x142) hI hH hi141 ⟨_, _, hl0, hh, rowsR_l4 (rowsR_lo hRR b1), (Or.inr b2)⟩ k151 r145 k150 (rg_all _) k152 (rg_all _) k153 (lv_sub hl [0] rfl)
  refine lv_aload_n hx hb dX10_land_0 rfl (lv_at hl 0 rfl) ?_
  refine lv_iconst (v := (0 : Int32)) hx hb dX10_land_1 (by decide) ?_
  refine t_put C hH hI mq tq (by decide) td_40 iX10 tyX10 tyX10_ok nmX10 rfl 0 (by decide) wd855 rfl rfl (v := .int (0 : Int32)) rfl rfl rfl ⟨_, rfl, (rg_w rl_0 (by decide))⟩ (fun _ h => nomatch h) dX10_land_2 (fun f154 H locs hH hI nf154 of154 bf154 => ?_)
  have k155 : fld f154 q 6 (.int tp) := of154 6 _ (by decide) htp
  have hh := isA_st hh tq rfl bf154
  have hl0 := isA_st hl0 tq rfl bf154
  refine lv_aload_n hx hb dX10_land_5 rfl (lv_at hl 0 rfl) ?_
  refine t_Vv C hO hl.1 hA hH hI.1 (As := []) (rest := []) (t_X10_clears l E J τ L f154 hI.1 mq tq hl0 hh hUl hUh) my_X10_clears wd1154 mq tq td_40 rfl rfl rfl (Nat.le_of_ble_eq_true rfl) ⟨Nat.le_of_ble_eq_true rfl, Nat.le_of_ble_eq_true rfl⟩ ⟨rfl, rfl⟩ dX10_land_6 (fun L1 f156 H locs hp hH => ?_)
  obtain ⟨rfl, s158, h159⟩ := hp
  have hJ := hI
  have hI := hI.call s158 (by decide)
  have k160 : fld f156 q 6 (.int tp) := fld.eq k155 (s158.fr q mq (t_lim tq rfl))
  have k161 : fld f156 q 0 (.int (0 : Int32)) := fld.eq nf154 (s158.fr q mq (t_lim tq rfl))
  have hh_ := hh
  obtain ⟨vl1, vh1, hl0, hh, a1, a2, a3, a4, a5⟩ := h159
  have hRR := rowsR_cl hRR a1 a3
  refine lv_aload_n hx hb dX10_land_9 rfl (lv_at hl 0 rfl) ?_
  refine t_Vv C hO hl.1 hA hH hI.1 (As := []) (rest := []) (t_X10_begins l E J τ L f156 hI.1 mq tq k160 rtp) my_X10_begins wd1158 mq tq td_40 rfl rfl rfl (Nat.le_of_ble_eq_true rfl) ⟨Nat.le_of_ble_eq_true rfl, Nat.le_of_ble_eq_true rfl⟩ ⟨rfl, rfl⟩ dX10_land_10 (fun L1 f162 H locs hp hH => ?_)
  obtain ⟨rfl, s164, h165⟩ := hp
  have hJ := hI
  have hI := hI.call s164 (by decide)
  have hh_ := hh
  have hh := hh.S s164 rfl
  have hl0 := hl0.S s164 rfl
  obtain ⟨sp0, tk0, y7, y6, y12, y8, yle⟩ := h165
  obtain ⟨sp0_, r166, y7_⟩ := t_fldi hI.1 mq tq td_40 (k := 7) rfl
  have r167 : rg sp0 0 800 := (by rw [fld_inj y7 y7_]; exact r166)
  exact cut13 803 _ _ _ _ sp0 (0 : Int32) tk0 ⟨by decide, fun _ _ => ld_i r167⟩ hI hH yle ⟨_, _, hl0, hh, hRR, Or.inl ⟨a2, a4, a5⟩⟩ y6 r167 y7 (rg_w rl_0 (by decide)) y12 (rg_all _) y8 (lv_sub hl [0] rfl)
