/-! sights, reports, shares -/
theorem gl_cmp_lt (x y : Int64) : lg_cmp x y < 0 ↔ x.toInt < y.toInt := by
  unfold lg_cmp
  by_cases h : x > y
  · have h2 : y.toInt < x.toInt := (fa_lt64 y x).mp h
    simp only [if_pos h]
    exact ⟨fun e => absurd e (by decide), fun e => by omega⟩
  · by_cases h3 : x = y
    · subst h3
      simp only [if_neg h, if_true]
      exact ⟨fun e => absurd e (by decide), fun e => by omega⟩
    · simp only [if_neg h, if_neg h3]
      have h4 : ¬ y.toInt < x.toInt := fun e => h ((fa_lt64 y x).mpr e)
      have h5 : x.toInt ≠ y.toInt := fun e => h3 ((fa_eq64 x y).mpr e)
      exact ⟨fun _ => by omega, fun _ => by decide⟩
theorem gl_cmp_gt (x y : Int64) : 0 < lg_cmp x y ↔ y.toInt < x.toInt := by
  unfold lg_cmp
  by_cases h : x > y
  · have h2 : y.toInt < x.toInt := (fa_lt64 y x).mp h
    simp only [if_pos h]
    exact ⟨fun _ => h2, fun _ => by decide⟩
  · have h4 : ¬ y.toInt < x.toInt := fun e => h ((fa_lt64 y x).mpr e)
    by_cases h3 : x = y
    · subst h3
      simp only [if_neg h, if_true]
      exact ⟨fun e => absurd e (by decide), fun e => absurd e h4⟩
    · simp only [if_neg h, if_neg h3]
      exact ⟨fun e => absurd e (by decide), fun e => absurd e h4⟩
theorem within_ok {x a b : Int64} {z1 z2 : Int32} (e1 : z1 = lg_cmp x a) (h1 : ¬ z1 < 0) (e2 : z2 = lg_cmp x b) (h2 : ¬ 0 < z2) : a.toInt ≤ x.toInt ∧ x.toInt ≤ b.toInt := by
  rw [e1, gl_cmp_lt] at h1
  rw [e2, gl_cmp_gt] at h2
  omega
theorem within_i {x : Int64} {a b : Int32} (h : a.toInt64.toInt ≤ x.toInt ∧ x.toInt ≤ b.toInt64.toInt) : a.toInt ≤ x.toInt ∧ x.toInt ≤ b.toInt := by
  rw [Int32.toInt_toInt64, Int32.toInt_toInt64] at h
  exact h
def sOK (u : Nat → Int64) (k : Nat) : Prop := (0 ≤ (u (3 * k)).toInt ∧ (u (3 * k)).toInt ≤ 3) ∧ (0 ≤ (u (3 * k + 1)).toInt ∧ (u (3 * k + 1)).toInt ≤ 40)
def sightOK (f : gF) (q : Nat) : Prop := ∀ (nu n : Nat) (len : Int32) (cA : ClassId) (u : Nat → Int64), fld f q 0 (.ref nu) → fld f q 2 (.int len) → f nu = .inl (cA, n, .inr (.inl u)) → ∀ j : Nat, 3 * (j : Int) + 2 < len.toInt → sOK u j
theorem sightOK.of {f : gF} {q nu n : Nat} {len : Int32} {cA : ClassId} {u : Nat → Int64} (hn : fld f q 0 (.ref nu)) (hl : fld f q 2 (.int len)) (hu : f nu = .inl (cA, n, .inr (.inl u))) (h : ∀ j : Nat, 3 * (j : Int) + 2 < len.toInt → sOK u j) : sightOK f q := by
  intro nu2 n2 len2 cB u2 h1 h2 h3
  rw [fld_injR h1 hn] at h3
  rw [arr_injJ h3 hu, fld_inj h2 hl]
  exact h
theorem sight_tr {E : gE} {L : List Nat} {τ : Nat → Nat} {f0 f : gF} {q : Nat} (h : sightOK f0 q) (hI0 : tI E L τ f0) (mq : q ∈ L) (tq : τ q = 17) (e : ∀ a ∈ L, τ a = 17 ∨ τ a = 18 → f a = f0 a) : sightOK f q := by
  intro nu n len cA u h1 h2 h3
  have e17 := e q mq (Or.inl tq)
  have h1' : fld f0 q 0 (.ref nu) := h1.eq e17.symm
  obtain ⟨b, mb, tb, kb⟩ := t_fldr hI0 mq tq td_17 (k := 0) rfl
  have hb : nu = b := fld_injR h1' kb
  subst hb
  have e18 := e nu mb (Or.inr tb)
  exact h nu n len cA u h1' (h2.eq e17.symm) (by rw [← e18]; exact h3)
theorem t_lim2 {τ : Nat → Nat} {a : Nat} {ws : List Nat} (ha : τ a = 17 ∨ τ a = 18) (h : (ws.contains 17 || ws.contains 18) = false) : τ a ∉ ws := by
  simp only [Bool.or_eq_false_iff] at h
  rcases ha with ha | ha
  · exact t_lim ha h.1
  · exact t_lim ha h.2
theorem sightOK.S {E : gE} {L : List Nat} {τ : Nat → Nat} {ws : List Nat} {f0 f : gF} {q : Nat} (h : sightOK f0 q) (hI0 : tI E L τ f0) (hS : tS E L τ ws f0 f) (mq : q ∈ L) (tq : τ q = 17) (s : (ws.contains 17 || ws.contains 18) = false) : sightOK f q := sight_tr h hI0 mq tq (fun a ha ht => hS.fr a ha (t_lim2 ht s))
theorem sightOK.B {E : gE} {L : List Nat} {τ : Nat → Nat} {ws : List Nat} {f0 f : gF} {q : Nat} (h : sightOK f q) (hS : tS E L τ ws f0 f) (mq : q ∈ L) (tq : τ q = 17) (s : (ws.contains 17 || ws.contains 18) = false) : sightOK f0 q := sight_tr h hS.1 mq tq (fun a ha ht => (hS.fr a ha (t_lim2 ht s)).symm)
theorem si_step {v v' z2i : Int32} {z1 z2 : Int64} {u : Nat → Int64} (F : ∃ j0 : Nat, v.toInt = 3 * (j0 : Int) ∧ ∀ k, k < j0 → sOK u k) (ha : v'.toInt = v.toInt + 3) (e1 : z1 = u v.toNatClampNeg) (h1 : 0 ≤ z1.toInt ∧ z1.toInt ≤ 3) (a2 : z2i.toInt = v.toInt + 1) (e2 : z2 = u z2i.toNatClampNeg) (h2 : 0 ≤ z2.toInt ∧ z2.toInt ≤ 40) : ∃ j0 : Nat, v'.toInt = 3 * (j0 : Int) ∧ ∀ k, k < j0 → sOK u k := by
  obtain ⟨j, hj, hk⟩ := F
  have hv : v.toNatClampNeg = 3 * j := by show v.toInt.toNat = _; omega
  have hz : z2i.toNatClampNeg = 3 * j + 1 := by show z2i.toInt.toNat = _; omega
  rw [hv] at e1
  rw [hz] at e2
  refine ⟨j + 1, by omega, fun k hk2 => ?_⟩
  by_cases q : k = j
  · subst q
    exact ⟨by rw [← e1]; exact h1, by rw [← e2]; exact h2⟩
  · exact hk k (by omega)
theorem si_end {v z len : Int32} {u : Nat → Int64} (F : ∃ j0 : Nat, v.toInt = 3 * (j0 : Int) ∧ ∀ k, k < j0 → sOK u k) (a : z.toInt = v.toInt + 2) (h : len.toInt ≤ z.toInt) : ∀ j : Nat, 3 * (j : Int) + 2 < len.toInt → sOK u j := by
  obtain ⟨j0, hj, hk⟩ := F
  intro j h2
  exact hk j (by omega)
theorem si2_step {v v' : Int32} (F : ∃ j0 : Nat, v.toInt = 3 * (j0 : Int)) (ha : v'.toInt = v.toInt + 3) : ∃ j0 : Nat, v'.toInt = 3 * (j0 : Int) := by
  obtain ⟨j, hj⟩ := F
  exact ⟨j + 1, by omega⟩
theorem l2i_rg {z1 : Int64} {z : Int32} {b : Int} (h : 0 ≤ z1.toInt ∧ z1.toInt ≤ b) (s : decide (b ≤ 1000) = true) (e : z = z1.toInt32) : rg z 0 b := by
  simp only [decide_eq_true_eq] at s
  unfold rg
  rw [e, Int64.toInt_toInt32, bmI (by omega) (by omega)]
  exact h
theorem sg_a {v z2 len z : Int32} {z1 : Int64} {u : Nat → Int64} (F : ∃ j0 : Nat, v.toInt = 3 * (j0 : Int)) (a : z2.toInt = v.toInt + 2) (h : z2.toInt < len.toInt) (hs : ∀ j : Nat, 3 * (j : Int) + 2 < len.toInt → sOK u j) (e1 : z1 = u v.toNatClampNeg) (e : z = z1.toInt32) : rg z 0 3 := by
  obtain ⟨j, hj⟩ := F
  have hv : v.toNatClampNeg = 3 * j := by show v.toInt.toNat = _; omega
  rw [hv] at e1
  exact l2i_rg (by rw [e1]; exact (hs j (by omega)).1) (by decide) e
theorem sg_b {v z2 z3 len z : Int32} {z1 : Int64} {u : Nat → Int64} (F : ∃ j0 : Nat, v.toInt = 3 * (j0 : Int)) (a : z2.toInt = v.toInt + 2) (h : z2.toInt < len.toInt) (hs : ∀ j : Nat, 3 * (j : Int) + 2 < len.toInt → sOK u j) (a3 : z3.toInt = v.toInt + 1) (e1 : z1 = u z3.toNatClampNeg) (e : z = z1.toInt32) : rg z 0 40 := by
  obtain ⟨j, hj⟩ := F
  have hv : z3.toNatClampNeg = 3 * j + 1 := by show z3.toInt.toNat = _; omega
  rw [hv] at e1
  exact l2i_rg (by rw [e1]; exact (hs j (by omega)).2) (by decide) e
/-- the row of a slot -/
def rowAt (f : gF) (x : Nat) (i : Int32) (b : Nat) : Prop := ∃ (ar n : Nat) (cA : ClassId) (v : Nat → Option Nat), fld f x 4 (.ref ar) ∧ f ar = .inl (cA, n, .inr (.inr (.inr (.inr v)))) ∧ v i.toNatClampNeg = some b
theorem rowAt.inj {f : gF} {x b c : Nat} {i : Int32} (h : rowAt f x i b) (h2 : rowAt f x i c) : b = c := by
  obtain ⟨a1, n1, c1, v1, h1, h3, h4⟩ := h
  obtain ⟨a2, n2, c2, v2, g1, g3, g4⟩ := h2
  rw [fld_injR g1 h1] at g3
  rw [arr_injQ g3 h3, h4] at g4
  exact Option.some.inj g4
def mOK (L : List Nat) (τ : Nat → Nat) (f : gF) (x : Int32) : Prop := ∀ ld ∈ L, τ ld = 3 → ∀ n : Int32, fld f ld 7 (.int n) → x.toInt < n.toInt
theorem mOK.of {L : List Nat} {τ : Nat → Nat} {f : gF} {x : Int32} {q : Nat} (hU : ∀ a ∈ L, ∀ b ∈ L, τ a = 3 → τ b = 3 → a = b) (mq : q ∈ L) (tq : τ q = 3) (h : ∀ n : Int32, fld f q 7 (.int n) → x.toInt < n.toInt) : mOK L τ f x := fun ld ml tl n hn => h n (by rw [hU q mq ld ml tq tl]; exact hn)
theorem mOK.S {E : gE} {L : List Nat} {τ : Nat → Nat} {ws : List Nat} {f0 f : gF} {x : Int32} (h : mOK L τ f0 x) (hS : tS E L τ ws f0 f) (s : ws.contains 3 = false) : mOK L τ f x := fun ld ml tl n hn => h ld ml tl n (hn.eq (hS.fr ld ml (t_lim tl s)).symm)
def amE (n : Int32) : Int32 := ((1 : Int32) <<< (n &&& 31)) - 1
theorem fac_all : ∀ (n : Fin 7) (m : Fin 6) (b : Fin 64), m.val < n.val → ((b.val : Int) ≤ (amE (Int32.ofNat n.val)).toInt) → ((Int32.ofNat b.val >>> (Int32.ofNat m.val &&& 31)) &&& 1 = 0) → pcN b.val + 1 ≤ n.val := by decide +kernel
theorem fac_ix {b m n many z1 z : Int32} (hb : rg b 0 63) (hm : rg m 0 5) (hn : rg n 0 6) (hmn : m.toInt < n.toInt) (hle : b.toInt ≤ (amE n).toInt) (hz : (b >>> (m &&& 31)) &&& 1 = 0) (hc : many = bcE b) (e1 : z1 = n - 1) (e : z = z1 - many) : rg z 0 6 := by
  obtain ⟨b', hb1, hb2, -⟩ := rg_nat hb
  obtain ⟨m', hm1, hm2, -⟩ := rg_nat hm
  obtain ⟨n', hn1, hn2, -⟩ := rg_nat hn
  have t1 : (1 : Int32).toInt = 1 := by decide
  unfold rg at *
  have k1 : b' < 64 := by omega
  have k2 : m' < 6 := by omega
  have k3 : n' < 7 := by omega
  have h1 := fac_all ⟨n', k3⟩ ⟨m', k2⟩ ⟨b', k1⟩ (by simp only; omega) (by simp only; rw [← hn1]; omega) (by simp only; rw [← hb1, ← hm1]; exact hz)
  have h2 := bc_all ⟨b', k1⟩
  simp only at h1 h2
  have h3 : many.toInt = (pcN b' : Int) := by rw [hc, hb1, h2, Int32.toInt_ofNat_of_lt (by omega)]
  have h4 : z1.toInt = n.toInt - 1 := by rw [e1, Int32.toInt_sub, t1, bmI (by omega) (by omega)]
  rw [e, Int32.toInt_sub, h4, h3, bmI (by omega) (by omega)]
  omega
section TY
variable {p : Program} {l : Launch} {e : Env} {R : Room} {s : State} {m : MethodId} {args : Array Value} {below : List Frame} {meth : Method} {c : Code} {H H0 : Heap} {locs : List Loc} {Q : State → Prop}
variable {E : gE} {cc : ByteArray} {nl : Nat} {own : String} {A : Nat → Prop} {L : List Nat} {τ : Nat → Nat} {f : gF} {pc : Nat} {ls : Array Slot} {rest : List Value} {a t : Nat}
theorem t_aaldX (C : gC E cc nl own p s m args meth c) (hH : gH E A L f H0 H locs) (hI : tI E L τ f) (ha : a ∈ L) (ht : τ a = t) {n tg u : Nat} (hd : tTab[t]? = some (.inr (.inr (.inr (tg, n, u))))) {Cn : String} (hcA : (gTy E)[tg]? = some (E.2.2 tg, .object Cn)) {i : Int32} (hin : vp_in i n) (hdg : decode cc pc = .ok (.aaload, 1))
    (kk : ∀ (v : Nat → Option Nat) (b : Nat), f a = .inl (E.2.2 tg, n, .inr (.inr (.inr (.inr v)))) → v i.toNatClampNeg = some b → b ∈ L → τ b = u → W p l e R s m args below meth c H locs 0 0 Q (F0 m (pc + 1) ls (.ref b :: rest))) : W p l e R s m args below meth c H locs 0 0 Q (F0 m pc ls (.int i :: .ref a :: rest)) := by
  obtain ⟨v, hf, hP⟩ := t_arrQ hI ha ht hd
  obtain ⟨b, hv, hb, hu⟩ := hP _ (vp_lt hin)
  exact g_aald C hH ha tg hcA hf hin hv hdg (kk v b hf hv hb hu)
end TY
set_option maxHeartbeats 4000000 in
set_option maxRecDepth 100000 in
theorem t_X0_pairs (l : Launch) (E : gE) (J : Nat → Nat) (τ : Nat → Nat) (L : List Nat) (f : gF) (hI : tI E L τ f) {q : Nat} (mq : q ∈ L) (tq : τ q = 27) : tMi l E J yX0_pairs cX0_pairs 1 .int (gRm (2) 0 0) [.ref q] L f (tPi E L τ [] f (fun r f1 => rg r 0 80)) := by
  refine tMi.intro (by decide) (Nat.le_of_ble_eq_true rfl) ?_
  intro p e s m below meth c A ls C hr hA hO hH hl
  have C : gC E cX0_pairs 1 RX0 p s m _ meth c := C
  have hl : lv_has ls 1 [(0, .ref q)] := hl
  have hx := C.1
  have hb := C.2.1
  have hI := hI.S []
  obtain ⟨q_0, mq_0, tq_0, kq_0⟩ := t_fldr hI.1 mq tq td_27 (k := 0) rfl
  refine lv_aload_n hx hb dX0_pairs_0 rfl (lv_at hl 0 rfl) ?_
  refine t_getX C hH hI.1 mq tq td_27 iX0 rfl 0 (by decide) wd197 rfl (hI.rf kq_0) dX0_pairs_1 ?_
  refine t_Vi C hO hl.1 hA hH hI.1 (As := []) (rest := []) (t_X3_cells l E J τ L f hI.1 mq_0 tq_0) my_X3_cells wd198 mq_0 tq_0 td_3 rfl rfl rfl (Nat.le_of_ble_eq_true rfl) ⟨Nat.le_of_ble_eq_true rfl, Nat.le_of_ble_eq_true rfl⟩ ⟨rfl, rfl⟩ dX0_pairs_4 (fun r2 L1 f1 H locs hp hH => ?_)
  obtain ⟨rfl, s3, h4⟩ := hp
  have hI := hI.call s3 (by decide)
  refine lv_iconst (v := (4 : Int32)) hx hb dX0_pairs_7 (by decide) ?_
  refine lv_imul hx hb dX0_pairs_8 ?_
  refine lv_topi (fun z5 ez5 => ?_)
  have r6 : rg z5 0 80 := rg_mul ez5 h4 rl_4 (by decide)
  exact g_iret C hr hH (Nat.zero_le _) (Nat.zero_le _) dX0_pairs_9 ⟨rfl, hI, r6⟩
set_option maxHeartbeats 4000000 in
set_option maxRecDepth 100000 in
theorem t_X0_hearersOf (l : Launch) (E : gE) (J : Nat → Nat) (τ : Nat → Nat) (L : List Nat) (f : gF) (hI : tI E L τ f) {q : Nat} (mq : q ∈ L) (tq : τ q = 27) (p1 : Int32) : tMi l E J yX0_hearersOf cX0_hearersOf 4 .int (gRm (2) 0 0) [.ref q, .int p1] L f (tPi E L τ [] f (fun r f1 => rg r 0 63)) := by
  refine tMi.intro (by decide) (Nat.le_of_ble_eq_true rfl) ?_
  intro p e s m below meth c A ls C hr hA hO hH hl
  have C : gC E cX0_hearersOf 4 RX0 p s m _ meth c := C
  have hl : lv_has ls 4 [(0, .ref q), (1, .int p1)] := hl
  have hx := C.1
  have hb := C.2.1
  have hI := hI.S []
  obtain ⟨q_0, mq_0, tq_0, kq_0⟩ := t_fldr hI.1 mq tq td_27 (k := 0) rfl
  have cut4 : ∀ (n : Nat) (fh4 : gF) (H : Heap) (locs : List Loc) (ls : Array Slot) (v4_2 : Int32) (v4_3 : Int32), 6 - v4_3.toInt < (n : Int) → tS E L τ [] f fh4 → gH E A L fh4 s.heap H locs → rg v4_2 0 63 → rg v4_3 0 6 → lv_has ls 4 [(0, .ref q), (1, .int p1), (2, .int v4_2), (3, .int v4_3)] → W p l e (gRm (2) 0 0) s m [.ref q, .int p1].toArray below meth c H locs 0 0 (MQ below (gQi E A (tPi E L τ [] f (fun r f1 => rg r 0 63))) [.ref q, .int p1].toArray s (gRm (2) 0 0).cells (gRm (2) 0 0).slots A) (F0 m 4 ls []) := by
    intro n
    induction n with
    | zero =>
      intro fh4 H locs ls v4_2 v4_3 hfu4 hI hH r_v4_2 r_v4_3 hl
      exact (fu_0 hfu4 r_v4_3).elim
    | succ n ih4 =>
      intro fh4 H locs ls v4_2 v4_3 hfu4 hI hH r_v4_2 r_v4_3 hl
      refine lv_iload_n hx hb dX0_hearersOf_4 rfl (lv_at hl 3 rfl) ?_
      refine lv_aload_n hx hb dX0_hearersOf_5 rfl (lv_at hl 0 rfl) ?_
      refine t_getX C hH hI.1 mq tq td_27 iX0 rfl 0 (by decide) wd197 rfl (hI.rf kq_0) dX0_hearersOf_6 ?_
      refine t_geti C hH hI.1 mq_0 tq_0 td_3 iX3 rfl 7 (by decide) wd199 rfl rfl dX0_hearersOf_9 (fun z1 rz1 => ?_)
      refine lv_icmp_ge (tgt := 40) hx hb dX0_hearersOf_12 (by decide) (fun c2 => ?_) (fun c2 => ?_)
      · skip
        refine lv_iload_n hx hb dX0_hearersOf_40 rfl (lv_at hl 2 rfl) ?_
        exact g_iret C hr hH (Nat.zero_le _) (Nat.zero_le _) dX0_hearersOf_41 ⟨rfl, hI, r_v4_2⟩
      · skip
        have r3 : rg v4_3 0 5 := rf_ltl (n_le c2) r_v4_3 rz1 (by decide)
        have r4 : rg z1 1 6 := rf_ltr (n_le c2) r_v4_3 rz1 (by decide)
        refine lv_aload_n hx hb dX0_hearersOf_15 rfl (lv_at hl 0 rfl) ?_
        refine t_getX C hH hI.1 mq tq td_27 iX0 rfl 0 (by decide) wd197 rfl (hI.rf kq_0) dX0_hearersOf_16 ?_
        refine lv_iload_n hx hb dX0_hearersOf_19 rfl (lv_at hl 3 rfl) ?_
        refine t_Vi C hO hl.1 hA hH hI.1 (As := [.int v4_3]) (rest := []) (t_X3_earshot l E J τ L fh4 hI.1 mq_0 tq_0 v4_3 r3) my_X3_earshot wd203 mq_0 tq_0 td_3 rfl rfl rfl (Nat.le_of_ble_eq_true rfl) ⟨Nat.le_of_ble_eq_true rfl, Nat.le_of_ble_eq_true rfl⟩ ⟨rfl, rfl⟩ dX0_hearersOf_20 (fun r6 L1 f5 H locs hp hH => ?_)
        obtain ⟨rfl, s7, h8⟩ := hp
        have hI := hI.call s7 (by decide)
        refine lv_iload_n hx hb dX0_hearersOf_23 rfl (lv_at hl 1 rfl) ?_
        refine lv_iand hx hb dX0_hearersOf_24 ?_
        refine lv_topi (fun z9 ez9 => ?_)
        refine lv_if_eq (tgt := 34) hx hb dX0_hearersOf_25 (by decide) (fun c10 => ?_) (fun c10 => ?_)
        · skip
          have r11 : rg z9 0 0 := rf_eql (c_eq c10) (rg_all _) rl_0 (by decide)
          obtain ⟨z12, ez12⟩ : ∃ y : Int32, y = v4_3 + (1 : Int32) := ⟨_, rfl⟩
          have r13 : rg z12 1 6 := rg_add ez12 r3 rl_1 (by decide)
          have a14 : z12.toInt = v4_3.toInt + 1 := ai_add ez12 r3 tl_1 (by decide)
          refine lv_iinc (v := z12) (lv' := [(3, .int z12), (0, .ref q), (1, .int p1), (2, .int v4_2)]) hx hb dX0_hearersOf_34 hl (k := 3) rfl (by rw [ez12]; rfl) (by decide) rfl (fun ls hl => ?_)
          refine lv_goto (tgt := 4) hx hb dX0_hearersOf_37 (by decide) ?_
          exact ih4 _ _ _ _ v4_2 z12 (fu_s hfu4 a14 (by decide)) hI hH r_v4_2 (rg_w r13 (by decide)) (lv_sub hl [1, 2, 3, 0] rfl)
        · skip
          refine lv_iload_n hx hb dX0_hearersOf_28 rfl (lv_at hl 2 rfl) ?_
          refine lv_iconst (v := (1 : Int32)) hx hb dX0_hearersOf_29 (by decide) ?_
          refine lv_iload_n hx hb dX0_hearersOf_30 rfl (lv_at hl 3 rfl) ?_
          refine lv_ishl hx hb dX0_hearersOf_31 ?_
          refine lv_topi (fun z15 ez15 => ?_)
          have r16 : rg z15 1 32 := rg_shl 0 5 ez15 r3 (by decide)
          refine lv_ior hx hb dX0_hearersOf_32 ?_
          refine lv_topi (fun z17 ez17 => ?_)
          have r18 : rg z17 0 63 := rg_or 6 ez17 r_v4_2 r16 (by decide)
          refine lv_istore_n (lv' := [(2, .int z17), (0, .ref q), (1, .int p1), (3, .int v4_3)]) hx hb dX0_hearersOf_33 rfl hl (by decide) rfl (fun ls hl => ?_)
          obtain ⟨z19, ez19⟩ : ∃ y : Int32, y = v4_3 + (1 : Int32) := ⟨_, rfl⟩
          have r20 : rg z19 1 6 := rg_add ez19 r3 rl_1 (by decide)
          have a21 : z19.toInt = v4_3.toInt + 1 := ai_add ez19 r3 tl_1 (by decide)
          refine lv_iinc (v := z19) (lv' := [(3, .int z19), (2, .int z17), (0, .ref q), (1, .int p1)]) hx hb dX0_hearersOf_34 hl (k := 3) rfl (by rw [ez19]; rfl) (by decide) rfl (fun ls hl => ?_)
          refine lv_goto (tgt := 4) hx hb dX0_hearersOf_37 (by decide) ?_
          exact ih4 _ _ _ _ z17 z19 (fu_s hfu4 a21 (by decide)) hI hH r18 (rg_w r20 (by decide)) (lv_sub hl [2, 3, 1, 0] rfl)
  refine lv_iconst (v := (0 : Int32)) hx hb dX0_hearersOf_0 (by decide) ?_
  refine lv_istore_n (lv' := [(2, .int (0 : Int32)), (0, .ref q), (1, .int p1)]) hx hb dX0_hearersOf_1 rfl hl (by decide) rfl (fun ls hl => ?_)
  refine lv_iconst (v := (0 : Int32)) hx hb dX0_hearersOf_2 (by decide) ?_
  refine lv_istore_n (lv' := [(3, .int (0 : Int32)), (2, .int (0 : Int32)), (0, .ref q), (1, .int p1)]) hx hb dX0_hearersOf_3 rfl hl (by decide) rfl (fun ls hl => ?_)
  exact cut4 7 _ _ _ _ (0 : Int32) (0 : Int32) (fu_i 7 rl_0 (by decide)) hI hH (rg_w rl_0 (by decide)) (rg_w rl_0 (by decide)) (lv_sub hl [2, 3, 1, 0] rfl)
set_option maxHeartbeats 4000000 in
set_option maxRecDepth 100000 in
theorem t_X0_cellBits (l : Launch) (E : gE) (J : Nat → Nat) (τ : Nat → Nat) (L : List Nat) (f : gF) (hI : tI E L τ f) {q : Nat} (mq : q ∈ L) (tq : τ q = 27) : tMi l E J yX0_cellBits cX0_cellBits 3 .int (gRm (3) 0 0) [.ref q] L f (tPi E L τ [] f (fun r f1 => rg r (-2147483648) 2147483647)) := by
  refine tMi.intro (by decide) (Nat.le_of_ble_eq_true rfl) ?_
  intro p e s m below meth c A ls C hr hA hO hH hl
  have C : gC E cX0_cellBits 3 RX0 p s m _ meth c := C
  have hl : lv_has ls 3 [(0, .ref q)] := hl
  have hx := C.1
  have hb := C.2.1
  have hI := hI.S []
  obtain ⟨q_2, mq_2, tq_2, kq_2⟩ := t_fldr hI.1 mq tq td_27 (k := 2) rfl
  have cut4 : ∀ (n : Nat) (fh4 : gF) (H : Heap) (locs : List Loc) (ls : Array Slot) (v4_1 : Int32) (v4_2 : Int32), 80 - v4_2.toInt < (n : Int) → tS E L τ [] f fh4 → gH E A L fh4 s.heap H locs → rg v4_2 0 80 → lv_has ls 3 [(0, .ref q), (1, .int v4_1), (2, .int v4_2)] → W p l e (gRm (3) 0 0) s m [.ref q].toArray below meth c H locs 0 0 (MQ below (gQi E A (tPi E L τ [] f (fun r f1 => rg r (-2147483648) 2147483647))) [.ref q].toArray s (gRm (3) 0 0).cells (gRm (3) 0 0).slots A) (F0 m 4 ls []) := by
    intro n
    induction n with
    | zero =>
      intro fh4 H locs ls v4_1 v4_2 hfu4 hI hH r_v4_2 hl
      exact (fu_0 hfu4 r_v4_2).elim
    | succ n ih4 =>
      intro fh4 H locs ls v4_1 v4_2 hfu4 hI hH r_v4_2 hl
      refine lv_iload_n hx hb dX0_cellBits_4 rfl (lv_at hl 2 rfl) ?_
      refine lv_aload_n hx hb dX0_cellBits_5 rfl (lv_at hl 0 rfl) ?_
      refine t_Vi C hO hl.1 hA hH hI.1 (As := []) (rest := [.int v4_2]) (t_X0_pairs l E J τ L fh4 hI.1 mq tq) my_X0_pairs wd208 mq tq td_27 rfl rfl rfl (Nat.le_of_ble_eq_true rfl) ⟨Nat.le_of_ble_eq_true rfl, Nat.le_of_ble_eq_true rfl⟩ ⟨rfl, rfl⟩ dX0_cellBits_6 (fun r2 L1 f1 H locs hp hH => ?_)
      obtain ⟨rfl, s3, h4⟩ := hp
      have hI := hI.call s3 (by decide)
      refine lv_icmp_ge (tgt := 36) hx hb dX0_cellBits_9 (by decide) (fun c5 => ?_) (fun c5 => ?_)
      · skip
        refine lv_iload_n hx hb dX0_cellBits_36 rfl (lv_at hl 1 rfl) ?_
        exact g_iret C hr hH (Nat.zero_le _) (Nat.zero_le _) dX0_cellBits_37 ⟨rfl, hI, (rg_all _)⟩
      · skip
        have r6 : rg v4_2 0 79 := rf_ltl (n_le c5) r_v4_2 h4 (by decide)
        have r7 : rg r2 1 80 := rf_ltr (n_le c5) r_v4_2 h4 (by decide)
        refine lv_aload_n hx hb dX0_cellBits_12 rfl (lv_at hl 0 rfl) ?_
        refine t_getX C hH hI.1 mq tq td_27 iX0 rfl 2 (by decide) wd209 rfl (hI.rf kq_2) dX0_cellBits_13 ?_
        refine lv_iload_n hx hb dX0_cellBits_16 rfl (lv_at hl 2 rfl) ?_
        refine t_ald C hH hI.1 mq_2 tq_2 td_28 (rg_in r6 (by decide)) dX0_cellBits_17 (fun z8v az8 _ => ?_)
        refine lv_topi (fun z8 ez8 => ?_)
        refine lv_iconst (v := (-1 : Int32)) hx hb dX0_cellBits_18 (by decide) ?_
        refine lv_icmp_eq (tgt := 30) hx hb dX0_cellBits_19 (by decide) (fun c9 => ?_) (fun c9 => ?_)
        · skip
          have r10 : rg z8 (-1) (-1) := rf_eql (c_eq c9) (rg_all _) rl_m1 (by decide)
          obtain ⟨z11, ez11⟩ : ∃ y : Int32, y = v4_2 + (1 : Int32) := ⟨_, rfl⟩
          have r12 : rg z11 1 80 := rg_add ez11 r6 rl_1 (by decide)
          have a13 : z11.toInt = v4_2.toInt + 1 := ai_add ez11 r6 tl_1 (by decide)
          refine lv_iinc (v := z11) (lv' := [(2, .int z11), (0, .ref q), (1, .int v4_1)]) hx hb dX0_cellBits_30 hl (k := 2) rfl (by rw [ez11]; rfl) (by decide) rfl (fun ls hl => ?_)
          refine lv_goto (tgt := 4) hx hb dX0_cellBits_33 (by decide) ?_
          exact ih4 _ _ _ _ v4_1 z11 (fu_s hfu4 a13 (by decide)) hI hH (rg_w r12 (by decide)) (lv_sub hl [1, 2, 0] rfl)
        · skip
          refine lv_iload_n hx hb dX0_cellBits_22 rfl (lv_at hl 1 rfl) ?_
          refine lv_iconst (v := (1 : Int32)) hx hb dX0_cellBits_23 (by decide) ?_
          refine lv_iload_n hx hb dX0_cellBits_24 rfl (lv_at hl 2 rfl) ?_
          refine lv_iconst (v := (4 : Int32)) hx hb dX0_cellBits_25 (by decide) ?_
          refine lv_idiv hx hb dX0_cellBits_26 (by decide) ?_
          refine lv_topi (fun z14 ez14 => ?_)
          have r15 : rg z14 0 19 := rg_div ez14 r6 tl_4 (by decide)
          refine lv_ishl hx hb dX0_cellBits_27 ?_
          refine lv_topi (fun z16 ez16 => ?_)
          have r17 : rg z16 1 524288 := rg_shl 0 19 ez16 r15 (by decide)
          refine lv_ior hx hb dX0_cellBits_28 ?_
          refine lv_topi (fun z18 ez18 => ?_)
          refine lv_istore_n (lv' := [(1, .int z18), (0, .ref q), (2, .int v4_2)]) hx hb dX0_cellBits_29 rfl hl (by decide) rfl (fun ls hl => ?_)
          obtain ⟨z19, ez19⟩ : ∃ y : Int32, y = v4_2 + (1 : Int32) := ⟨_, rfl⟩
          have r20 : rg z19 1 80 := rg_add ez19 r6 rl_1 (by decide)
          have a21 : z19.toInt = v4_2.toInt + 1 := ai_add ez19 r6 tl_1 (by decide)
          refine lv_iinc (v := z19) (lv' := [(2, .int z19), (1, .int z18), (0, .ref q)]) hx hb dX0_cellBits_30 hl (k := 2) rfl (by rw [ez19]; rfl) (by decide) rfl (fun ls hl => ?_)
          refine lv_goto (tgt := 4) hx hb dX0_cellBits_33 (by decide) ?_
          exact ih4 _ _ _ _ z18 z19 (fu_s hfu4 a21 (by decide)) hI hH (rg_w r20 (by decide)) (lv_sub hl [2, 1, 0] rfl)
  refine lv_iconst (v := (0 : Int32)) hx hb dX0_cellBits_0 (by decide) ?_
  refine lv_istore_n (lv' := [(1, .int (0 : Int32)), (0, .ref q)]) hx hb dX0_cellBits_1 rfl hl (by decide) rfl (fun ls hl => ?_)
  refine lv_iconst (v := (0 : Int32)) hx hb dX0_cellBits_2 (by decide) ?_
  refine lv_istore_n (lv' := [(2, .int (0 : Int32)), (1, .int (0 : Int32)), (0, .ref q)]) hx hb dX0_cellBits_3 rfl hl (by decide) rfl (fun ls hl => ?_)
  exact cut4 81 _ _ _ _ (0 : Int32) (0 : Int32) (fu_i 81 rl_0 (by decide)) hI hH (rg_w rl_0 (by decide)) (lv_sub hl [2, 1, 0] rfl)
set_option maxHeartbeats 4000000 in
set_option maxRecDepth 100000 in
theorem t_X0_heardOf (l : Launch) (E : gE) (J : Nat → Nat) (τ : Nat → Nat) (L : List Nat) (f : gF) (hI : tI E L τ f) {q : Nat} (mq : q ∈ L) (tq : τ q = 27) (p1 : Int32) : tMi l E J yX0_heardOf cX0_heardOf 4 .int (gRm (3) 0 0) [.ref q, .int p1] L f (tPi E L τ [] f (fun r f1 => rg r (-2147483648) 2147483647)) := by
  refine tMi.intro (by decide) (Nat.le_of_ble_eq_true rfl) ?_
  intro p e s m below meth c A ls C hr hA hO hH hl
  have C : gC E cX0_heardOf 4 RX0 p s m _ meth c := C
  have hl : lv_has ls 4 [(0, .ref q), (1, .int p1)] := hl
  have hx := C.1
  have hb := C.2.1
  have hI := hI.S []
  obtain ⟨q_2, mq_2, tq_2, kq_2⟩ := t_fldr hI.1 mq tq td_27 (k := 2) rfl
  have cut4 : ∀ (n : Nat) (fh4 : gF) (H : Heap) (locs : List Loc) (ls : Array Slot) (v4_2 : Int32) (v4_3 : Int32), 80 - v4_3.toInt < (n : Int) → tS E L τ [] f fh4 → gH E A L fh4 s.heap H locs → rg v4_3 0 80 → lv_has ls 4 [(0, .ref q), (1, .int p1), (2, .int v4_2), (3, .int v4_3)] → W p l e (gRm (3) 0 0) s m [.ref q, .int p1].toArray below meth c H locs 0 0 (MQ below (gQi E A (tPi E L τ [] f (fun r f1 => rg r (-2147483648) 2147483647))) [.ref q, .int p1].toArray s (gRm (3) 0 0).cells (gRm (3) 0 0).slots A) (F0 m 4 ls []) := by
    intro n
    induction n with
    | zero =>
      intro fh4 H locs ls v4_2 v4_3 hfu4 hI hH r_v4_3 hl
      exact (fu_0 hfu4 r_v4_3).elim
    | succ n ih4 =>
      intro fh4 H locs ls v4_2 v4_3 hfu4 hI hH r_v4_3 hl
      refine lv_iload_n hx hb dX0_heardOf_4 rfl (lv_at hl 3 rfl) ?_
      refine lv_aload_n hx hb dX0_heardOf_5 rfl (lv_at hl 0 rfl) ?_
      refine t_Vi C hO hl.1 hA hH hI.1 (As := []) (rest := [.int v4_3]) (t_X0_pairs l E J τ L fh4 hI.1 mq tq) my_X0_pairs wd208 mq tq td_27 rfl rfl rfl (Nat.le_of_ble_eq_true rfl) ⟨Nat.le_of_ble_eq_true rfl, Nat.le_of_ble_eq_true rfl⟩ ⟨rfl, rfl⟩ dX0_heardOf_6 (fun r2 L1 f1 H locs hp hH => ?_)
      obtain ⟨rfl, s3, h4⟩ := hp
      have hI := hI.call s3 (by decide)
      refine lv_icmp_ge (tgt := 44) hx hb dX0_heardOf_9 (by decide) (fun c5 => ?_) (fun c5 => ?_)
      · skip
        refine lv_iload_n hx hb dX0_heardOf_44 rfl (lv_at hl 2 rfl) ?_
        exact g_iret C hr hH (Nat.zero_le _) (Nat.zero_le _) dX0_heardOf_45 ⟨rfl, hI, (rg_all _)⟩
      · skip
        have r6 : rg v4_3 0 79 := rf_ltl (n_le c5) r_v4_3 h4 (by decide)
        have r7 : rg r2 1 80 := rf_ltr (n_le c5) r_v4_3 h4 (by decide)
        refine lv_aload_n hx hb dX0_heardOf_12 rfl (lv_at hl 0 rfl) ?_
        refine t_getX C hH hI.1 mq tq td_27 iX0 rfl 2 (by decide) wd209 rfl (hI.rf kq_2) dX0_heardOf_13 ?_
        refine lv_iload_n hx hb dX0_heardOf_16 rfl (lv_at hl 3 rfl) ?_
        refine t_ald C hH hI.1 mq_2 tq_2 td_28 (rg_in r6 (by decide)) dX0_heardOf_17 (fun z8v az8 _ => ?_)
        refine lv_topi (fun z8 ez8 => ?_)
        refine lv_iconst (v := (-1 : Int32)) hx hb dX0_heardOf_18 (by decide) ?_
        refine lv_icmp_eq (tgt := 38) hx hb dX0_heardOf_19 (by decide) (fun c9 => ?_) (fun c9 => ?_)
        · skip
          have r10 : rg z8 (-1) (-1) := rf_eql (c_eq c9) (rg_all _) rl_m1 (by decide)
          obtain ⟨z11, ez11⟩ : ∃ y : Int32, y = v4_3 + (1 : Int32) := ⟨_, rfl⟩
          have r12 : rg z11 1 80 := rg_add ez11 r6 rl_1 (by decide)
          have a13 : z11.toInt = v4_3.toInt + 1 := ai_add ez11 r6 tl_1 (by decide)
          refine lv_iinc (v := z11) (lv' := [(3, .int z11), (0, .ref q), (1, .int p1), (2, .int v4_2)]) hx hb dX0_heardOf_38 hl (k := 3) rfl (by rw [ez11]; rfl) (by decide) rfl (fun ls hl => ?_)
          refine lv_goto (tgt := 4) hx hb dX0_heardOf_41 (by decide) ?_
          exact ih4 _ _ _ _ v4_2 z11 (fu_s hfu4 a13 (by decide)) hI hH (rg_w r12 (by decide)) (lv_sub hl [1, 2, 3, 0] rfl)
        · skip
          refine lv_aload_n hx hb dX0_heardOf_22 rfl (lv_at hl 0 rfl) ?_
          refine t_getX C hH hI.1 mq tq td_27 iX0 rfl 2 (by decide) wd209 rfl (hI.rf kq_2) dX0_heardOf_23 ?_
          refine lv_iload_n hx hb dX0_heardOf_26 rfl (lv_at hl 3 rfl) ?_
          refine t_ald C hH hI.1 mq_2 tq_2 td_28 (rg_in r6 (by decide)) dX0_heardOf_27 (fun z14v az14 _ => ?_)
          refine lv_topi (fun z14 ez14 => ?_)
          refine lv_iload_n hx hb dX0_heardOf_28 rfl (lv_at hl 1 rfl) ?_
          refine t_SNi C hO hl.1 hA hH (As := [.int z14, .int p1]) (rest := []) (t_X9_hasBit l E J τ L f1 hI.1 z14 p1) my_X9_hasBit (host := "GooseShares") (List.mem_of_getElem? (i := 3) rfl) rfl rfl (Nat.le_of_ble_eq_true rfl) ⟨Nat.le_of_ble_eq_true rfl, Nat.le_of_ble_eq_true rfl⟩ ⟨rfl, rfl⟩ dX0_heardOf_29 (fun r16 L1 f15 H locs hp hH => ?_)
          obtain ⟨rfl, s17, h18⟩ := hp
          have hI := hI.call s17 (by decide)
          refine lv_if_eq (tgt := 38) hx hb dX0_heardOf_32 (by decide) (fun c19 => ?_) (fun c19 => ?_)
          · skip
            have r20 : rg r16 0 0 := rf_eql (c_eq c19) h18 rl_0 (by decide)
            obtain ⟨z21, ez21⟩ : ∃ y : Int32, y = v4_3 + (1 : Int32) := ⟨_, rfl⟩
            have r22 : rg z21 1 80 := rg_add ez21 r6 rl_1 (by decide)
            have a23 : z21.toInt = v4_3.toInt + 1 := ai_add ez21 r6 tl_1 (by decide)
            refine lv_iinc (v := z21) (lv' := [(3, .int z21), (0, .ref q), (1, .int p1), (2, .int v4_2)]) hx hb dX0_heardOf_38 hl (k := 3) rfl (by rw [ez21]; rfl) (by decide) rfl (fun ls hl => ?_)
            refine lv_goto (tgt := 4) hx hb dX0_heardOf_41 (by decide) ?_
            exact ih4 _ _ _ _ v4_2 z21 (fu_s hfu4 a23 (by decide)) hI hH (rg_w r22 (by decide)) (lv_sub hl [1, 2, 3, 0] rfl)
          · skip
            have r24 : rg r16 1 1 := rf_nel (n_eq c19) h18 rl_0 (by decide)
            obtain ⟨z25, ez25⟩ : ∃ y : Int32, y = v4_2 + (1 : Int32) := ⟨_, rfl⟩
            refine lv_iinc (v := z25) (lv' := [(2, .int z25), (0, .ref q), (1, .int p1), (3, .int v4_3)]) hx hb dX0_heardOf_35 hl (k := 2) rfl (by rw [ez25]; rfl) (by decide) rfl (fun ls hl => ?_)
            obtain ⟨z26, ez26⟩ : ∃ y : Int32, y = v4_3 + (1 : Int32) := ⟨_, rfl⟩
            have r27 : rg z26 1 80 := rg_add ez26 r6 rl_1 (by decide)
            have a28 : z26.toInt = v4_3.toInt + 1 := ai_add ez26 r6 tl_1 (by decide)
            refine lv_iinc (v := z26) (lv' := [(3, .int z26), (2, .int z25), (0, .ref q), (1, .int p1)]) hx hb dX0_heardOf_38 hl (k := 3) rfl (by rw [ez26]; rfl) (by decide) rfl (fun ls hl => ?_)
            refine lv_goto (tgt := 4) hx hb dX0_heardOf_41 (by decide) ?_
            exact ih4 _ _ _ _ z25 z26 (fu_s hfu4 a28 (by decide)) hI hH (rg_w r27 (by decide)) (lv_sub hl [2, 3, 1, 0] rfl)
  refine lv_iconst (v := (0 : Int32)) hx hb dX0_heardOf_0 (by decide) ?_
  refine lv_istore_n (lv' := [(2, .int (0 : Int32)), (0, .ref q), (1, .int p1)]) hx hb dX0_heardOf_1 rfl hl (by decide) rfl (fun ls hl => ?_)
  refine lv_iconst (v := (0 : Int32)) hx hb dX0_heardOf_2 (by decide) ?_
  refine lv_istore_n (lv' := [(3, .int (0 : Int32)), (2, .int (0 : Int32)), (0, .ref q), (1, .int p1)]) hx hb dX0_heardOf_3 rfl hl (by decide) rfl (fun ls hl => ?_)
  exact cut4 81 _ _ _ _ (0 : Int32) (0 : Int32) (fu_i 81 rl_0 (by decide)) hI hH (rg_w rl_0 (by decide)) (lv_sub hl [2, 3, 1, 0] rfl)
set_option maxHeartbeats 4000000 in
set_option maxRecDepth 100000 in
theorem t_X0_worstLeft (l : Launch) (E : gE) (J : Nat → Nat) (τ : Nat → Nat) (L : List Nat) (f : gF) (hI : tI E L τ f) {q : Nat} (mq : q ∈ L) (tq : τ q = 27) (p1 : Int32) (p2 : Int32) : tMi l E J yX0_worstLeft cX0_worstLeft 4 .int (gRm (4) 0 0) [.ref q, .int p1, .int p2] L f (tPi E L τ [] f (fun r f1 => rg r (-2147483648) 2147483647)) := by
  refine tMi.intro (by decide) (Nat.le_of_ble_eq_true rfl) ?_
  intro p e s m below meth c A ls C hr hA hO hH hl
  have C : gC E cX0_worstLeft 4 RX0 p s m _ meth c := C
  have hl : lv_has ls 4 [(0, .ref q), (1, .int p1), (2, .int p2)] := hl
  have hx := C.1
  have hb := C.2.1
  have hI := hI.S []
  refine lv_aload_n hx hb dX0_worstLeft_0 rfl (lv_at hl 0 rfl) ?_
  refine lv_iload_n hx hb dX0_worstLeft_1 rfl (lv_at hl 2 rfl) ?_
  refine t_Vi C hO hl.1 hA hH hI.1 (As := [.int p2]) (rest := []) (t_X0_heardOf l E J τ L f hI.1 mq tq p2) my_X0_heardOf wd213 mq tq td_27 rfl rfl rfl (Nat.le_of_ble_eq_true rfl) ⟨Nat.le_of_ble_eq_true rfl, Nat.le_of_ble_eq_true rfl⟩ ⟨rfl, rfl⟩ dX0_worstLeft_2 (fun r2 L1 f1 H locs hp hH => ?_)
  obtain ⟨rfl, s3, h4⟩ := hp
  have hI := hI.call s3 (by decide)
  refine lv_istore_n (lv' := [(3, .int r2), (0, .ref q), (1, .int p1), (2, .int p2)]) hx hb dX0_worstLeft_5 rfl hl (by decide) rfl (fun ls hl => ?_)
  refine lv_iload_n hx hb dX0_worstLeft_6 rfl (lv_at hl 0 rfl) ?_
  refine lv_iload_n hx hb dX0_worstLeft_7 rfl (lv_at hl 2 rfl) ?_
  refine lv_iload_n hx hb dX0_worstLeft_8 rfl (lv_at hl 0 rfl) ?_
  refine lv_isub hx hb dX0_worstLeft_9 ?_
  refine lv_topi (fun z5 ez5 => ?_)
  refine va_mmax hx hb (C.2.2.1.trans hl.1.symm) C.2.2.2.1 (C.2.2.2.2.1 _ wd214) (C.2.2.2.2.1 _ wd182) (C.2.2.2.2.1 _ wd37) (C.2.2.2.2.1 _ wd183) (Nat.le_of_ble_eq_true rfl) (Nat.le_of_ble_eq_true rfl) (Nat.le_of_ble_eq_true rfl) (Nat.le_of_ble_eq_true rfl) dX0_worstLeft_10 ?_
  refine lv_topi (fun z6 ez6 => ?_)
  have r7 : rg z6 (-2147483648) 2147483647 := rg_max ez6 h4 (rg_all _) (by decide)
  exact g_iret C hr hH (Nat.zero_le _) (Nat.zero_le _) dX0_worstLeft_13 ⟨rfl, hI, r7⟩
set_option maxHeartbeats 4000000 in
set_option maxRecDepth 100000 in
theorem t_X0_memberToAsk (l : Launch) (E : gE) (J : Nat → Nat) (τ : Nat → Nat) (L : List Nat) (f : gF) (hI : tI E L τ f) {q : Nat} (mq : q ∈ L) (tq : τ q = 27) (p1 : Int32) : tMi l E J yX0_memberToAsk cX0_memberToAsk 6 .int (gRm (5) 0 0) [.ref q, .int p1] L f (tPi E L τ [] f (fun r f1 => rg r (-1) 5)) := by
  refine tMi.intro (by decide) (Nat.le_of_ble_eq_true rfl) ?_
  intro p e s m below meth c A ls C hr hA hO hH hl
  have C : gC E cX0_memberToAsk 6 RX0 p s m _ meth c := C
  have hl : lv_has ls 6 [(0, .ref q), (1, .int p1)] := hl
  have hx := C.1
  have hb := C.2.1
  have hI := hI.S []
  obtain ⟨q_0, mq_0, tq_0, kq_0⟩ := t_fldr hI.1 mq tq td_27 (k := 0) rfl
  have cut7 : ∀ (n : Nat) (fh7 : gF) (H : Heap) (locs : List Loc) (ls : Array Slot) (v7_2 : Int32) (v7_3 : Int32) (v7_4 : Int32), 6 - v7_4.toInt < (n : Int) → tS E L τ [] f fh7 → gH E A L fh7 s.heap H locs → rg v7_2 (-1) 5 → rg v7_4 0 6 → lv_has ls 6 [(0, .ref q), (1, .int p1), (2, .int v7_2), (3, .int v7_3), (4, .int v7_4)] → W p l e (gRm (5) 0 0) s m [.ref q, .int p1].toArray below meth c H locs 0 0 (MQ below (gQi E A (tPi E L τ [] f (fun r f1 => rg r (-1) 5))) [.ref q, .int p1].toArray s (gRm (5) 0 0).cells (gRm (5) 0 0).slots A) (F0 m 7 ls []) := by
    intro n
    induction n with
    | zero =>
      intro fh7 H locs ls v7_2 v7_3 v7_4 hfu7 hI hH r_v7_2 r_v7_4 hl
      exact (fu_0 hfu7 r_v7_4).elim
    | succ n ih7 =>
      intro fh7 H locs ls v7_2 v7_3 v7_4 hfu7 hI hH r_v7_2 r_v7_4 hl
      refine lv_iload hx hb dX0_memberToAsk_7 (lv_at hl 4 rfl) ?_
      refine lv_aload_n hx hb dX0_memberToAsk_9 rfl (lv_at hl 0 rfl) ?_
      refine t_getX C hH hI.1 mq tq td_27 iX0 rfl 0 (by decide) wd197 rfl (hI.rf kq_0) dX0_memberToAsk_10 ?_
      refine t_geti C hH hI.1 mq_0 tq_0 td_3 iX3 rfl 7 (by decide) wd199 rfl rfl dX0_memberToAsk_13 (fun z1 rz1 => ?_)
      refine lv_icmp_ge (tgt := 46) hx hb dX0_memberToAsk_16 (by decide) (fun c2 => ?_) (fun c2 => ?_)
      · skip
        refine lv_iload_n hx hb dX0_memberToAsk_46 rfl (lv_at hl 2 rfl) ?_
        exact g_iret C hr hH (Nat.zero_le _) (Nat.zero_le _) dX0_memberToAsk_47 ⟨rfl, hI, r_v7_2⟩
      · skip
        have r3 : rg v7_4 0 5 := rf_ltl (n_le c2) r_v7_4 rz1 (by decide)
        have r4 : rg z1 1 6 := rf_ltr (n_le c2) r_v7_4 rz1 (by decide)
        refine lv_aload_n hx hb dX0_memberToAsk_19 rfl (lv_at hl 0 rfl) ?_
        refine lv_iload_n hx hb dX0_memberToAsk_20 rfl (lv_at hl 1 rfl) ?_
        refine lv_iload hx hb dX0_memberToAsk_21 (lv_at hl 4 rfl) ?_
        refine t_Vi C hO hl.1 hA hH hI.1 (As := [.int p1, .int v7_4]) (rest := []) (t_X0_worstLeft l E J τ L fh7 hI.1 mq tq p1 v7_4) my_X0_worstLeft wd218 mq tq td_27 rfl rfl rfl (Nat.le_of_ble_eq_true rfl) ⟨Nat.le_of_ble_eq_true rfl, Nat.le_of_ble_eq_true rfl⟩ ⟨rfl, rfl⟩ dX0_memberToAsk_23 (fun r6 L1 f5 H locs hp hH => ?_)
        obtain ⟨rfl, s7, h8⟩ := hp
        have hI := hI.call s7 (by decide)
        refine lv_istore (lv' := [(5, .int r6), (0, .ref q), (1, .int p1), (2, .int v7_2), (3, .int v7_3), (4, .int v7_4)]) hx hb dX0_memberToAsk_26 hl (by decide) rfl (fun ls hl => ?_)
        refine lv_iload hx hb dX0_memberToAsk_28 (lv_at hl 0 rfl) ?_
        refine lv_iload_n hx hb dX0_memberToAsk_30 rfl (lv_at hl 4 rfl) ?_
        refine lv_icmp_ge (tgt := 40) hx hb dX0_memberToAsk_31 (by decide) (fun c9 => ?_) (fun c9 => ?_)
        · skip
          obtain ⟨z10, ez10⟩ : ∃ y : Int32, y = v7_4 + (1 : Int32) := ⟨_, rfl⟩
          have r11 : rg z10 1 6 := rg_add ez10 r3 rl_1 (by decide)
          have a12 : z10.toInt = v7_4.toInt + 1 := ai_add ez10 r3 tl_1 (by decide)
          refine lv_iinc (v := z10) (lv' := [(4, .int z10), (5, .int r6), (0, .ref q), (1, .int p1), (2, .int v7_2), (3, .int v7_3)]) hx hb dX0_memberToAsk_40 hl (k := 5) rfl (by rw [ez10]; rfl) (by decide) rfl (fun ls hl => ?_)
          refine lv_goto (tgt := 7) hx hb dX0_memberToAsk_43 (by decide) ?_
          exact ih7 _ _ _ _ v7_2 v7_3 z10 (fu_s hfu7 a12 (by decide)) hI hH r_v7_2 (rg_w r11 (by decide)) (lv_sub hl [2, 3, 4, 5, 0] rfl)
        · skip
          have r13 : rg r6 (-2147483648) 2147483646 := rf_ltl (n_le c9) h8 (rg_all _) (by decide)
          have r14 : rg v7_3 (-2147483647) 2147483647 := rf_ltr (n_le c9) h8 (rg_all _) (by decide)
          refine lv_iload hx hb dX0_memberToAsk_34 (lv_at hl 0 rfl) ?_
          refine lv_istore_n (lv' := [(3, .int r6), (5, .int r6), (0, .ref q), (1, .int p1), (2, .int v7_2), (4, .int v7_4)]) hx hb dX0_memberToAsk_36 rfl hl (by decide) rfl (fun ls hl => ?_)
          refine lv_iload hx hb dX0_memberToAsk_37 (lv_at hl 5 rfl) ?_
          refine lv_istore_n (lv' := [(2, .int v7_4), (3, .int r6), (5, .int r6), (0, .ref q), (1, .int p1), (4, .int v7_4)]) hx hb dX0_memberToAsk_39 rfl hl (by decide) rfl (fun ls hl => ?_)
          obtain ⟨z15, ez15⟩ : ∃ y : Int32, y = v7_4 + (1 : Int32) := ⟨_, rfl⟩
          have r16 : rg z15 1 6 := rg_add ez15 r3 rl_1 (by decide)
          have a17 : z15.toInt = v7_4.toInt + 1 := ai_add ez15 r3 tl_1 (by decide)
          refine lv_iinc (v := z15) (lv' := [(4, .int z15), (2, .int v7_4), (3, .int r6), (5, .int r6), (0, .ref q), (1, .int p1)]) hx hb dX0_memberToAsk_40 hl (k := 5) rfl (by rw [ez15]; rfl) (by decide) rfl (fun ls hl => ?_)
          refine lv_goto (tgt := 7) hx hb dX0_memberToAsk_43 (by decide) ?_
          exact ih7 _ _ _ _ v7_4 r6 z15 (fu_s hfu7 a17 (by decide)) hI hH (rg_w r3 (by decide)) (rg_w r16 (by decide)) (lv_sub hl [4, 5, 1, 2, 0] rfl)
  refine lv_iconst (v := (-1 : Int32)) hx hb dX0_memberToAsk_0 (by decide) ?_
  refine lv_istore_n (lv' := [(2, .int (-1 : Int32)), (0, .ref q), (1, .int p1)]) hx hb dX0_memberToAsk_1 rfl hl (by decide) rfl (fun ls hl => ?_)
  refine lv_iload_n hx hb dX0_memberToAsk_2 rfl (lv_at hl 2 rfl) ?_
  refine lv_istore_n (lv' := [(3, .int p1), (2, .int (-1 : Int32)), (0, .ref q), (1, .int p1)]) hx hb dX0_memberToAsk_3 rfl hl (by decide) rfl (fun ls hl => ?_)
  refine lv_iconst (v := (0 : Int32)) hx hb dX0_memberToAsk_4 (by decide) ?_
  refine lv_istore (lv' := [(4, .int (0 : Int32)), (3, .int p1), (2, .int (-1 : Int32)), (0, .ref q), (1, .int p1)]) hx hb dX0_memberToAsk_5 hl (by decide) rfl (fun ls hl => ?_)
  exact cut7 7 _ _ _ _ (-1 : Int32) p1 (0 : Int32) (fu_i 7 rl_0 (by decide)) hI hH (rg_w rl_m1 (by decide)) (rg_w rl_0 (by decide)) (lv_sub hl [3, 4, 2, 1, 0] rfl)
set_option maxHeartbeats 4000000 in
set_option maxRecDepth 100000 in
theorem t_X0_isWithin (l : Launch) (E : gE) (J : Nat → Nat) (τ : Nat → Nat) (L : List Nat) (f : gF) (hI : tI E L τ f) (p0 : Int64) (p1 : Int32) (p2 : Int32) : tMi l E J yX0_isWithin cX0_isWithin 4 .boolean (gRm (1) 0 0) [.long p0, .int p1, .int p2] L f (tPi E L τ [] f (fun r f1 => rg r 0 1 ∧ (¬ r = 0 → p1.toInt ≤ p0.toInt ∧ p0.toInt ≤ p2.toInt))) := by
  refine tMi.intro (by decide) (Nat.le_of_ble_eq_true rfl) ?_
  intro p e s m below meth c A ls C hr hA hO hH hl
  have C : gC E cX0_isWithin 4 RX0 p s m _ meth c := C
  have hl : lv_has ls 4 [(0, .long p0), (2, .int p1), (3, .int p2)] := hl
  have hx := C.1
  have hb := C.2.1
  have hI := hI.S []
  refine lv_lload_n hx hb dX0_isWithin_0 rfl (lv_at hl 0 rfl) ?_
  refine lv_iload_n hx hb dX0_isWithin_1 rfl (lv_at hl 1 rfl) ?_
  refine lv_i2l (v := (p1).toInt64) hx hb dX0_isWithin_2 rfl ?_
  refine W.lcmp hx hb dX0_isWithin_3 ?_
  refine lv_topi (fun z1 ez1 => ?_)
  refine lv_if_lt (tgt := 18) hx hb dX0_isWithin_4 (by decide) (fun c2 => ?_) (fun c2 => ?_)
  · skip
    have r3 : rg z1 (-2147483648) (-1) := rf_ltl (c_lt c2) (rg_all _) rl_0 (by decide)
    refine lv_iconst (v := (0 : Int32)) hx hb dX0_isWithin_18 (by decide) ?_
    exact g_zret C hr (rg_z (rg_w rl_0 (by decide))) hH (Nat.zero_le _) (Nat.zero_le _) dX0_isWithin_19 ⟨rfl, hI, ⟨(rg_w rl_0 (by decide)), (fun h => absurd rfl h)⟩⟩
  · skip
    have r4 : rg z1 0 2147483647 := rf_ler (n_lt c2) rl_0 (rg_all _) (by decide)
    refine lv_lload_n hx hb dX0_isWithin_7 rfl (lv_at hl 0 rfl) ?_
    refine lv_iload_n hx hb dX0_isWithin_8 rfl (lv_at hl 2 rfl) ?_
    refine lv_i2l (v := (p2).toInt64) hx hb dX0_isWithin_9 rfl ?_
    refine W.lcmp hx hb dX0_isWithin_10 ?_
    refine lv_topi (fun z5 ez5 => ?_)
    refine lv_if_gt (tgt := 18) hx hb dX0_isWithin_11 (by decide) (fun c6 => ?_) (fun c6 => ?_)
    · skip
      have r7 : rg z5 1 2147483647 := rf_ltr (c_lt c6) rl_0 (rg_all _) (by decide)
      refine lv_iconst (v := (0 : Int32)) hx hb dX0_isWithin_18 (by decide) ?_
      exact g_zret C hr (rg_z (rg_w rl_0 (by decide))) hH (Nat.zero_le _) (Nat.zero_le _) dX0_isWithin_19 ⟨rfl, hI, ⟨(rg_w rl_0 (by decide)), (fun h => absurd rfl h)⟩⟩
    · skip
      have r8 : rg z5 (-2147483648) 0 := rf_lel (n_lt c6) (rg_all _) rl_0 (by decide)
      refine lv_iconst (v := (1 : Int32)) hx hb dX0_isWithin_14 (by decide) ?_
      refine lv_goto (tgt := 19) hx hb dX0_isWithin_15 (by decide) ?_
      exact g_zret C hr (rg_z (rg_w rl_1 (by decide))) hH (Nat.zero_le _) (Nat.zero_le _) dX0_isWithin_19 ⟨rfl, hI, ⟨(rg_w rl_1 (by decide)), (fun _ => within_i (within_ok ez1 c2 ez5 c6))⟩⟩
set_option maxHeartbeats 4000000 in
set_option maxRecDepth 100000 in
theorem t_X0_areReports (l : Launch) (E : gE) (J : Nat → Nat) (τ : Nat → Nat) (L : List Nat) (f : gF) (hI : tI E L τ f) {q : Nat} (mq : q ∈ L) (tq : τ q = 27) {p1 : Nat} (mp1 : p1 ∈ L) (tp1 : τ p1 = 17) : tMi l E J yX0_areReports cX0_areReports 4 .boolean (gRm (2) 0 0) [.ref q, .ref p1] L f (tPi E L τ [] f (fun r f1 => rg r 0 1)) := by
  refine tMi.intro (by decide) (Nat.le_of_ble_eq_true rfl) ?_
  intro p e s m below meth c A ls C hr hA hO hH hl
  have C : gC E cX0_areReports 4 RX0 p s m _ meth c := C
  have hl : lv_has ls 4 [(0, .ref q), (1, .ref p1)] := hl
  have hx := C.1
  have hb := C.2.1
  have hI := hI.S []
  obtain ⟨p1_0, mp1_0, tp1_0, kp1_0⟩ := t_fldr hI.1 mp1 tp1 td_17 (k := 0) rfl
  obtain ⟨q_0, mq_0, tq_0, kq_0⟩ := t_fldr hI.1 mq tq td_27 (k := 0) rfl
  have cut13 : ∀ (n : Nat) (fh13 : gF) (H : Heap) (locs : List Loc) (ls : Array Slot) (v13_2 : Int32), 60 - v13_2.toInt < (n : Int) → tS E L τ [] f fh13 → gH E A L fh13 s.heap H locs → rg v13_2 0 60 → lv_has ls 4 [(0, .ref q), (1, .ref p1), (2, .int v13_2)] → W p l e (gRm (2) 0 0) s m [.ref q, .ref p1].toArray below meth c H locs 0 0 (MQ below (gQi E A (tPi E L τ [] f (fun r f1 => rg r 0 1))) [.ref q, .ref p1].toArray s (gRm (2) 0 0).cells (gRm (2) 0 0).slots A) (F0 m 13 ls []) := by
    intro n
    induction n with
    | zero =>
      intro fh13 H locs ls v13_2 hfu13 hI hH r_v13_2 hl
      exact (fu_0 hfu13 r_v13_2).elim
    | succ n ih13 =>
      intro fh13 H locs ls v13_2 hfu13 hI hH r_v13_2 hl
      refine lv_iload_n hx hb dX0_areReports_13 rfl (lv_at hl 2 rfl) ?_
      refine lv_iconst (v := (1 : Int32)) hx hb dX0_areReports_14 (by decide) ?_
      refine lv_iadd hx hb dX0_areReports_15 ?_
      refine lv_topi (fun z1 ez1 => ?_)
      have r2 : rg z1 1 61 := rg_add ez1 r_v13_2 rl_1 (by decide)
      have a3 : z1.toInt = v13_2.toInt + 1 := ai_add ez1 r_v13_2 tl_1 (by decide)
      refine lv_aload_n hx hb dX0_areReports_16 rfl (lv_at hl 1 rfl) ?_
      refine t_geti C hH hI.1 mp1 tp1 td_17 iX6 rfl 2 (by decide) wd219 rfl rfl dX0_areReports_17 (fun z4 rz4 => ?_)
      refine lv_icmp_ge (tgt := 71) hx hb dX0_areReports_20 (by decide) (fun c5 => ?_) (fun c5 => ?_)
      · skip
        refine lv_iconst (v := (1 : Int32)) hx hb dX0_areReports_71 (by decide) ?_
        exact g_zret C hr (rg_z (rg_w rl_1 (by decide))) hH (Nat.zero_le _) (Nat.zero_le _) dX0_areReports_72 ⟨rfl, hI, (rg_w rl_1 (by decide))⟩
      · skip
        have r6 : rg z1 1 59 := rf_ltl (n_le c5) r2 rz4 (by decide)
        have r7 : rg v13_2 0 58 := ai_bk a3 r6 r_v13_2 (by decide)
        have r8 : rg z4 2 60 := rf_ltr (n_le c5) r2 rz4 (by decide)
        refine lv_aload_n hx hb dX0_areReports_23 rfl (lv_at hl 1 rfl) ?_
        refine t_getX C hH hI.1 mp1 tp1 td_17 iX6 rfl 0 (by decide) wd220 rfl (hI.rf kp1_0) dX0_areReports_24 ?_
        refine lv_iload_n hx hb dX0_areReports_27 rfl (lv_at hl 2 rfl) ?_
        refine t_lald C hH hI.1 mp1_0 tp1_0 td_18 (rg_in r7 (by decide)) dX0_areReports_28 (fun z9v az9 => ?_)
        refine lv_topl (fun z9 ez9 => ?_)
        refine lv_iconst (v := (0 : Int32)) hx hb dX0_areReports_29 (by decide) ?_
        refine lv_aload_n hx hb dX0_areReports_30 rfl (lv_at hl 0 rfl) ?_
        refine t_getX C hH hI.1 mq tq td_27 iX0 rfl 0 (by decide) wd197 rfl (hI.rf kq_0) dX0_areReports_31 ?_
        refine t_geti C hH hI.1 mq_0 tq_0 td_3 iX3 rfl 7 (by decide) wd199 rfl rfl dX0_areReports_34 (fun z10 rz10 => ?_)
        refine lv_iconst (v := (1 : Int32)) hx hb dX0_areReports_37 (by decide) ?_
        refine lv_isub hx hb dX0_areReports_38 ?_
        refine lv_topi (fun z11 ez11 => ?_)
        have r12 : rg z11 (-1) 5 := rg_sub ez11 rz10 rl_1 (by decide)
        refine t_Si C hO hl.1 hA hH (As := [.long z9, .int (0 : Int32), .int z11]) (rest := []) (t_X0_isWithin l E J τ L fh13 hI.1 z9 (0 : Int32) z11) my_X0_isWithin wd223 rfl rfl (Nat.le_of_ble_eq_true rfl) ⟨Nat.le_of_ble_eq_true rfl, Nat.le_of_ble_eq_true rfl⟩ ⟨rfl, rfl⟩ dX0_areReports_39 (fun r14 L1 f13 H locs hp hH => ?_)
        obtain ⟨rfl, s15, h16⟩ := hp
        have hJ := hI
        have hI := hI.call s15 (by decide)
        refine lv_istore_n (lv' := [(3, .int r14), (0, .ref q), (1, .ref p1), (2, .int v13_2)]) hx hb dX0_areReports_42 rfl hl (by decide) rfl (fun ls hl => ?_)
        refine lv_iload_n hx hb dX0_areReports_43 rfl (lv_at hl 0 rfl) ?_
        refine lv_if_eq (tgt := 63) hx hb dX0_areReports_44 (by decide) (fun c17 => ?_) (fun c17 => ?_)
        · skip
          have r18 : rg r14 0 0 := rf_eql (c_eq c17) h16.1 rl_0 (by decide)
          refine lv_iconst (v := (0 : Int32)) hx hb dX0_areReports_63 (by decide) ?_
          exact g_zret C hr (rg_z (rg_w rl_0 (by decide))) hH (Nat.zero_le _) (Nat.zero_le _) dX0_areReports_64 ⟨rfl, hI, (rg_w rl_0 (by decide))⟩
        · skip
          have r19 : rg r14 1 1 := rf_nel (n_eq c17) h16.1 rl_0 (by decide)
          refine lv_aload_n hx hb dX0_areReports_47 rfl (lv_at hl 2 rfl) ?_
          refine t_getX C hH hI.1 mp1 tp1 td_17 iX6 rfl 0 (by decide) wd220 rfl (hI.rf kp1_0) dX0_areReports_48 ?_
          refine lv_iload_n hx hb dX0_areReports_51 rfl (lv_at hl 3 rfl) ?_
          refine lv_iconst (v := (1 : Int32)) hx hb dX0_areReports_52 (by decide) ?_
          refine lv_iadd hx hb dX0_areReports_53 ?_
          refine lv_topi (fun z20 ez20 => ?_)
          have r21 : rg z20 1 59 := rg_add ez20 r7 rl_1 (by decide)
          have a22 : z20.toInt = v13_2.toInt + 1 := ai_add ez20 r7 tl_1 (by decide)
          refine t_lald C hH hI.1 mp1_0 tp1_0 td_18 (rg_in r21 (by decide)) dX0_areReports_54 (fun z23v az23 => ?_)
          refine lv_topl (fun z23 ez23 => ?_)
          refine lv_iconst (v := (0 : Int32)) hx hb dX0_areReports_55 (by decide) ?_
          refine lv_iconst (v := (1 : Int32)) hx hb dX0_areReports_56 (by decide) ?_
          refine t_Si C hO hl.1 hA hH (As := [.long z23, .int (0 : Int32), .int (1 : Int32)]) (rest := []) (t_X0_isWithin l E J τ L f13 hI.1 z23 (0 : Int32) (1 : Int32)) my_X0_isWithin wd223 rfl rfl (Nat.le_of_ble_eq_true rfl) ⟨Nat.le_of_ble_eq_true rfl, Nat.le_of_ble_eq_true rfl⟩ ⟨rfl, rfl⟩ dX0_areReports_57 (fun r25 L1 f24 H locs hp hH => ?_)
          obtain ⟨rfl, s26, h27⟩ := hp
          have hJ := hI
          have hI := hI.call s26 (by decide)
          refine lv_if_ne (tgt := 65) hx hb dX0_areReports_60 (by decide) (fun c28 => ?_) (fun c28 => ?_)
          · skip
            have r29 : rg r25 1 1 := rf_nel (n_eq c28) h27.1 rl_0 (by decide)
            obtain ⟨z30, ez30⟩ : ∃ y : Int32, y = v13_2 + (2 : Int32) := ⟨_, rfl⟩
            have r31 : rg z30 2 60 := rg_add ez30 r7 rl_2 (by decide)
            have a32 : z30.toInt = v13_2.toInt + 2 := ai_add ez30 r7 tl_2 (by decide)
            refine lv_iinc (v := z30) (lv' := [(2, .int z30), (3, .int r14), (0, .ref q), (1, .ref p1)]) hx hb dX0_areReports_65 hl (k := 3) rfl (by rw [ez30]; rfl) (by decide) rfl (fun ls hl => ?_)
            refine lv_goto (tgt := 13) hx hb dX0_areReports_68 (by decide) ?_
            exact ih13 _ _ _ _ z30 (fu_s hfu13 a32 (by decide)) hI hH (rg_w r31 (by decide)) (lv_sub hl [2, 3, 0] rfl)
          · skip
            have r33 : rg r25 0 0 := rf_eql (c_eq c28) h27.1 rl_0 (by decide)
            refine lv_iconst (v := (0 : Int32)) hx hb dX0_areReports_63 (by decide) ?_
            exact g_zret C hr (rg_z (rg_w rl_0 (by decide))) hH (Nat.zero_le _) (Nat.zero_le _) dX0_areReports_64 ⟨rfl, hI, (rg_w rl_0 (by decide))⟩
  refine lv_aload_n hx hb dX0_areReports_0 rfl (lv_at hl 1 rfl) ?_
  refine t_geti C hH hI.1 mp1 tp1 td_17 iX6 rfl 2 (by decide) wd219 rfl rfl dX0_areReports_1 (fun z34 rz34 => ?_)
  refine lv_iconst (v := (2 : Int32)) hx hb dX0_areReports_4 (by decide) ?_
  refine lv_irem hx hb dX0_areReports_5 (by decide) ?_
  refine lv_topi (fun z35 ez35 => ?_)
  have r36 : rg z35 0 1 := rg_rem ez35 rz34 tl_2 (by decide)
  refine lv_if_eq (tgt := 11) hx hb dX0_areReports_6 (by decide) (fun c37 => ?_) (fun c37 => ?_)
  · skip
    have r38 : rg z35 0 0 := rf_eql (c_eq c37) r36 rl_0 (by decide)
    refine lv_iconst (v := (0 : Int32)) hx hb dX0_areReports_11 (by decide) ?_
    refine lv_istore_n (lv' := [(2, .int (0 : Int32)), (0, .ref q), (1, .ref p1)]) hx hb dX0_areReports_12 rfl hl (by decide) rfl (fun ls hl => ?_)
    exact cut13 61 _ _ _ _ (0 : Int32) (fu_i 61 rl_0 (by decide)) hI hH (rg_w rl_0 (by decide)) (lv_sub hl [1, 2, 0] rfl)
  · skip
    have r39 : rg z35 1 1 := rf_nel (n_eq c37) r36 rl_0 (by decide)
    refine lv_iconst (v := (0 : Int32)) hx hb dX0_areReports_9 (by decide) ?_
    exact g_zret C hr (rg_z (rg_w rl_0 (by decide))) hH (Nat.zero_le _) (Nat.zero_le _) dX0_areReports_10 ⟨rfl, hI, (rg_w rl_0 (by decide))⟩
set_option maxHeartbeats 4000000 in
set_option maxRecDepth 100000 in
theorem t_X0_areSights (l : Launch) (E : gE) (J : Nat → Nat) (τ : Nat → Nat) (L : List Nat) (f : gF) (hI : tI E L τ f) {q : Nat} (mq : q ∈ L) (tq : τ q = 27) {p1 : Nat} (mp1 : p1 ∈ L) (tp1 : τ p1 = 17) : tMi l E J yX0_areSights cX0_areSights 6 .boolean (gRm (2) 0 0) [.ref q, .ref p1] L f (tPi E L τ [] f (fun r f1 => rg r 0 1 ∧ (¬ r = 0 → sightOK f p1))) := by
  refine tMi.intro (by decide) (Nat.le_of_ble_eq_true rfl) ?_
  intro p e s m below meth c A ls C hr hA hO hH hl
  have C : gC E cX0_areSights 6 RX0 p s m _ meth c := C
  have hl : lv_has ls 6 [(0, .ref q), (1, .ref p1)] := hl
  have hx := C.1
  have hb := C.2.1
  have hI := hI.S []
  obtain ⟨q_0, mq_0, tq_0, kq_0⟩ := t_fldr hI.1 mq tq td_27 (k := 0) rfl
  obtain ⟨nu0, mnu0, tnu0, kn0⟩ := t_fldr hI.1 mp1 tp1 td_17 (k := 0) rfl
  obtain ⟨ln0, rln0, kl0⟩ := t_fldi hI.1 mp1 tp1 td_17 (k := 2) rfl
  obtain ⟨u0, hu0⟩ := t_arrJ hI.1 mnu0 tnu0 td_18
  have cut13 : ∀ (n : Nat) (fh13 : gF) (H : Heap) (locs : List Loc) (ls : Array Slot) (v13_2 : Int32), 60 - v13_2.toInt < (n : Int) → tS E L τ [] f fh13 → gH E A L fh13 s.heap H locs → rg v13_2 0 60 → (∃ j0 : Nat, v13_2.toInt = 3 * (j0 : Int) ∧ ∀ k, k < j0 → sOK u0 k) → lv_has ls 6 [(0, .ref q), (1, .ref p1), (2, .int v13_2)] → W p l e (gRm (2) 0 0) s m [.ref q, .ref p1].toArray below meth c H locs 0 0 (MQ below (gQi E A (tPi E L τ [] f (fun r f1 => rg r 0 1 ∧ (¬ r = 0 → sightOK f p1)))) [.ref q, .ref p1].toArray s (gRm (2) 0 0).cells (gRm (2) 0 0).slots A) (F0 m 13 ls []) := by
    intro n
    induction n with
    | zero =>
      intro fh13 H locs ls v13_2 hfu13 hI hH r_v13_2 F13_si hl
      exact (fu_0 hfu13 r_v13_2).elim
    | succ n ih13 =>
      intro fh13 H locs ls v13_2 hfu13 hI hH r_v13_2 F13_si hl
      refine lv_iload_n hx hb dX0_areSights_13 rfl (lv_at hl 2 rfl) ?_
      refine lv_iconst (v := (2 : Int32)) hx hb dX0_areSights_14 (by decide) ?_
      refine lv_iadd hx hb dX0_areSights_15 ?_
      refine lv_topi (fun z1 ez1 => ?_)
      have r2 : rg z1 2 62 := rg_add ez1 r_v13_2 rl_2 (by decide)
      have a3 : z1.toInt = v13_2.toInt + 2 := ai_add ez1 r_v13_2 tl_2 (by decide)
      refine lv_aload_n hx hb dX0_areSights_16 rfl (lv_at hl 1 rfl) ?_
      refine t_getX C hH hI.1 mp1 tp1 td_17 iX6 rfl 2 (by decide) wd219 rfl (fld.eq kl0 (hI.fr p1 mp1 (t_lim tp1 rfl))) dX0_areSights_17 ?_
      refine lv_icmp_ge (tgt := 104) hx hb dX0_areSights_20 (by decide) (fun c4 => ?_) (fun c4 => ?_)
      · skip
        refine lv_iconst (v := (1 : Int32)) hx hb dX0_areSights_104 (by decide) ?_
        exact g_zret C hr (rg_z (rg_w rl_1 (by decide))) hH (Nat.zero_le _) (Nat.zero_le _) dX0_areSights_105 ⟨rfl, hI, ⟨(rg_w rl_1 (by decide)), (fun _ => sightOK.of kn0 kl0 hu0 (si_end F13_si a3 (c_le c4)))⟩⟩
      · skip
        have r5 : rg z1 2 59 := rf_ltl (n_le c4) r2 rln0 (by decide)
        have r6 : rg v13_2 0 57 := ai_bk a3 r5 r_v13_2 (by decide)
        have r7 : rg ln0 3 60 := rf_ltr (n_le c4) r2 rln0 (by decide)
        refine lv_aload_n hx hb dX0_areSights_23 rfl (lv_at hl 1 rfl) ?_
        refine t_getX C hH hI.1 mp1 tp1 td_17 iX6 rfl 0 (by decide) wd220 rfl (fld.eq kn0 (hI.fr p1 mp1 (t_lim tp1 rfl))) dX0_areSights_24 ?_
        refine lv_iload_n hx hb dX0_areSights_27 rfl (lv_at hl 2 rfl) ?_
        refine t_lald C hH hI.1 mnu0 tnu0 td_18 (rg_in r6 (by decide)) dX0_areSights_28 (fun z8v az8 => ?_)
        refine lv_topl (fun z8 ez8 => ?_)
        rw [arr_injJ az8 ((hI.fr nu0 mnu0 (t_lim tnu0 rfl)).trans hu0)] at ez8
        refine lv_iconst (v := (0 : Int32)) hx hb dX0_areSights_29 (by decide) ?_
        refine lv_aload_n hx hb dX0_areSights_30 rfl (lv_at hl 0 rfl) ?_
        refine t_getX C hH hI.1 mq tq td_27 iX0 rfl 0 (by decide) wd197 rfl (hI.rf kq_0) dX0_areSights_31 ?_
        refine t_geti C hH hI.1 mq_0 tq_0 td_3 iX3 rfl 6 (by decide) wd224 rfl rfl dX0_areSights_34 (fun z9 rz9 => ?_)
        refine lv_iconst (v := (1 : Int32)) hx hb dX0_areSights_37 (by decide) ?_
        refine lv_isub hx hb dX0_areSights_38 ?_
        refine lv_topi (fun z10 ez10 => ?_)
        have r11 : rg z10 (-1) 3 := rg_sub ez10 rz9 rl_1 (by decide)
        refine t_Si C hO hl.1 hA hH (As := [.long z8, .int (0 : Int32), .int z10]) (rest := []) (t_X0_isWithin l E J τ L fh13 hI.1 z8 (0 : Int32) z10) my_X0_isWithin wd223 rfl rfl (Nat.le_of_ble_eq_true rfl) ⟨Nat.le_of_ble_eq_true rfl, Nat.le_of_ble_eq_true rfl⟩ ⟨rfl, rfl⟩ dX0_areSights_39 (fun r13 L1 f12 H locs hp hH => ?_)
        obtain ⟨rfl, s14, h15⟩ := hp
        have hJ := hI
        have hI := hI.call s14 (by decide)
        refine lv_istore_n (lv' := [(3, .int r13), (0, .ref q), (1, .ref p1), (2, .int v13_2)]) hx hb dX0_areSights_42 rfl hl (by decide) rfl (fun ls hl => ?_)
        refine lv_aload_n hx hb dX0_areSights_43 rfl (lv_at hl 2 rfl) ?_
        refine t_getX C hH hI.1 mp1 tp1 td_17 iX6 rfl 0 (by decide) wd220 rfl (fld.eq kn0 (hI.fr p1 mp1 (t_lim tp1 rfl))) dX0_areSights_44 ?_
        refine lv_iload_n hx hb dX0_areSights_47 rfl (lv_at hl 3 rfl) ?_
        refine lv_iconst (v := (1 : Int32)) hx hb dX0_areSights_48 (by decide) ?_
        refine lv_iadd hx hb dX0_areSights_49 ?_
        refine lv_topi (fun z16 ez16 => ?_)
        have r17 : rg z16 1 58 := rg_add ez16 r6 rl_1 (by decide)
        have a18 : z16.toInt = v13_2.toInt + 1 := ai_add ez16 r6 tl_1 (by decide)
        refine t_lald C hH hI.1 mnu0 tnu0 td_18 (rg_in r17 (by decide)) dX0_areSights_50 (fun z19v az19 => ?_)
        refine lv_topl (fun z19 ez19 => ?_)
        rw [arr_injJ az19 ((hI.fr nu0 mnu0 (t_lim tnu0 rfl)).trans hu0)] at ez19
        refine lv_iconst (v := (0 : Int32)) hx hb dX0_areSights_51 (by decide) ?_
        refine lv_bipush (v := (40 : Int32)) hx hb dX0_areSights_52 (by decide) ?_
        refine t_Si C hO hl.1 hA hH (As := [.long z19, .int (0 : Int32), .int (40 : Int32)]) (rest := []) (t_X0_isWithin l E J τ L f12 hI.1 z19 (0 : Int32) (40 : Int32)) my_X0_isWithin wd223 rfl rfl (Nat.le_of_ble_eq_true rfl) ⟨Nat.le_of_ble_eq_true rfl, Nat.le_of_ble_eq_true rfl⟩ ⟨rfl, rfl⟩ dX0_areSights_54 (fun r21 L1 f20 H locs hp hH => ?_)
        obtain ⟨rfl, s22, h23⟩ := hp
        have hJ := hI
        have hI := hI.call s22 (by decide)
        refine lv_istore (lv' := [(4, .int r21), (3, .int r13), (0, .ref q), (1, .ref p1), (2, .int v13_2)]) hx hb dX0_areSights_57 hl (by decide) rfl (fun ls hl => ?_)
        refine lv_aload_n hx hb dX0_areSights_59 rfl (lv_at hl 3 rfl) ?_
        refine t_getX C hH hI.1 mp1 tp1 td_17 iX6 rfl 0 (by decide) wd220 rfl (fld.eq kn0 (hI.fr p1 mp1 (t_lim tp1 rfl))) dX0_areSights_60 ?_
        refine lv_iload_n hx hb dX0_areSights_63 rfl (lv_at hl 4 rfl) ?_
        refine lv_iconst (v := (2 : Int32)) hx hb dX0_areSights_64 (by decide) ?_
        refine lv_iadd hx hb dX0_areSights_65 ?_
        refine lv_topi (fun z24 ez24 => ?_)
        have r25 : rg z24 2 59 := rg_add ez24 r6 rl_2 (by decide)
        have a26 : z24.toInt = v13_2.toInt + 2 := ai_add ez24 r6 tl_2 (by decide)
        refine t_lald C hH hI.1 mnu0 tnu0 td_18 (rg_in r25 (by decide)) dX0_areSights_66 (fun z27v az27 => ?_)
        refine lv_topl (fun z27 ez27 => ?_)
        rw [arr_injJ az27 ((hI.fr nu0 mnu0 (t_lim tnu0 rfl)).trans hu0)] at ez27
        refine lv_iconst (v := (-1 : Int32)) hx hb dX0_areSights_67 (by decide) ?_
        refine lv_aload_n hx hb dX0_areSights_68 rfl (lv_at hl 2 rfl) ?_
        refine t_getX C hH hI.1 mq tq td_27 iX0 rfl 0 (by decide) wd197 rfl (hI.rf kq_0) dX0_areSights_69 ?_
        refine t_Vi C hO hl.1 hA hH hI.1 (As := []) (rest := [.int (-1 : Int32), .long z27]) (t_X3_cells l E J τ L f20 hI.1 mq_0 tq_0) my_X3_cells wd198 mq_0 tq_0 td_3 rfl rfl rfl (Nat.le_of_ble_eq_true rfl) ⟨Nat.le_of_ble_eq_true rfl, Nat.le_of_ble_eq_true rfl⟩ ⟨rfl, rfl⟩ dX0_areSights_72 (fun r29 L1 f28 H locs hp hH => ?_)
        obtain ⟨rfl, s30, h31⟩ := hp
        have hI := hI.call s30 (by decide)
        refine lv_iconst (v := (1 : Int32)) hx hb dX0_areSights_75 (by decide) ?_
        refine lv_isub hx hb dX0_areSights_76 ?_
        refine lv_topi (fun z32 ez32 => ?_)
        have r33 : rg z32 (-1) 19 := rg_sub ez32 h31 rl_1 (by decide)
        refine t_Si C hO hl.1 hA hH (As := [.long z27, .int (-1 : Int32), .int z32]) (rest := []) (t_X0_isWithin l E J τ L f28 hI.1 z27 (-1 : Int32) z32) my_X0_isWithin wd223 rfl rfl (Nat.le_of_ble_eq_true rfl) ⟨Nat.le_of_ble_eq_true rfl, Nat.le_of_ble_eq_true rfl⟩ ⟨rfl, rfl⟩ dX0_areSights_77 (fun r35 L1 f34 H locs hp hH => ?_)
        obtain ⟨rfl, s36, h37⟩ := hp
        have hJ := hI
        have hI := hI.call s36 (by decide)
        refine lv_istore (lv' := [(5, .int r35), (4, .int r21), (3, .int r13), (0, .ref q), (1, .ref p1), (2, .int v13_2)]) hx hb dX0_areSights_80 hl (by decide) rfl (fun ls hl => ?_)
        refine lv_iload_n hx hb dX0_areSights_82 rfl (lv_at hl 2 rfl) ?_
        refine lv_if_eq (tgt := 96) hx hb dX0_areSights_83 (by decide) (fun c38 => ?_) (fun c38 => ?_)
        · skip
          have r39 : rg r13 0 0 := rf_eql (c_eq c38) h15.1 rl_0 (by decide)
          refine lv_iconst (v := (0 : Int32)) hx hb dX0_areSights_96 (by decide) ?_
          exact g_zret C hr (rg_z (rg_w rl_0 (by decide))) hH (Nat.zero_le _) (Nat.zero_le _) dX0_areSights_97 ⟨rfl, hI, ⟨(rg_w rl_0 (by decide)), (fun h => absurd rfl h)⟩⟩
        · skip
          have r40 : rg r13 1 1 := rf_nel (n_eq c38) h15.1 rl_0 (by decide)
          refine lv_iload hx hb dX0_areSights_86 (lv_at hl 1 rfl) ?_
          refine lv_if_eq (tgt := 96) hx hb dX0_areSights_88 (by decide) (fun c41 => ?_) (fun c41 => ?_)
          · skip
            have r42 : rg r21 0 0 := rf_eql (c_eq c41) h23.1 rl_0 (by decide)
            refine lv_iconst (v := (0 : Int32)) hx hb dX0_areSights_96 (by decide) ?_
            exact g_zret C hr (rg_z (rg_w rl_0 (by decide))) hH (Nat.zero_le _) (Nat.zero_le _) dX0_areSights_97 ⟨rfl, hI, ⟨(rg_w rl_0 (by decide)), (fun h => absurd rfl h)⟩⟩
          · skip
            have r43 : rg r21 1 1 := rf_nel (n_eq c41) h23.1 rl_0 (by decide)
            refine lv_iload hx hb dX0_areSights_91 (lv_at hl 0 rfl) ?_
            refine lv_if_ne (tgt := 98) hx hb dX0_areSights_93 (by decide) (fun c44 => ?_) (fun c44 => ?_)
            · skip
              have r45 : rg r35 1 1 := rf_nel (n_eq c44) h37.1 rl_0 (by decide)
              obtain ⟨z46, ez46⟩ : ∃ y : Int32, y = v13_2 + (3 : Int32) := ⟨_, rfl⟩
              have r47 : rg z46 3 60 := rg_add ez46 r6 rl_3 (by decide)
              have a48 : z46.toInt = v13_2.toInt + 3 := ai_add ez46 r6 tl_3 (by decide)
              refine lv_iinc (v := z46) (lv' := [(2, .int z46), (5, .int r35), (4, .int r21), (3, .int r13), (0, .ref q), (1, .ref p1)]) hx hb dX0_areSights_98 hl (k := 5) rfl (by rw [ez46]; rfl) (by decide) rfl (fun ls hl => ?_)
              refine lv_goto (tgt := 13) hx hb dX0_areSights_101 (by decide) ?_
              exact ih13 _ _ _ _ z46 (fu_s hfu13 a48 (by decide)) hI hH (rg_w r47 (by decide)) (si_step F13_si a48 ez8 ⟨by rw [← tl_0]; exact (h15.2 c38).1, Int.le_trans (h15.2 c38).2 (r11).2⟩ a18 ez19 ⟨by rw [← tl_0]; exact (h23.2 c41).1, by rw [← tl_40]; exact (h23.2 c41).2⟩) (lv_sub hl [4, 5, 0] rfl)
            · skip
              have r49 : rg r35 0 0 := rf_eql (c_eq c44) h37.1 rl_0 (by decide)
              refine lv_iconst (v := (0 : Int32)) hx hb dX0_areSights_96 (by decide) ?_
              exact g_zret C hr (rg_z (rg_w rl_0 (by decide))) hH (Nat.zero_le _) (Nat.zero_le _) dX0_areSights_97 ⟨rfl, hI, ⟨(rg_w rl_0 (by decide)), (fun h => absurd rfl h)⟩⟩
  refine lv_aload_n hx hb dX0_areSights_0 rfl (lv_at hl 1 rfl) ?_
  refine t_getX C hH hI.1 mp1 tp1 td_17 iX6 rfl 2 (by decide) wd219 rfl (fld.eq kl0 (hI.fr p1 mp1 (t_lim tp1 rfl))) dX0_areSights_1 ?_
  refine lv_iconst (v := (3 : Int32)) hx hb dX0_areSights_4 (by decide) ?_
  refine lv_irem hx hb dX0_areSights_5 (by decide) ?_
  refine lv_topi (fun z50 ez50 => ?_)
  have r51 : rg z50 0 2 := rg_rem ez50 rln0 tl_3 (by decide)
  refine lv_if_eq (tgt := 11) hx hb dX0_areSights_6 (by decide) (fun c52 => ?_) (fun c52 => ?_)
  · skip
    have r53 : rg z50 0 0 := rf_eql (c_eq c52) r51 rl_0 (by decide)
    refine lv_iconst (v := (0 : Int32)) hx hb dX0_areSights_11 (by decide) ?_
    refine lv_istore_n (lv' := [(2, .int (0 : Int32)), (0, .ref q), (1, .ref p1)]) hx hb dX0_areSights_12 rfl hl (by decide) rfl (fun ls hl => ?_)
    exact cut13 61 _ _ _ _ (0 : Int32) (fu_i 61 rl_0 (by decide)) hI hH (rg_w rl_0 (by decide)) ⟨0, tl_0.trans (by decide), fun _ h => absurd h (Nat.not_lt_zero _)⟩ (lv_sub hl [1, 2, 0] rfl)
  · skip
    have r54 : rg z50 1 2 := rf_nel (n_eq c52) r51 rl_0 (by decide)
    refine lv_iconst (v := (0 : Int32)) hx hb dX0_areSights_9 (by decide) ?_
    exact g_zret C hr (rg_z (rg_w rl_0 (by decide))) hH (Nat.zero_le _) (Nat.zero_le _) dX0_areSights_10 ⟨rfl, hI, ⟨(rg_w rl_0 (by decide)), (fun h => absurd rfl h)⟩⟩
set_option maxHeartbeats 4000000 in
set_option maxRecDepth 100000 in
theorem t_X0_allSeen (l : Launch) (E : gE) (J : Nat → Nat) (τ : Nat → Nat) (L : List Nat) (f : gF) (hI : tI E L τ f) {q : Nat} (mq : q ∈ L) (tq : τ q = 27) {p1 : Nat} (mp1 : p1 ∈ L) (tp1 : τ p1 = 17) (hs : sightOK f p1) : tMi l E J yX0_allSeen cX0_allSeen 3 .boolean (gRm (4) 0 0) [.ref q, .ref p1] L f (tPi E L τ [19, 20, 21] f (fun r f1 => rg r 0 1)) := by
  refine tMi.intro (by decide) (Nat.le_of_ble_eq_true rfl) ?_
  intro p e s m below meth c A ls C hr hA hO hH hl
  have C : gC E cX0_allSeen 3 RX0 p s m _ meth c := C
  have hl : lv_has ls 3 [(0, .ref q), (1, .ref p1)] := hl
  have hx := C.1
  have hb := C.2.1
  have hI := hI.S [19, 20, 21]
  obtain ⟨q_1, mq_1, tq_1, kq_1⟩ := t_fldr hI.1 mq tq td_27 (k := 1) rfl
  obtain ⟨nu0, mnu0, tnu0, kn0⟩ := t_fldr hI.1 mp1 tp1 td_17 (k := 0) rfl
  obtain ⟨ln0, rln0, kl0⟩ := t_fldi hI.1 mp1 tp1 td_17 (k := 2) rfl
  obtain ⟨u0, hu0⟩ := t_arrJ hI.1 mnu0 tnu0 td_18
  have hs0 := hs _ _ _ _ _ kn0 kl0 hu0
  have cut2 : ∀ (n : Nat) (fh2 : gF) (H : Heap) (locs : List Loc) (ls : Array Slot) (v2_2 : Int32), 60 - v2_2.toInt < (n : Int) → tS E L τ [19, 20, 21] f fh2 → gH E A L fh2 s.heap H locs → rg v2_2 0 60 → (∃ j0 : Nat, v2_2.toInt = 3 * (j0 : Int)) → lv_has ls 3 [(0, .ref q), (1, .ref p1), (2, .int v2_2)] → W p l e (gRm (4) 0 0) s m [.ref q, .ref p1].toArray below meth c H locs 0 0 (MQ below (gQi E A (tPi E L τ [19, 20, 21] f (fun r f1 => rg r 0 1))) [.ref q, .ref p1].toArray s (gRm (4) 0 0).cells (gRm (4) 0 0).slots A) (F0 m 2 ls []) := by
    intro n
    induction n with
    | zero =>
      intro fh2 H locs ls v2_2 hfu2 hI hH r_v2_2 F2_si hl
      exact (fu_0 hfu2 r_v2_2).elim
    | succ n ih2 =>
      intro fh2 H locs ls v2_2 hfu2 hI hH r_v2_2 F2_si hl
      refine lv_iload_n hx hb dX0_allSeen_2 rfl (lv_at hl 2 rfl) ?_
      refine lv_iconst (v := (2 : Int32)) hx hb dX0_allSeen_3 (by decide) ?_
      refine lv_iadd hx hb dX0_allSeen_4 ?_
      refine lv_topi (fun z1 ez1 => ?_)
      have r2 : rg z1 2 62 := rg_add ez1 r_v2_2 rl_2 (by decide)
      have a3 : z1.toInt = v2_2.toInt + 2 := ai_add ez1 r_v2_2 tl_2 (by decide)
      refine lv_aload_n hx hb dX0_allSeen_5 rfl (lv_at hl 1 rfl) ?_
      refine t_getX C hH hI.1 mp1 tp1 td_17 iX6 rfl 2 (by decide) wd219 rfl (fld.eq kl0 (hI.fr p1 mp1 (t_lim tp1 rfl))) dX0_allSeen_6 ?_
      refine lv_icmp_ge (tgt := 63) hx hb dX0_allSeen_9 (by decide) (fun c4 => ?_) (fun c4 => ?_)
      · skip
        refine lv_iconst (v := (1 : Int32)) hx hb dX0_allSeen_63 (by decide) ?_
        exact g_zret C hr (rg_z (rg_w rl_1 (by decide))) hH (Nat.zero_le _) (Nat.zero_le _) dX0_allSeen_64 ⟨rfl, hI, (rg_w rl_1 (by decide))⟩
      · skip
        have r5 : rg z1 2 59 := rf_ltl (n_le c4) r2 rln0 (by decide)
        have r6 : rg v2_2 0 57 := ai_bk a3 r5 r_v2_2 (by decide)
        have r7 : rg ln0 3 60 := rf_ltr (n_le c4) r2 rln0 (by decide)
        refine lv_aload_n hx hb dX0_allSeen_12 rfl (lv_at hl 0 rfl) ?_
        refine t_getX C hH hI.1 mq tq td_27 iX0 rfl 1 (by decide) wd225 rfl (hI.rf kq_1) dX0_allSeen_13 ?_
        refine lv_aload_n hx hb dX0_allSeen_16 rfl (lv_at hl 1 rfl) ?_
        refine t_getX C hH hI.1 mp1 tp1 td_17 iX6 rfl 0 (by decide) wd220 rfl (fld.eq kn0 (hI.fr p1 mp1 (t_lim tp1 rfl))) dX0_allSeen_17 ?_
        refine lv_iload_n hx hb dX0_allSeen_20 rfl (lv_at hl 2 rfl) ?_
        refine t_lald C hH hI.1 mnu0 tnu0 td_18 (rg_in r6 (by decide)) dX0_allSeen_21 (fun z8v az8 => ?_)
        refine lv_topl (fun z8 ez8 => ?_)
        rw [arr_injJ az8 ((hI.fr nu0 mnu0 (t_lim tnu0 rfl)).trans hu0)] at ez8
        refine lv_l2i (v := _) hx hb dX0_allSeen_22 rfl ?_
        refine lv_topi (fun z9 ez9 => ?_)
        have r10 : rg z9 0 3 := sg_a F2_si a3 (n_le c4) hs0 ez8 ez9
        refine t_Vv C hO hl.1 hA hH hI.1 (As := [.int z9]) (rest := []) (t_X7_follow l E J τ L fh2 hI.1 mq_1 tq_1 z9 r10) my_X7_follow wd229 mq_1 tq_1 td_19 rfl rfl rfl (Nat.le_of_ble_eq_true rfl) ⟨Nat.le_of_ble_eq_true rfl, Nat.le_of_ble_eq_true rfl⟩ ⟨rfl, rfl⟩ dX0_allSeen_23 (fun L1 f11 H locs hp hH => ?_)
        obtain ⟨rfl, s13, h14⟩ := hp
        have hI := hI.call s13 (by decide)
        refine lv_aload_n hx hb dX0_allSeen_26 rfl (lv_at hl 0 rfl) ?_
        refine t_getX C hH hI.1 mq tq td_27 iX0 rfl 1 (by decide) wd225 rfl (hI.rf kq_1) dX0_allSeen_27 ?_
        refine lv_aload_n hx hb dX0_allSeen_30 rfl (lv_at hl 1 rfl) ?_
        refine t_getX C hH hI.1 mp1 tp1 td_17 iX6 rfl 0 (by decide) wd220 rfl (fld.eq kn0 (hI.fr p1 mp1 (t_lim tp1 rfl))) dX0_allSeen_31 ?_
        refine lv_iload_n hx hb dX0_allSeen_34 rfl (lv_at hl 2 rfl) ?_
        refine lv_iconst (v := (1 : Int32)) hx hb dX0_allSeen_35 (by decide) ?_
        refine lv_iadd hx hb dX0_allSeen_36 ?_
        refine lv_topi (fun z15 ez15 => ?_)
        have r16 : rg z15 1 58 := rg_add ez15 r6 rl_1 (by decide)
        have a17 : z15.toInt = v2_2.toInt + 1 := ai_add ez15 r6 tl_1 (by decide)
        refine t_lald C hH hI.1 mnu0 tnu0 td_18 (rg_in r16 (by decide)) dX0_allSeen_37 (fun z18v az18 => ?_)
        refine lv_topl (fun z18 ez18 => ?_)
        rw [arr_injJ az18 ((hI.fr nu0 mnu0 (t_lim tnu0 rfl)).trans hu0)] at ez18
        refine lv_l2i (v := _) hx hb dX0_allSeen_38 rfl ?_
        refine lv_topi (fun z19 ez19 => ?_)
        have r20 : rg z19 0 40 := sg_b F2_si a3 (n_le c4) hs0 a17 ez18 ez19
        refine t_Vi C hO hl.1 hA hH hI.1 (As := [.int z19]) (rest := []) (t_X7_cellAt l E J τ L f11 hI.1 mq_1 tq_1 z19 (rg_w r20 (by decide))) my_X7_cellAt wd233 mq_1 tq_1 td_19 rfl rfl rfl (Nat.le_of_ble_eq_true rfl) ⟨Nat.le_of_ble_eq_true rfl, Nat.le_of_ble_eq_true rfl⟩ ⟨rfl, rfl⟩ dX0_allSeen_39 (fun r22 L1 f21 H locs hp hH => ?_)
        obtain ⟨rfl, s23, h24⟩ := hp
        have hI := hI.call s23 (by decide)
        refine lv_i2l (v := (r22).toInt64) hx hb dX0_allSeen_42 rfl ?_
        refine lv_aload_n hx hb dX0_allSeen_43 rfl (lv_at hl 1 rfl) ?_
        refine t_getX C hH hI.1 mp1 tp1 td_17 iX6 rfl 0 (by decide) wd220 rfl (fld.eq kn0 (hI.fr p1 mp1 (t_lim tp1 rfl))) dX0_allSeen_44 ?_
        refine lv_iload_n hx hb dX0_allSeen_47 rfl (lv_at hl 2 rfl) ?_
        refine lv_iconst (v := (2 : Int32)) hx hb dX0_allSeen_48 (by decide) ?_
        refine lv_iadd hx hb dX0_allSeen_49 ?_
        refine lv_topi (fun z25 ez25 => ?_)
        have r26 : rg z25 2 59 := rg_add ez25 r6 rl_2 (by decide)
        have a27 : z25.toInt = v2_2.toInt + 2 := ai_add ez25 r6 tl_2 (by decide)
        refine t_lald C hH hI.1 mnu0 tnu0 td_18 (rg_in r26 (by decide)) dX0_allSeen_50 (fun z28v az28 => ?_)
        refine lv_topl (fun z28 ez28 => ?_)
        rw [arr_injJ az28 ((hI.fr nu0 mnu0 (t_lim tnu0 rfl)).trans hu0)] at ez28
        refine W.lcmp hx hb dX0_allSeen_51 ?_
        refine lv_topi (fun z29 ez29 => ?_)
        refine lv_if_eq (tgt := 57) hx hb dX0_allSeen_52 (by decide) (fun c30 => ?_) (fun c30 => ?_)
        · skip
          have r31 : rg z29 0 0 := rf_eql (c_eq c30) (rg_all _) rl_0 (by decide)
          obtain ⟨z32, ez32⟩ : ∃ y : Int32, y = v2_2 + (3 : Int32) := ⟨_, rfl⟩
          have r33 : rg z32 3 60 := rg_add ez32 r6 rl_3 (by decide)
          have a34 : z32.toInt = v2_2.toInt + 3 := ai_add ez32 r6 tl_3 (by decide)
          refine lv_iinc (v := z32) (lv' := [(2, .int z32), (0, .ref q), (1, .ref p1)]) hx hb dX0_allSeen_57 hl (k := 2) rfl (by rw [ez32]; rfl) (by decide) rfl (fun ls hl => ?_)
          refine lv_goto (tgt := 2) hx hb dX0_allSeen_60 (by decide) ?_
          exact ih2 _ _ _ _ z32 (fu_s hfu2 a34 (by decide)) hI hH (rg_w r33 (by decide)) (si2_step F2_si a34) (lv_sub hl [1, 2, 0] rfl)
        · skip
          refine lv_iconst (v := (0 : Int32)) hx hb dX0_allSeen_55 (by decide) ?_
          exact g_zret C hr (rg_z (rg_w rl_0 (by decide))) hH (Nat.zero_le _) (Nat.zero_le _) dX0_allSeen_56 ⟨rfl, hI, (rg_w rl_0 (by decide))⟩
  refine lv_iconst (v := (0 : Int32)) hx hb dX0_allSeen_0 (by decide) ?_
  refine lv_istore_n (lv' := [(2, .int (0 : Int32)), (0, .ref q), (1, .ref p1)]) hx hb dX0_allSeen_1 rfl hl (by decide) rfl (fun ls hl => ?_)
  exact cut2 61 _ _ _ _ (0 : Int32) (fu_i 61 rl_0 (by decide)) hI hH (rg_w rl_0 (by decide)) ⟨0, tl_0.trans (by decide)⟩ (lv_sub hl [1, 2, 0] rfl)
set_option maxHeartbeats 4000000 in
set_option maxRecDepth 100000 in
theorem t_X0_lawsFitting (l : Launch) (E : gE) (J : Nat → Nat) (τ : Nat → Nat) (L : List Nat) (f : gF) (hI : tI E L τ f) {q : Nat} (mq : q ∈ L) (tq : τ q = 27) {p1 : Nat} (mp1 : p1 ∈ L) (tp1 : τ p1 = 17) (hs : sightOK f p1) : tMi l E J yX0_lawsFitting cX0_lawsFitting 4 .int (gRm (5) 0 0) [.ref q, .ref p1] L f (tPi E L τ [19, 20, 21] f (fun r f1 => rg r (-2147483648) 2147483647)) := by
  refine tMi.intro (by decide) (Nat.le_of_ble_eq_true rfl) ?_
  intro p e s m below meth c A ls C hr hA hO hH hl
  have C : gC E cX0_lawsFitting 4 RX0 p s m _ meth c := C
  have hl : lv_has ls 4 [(0, .ref q), (1, .ref p1)] := hl
  have hx := C.1
  have hb := C.2.1
  have hI := hI.S [19, 20, 21]
  obtain ⟨q_1, mq_1, tq_1, kq_1⟩ := t_fldr hI.1 mq tq td_27 (k := 1) rfl
  obtain ⟨q_0, mq_0, tq_0, kq_0⟩ := t_fldr hI.1 mq tq td_27 (k := 0) rfl
  have hI0 := hI.1
  have cut4 : ∀ (n : Nat) (fh4 : gF) (H : Heap) (locs : List Loc) (ls : Array Slot) (v4_2 : Int32) (v4_3 : Int32), 4 - v4_3.toInt < (n : Int) → tS E L τ [19, 20, 21] f fh4 → gH E A L fh4 s.heap H locs → rg v4_2 0 15 → rg v4_3 0 4 → lv_has ls 4 [(0, .ref q), (1, .ref p1), (2, .int v4_2), (3, .int v4_3)] → W p l e (gRm (5) 0 0) s m [.ref q, .ref p1].toArray below meth c H locs 0 0 (MQ below (gQi E A (tPi E L τ [19, 20, 21] f (fun r f1 => rg r (-2147483648) 2147483647))) [.ref q, .ref p1].toArray s (gRm (5) 0 0).cells (gRm (5) 0 0).slots A) (F0 m 4 ls []) := by
    intro n
    induction n with
    | zero =>
      intro fh4 H locs ls v4_2 v4_3 hfu4 hI hH r_v4_2 r_v4_3 hl
      exact (fu_0 hfu4 r_v4_3).elim
    | succ n ih4 =>
      intro fh4 H locs ls v4_2 v4_3 hfu4 hI hH r_v4_2 r_v4_3 hl
      refine lv_iload_n hx hb dX0_lawsFitting_4 rfl (lv_at hl 3 rfl) ?_
      refine lv_iconst (v := (4 : Int32)) hx hb dX0_lawsFitting_5 (by decide) ?_
      refine lv_icmp_ge (tgt := 44) hx hb dX0_lawsFitting_6 (by decide) (fun c1 => ?_) (fun c1 => ?_)
      · skip
        have r2 : rg v4_3 4 4 := rf_ler (c_le c1) rl_4 r_v4_3 (by decide)
        refine lv_iload_n hx hb dX0_lawsFitting_44 rfl (lv_at hl 2 rfl) ?_
        exact g_iret C hr hH (Nat.zero_le _) (Nat.zero_le _) dX0_lawsFitting_45 ⟨rfl, hI, (rg_w r_v4_2 (by decide))⟩
      · skip
        have r3 : rg v4_3 0 3 := rf_ltl (n_le c1) r_v4_3 rl_4 (by decide)
        refine lv_aload_n hx hb dX0_lawsFitting_9 rfl (lv_at hl 0 rfl) ?_
        refine t_getX C hH hI.1 mq tq td_27 iX0 rfl 1 (by decide) wd225 rfl (hI.rf kq_1) dX0_lawsFitting_10 ?_
        refine lv_aload_n hx hb dX0_lawsFitting_13 rfl (lv_at hl 0 rfl) ?_
        refine t_getX C hH hI.1 mq tq td_27 iX0 rfl 0 (by decide) wd197 rfl (hI.rf kq_0) dX0_lawsFitting_14 ?_
        refine t_geti C hH hI.1 mq_0 tq_0 td_3 iX3 rfl 8 (by decide) wd234 rfl rfl dX0_lawsFitting_17 (fun z4 rz4 => ?_)
        refine lv_iload_n hx hb dX0_lawsFitting_20 rfl (lv_at hl 3 rfl) ?_
        refine t_Vv C hO hl.1 hA hH hI.1 (As := [.int z4, .int v4_3]) (rest := []) (t_X7_under l E J τ L fh4 hI.1 mq_1 tq_1 z4 v4_3) my_X7_under wd235 mq_1 tq_1 td_19 rfl rfl rfl (Nat.le_of_ble_eq_true rfl) ⟨Nat.le_of_ble_eq_true rfl, Nat.le_of_ble_eq_true rfl⟩ ⟨rfl, rfl⟩ dX0_lawsFitting_21 (fun L1 f5 H locs hp hH => ?_)
        obtain ⟨rfl, s7, h8⟩ := hp
        have hI := hI.call s7 (by decide)
        refine lv_aload_n hx hb dX0_lawsFitting_24 rfl (lv_at hl 0 rfl) ?_
        refine lv_aload_n hx hb dX0_lawsFitting_25 rfl (lv_at hl 1 rfl) ?_
        refine t_Vi C hO hl.1 hA hH hI.1 (As := [.ref p1]) (rest := []) (t_X0_allSeen l E J τ L f5 hI.1 mq tq mp1 tp1 (hs.S hI0 hI mp1 tp1 rfl)) my_X0_allSeen wd239 mq tq td_27 rfl rfl rfl (Nat.le_of_ble_eq_true rfl) ⟨Nat.le_of_ble_eq_true rfl, Nat.le_of_ble_eq_true rfl⟩ ⟨rfl, rfl⟩ dX0_lawsFitting_26 (fun r10 L1 f9 H locs hp hH => ?_)
        obtain ⟨rfl, s11, h12⟩ := hp
        have hI := hI.call s11 (by decide)
        refine lv_if_eq (tgt := 38) hx hb dX0_lawsFitting_29 (by decide) (fun c13 => ?_) (fun c13 => ?_)
        · skip
          have r14 : rg r10 0 0 := rf_eql (c_eq c13) h12 rl_0 (by decide)
          obtain ⟨z15, ez15⟩ : ∃ y : Int32, y = v4_3 + (1 : Int32) := ⟨_, rfl⟩
          have r16 : rg z15 1 4 := rg_add ez15 r3 rl_1 (by decide)
          have a17 : z15.toInt = v4_3.toInt + 1 := ai_add ez15 r3 tl_1 (by decide)
          refine lv_iinc (v := z15) (lv' := [(3, .int z15), (0, .ref q), (1, .ref p1), (2, .int v4_2)]) hx hb dX0_lawsFitting_38 hl (k := 3) rfl (by rw [ez15]; rfl) (by decide) rfl (fun ls hl => ?_)
          refine lv_goto (tgt := 4) hx hb dX0_lawsFitting_41 (by decide) ?_
          exact ih4 _ _ _ _ v4_2 z15 (fu_s hfu4 a17 (by decide)) hI hH r_v4_2 (rg_w r16 (by decide)) (lv_sub hl [1, 2, 3, 0] rfl)
        · skip
          have r18 : rg r10 1 1 := rf_nel (n_eq c13) h12 rl_0 (by decide)
          refine lv_iload_n hx hb dX0_lawsFitting_32 rfl (lv_at hl 2 rfl) ?_
          refine lv_iconst (v := (1 : Int32)) hx hb dX0_lawsFitting_33 (by decide) ?_
          refine lv_iload_n hx hb dX0_lawsFitting_34 rfl (lv_at hl 3 rfl) ?_
          refine lv_ishl hx hb dX0_lawsFitting_35 ?_
          refine lv_topi (fun z19 ez19 => ?_)
          have r20 : rg z19 1 8 := rg_shl 0 3 ez19 r3 (by decide)
          refine lv_ior hx hb dX0_lawsFitting_36 ?_
          refine lv_topi (fun z21 ez21 => ?_)
          have r22 : rg z21 0 15 := rg_or 4 ez21 r_v4_2 r20 (by decide)
          refine lv_istore_n (lv' := [(2, .int z21), (0, .ref q), (1, .ref p1), (3, .int v4_3)]) hx hb dX0_lawsFitting_37 rfl hl (by decide) rfl (fun ls hl => ?_)
          obtain ⟨z23, ez23⟩ : ∃ y : Int32, y = v4_3 + (1 : Int32) := ⟨_, rfl⟩
          have r24 : rg z23 1 4 := rg_add ez23 r3 rl_1 (by decide)
          have a25 : z23.toInt = v4_3.toInt + 1 := ai_add ez23 r3 tl_1 (by decide)
          refine lv_iinc (v := z23) (lv' := [(3, .int z23), (2, .int z21), (0, .ref q), (1, .ref p1)]) hx hb dX0_lawsFitting_38 hl (k := 3) rfl (by rw [ez23]; rfl) (by decide) rfl (fun ls hl => ?_)
          refine lv_goto (tgt := 4) hx hb dX0_lawsFitting_41 (by decide) ?_
          exact ih4 _ _ _ _ z21 z23 (fu_s hfu4 a25 (by decide)) hI hH r22 (rg_w r24 (by decide)) (lv_sub hl [2, 3, 1, 0] rfl)
  refine lv_iconst (v := (0 : Int32)) hx hb dX0_lawsFitting_0 (by decide) ?_
  refine lv_istore_n (lv' := [(2, .int (0 : Int32)), (0, .ref q), (1, .ref p1)]) hx hb dX0_lawsFitting_1 rfl hl (by decide) rfl (fun ls hl => ?_)
  refine lv_iconst (v := (0 : Int32)) hx hb dX0_lawsFitting_2 (by decide) ?_
  refine lv_istore_n (lv' := [(3, .int (0 : Int32)), (2, .int (0 : Int32)), (0, .ref q), (1, .ref p1)]) hx hb dX0_lawsFitting_3 rfl hl (by decide) rfl (fun ls hl => ?_)
  exact cut4 5 _ _ _ _ (0 : Int32) (0 : Int32) (fu_i 5 rl_0 (by decide)) hI hH (rg_w rl_0 (by decide)) (rg_w rl_0 (by decide)) (lv_sub hl [2, 3, 1, 0] rfl)
set_option maxHeartbeats 4000000 in
set_option maxRecDepth 100000 in
theorem t_X0_worstLaws (l : Launch) (E : gE) (J : Nat → Nat) (τ : Nat → Nat) (L : List Nat) (f : gF) (hI : tI E L τ f) {q : Nat} (mq : q ∈ L) (tq : τ q = 27) (p1 : Int32) (p2 : Int32) (rp2 : rg p2 0 3) : tMi l E J yX0_worstLaws cX0_worstLaws 7 .int (gRm (4) 0 0) [.ref q, .int p1, .int p2] L f (tPi E L τ [19, 20, 21, 29] f (fun r f1 => rg r (-2147483648) 2147483647)) := by
  refine tMi.intro (by decide) (Nat.le_of_ble_eq_true rfl) ?_
  intro p e s m below meth c A ls C hr hA hO hH hl
  have C : gC E cX0_worstLaws 7 RX0 p s m _ meth c := C
  have hl : lv_has ls 7 [(0, .ref q), (1, .int p1), (2, .int p2)] := hl
  have hx := C.1
  have hb := C.2.1
  have hI := hI.S [19, 20, 21, 29]
  obtain ⟨q_1, mq_1, tq_1, kq_1⟩ := t_fldr hI.1 mq tq td_27 (k := 1) rfl
  obtain ⟨q_0, mq_0, tq_0, kq_0⟩ := t_fldr hI.1 mq tq td_27 (k := 0) rfl
  obtain ⟨q_3, mq_3, tq_3, kq_3⟩ := t_fldr hI.1 mq tq td_27 (k := 3) rfl
  have cut2 : ∀ (n : Nat) (fh2 : gF) (H : Heap) (locs : List Loc) (ls : Array Slot) (v2_3 : Int32), 4 - v2_3.toInt < (n : Int) → tS E L τ [19, 20, 21, 29] f fh2 → gH E A L fh2 s.heap H locs → rg v2_3 0 4 → lv_has ls 7 [(0, .ref q), (1, .int p1), (2, .int p2), (3, .int v2_3)] → W p l e (gRm (4) 0 0) s m [.ref q, .int p1, .int p2].toArray below meth c H locs 0 0 (MQ below (gQi E A (tPi E L τ [19, 20, 21, 29] f (fun r f1 => rg r (-2147483648) 2147483647))) [.ref q, .int p1, .int p2].toArray s (gRm (4) 0 0).cells (gRm (4) 0 0).slots A) (F0 m 2 ls []) := by
    intro n
    induction n with
    | zero =>
      intro fh2 H locs ls v2_3 hfu2 hI hH r_v2_3 hl
      exact (fu_0 hfu2 r_v2_3).elim
    | succ n ih2 =>
      intro fh2 H locs ls v2_3 hfu2 hI hH r_v2_3 hl
      have cut54 : ∀ (n : Nat) (fh54 : gF) (H : Heap) (locs : List Loc) (ls : Array Slot) (v54_3 : Int32) (v54_4 : Int32), 4 - v54_4.toInt < (n : Int) → tS E L τ [19, 20, 21, 29] f fh54 → gH E A L fh54 s.heap H locs → rg v54_3 0 2147483647 → rg v54_4 0 4 → lv_has ls 7 [(0, .ref q), (1, .int p1), (2, .int p2), (3, .int v54_3), (4, .int v54_4)] → W p l e (gRm (4) 0 0) s m [.ref q, .int p1, .int p2].toArray below meth c H locs 0 0 (MQ below (gQi E A (tPi E L τ [19, 20, 21, 29] f (fun r f1 => rg r (-2147483648) 2147483647))) [.ref q, .int p1, .int p2].toArray s (gRm (4) 0 0).cells (gRm (4) 0 0).slots A) (F0 m 54 ls []) := by
        intro n
        induction n with
        | zero =>
          intro fh54 H locs ls v54_3 v54_4 hfu54 hI hH r_v54_3 r_v54_4 hl
          exact (fu_0 hfu54 r_v54_4).elim
        | succ n ih54 =>
          intro fh54 H locs ls v54_3 v54_4 hfu54 hI hH r_v54_3 r_v54_4 hl
          have cut66 : ∀ (n : Nat) (fh66 : gF) (H : Heap) (locs : List Loc) (ls : Array Slot) (v66_5 : Int32) (v66_6 : Int32), 4 - v66_6.toInt < (n : Int) → tS E L τ [19, 20, 21, 29] f fh66 → gH E A L fh66 s.heap H locs → rg v66_6 0 4 → rg v54_4 0 3 → lv_has ls 7 [(0, .ref q), (1, .int p1), (2, .int p2), (3, .int v54_3), (4, .int v54_4), (5, .int v66_5), (6, .int v66_6)] → W p l e (gRm (4) 0 0) s m [.ref q, .int p1, .int p2].toArray below meth c H locs 0 0 (MQ below (gQi E A (tPi E L τ [19, 20, 21, 29] f (fun r f1 => rg r (-2147483648) 2147483647))) [.ref q, .int p1, .int p2].toArray s (gRm (4) 0 0).cells (gRm (4) 0 0).slots A) (F0 m 66 ls []) := by
            intro n
            induction n with
            | zero =>
              intro fh66 H locs ls v66_5 v66_6 hfu66 hI hH r_v66_6 r66_v54_4 hl
              exact (fu_0 hfu66 r_v66_6).elim
            | succ n ih66 =>
              intro fh66 H locs ls v66_5 v66_6 hfu66 hI hH r_v66_6 r66_v54_4 hl
              refine lv_iload hx hb dX0_worstLaws_66 (lv_at hl 6 rfl) ?_
              refine lv_iconst (v := (4 : Int32)) hx hb dX0_worstLaws_68 (by decide) ?_
              refine lv_icmp_ge (tgt := 116) hx hb dX0_worstLaws_69 (by decide) (fun c1 => ?_) (fun c1 => ?_)
              · skip
                have r2 : rg v66_6 4 4 := rf_ler (c_le c1) rl_4 r_v66_6 (by decide)
                refine lv_iload_n hx hb dX0_worstLaws_116 rfl (lv_at hl 3 rfl) ?_
                refine lv_iload hx hb dX0_worstLaws_117 (lv_at hl 5 rfl) ?_
                refine va_mmax hx hb (C.2.2.1.trans hl.1.symm) C.2.2.2.1 (C.2.2.2.2.1 _ wd214) (C.2.2.2.2.1 _ wd182) (C.2.2.2.2.1 _ wd37) (C.2.2.2.2.1 _ wd183) (Nat.le_of_ble_eq_true rfl) (Nat.le_of_ble_eq_true rfl) (Nat.le_of_ble_eq_true rfl) (Nat.le_of_ble_eq_true rfl) dX0_worstLaws_119 ?_
                refine lv_topi (fun z3 ez3 => ?_)
                have r4 : rg z3 0 2147483647 := rg_max ez3 r_v54_3 (rg_all _) (by decide)
                refine lv_istore_n (lv' := [(3, .int z3), (0, .ref q), (1, .int p1), (2, .int p2), (4, .int v54_4), (5, .int v66_5), (6, .int v66_6)]) hx hb dX0_worstLaws_122 rfl hl (by decide) rfl (fun ls hl => ?_)
                obtain ⟨z5, ez5⟩ : ∃ y : Int32, y = v54_4 + (1 : Int32) := ⟨_, rfl⟩
                have r6 : rg z5 1 4 := rg_add ez5 r66_v54_4 rl_1 (by decide)
                have a7 : z5.toInt = v54_4.toInt + 1 := ai_add ez5 r66_v54_4 tl_1 (by decide)
                refine lv_iinc (v := z5) (lv' := [(4, .int z5), (3, .int z3), (0, .ref q), (1, .int p1), (2, .int p2), (5, .int v66_5), (6, .int v66_6)]) hx hb dX0_worstLaws_123 hl (k := 4) rfl (by rw [ez5]; rfl) (by decide) rfl (fun ls hl => ?_)
                refine lv_goto (tgt := 54) hx hb dX0_worstLaws_126 (by decide) ?_
                exact ih54 _ _ _ _ z3 z5 (fu_s hfu54 a7 (by decide)) hI hH r4 (rg_w r6 (by decide)) (lv_sub hl [2, 3, 4, 1, 0] rfl)
              · skip
                have r8 : rg v66_6 0 3 := rf_ltl (n_le c1) r_v66_6 rl_4 (by decide)
                refine lv_iload_n hx hb dX0_worstLaws_72 rfl (lv_at hl 1 rfl) ?_
                refine lv_iload hx hb dX0_worstLaws_73 (lv_at hl 4 rfl) ?_
                refine t_SNi C hO hl.1 hA hH (As := [.int p1, .int v54_4]) (rest := []) (t_X9_hasBit l E J τ L fh66 hI.1 p1 v54_4) my_X9_hasBit (host := "GooseShares") (List.mem_of_getElem? (i := 3) rfl) rfl rfl (Nat.le_of_ble_eq_true rfl) ⟨Nat.le_of_ble_eq_true rfl, Nat.le_of_ble_eq_true rfl⟩ ⟨rfl, rfl⟩ dX0_worstLaws_75 (fun r10 L1 f9 H locs hp hH => ?_)
                obtain ⟨rfl, s11, h12⟩ := hp
                have hI := hI.call s11 (by decide)
                refine lv_if_eq (tgt := 110) hx hb dX0_worstLaws_78 (by decide) (fun c13 => ?_) (fun c13 => ?_)
                · skip
                  have r14 : rg r10 0 0 := rf_eql (c_eq c13) h12 rl_0 (by decide)
                  obtain ⟨z15, ez15⟩ : ∃ y : Int32, y = v66_6 + (1 : Int32) := ⟨_, rfl⟩
                  have r16 : rg z15 1 4 := rg_add ez15 r8 rl_1 (by decide)
                  have a17 : z15.toInt = v66_6.toInt + 1 := ai_add ez15 r8 tl_1 (by decide)
                  refine lv_iinc (v := z15) (lv' := [(6, .int z15), (0, .ref q), (1, .int p1), (2, .int p2), (3, .int v54_3), (4, .int v54_4), (5, .int v66_5)]) hx hb dX0_worstLaws_110 hl (k := 6) rfl (by rw [ez15]; rfl) (by decide) rfl (fun ls hl => ?_)
                  refine lv_goto (tgt := 66) hx hb dX0_worstLaws_113 (by decide) ?_
                  exact ih66 _ _ _ _ v66_5 z15 (fu_s hfu66 a17 (by decide)) hI hH (rg_w r16 (by decide)) r66_v54_4 (lv_sub hl [1, 2, 3, 4, 5, 6, 0] rfl)
                · skip
                  have r18 : rg r10 1 1 := rf_nel (n_eq c13) h12 rl_0 (by decide)
                  refine lv_iload_n hx hb dX0_worstLaws_81 rfl (lv_at hl 1 rfl) ?_
                  refine lv_iload hx hb dX0_worstLaws_82 (lv_at hl 6 rfl) ?_
                  refine t_SNi C hO hl.1 hA hH (As := [.int p1, .int v66_6]) (rest := []) (t_X9_hasBit l E J τ L f9 hI.1 p1 v66_6) my_X9_hasBit (host := "GooseShares") (List.mem_of_getElem? (i := 3) rfl) rfl rfl (Nat.le_of_ble_eq_true rfl) ⟨Nat.le_of_ble_eq_true rfl, Nat.le_of_ble_eq_true rfl⟩ ⟨rfl, rfl⟩ dX0_worstLaws_84 (fun r20 L1 f19 H locs hp hH => ?_)
                  obtain ⟨rfl, s21, h22⟩ := hp
                  have hI := hI.call s21 (by decide)
                  refine lv_if_eq (tgt := 110) hx hb dX0_worstLaws_87 (by decide) (fun c23 => ?_) (fun c23 => ?_)
                  · skip
                    have r24 : rg r20 0 0 := rf_eql (c_eq c23) h22 rl_0 (by decide)
                    obtain ⟨z25, ez25⟩ : ∃ y : Int32, y = v66_6 + (1 : Int32) := ⟨_, rfl⟩
                    have r26 : rg z25 1 4 := rg_add ez25 r8 rl_1 (by decide)
                    have a27 : z25.toInt = v66_6.toInt + 1 := ai_add ez25 r8 tl_1 (by decide)
                    refine lv_iinc (v := z25) (lv' := [(6, .int z25), (0, .ref q), (1, .int p1), (2, .int p2), (3, .int v54_3), (4, .int v54_4), (5, .int v66_5)]) hx hb dX0_worstLaws_110 hl (k := 6) rfl (by rw [ez25]; rfl) (by decide) rfl (fun ls hl => ?_)
                    refine lv_goto (tgt := 66) hx hb dX0_worstLaws_113 (by decide) ?_
                    exact ih66 _ _ _ _ v66_5 z25 (fu_s hfu66 a27 (by decide)) hI hH (rg_w r26 (by decide)) r66_v54_4 (lv_sub hl [1, 2, 3, 4, 5, 6, 0] rfl)
                  · skip
                    have r28 : rg r20 1 1 := rf_nel (n_eq c23) h22 rl_0 (by decide)
                    refine lv_aload_n hx hb dX0_worstLaws_90 rfl (lv_at hl 0 rfl) ?_
                    refine t_getX C hH hI.1 mq tq td_27 iX0 rfl 3 (by decide) wd240 rfl (hI.rf kq_3) dX0_worstLaws_91 ?_
                    refine lv_iload hx hb dX0_worstLaws_94 (lv_at hl 4 rfl) ?_
                    refine t_ald C hH hI.1 mq_3 tq_3 td_29 (rg_in r66_v54_4 (by decide)) dX0_worstLaws_96 (fun z29v az29 _ => ?_)
                    refine lv_topi (fun z29 ez29 => ?_)
                    refine lv_aload_n hx hb dX0_worstLaws_97 rfl (lv_at hl 0 rfl) ?_
                    refine t_getX C hH hI.1 mq tq td_27 iX0 rfl 3 (by decide) wd240 rfl (hI.rf kq_3) dX0_worstLaws_98 ?_
                    refine lv_iload hx hb dX0_worstLaws_101 (lv_at hl 6 rfl) ?_
                    refine t_ald C hH hI.1 mq_3 tq_3 td_29 (rg_in r8 (by decide)) dX0_worstLaws_103 (fun z30v az30 _ => ?_)
                    refine lv_topi (fun z30 ez30 => ?_)
                    refine lv_icmp_ne (tgt := 110) hx hb dX0_worstLaws_104 (by decide) (fun c31 => ?_) (fun c31 => ?_)
                    · skip
                      obtain ⟨z32, ez32⟩ : ∃ y : Int32, y = v66_6 + (1 : Int32) := ⟨_, rfl⟩
                      have r33 : rg z32 1 4 := rg_add ez32 r8 rl_1 (by decide)
                      have a34 : z32.toInt = v66_6.toInt + 1 := ai_add ez32 r8 tl_1 (by decide)
                      refine lv_iinc (v := z32) (lv' := [(6, .int z32), (0, .ref q), (1, .int p1), (2, .int p2), (3, .int v54_3), (4, .int v54_4), (5, .int v66_5)]) hx hb dX0_worstLaws_110 hl (k := 6) rfl (by rw [ez32]; rfl) (by decide) rfl (fun ls hl => ?_)
                      refine lv_goto (tgt := 66) hx hb dX0_worstLaws_113 (by decide) ?_
                      exact ih66 _ _ _ _ v66_5 z32 (fu_s hfu66 a34 (by decide)) hI hH (rg_w r33 (by decide)) r66_v54_4 (lv_sub hl [1, 2, 3, 4, 5, 6, 0] rfl)
                    · skip
                      obtain ⟨z35, ez35⟩ : ∃ y : Int32, y = v66_5 + (1 : Int32) := ⟨_, rfl⟩
                      refine lv_iinc (v := z35) (lv' := [(5, .int z35), (0, .ref q), (1, .int p1), (2, .int p2), (3, .int v54_3), (4, .int v54_4), (6, .int v66_6)]) hx hb dX0_worstLaws_107 hl (k := 5) rfl (by rw [ez35]; rfl) (by decide) rfl (fun ls hl => ?_)
                      obtain ⟨z36, ez36⟩ : ∃ y : Int32, y = v66_6 + (1 : Int32) := ⟨_, rfl⟩
                      have r37 : rg z36 1 4 := rg_add ez36 r8 rl_1 (by decide)
                      have a38 : z36.toInt = v66_6.toInt + 1 := ai_add ez36 r8 tl_1 (by decide)
                      refine lv_iinc (v := z36) (lv' := [(6, .int z36), (5, .int z35), (0, .ref q), (1, .int p1), (2, .int p2), (3, .int v54_3), (4, .int v54_4)]) hx hb dX0_worstLaws_110 hl (k := 6) rfl (by rw [ez36]; rfl) (by decide) rfl (fun ls hl => ?_)
                      refine lv_goto (tgt := 66) hx hb dX0_worstLaws_113 (by decide) ?_
                      exact ih66 _ _ _ _ z35 z36 (fu_s hfu66 a38 (by decide)) hI hH (rg_w r37 (by decide)) r66_v54_4 (lv_sub hl [2, 3, 4, 5, 6, 1, 0] rfl)
          refine lv_iload hx hb dX0_worstLaws_54 (lv_at hl 4 rfl) ?_
          refine lv_iconst (v := (4 : Int32)) hx hb dX0_worstLaws_56 (by decide) ?_
          refine lv_icmp_ge (tgt := 129) hx hb dX0_worstLaws_57 (by decide) (fun c39 => ?_) (fun c39 => ?_)
          · skip
            have r40 : rg v54_4 4 4 := rf_ler (c_le c39) rl_4 r_v54_4 (by decide)
            refine lv_iload_n hx hb dX0_worstLaws_129 rfl (lv_at hl 3 rfl) ?_
            exact g_iret C hr hH (Nat.zero_le _) (Nat.zero_le _) dX0_worstLaws_130 ⟨rfl, hI, (rg_w r_v54_3 (by decide))⟩
          · skip
            have r41 : rg v54_4 0 3 := rf_ltl (n_le c39) r_v54_4 rl_4 (by decide)
            refine lv_iconst (v := (0 : Int32)) hx hb dX0_worstLaws_60 (by decide) ?_
            refine lv_istore (lv' := [(5, .int (0 : Int32)), (0, .ref q), (1, .int p1), (2, .int p2), (3, .int v54_3), (4, .int v54_4)]) hx hb dX0_worstLaws_61 hl (by decide) rfl (fun ls hl => ?_)
            refine lv_iconst (v := (0 : Int32)) hx hb dX0_worstLaws_63 (by decide) ?_
            refine lv_istore (lv' := [(6, .int (0 : Int32)), (5, .int (0 : Int32)), (0, .ref q), (1, .int p1), (2, .int p2), (3, .int v54_3), (4, .int v54_4)]) hx hb dX0_worstLaws_64 hl (by decide) rfl (fun ls hl => ?_)
            exact cut66 5 _ _ _ _ (0 : Int32) (0 : Int32) (fu_i 5 rl_0 (by decide)) hI hH (rg_w rl_0 (by decide)) r41 (lv_sub hl [2, 3, 4, 5, 6, 1, 0] rfl)
      refine lv_iload_n hx hb dX0_worstLaws_2 rfl (lv_at hl 3 rfl) ?_
      refine lv_iconst (v := (4 : Int32)) hx hb dX0_worstLaws_3 (by decide) ?_
      refine lv_icmp_ge (tgt := 49) hx hb dX0_worstLaws_4 (by decide) (fun c42 => ?_) (fun c42 => ?_)
      · skip
        have r43 : rg v2_3 4 4 := rf_ler (c_le c42) rl_4 r_v2_3 (by decide)
        refine lv_iconst (v := (0 : Int32)) hx hb dX0_worstLaws_49 (by decide) ?_
        refine lv_istore_n (lv' := [(3, .int (0 : Int32)), (0, .ref q), (1, .int p1), (2, .int p2)]) hx hb dX0_worstLaws_50 rfl hl (by decide) rfl (fun ls hl => ?_)
        refine lv_iconst (v := (0 : Int32)) hx hb dX0_worstLaws_51 (by decide) ?_
        refine lv_istore (lv' := [(4, .int (0 : Int32)), (3, .int (0 : Int32)), (0, .ref q), (1, .int p1), (2, .int p2)]) hx hb dX0_worstLaws_52 hl (by decide) rfl (fun ls hl => ?_)
        exact cut54 5 _ _ _ _ (0 : Int32) (0 : Int32) (fu_i 5 rl_0 (by decide)) hI hH (rg_w rl_0 (by decide)) (rg_w rl_0 (by decide)) (lv_sub hl [2, 3, 4, 1, 0] rfl)
      · skip
        have r44 : rg v2_3 0 3 := rf_ltl (n_le c42) r_v2_3 rl_4 (by decide)
        refine lv_aload_n hx hb dX0_worstLaws_7 rfl (lv_at hl 0 rfl) ?_
        refine t_getX C hH hI.1 mq tq td_27 iX0 rfl 1 (by decide) wd225 rfl (hI.rf kq_1) dX0_worstLaws_8 ?_
        refine lv_aload_n hx hb dX0_worstLaws_11 rfl (lv_at hl 0 rfl) ?_
        refine t_getX C hH hI.1 mq tq td_27 iX0 rfl 0 (by decide) wd197 rfl (hI.rf kq_0) dX0_worstLaws_12 ?_
        refine t_geti C hH hI.1 mq_0 tq_0 td_3 iX3 rfl 8 (by decide) wd234 rfl rfl dX0_worstLaws_15 (fun z45 rz45 => ?_)
        refine lv_iload_n hx hb dX0_worstLaws_18 rfl (lv_at hl 3 rfl) ?_
        refine t_Vv C hO hl.1 hA hH hI.1 (As := [.int z45, .int v2_3]) (rest := []) (t_X7_under l E J τ L fh2 hI.1 mq_1 tq_1 z45 v2_3) my_X7_under wd235 mq_1 tq_1 td_19 rfl rfl rfl (Nat.le_of_ble_eq_true rfl) ⟨Nat.le_of_ble_eq_true rfl, Nat.le_of_ble_eq_true rfl⟩ ⟨rfl, rfl⟩ dX0_worstLaws_19 (fun L1 f46 H locs hp hH => ?_)
        obtain ⟨rfl, s48, h49⟩ := hp
        have hI := hI.call s48 (by decide)
        refine lv_aload_n hx hb dX0_worstLaws_22 rfl (lv_at hl 0 rfl) ?_
        refine t_getX C hH hI.1 mq tq td_27 iX0 rfl 1 (by decide) wd225 rfl (hI.rf kq_1) dX0_worstLaws_23 ?_
        refine lv_iload_n hx hb dX0_worstLaws_26 rfl (lv_at hl 2 rfl) ?_
        refine t_Vv C hO hl.1 hA hH hI.1 (As := [.int p2]) (rest := []) (t_X7_follow l E J τ L f46 hI.1 mq_1 tq_1 p2 rp2) my_X7_follow wd229 mq_1 tq_1 td_19 rfl rfl rfl (Nat.le_of_ble_eq_true rfl) ⟨Nat.le_of_ble_eq_true rfl, Nat.le_of_ble_eq_true rfl⟩ ⟨rfl, rfl⟩ dX0_worstLaws_27 (fun L1 f50 H locs hp hH => ?_)
        obtain ⟨rfl, s52, h53⟩ := hp
        have hI := hI.call s52 (by decide)
        refine lv_aload_n hx hb dX0_worstLaws_30 rfl (lv_at hl 0 rfl) ?_
        refine t_getX C hH hI.1 mq tq td_27 iX0 rfl 3 (by decide) wd240 rfl (hI.rf kq_3) dX0_worstLaws_31 ?_
        refine lv_iload_n hx hb dX0_worstLaws_34 rfl (lv_at hl 3 rfl) ?_
        refine lv_aload_n hx hb dX0_worstLaws_35 rfl (lv_at hl 0 rfl) ?_
        refine t_getX C hH hI.1 mq tq td_27 iX0 rfl 1 (by decide) wd225 rfl (hI.rf kq_1) dX0_worstLaws_36 ?_
        refine t_Vi C hO hl.1 hA hH hI.1 (As := []) (rest := [.int v2_3, .ref q_3]) (t_X7_outStep l E J τ L f50 hI.1 mq_1 tq_1) my_X7_outStep wd244 mq_1 tq_1 td_19 rfl rfl rfl (Nat.le_of_ble_eq_true rfl) ⟨Nat.le_of_ble_eq_true rfl, Nat.le_of_ble_eq_true rfl⟩ ⟨rfl, rfl⟩ dX0_worstLaws_39 (fun r55 L1 f54 H locs hp hH => ?_)
        obtain ⟨rfl, s56, h57⟩ := hp
        have hI := hI.call s56 (by decide)
        refine t_ast C hH hI mq_3 tq_3 (by decide) td_29 (rg_in r44 (by decide)) (fun _ _ _ => trivial) dX0_worstLaws_42 (fun f58 H locs hH hI bf58 uf58 => ?_)
        obtain ⟨z59, ez59⟩ : ∃ y : Int32, y = v2_3 + (1 : Int32) := ⟨_, rfl⟩
        have r60 : rg z59 1 4 := rg_add ez59 r44 rl_1 (by decide)
        have a61 : z59.toInt = v2_3.toInt + 1 := ai_add ez59 r44 tl_1 (by decide)
        refine lv_iinc (v := z59) (lv' := [(3, .int z59), (0, .ref q), (1, .int p1), (2, .int p2)]) hx hb dX0_worstLaws_43 hl (k := 3) rfl (by rw [ez59]; rfl) (by decide) rfl (fun ls hl => ?_)
        refine lv_goto (tgt := 2) hx hb dX0_worstLaws_46 (by decide) ?_
        exact ih2 _ _ _ _ z59 (fu_s hfu2 a61 (by decide)) hI hH (rg_w r60 (by decide)) (lv_sub hl [1, 2, 3, 0] rfl)
  refine lv_iconst (v := (0 : Int32)) hx hb dX0_worstLaws_0 (by decide) ?_
  refine lv_istore_n (lv' := [(3, .int (0 : Int32)), (0, .ref q), (1, .int p1), (2, .int p2)]) hx hb dX0_worstLaws_1 rfl hl (by decide) rfl (fun ls hl => ?_)
  exact cut2 5 _ _ _ _ (0 : Int32) (fu_i 5 rl_0 (by decide)) hI hH (rg_w rl_0 (by decide)) (lv_sub hl [1, 2, 3, 0] rfl)
set_option maxHeartbeats 4000000 in
set_option maxRecDepth 100000 in
theorem t_X0_flightToAsk (l : Launch) (E : gE) (J : Nat → Nat) (τ : Nat → Nat) (L : List Nat) (f : gF) (hI : tI E L τ f) {q : Nat} (mq : q ∈ L) (tq : τ q = 27) (p1 : Int32) : tMi l E J yX0_flightToAsk cX0_flightToAsk 6 .int (gRm (5) 0 0) [.ref q, .int p1] L f (tPi E L τ [19, 20, 21, 29] f (fun r f1 => rg r (-1) 3)) := by
  refine tMi.intro (by decide) (Nat.le_of_ble_eq_true rfl) ?_
  intro p e s m below meth c A ls C hr hA hO hH hl
  have C : gC E cX0_flightToAsk 6 RX0 p s m _ meth c := C
  have hl : lv_has ls 6 [(0, .ref q), (1, .int p1)] := hl
  have hx := C.1
  have hb := C.2.1
  have hI := hI.S [19, 20, 21, 29]
  obtain ⟨q_0, mq_0, tq_0, kq_0⟩ := t_fldr hI.1 mq tq td_27 (k := 0) rfl
  have cut10 : ∀ (n : Nat) (fh10 : gF) (H : Heap) (locs : List Loc) (ls : Array Slot) (v10_2 : Int32) (v10_3 : Int32) (v10_4 : Int32), 4 - v10_4.toInt < (n : Int) → tS E L τ [19, 20, 21, 29] f fh10 → gH E A L fh10 s.heap H locs → rg v10_2 (-1) 3 → rg v10_3 (-2147483648) 63 → rg v10_4 0 4 → lv_has ls 6 [(0, .ref q), (1, .int p1), (2, .int v10_2), (3, .int v10_3), (4, .int v10_4)] → W p l e (gRm (5) 0 0) s m [.ref q, .int p1].toArray below meth c H locs 0 0 (MQ below (gQi E A (tPi E L τ [19, 20, 21, 29] f (fun r f1 => rg r (-1) 3))) [.ref q, .int p1].toArray s (gRm (5) 0 0).cells (gRm (5) 0 0).slots A) (F0 m 10 ls []) := by
    intro n
    induction n with
    | zero =>
      intro fh10 H locs ls v10_2 v10_3 v10_4 hfu10 hI hH r_v10_2 r_v10_3 r_v10_4 hl
      exact (fu_0 hfu10 r_v10_4).elim
    | succ n ih10 =>
      intro fh10 H locs ls v10_2 v10_3 v10_4 hfu10 hI hH r_v10_2 r_v10_3 r_v10_4 hl
      refine lv_iload hx hb dX0_flightToAsk_10 (lv_at hl 4 rfl) ?_
      refine lv_aload_n hx hb dX0_flightToAsk_12 rfl (lv_at hl 0 rfl) ?_
      refine t_getX C hH hI.1 mq tq td_27 iX0 rfl 0 (by decide) wd197 rfl (hI.rf kq_0) dX0_flightToAsk_13 ?_
      refine t_geti C hH hI.1 mq_0 tq_0 td_3 iX3 rfl 6 (by decide) wd224 rfl rfl dX0_flightToAsk_16 (fun z1 rz1 => ?_)
      refine lv_icmp_ge (tgt := 49) hx hb dX0_flightToAsk_19 (by decide) (fun c2 => ?_) (fun c2 => ?_)
      · skip
        refine lv_iload_n hx hb dX0_flightToAsk_49 rfl (lv_at hl 2 rfl) ?_
        exact g_iret C hr hH (Nat.zero_le _) (Nat.zero_le _) dX0_flightToAsk_50 ⟨rfl, hI, r_v10_2⟩
      · skip
        have r3 : rg v10_4 0 3 := rf_ltl (n_le c2) r_v10_4 rz1 (by decide)
        have r4 : rg z1 1 4 := rf_ltr (n_le c2) r_v10_4 rz1 (by decide)
        refine lv_aload_n hx hb dX0_flightToAsk_22 rfl (lv_at hl 0 rfl) ?_
        refine lv_iload_n hx hb dX0_flightToAsk_23 rfl (lv_at hl 1 rfl) ?_
        refine lv_iload hx hb dX0_flightToAsk_24 (lv_at hl 4 rfl) ?_
        refine t_Vi C hO hl.1 hA hH hI.1 (As := [.int p1, .int v10_4]) (rest := []) (t_X0_worstLaws l E J τ L fh10 hI.1 mq tq p1 v10_4 r3) my_X0_worstLaws wd248 mq tq td_27 rfl rfl rfl (Nat.le_of_ble_eq_true rfl) ⟨Nat.le_of_ble_eq_true rfl, Nat.le_of_ble_eq_true rfl⟩ ⟨rfl, rfl⟩ dX0_flightToAsk_26 (fun r6 L1 f5 H locs hp hH => ?_)
        obtain ⟨rfl, s7, h8⟩ := hp
        have hI := hI.call s7 (by decide)
        refine lv_istore (lv' := [(5, .int r6), (0, .ref q), (1, .int p1), (2, .int v10_2), (3, .int v10_3), (4, .int v10_4)]) hx hb dX0_flightToAsk_29 hl (by decide) rfl (fun ls hl => ?_)
        refine lv_iload hx hb dX0_flightToAsk_31 (lv_at hl 0 rfl) ?_
        refine lv_iload_n hx hb dX0_flightToAsk_33 rfl (lv_at hl 4 rfl) ?_
        refine lv_icmp_ge (tgt := 43) hx hb dX0_flightToAsk_34 (by decide) (fun c9 => ?_) (fun c9 => ?_)
        · skip
          obtain ⟨z10, ez10⟩ : ∃ y : Int32, y = v10_4 + (1 : Int32) := ⟨_, rfl⟩
          have r11 : rg z10 1 4 := rg_add ez10 r3 rl_1 (by decide)
          have a12 : z10.toInt = v10_4.toInt + 1 := ai_add ez10 r3 tl_1 (by decide)
          refine lv_iinc (v := z10) (lv' := [(4, .int z10), (5, .int r6), (0, .ref q), (1, .int p1), (2, .int v10_2), (3, .int v10_3)]) hx hb dX0_flightToAsk_43 hl (k := 5) rfl (by rw [ez10]; rfl) (by decide) rfl (fun ls hl => ?_)
          refine lv_goto (tgt := 10) hx hb dX0_flightToAsk_46 (by decide) ?_
          exact ih10 _ _ _ _ v10_2 v10_3 z10 (fu_s hfu10 a12 (by decide)) hI hH r_v10_2 r_v10_3 (rg_w r11 (by decide)) (lv_sub hl [2, 3, 4, 5, 0] rfl)
        · skip
          have r13 : rg r6 (-2147483648) 62 := rf_ltl (n_le c9) h8 r_v10_3 (by decide)
          have r14 : rg v10_3 (-2147483647) 63 := rf_ltr (n_le c9) h8 r_v10_3 (by decide)
          refine lv_iload hx hb dX0_flightToAsk_37 (lv_at hl 0 rfl) ?_
          refine lv_istore_n (lv' := [(3, .int r6), (5, .int r6), (0, .ref q), (1, .int p1), (2, .int v10_2), (4, .int v10_4)]) hx hb dX0_flightToAsk_39 rfl hl (by decide) rfl (fun ls hl => ?_)
          refine lv_iload hx hb dX0_flightToAsk_40 (lv_at hl 5 rfl) ?_
          refine lv_istore_n (lv' := [(2, .int v10_4), (3, .int r6), (5, .int r6), (0, .ref q), (1, .int p1), (4, .int v10_4)]) hx hb dX0_flightToAsk_42 rfl hl (by decide) rfl (fun ls hl => ?_)
          obtain ⟨z15, ez15⟩ : ∃ y : Int32, y = v10_4 + (1 : Int32) := ⟨_, rfl⟩
          have r16 : rg z15 1 4 := rg_add ez15 r3 rl_1 (by decide)
          have a17 : z15.toInt = v10_4.toInt + 1 := ai_add ez15 r3 tl_1 (by decide)
          refine lv_iinc (v := z15) (lv' := [(4, .int z15), (2, .int v10_4), (3, .int r6), (5, .int r6), (0, .ref q), (1, .int p1)]) hx hb dX0_flightToAsk_43 hl (k := 5) rfl (by rw [ez15]; rfl) (by decide) rfl (fun ls hl => ?_)
          refine lv_goto (tgt := 10) hx hb dX0_flightToAsk_46 (by decide) ?_
          exact ih10 _ _ _ _ v10_4 r6 z15 (fu_s hfu10 a17 (by decide)) hI hH (rg_w r3 (by decide)) (rg_w r13 (by decide)) (rg_w r16 (by decide)) (lv_sub hl [4, 5, 1, 2, 0] rfl)
  refine lv_iconst (v := (-1 : Int32)) hx hb dX0_flightToAsk_0 (by decide) ?_
  refine lv_istore_n (lv' := [(2, .int (-1 : Int32)), (0, .ref q), (1, .int p1)]) hx hb dX0_flightToAsk_1 rfl hl (by decide) rfl (fun ls hl => ?_)
  refine lv_iload_n hx hb dX0_flightToAsk_2 rfl (lv_at hl 2 rfl) ?_
  refine t_Si C hO hl.1 hA hH (As := [.int p1]) (rest := []) (t_bit l E J τ L f hI.1 p1) my_J6_bitCount_0f7a4 wd249 rfl rfl (Nat.le_of_ble_eq_true rfl) ⟨Nat.le_of_ble_eq_true rfl, Nat.le_of_ble_eq_true rfl⟩ ⟨rfl, rfl⟩ dX0_flightToAsk_3 (fun r19 L1 f18 H locs hp hH => ?_)
  obtain ⟨rfl, s20, h21⟩ := hp
  have hI := hI.call s20 (by decide)
  refine lv_istore_n (lv' := [(3, .int r19), (2, .int (-1 : Int32)), (0, .ref q), (1, .int p1)]) hx hb dX0_flightToAsk_6 rfl hl (by decide) rfl (fun ls hl => ?_)
  refine lv_iconst (v := (0 : Int32)) hx hb dX0_flightToAsk_7 (by decide) ?_
  refine lv_istore (lv' := [(4, .int (0 : Int32)), (3, .int r19), (2, .int (-1 : Int32)), (0, .ref q), (1, .int p1)]) hx hb dX0_flightToAsk_8 hl (by decide) rfl (fun ls hl => ?_)
  exact cut10 5 _ _ _ _ (-1 : Int32) r19 (0 : Int32) (fu_i 5 rl_0 (by decide)) hI hH (rg_w rl_m1 (by decide)) (rg_w h21 (by decide)) (rg_w rl_0 (by decide)) (lv_sub hl [3, 4, 2, 1, 0] rfl)
set_option maxHeartbeats 4000000 in
set_option maxRecDepth 100000 in
theorem t_X0_allReported (l : Launch) (E : gE) (J : Nat → Nat) (τ : Nat → Nat) (L : List Nat) (f : gF) (hI : tI E L τ f) {q : Nat} (mq : q ∈ L) (tq : τ q = 27) {p1 : Nat} (mp1 : p1 ∈ L) (tp1 : τ p1 = 17) (p2 : Int32) : tMi l E J yX0_allReported cX0_allReported 4 .boolean (gRm (1) 0 0) [.ref q, .ref p1, .int p2] L f (tPi E L τ [] f (fun r f1 => rg r 0 1)) := by
  refine tMi.intro (by decide) (Nat.le_of_ble_eq_true rfl) ?_
  intro p e s m below meth c A ls C hr hA hO hH hl
  have C : gC E cX0_allReported 4 RX0 p s m _ meth c := C
  have hl : lv_has ls 4 [(0, .ref q), (1, .ref p1), (2, .int p2)] := hl
  have hx := C.1
  have hb := C.2.1
  have hI := hI.S []
  obtain ⟨p1_0, mp1_0, tp1_0, kp1_0⟩ := t_fldr hI.1 mp1 tp1 td_17 (k := 0) rfl
  have cut2 : ∀ (n : Nat) (fh2 : gF) (H : Heap) (locs : List Loc) (ls : Array Slot) (v2_3 : Int32), 60 - v2_3.toInt < (n : Int) → tS E L τ [] f fh2 → gH E A L fh2 s.heap H locs → rg v2_3 0 60 → lv_has ls 4 [(0, .ref q), (1, .ref p1), (2, .int p2), (3, .int v2_3)] → W p l e (gRm (1) 0 0) s m [.ref q, .ref p1, .int p2].toArray below meth c H locs 0 0 (MQ below (gQi E A (tPi E L τ [] f (fun r f1 => rg r 0 1))) [.ref q, .ref p1, .int p2].toArray s (gRm (1) 0 0).cells (gRm (1) 0 0).slots A) (F0 m 2 ls []) := by
    intro n
    induction n with
    | zero =>
      intro fh2 H locs ls v2_3 hfu2 hI hH r_v2_3 hl
      exact (fu_0 hfu2 r_v2_3).elim
    | succ n ih2 =>
      intro fh2 H locs ls v2_3 hfu2 hI hH r_v2_3 hl
      refine lv_iload_n hx hb dX0_allReported_2 rfl (lv_at hl 3 rfl) ?_
      refine lv_iconst (v := (1 : Int32)) hx hb dX0_allReported_3 (by decide) ?_
      refine lv_iadd hx hb dX0_allReported_4 ?_
      refine lv_topi (fun z1 ez1 => ?_)
      have r2 : rg z1 1 61 := rg_add ez1 r_v2_3 rl_1 (by decide)
      have a3 : z1.toInt = v2_3.toInt + 1 := ai_add ez1 r_v2_3 tl_1 (by decide)
      refine lv_aload_n hx hb dX0_allReported_5 rfl (lv_at hl 1 rfl) ?_
      refine t_geti C hH hI.1 mp1 tp1 td_17 iX6 rfl 2 (by decide) wd219 rfl rfl dX0_allReported_6 (fun z4 rz4 => ?_)
      refine lv_icmp_ge (tgt := 44) hx hb dX0_allReported_9 (by decide) (fun c5 => ?_) (fun c5 => ?_)
      · skip
        refine lv_iconst (v := (1 : Int32)) hx hb dX0_allReported_44 (by decide) ?_
        exact g_zret C hr (rg_z (rg_w rl_1 (by decide))) hH (Nat.zero_le _) (Nat.zero_le _) dX0_allReported_45 ⟨rfl, hI, (rg_w rl_1 (by decide))⟩
      · skip
        have r6 : rg z1 1 59 := rf_ltl (n_le c5) r2 rz4 (by decide)
        have r7 : rg v2_3 0 58 := ai_bk a3 r6 r_v2_3 (by decide)
        have r8 : rg z4 2 60 := rf_ltr (n_le c5) r2 rz4 (by decide)
        refine lv_iload_n hx hb dX0_allReported_12 rfl (lv_at hl 2 rfl) ?_
        refine lv_aload_n hx hb dX0_allReported_13 rfl (lv_at hl 1 rfl) ?_
        refine t_getX C hH hI.1 mp1 tp1 td_17 iX6 rfl 0 (by decide) wd220 rfl (hI.rf kp1_0) dX0_allReported_14 ?_
        refine lv_iload_n hx hb dX0_allReported_17 rfl (lv_at hl 3 rfl) ?_
        refine t_lald C hH hI.1 mp1_0 tp1_0 td_18 (rg_in r7 (by decide)) dX0_allReported_18 (fun z9v az9 => ?_)
        refine lv_topl (fun z9 ez9 => ?_)
        refine lv_l2i (v := _) hx hb dX0_allReported_19 rfl ?_
        refine lv_topi (fun z10 ez10 => ?_)
        refine lv_ishr hx hb dX0_allReported_20 ?_
        refine lv_topi (fun z11 ez11 => ?_)
        refine lv_iconst (v := (1 : Int32)) hx hb dX0_allReported_21 (by decide) ?_
        refine lv_iand hx hb dX0_allReported_22 ?_
        refine lv_topi (fun z12 ez12 => ?_)
        have r13 : rg z12 0 1 := rg_andr ez12 rl_1 (by decide)
        refine lv_i2l (v := (z12).toInt64) hx hb dX0_allReported_23 rfl ?_
        refine lv_aload_n hx hb dX0_allReported_24 rfl (lv_at hl 1 rfl) ?_
        refine t_getX C hH hI.1 mp1 tp1 td_17 iX6 rfl 0 (by decide) wd220 rfl (hI.rf kp1_0) dX0_allReported_25 ?_
        refine lv_iload_n hx hb dX0_allReported_28 rfl (lv_at hl 3 rfl) ?_
        refine lv_iconst (v := (1 : Int32)) hx hb dX0_allReported_29 (by decide) ?_
        refine lv_iadd hx hb dX0_allReported_30 ?_
        refine lv_topi (fun z14 ez14 => ?_)
        have r15 : rg z14 1 59 := rg_add ez14 r7 rl_1 (by decide)
        have a16 : z14.toInt = v2_3.toInt + 1 := ai_add ez14 r7 tl_1 (by decide)
        refine t_lald C hH hI.1 mp1_0 tp1_0 td_18 (rg_in r15 (by decide)) dX0_allReported_31 (fun z17v az17 => ?_)
        refine lv_topl (fun z17 ez17 => ?_)
        refine W.lcmp hx hb dX0_allReported_32 ?_
        refine lv_topi (fun z18 ez18 => ?_)
        refine lv_if_eq (tgt := 38) hx hb dX0_allReported_33 (by decide) (fun c19 => ?_) (fun c19 => ?_)
        · skip
          have r20 : rg z18 0 0 := rf_eql (c_eq c19) (rg_all _) rl_0 (by decide)
          obtain ⟨z21, ez21⟩ : ∃ y : Int32, y = v2_3 + (2 : Int32) := ⟨_, rfl⟩
          have r22 : rg z21 2 60 := rg_add ez21 r7 rl_2 (by decide)
          have a23 : z21.toInt = v2_3.toInt + 2 := ai_add ez21 r7 tl_2 (by decide)
          refine lv_iinc (v := z21) (lv' := [(3, .int z21), (0, .ref q), (1, .ref p1), (2, .int p2)]) hx hb dX0_allReported_38 hl (k := 3) rfl (by rw [ez21]; rfl) (by decide) rfl (fun ls hl => ?_)
          refine lv_goto (tgt := 2) hx hb dX0_allReported_41 (by decide) ?_
          exact ih2 _ _ _ _ z21 (fu_s hfu2 a23 (by decide)) hI hH (rg_w r22 (by decide)) (lv_sub hl [1, 2, 3, 0] rfl)
        · skip
          refine lv_iconst (v := (0 : Int32)) hx hb dX0_allReported_36 (by decide) ?_
          exact g_zret C hr (rg_z (rg_w rl_0 (by decide))) hH (Nat.zero_le _) (Nat.zero_le _) dX0_allReported_37 ⟨rfl, hI, (rg_w rl_0 (by decide))⟩
  refine lv_iconst (v := (0 : Int32)) hx hb dX0_allReported_0 (by decide) ?_
  refine lv_istore_n (lv' := [(3, .int (0 : Int32)), (0, .ref q), (1, .ref p1), (2, .int p2)]) hx hb dX0_allReported_1 rfl hl (by decide) rfl (fun ls hl => ?_)
  exact cut2 61 _ _ _ _ (0 : Int32) (fu_i 61 rl_0 (by decide)) hI hH (rg_w rl_0 (by decide)) (lv_sub hl [1, 2, 3, 0] rfl)
set_option maxHeartbeats 4000000 in
set_option maxRecDepth 100000 in
theorem t_X0_sift (l : Launch) (E : gE) (J : Nat → Nat) (τ : Nat → Nat) (L : List Nat) (f : gF) (hI : tI E L τ f) {q : Nat} (mq : q ∈ L) (tq : τ q = 27) {p1 : Nat} (mp1 : p1 ∈ L) (tp1 : τ p1 = 17) : tMi l E J yX0_sift cX0_sift 5 .int (gRm (3) 0 0) [.ref q, .ref p1] L f (tPi E L τ [19, 20, 21, 28] f (fun r f1 => rg r (-2147483648) 2147483647)) := by
  refine tMi.intro (by decide) (Nat.le_of_ble_eq_true rfl) ?_
  intro p e s m below meth c A ls C hr hA hO hH hl
  have C : gC E cX0_sift 5 RX0 p s m _ meth c := C
  have hl : lv_has ls 5 [(0, .ref q), (1, .ref p1)] := hl
  have hx := C.1
  have hb := C.2.1
  have hI := hI.S [19, 20, 21, 28]
  obtain ⟨q_1, mq_1, tq_1, kq_1⟩ := t_fldr hI.1 mq tq td_27 (k := 1) rfl
  obtain ⟨q_0, mq_0, tq_0, kq_0⟩ := t_fldr hI.1 mq tq td_27 (k := 0) rfl
  obtain ⟨q_2, mq_2, tq_2, kq_2⟩ := t_fldr hI.1 mq tq td_27 (k := 2) rfl
  have cut25 : ∀ (n : Nat) (fh25 : gF) (H : Heap) (locs : List Loc) (ls : Array Slot) (v25_2 : Int32) (v25_3 : Int32), 80 - v25_3.toInt < (n : Int) → tS E L τ [19, 20, 21, 28] f fh25 → gH E A L fh25 s.heap H locs → rg v25_3 0 80 → lv_has ls 5 [(0, .ref q), (1, .ref p1), (2, .int v25_2), (3, .int v25_3)] → W p l e (gRm (3) 0 0) s m [.ref q, .ref p1].toArray below meth c H locs 0 0 (MQ below (gQi E A (tPi E L τ [19, 20, 21, 28] f (fun r f1 => rg r (-2147483648) 2147483647))) [.ref q, .ref p1].toArray s (gRm (3) 0 0).cells (gRm (3) 0 0).slots A) (F0 m 25 ls []) := by
    intro n
    induction n with
    | zero =>
      intro fh25 H locs ls v25_2 v25_3 hfu25 hI hH r_v25_3 hl
      exact (fu_0 hfu25 r_v25_3).elim
    | succ n ih25 =>
      intro fh25 H locs ls v25_2 v25_3 hfu25 hI hH r_v25_3 hl
      refine lv_iload_n hx hb dX0_sift_25 rfl (lv_at hl 3 rfl) ?_
      refine lv_aload_n hx hb dX0_sift_26 rfl (lv_at hl 0 rfl) ?_
      refine t_Vi C hO hl.1 hA hH hI.1 (As := []) (rest := [.int v25_3]) (t_X0_pairs l E J τ L fh25 hI.1 mq tq) my_X0_pairs wd208 mq tq td_27 rfl rfl rfl (Nat.le_of_ble_eq_true rfl) ⟨Nat.le_of_ble_eq_true rfl, Nat.le_of_ble_eq_true rfl⟩ ⟨rfl, rfl⟩ dX0_sift_27 (fun r2 L1 f1 H locs hp hH => ?_)
      obtain ⟨rfl, s3, h4⟩ := hp
      have hI := hI.call s3 (by decide)
      refine lv_icmp_ge (tgt := 105) hx hb dX0_sift_30 (by decide) (fun c5 => ?_) (fun c5 => ?_)
      · skip
        refine lv_iload_n hx hb dX0_sift_105 rfl (lv_at hl 2 rfl) ?_
        exact g_iret C hr hH (Nat.zero_le _) (Nat.zero_le _) dX0_sift_106 ⟨rfl, hI, (rg_all _)⟩
      · skip
        have r6 : rg v25_3 0 79 := rf_ltl (n_le c5) r_v25_3 h4 (by decide)
        have r7 : rg r2 1 80 := rf_ltr (n_le c5) r_v25_3 h4 (by decide)
        refine lv_aload_n hx hb dX0_sift_33 rfl (lv_at hl 0 rfl) ?_
        refine t_getX C hH hI.1 mq tq td_27 iX0 rfl 1 (by decide) wd225 rfl (hI.rf kq_1) dX0_sift_34 ?_
        refine lv_iload_n hx hb dX0_sift_37 rfl (lv_at hl 3 rfl) ?_
        refine lv_iconst (v := (4 : Int32)) hx hb dX0_sift_38 (by decide) ?_
        refine lv_idiv hx hb dX0_sift_39 (by decide) ?_
        refine lv_topi (fun z8 ez8 => ?_)
        have r9 : rg z8 0 19 := rg_div ez8 r6 tl_4 (by decide)
        refine lv_iload_n hx hb dX0_sift_40 rfl (lv_at hl 3 rfl) ?_
        refine lv_iconst (v := (4 : Int32)) hx hb dX0_sift_41 (by decide) ?_
        refine lv_irem hx hb dX0_sift_42 (by decide) ?_
        refine lv_topi (fun z10 ez10 => ?_)
        have r11 : rg z10 0 3 := rg_rem ez10 r6 tl_4 (by decide)
        refine t_Vv C hO hl.1 hA hH hI.1 (As := [.int z8, .int z10]) (rest := []) (t_X7_trace l E J τ L f1 hI.1 mq_1 tq_1 z8 r9 z10 r11) my_X7_trace wd250 mq_1 tq_1 td_19 rfl rfl rfl (Nat.le_of_ble_eq_true rfl) ⟨Nat.le_of_ble_eq_true rfl, Nat.le_of_ble_eq_true rfl⟩ ⟨rfl, rfl⟩ dX0_sift_43 (fun L1 f12 H locs hp hH => ?_)
        obtain ⟨rfl, s14, h15⟩ := hp
        have hI := hI.call s14 (by decide)
        refine lv_aload_n hx hb dX0_sift_46 rfl (lv_at hl 0 rfl) ?_
        refine lv_aload_n hx hb dX0_sift_47 rfl (lv_at hl 0 rfl) ?_
        refine t_getX C hH hI.1 mq tq td_27 iX0 rfl 1 (by decide) wd225 rfl (hI.rf kq_1) dX0_sift_48 ?_
        refine t_Vi C hO hl.1 hA hH hI.1 (As := []) (rest := [.ref q]) (t_X7_wayBits l E J τ L f12 hI.1 mq_1 tq_1) my_X7_wayBits wd254 mq_1 tq_1 td_19 rfl rfl rfl (Nat.le_of_ble_eq_true rfl) ⟨Nat.le_of_ble_eq_true rfl, Nat.le_of_ble_eq_true rfl⟩ ⟨rfl, rfl⟩ dX0_sift_51 (fun r17 L1 f16 H locs hp hH => ?_)
        obtain ⟨rfl, s18, h19⟩ := hp
        have hI := hI.call s18 (by decide)
        refine t_Vi C hO hl.1 hA hH hI.1 (As := [.int r17]) (rest := []) (t_X0_hearersOf l E J τ L f16 hI.1 mq tq r17) my_X0_hearersOf wd258 mq tq td_27 rfl rfl rfl (Nat.le_of_ble_eq_true rfl) ⟨Nat.le_of_ble_eq_true rfl, Nat.le_of_ble_eq_true rfl⟩ ⟨rfl, rfl⟩ dX0_sift_54 (fun r21 L1 f20 H locs hp hH => ?_)
        obtain ⟨rfl, s22, h23⟩ := hp
        have hI := hI.call s22 (by decide)
        refine lv_istore (lv' := [(4, .int r21), (0, .ref q), (1, .ref p1), (2, .int v25_2), (3, .int v25_3)]) hx hb dX0_sift_57 hl (by decide) rfl (fun ls hl => ?_)
        refine lv_aload_n hx hb dX0_sift_59 rfl (lv_at hl 1 rfl) ?_
        refine t_getX C hH hI.1 mq tq td_27 iX0 rfl 2 (by decide) wd209 rfl (hI.rf kq_2) dX0_sift_60 ?_
        refine lv_iload_n hx hb dX0_sift_63 rfl (lv_at hl 4 rfl) ?_
        refine lv_aload_n hx hb dX0_sift_64 rfl (lv_at hl 1 rfl) ?_
        refine lv_aload_n hx hb dX0_sift_65 rfl (lv_at hl 2 rfl) ?_
        refine lv_iload hx hb dX0_sift_66 (lv_at hl 0 rfl) ?_
        refine t_Vi C hO hl.1 hA hH hI.1 (As := [.ref p1, .int r21]) (rest := [.int v25_3, .ref q_2]) (t_X0_allReported l E J τ L f20 hI.1 mq tq mp1 tp1 r21) my_X0_allReported wd262 mq tq td_27 rfl rfl rfl (Nat.le_of_ble_eq_true rfl) ⟨Nat.le_of_ble_eq_true rfl, Nat.le_of_ble_eq_true rfl⟩ ⟨rfl, rfl⟩ dX0_sift_68 (fun r25 L1 f24 H locs hp hH => ?_)
        obtain ⟨rfl, s26, h27⟩ := hp
        have hI := hI.call s26 (by decide)
        refine lv_if_eq (tgt := 79) hx hb dX0_sift_71 (by decide) (fun c28 => ?_) (fun c28 => ?_)
        · skip
          have r29 : rg r25 0 0 := rf_eql (c_eq c28) h27 rl_0 (by decide)
          refine lv_iconst (v := (-1 : Int32)) hx hb dX0_sift_79 (by decide) ?_
          refine t_ast C hH hI mq_2 tq_2 (by decide) td_28 (rg_in r6 (by decide)) (fun _ _ _ => trivial) dX0_sift_80 (fun f30 H locs hH hI bf30 uf30 => ?_)
          refine lv_iload_n hx hb dX0_sift_81 rfl (lv_at hl 3 rfl) ?_
          refine lv_aload_n hx hb dX0_sift_82 rfl (lv_at hl 1 rfl) ?_
          refine t_getX C hH hI.1 mq tq td_27 iX0 rfl 2 (by decide) wd209 rfl (hI.rf kq_2) dX0_sift_83 ?_
          refine lv_iload_n hx hb dX0_sift_86 rfl (lv_at hl 4 rfl) ?_
          refine t_ald C hH hI.1 mq_2 tq_2 td_28 (rg_in r6 (by decide)) dX0_sift_87 (fun z31v az31 _ => ?_)
          refine lv_topi (fun z31 ez31 => ?_)
          refine lv_iconst (v := (-1 : Int32)) hx hb dX0_sift_88 (by decide) ?_
          refine lv_icmp_ne (tgt := 96) hx hb dX0_sift_89 (by decide) (fun c32 => ?_) (fun c32 => ?_)
          · skip
            refine lv_iconst (v := (1 : Int32)) hx hb dX0_sift_96 (by decide) ?_
            refine lv_iadd hx hb dX0_sift_97 ?_
            refine lv_topi (fun z33 ez33 => ?_)
            refine lv_istore_n (lv' := [(2, .int z33), (4, .int r21), (0, .ref q), (1, .ref p1), (3, .int v25_3)]) hx hb dX0_sift_98 rfl hl (by decide) rfl (fun ls hl => ?_)
            obtain ⟨z34, ez34⟩ : ∃ y : Int32, y = v25_3 + (1 : Int32) := ⟨_, rfl⟩
            have r35 : rg z34 1 80 := rg_add ez34 r6 rl_1 (by decide)
            have a36 : z34.toInt = v25_3.toInt + 1 := ai_add ez34 r6 tl_1 (by decide)
            refine lv_iinc (v := z34) (lv' := [(3, .int z34), (2, .int z33), (4, .int r21), (0, .ref q), (1, .ref p1)]) hx hb dX0_sift_99 hl (k := 4) rfl (by rw [ez34]; rfl) (by decide) rfl (fun ls hl => ?_)
            refine lv_goto (tgt := 25) hx hb dX0_sift_102 (by decide) ?_
            exact ih25 _ _ _ _ z33 z34 (fu_s hfu25 a36 (by decide)) hI hH (rg_w r35 (by decide)) (lv_sub hl [3, 4, 1, 0] rfl)
          · skip
            have r37 : rg z31 (-1) (-1) := rf_eql (c_eq c32) (rg_all _) rl_m1 (by decide)
            refine lv_iconst (v := (0 : Int32)) hx hb dX0_sift_92 (by decide) ?_
            refine lv_goto (tgt := 97) hx hb dX0_sift_93 (by decide) ?_
            refine lv_iadd hx hb dX0_sift_97 ?_
            refine lv_topi (fun z38 ez38 => ?_)
            have r39 : rg z38 (-2147483648) 2147483647 := rg_add ez38 (rg_all _) rl_0 (by decide)
            have a40 : z38.toInt = v25_2.toInt + 0 := ai_add ez38 (rg_all _) tl_0 (by decide)
            refine lv_istore_n (lv' := [(2, .int z38), (4, .int r21), (0, .ref q), (1, .ref p1), (3, .int v25_3)]) hx hb dX0_sift_98 rfl hl (by decide) rfl (fun ls hl => ?_)
            obtain ⟨z41, ez41⟩ : ∃ y : Int32, y = v25_3 + (1 : Int32) := ⟨_, rfl⟩
            have r42 : rg z41 1 80 := rg_add ez41 r6 rl_1 (by decide)
            have a43 : z41.toInt = v25_3.toInt + 1 := ai_add ez41 r6 tl_1 (by decide)
            refine lv_iinc (v := z41) (lv' := [(3, .int z41), (2, .int z38), (4, .int r21), (0, .ref q), (1, .ref p1)]) hx hb dX0_sift_99 hl (k := 4) rfl (by rw [ez41]; rfl) (by decide) rfl (fun ls hl => ?_)
            refine lv_goto (tgt := 25) hx hb dX0_sift_102 (by decide) ?_
            exact ih25 _ _ _ _ z38 z41 (fu_s hfu25 a43 (by decide)) hI hH (rg_w r42 (by decide)) (lv_sub hl [3, 4, 1, 0] rfl)
        · skip
          have r44 : rg r25 1 1 := rf_nel (n_eq c28) h27 rl_0 (by decide)
          refine lv_iload hx hb dX0_sift_74 (lv_at hl 0 rfl) ?_
          refine lv_goto (tgt := 80) hx hb dX0_sift_76 (by decide) ?_
          refine t_ast C hH hI mq_2 tq_2 (by decide) td_28 (rg_in r6 (by decide)) (fun _ _ _ => trivial) dX0_sift_80 (fun f45 H locs hH hI bf45 uf45 => ?_)
          refine lv_iload_n hx hb dX0_sift_81 rfl (lv_at hl 3 rfl) ?_
          refine lv_aload_n hx hb dX0_sift_82 rfl (lv_at hl 1 rfl) ?_
          refine t_getX C hH hI.1 mq tq td_27 iX0 rfl 2 (by decide) wd209 rfl (hI.rf kq_2) dX0_sift_83 ?_
          refine lv_iload_n hx hb dX0_sift_86 rfl (lv_at hl 4 rfl) ?_
          refine t_ald C hH hI.1 mq_2 tq_2 td_28 (rg_in r6 (by decide)) dX0_sift_87 (fun z46v az46 _ => ?_)
          refine lv_topi (fun z46 ez46 => ?_)
          refine lv_iconst (v := (-1 : Int32)) hx hb dX0_sift_88 (by decide) ?_
          refine lv_icmp_ne (tgt := 96) hx hb dX0_sift_89 (by decide) (fun c47 => ?_) (fun c47 => ?_)
          · skip
            refine lv_iconst (v := (1 : Int32)) hx hb dX0_sift_96 (by decide) ?_
            refine lv_iadd hx hb dX0_sift_97 ?_
            refine lv_topi (fun z48 ez48 => ?_)
            refine lv_istore_n (lv' := [(2, .int z48), (4, .int r21), (0, .ref q), (1, .ref p1), (3, .int v25_3)]) hx hb dX0_sift_98 rfl hl (by decide) rfl (fun ls hl => ?_)
            obtain ⟨z49, ez49⟩ : ∃ y : Int32, y = v25_3 + (1 : Int32) := ⟨_, rfl⟩
            have r50 : rg z49 1 80 := rg_add ez49 r6 rl_1 (by decide)
            have a51 : z49.toInt = v25_3.toInt + 1 := ai_add ez49 r6 tl_1 (by decide)
            refine lv_iinc (v := z49) (lv' := [(3, .int z49), (2, .int z48), (4, .int r21), (0, .ref q), (1, .ref p1)]) hx hb dX0_sift_99 hl (k := 4) rfl (by rw [ez49]; rfl) (by decide) rfl (fun ls hl => ?_)
            refine lv_goto (tgt := 25) hx hb dX0_sift_102 (by decide) ?_
            exact ih25 _ _ _ _ z48 z49 (fu_s hfu25 a51 (by decide)) hI hH (rg_w r50 (by decide)) (lv_sub hl [3, 4, 1, 0] rfl)
          · skip
            have r52 : rg z46 (-1) (-1) := rf_eql (c_eq c47) (rg_all _) rl_m1 (by decide)
            refine lv_iconst (v := (0 : Int32)) hx hb dX0_sift_92 (by decide) ?_
            refine lv_goto (tgt := 97) hx hb dX0_sift_93 (by decide) ?_
            refine lv_iadd hx hb dX0_sift_97 ?_
            refine lv_topi (fun z53 ez53 => ?_)
            have r54 : rg z53 (-2147483648) 2147483647 := rg_add ez53 (rg_all _) rl_0 (by decide)
            have a55 : z53.toInt = v25_2.toInt + 0 := ai_add ez53 (rg_all _) tl_0 (by decide)
            refine lv_istore_n (lv' := [(2, .int z53), (4, .int r21), (0, .ref q), (1, .ref p1), (3, .int v25_3)]) hx hb dX0_sift_98 rfl hl (by decide) rfl (fun ls hl => ?_)
            obtain ⟨z56, ez56⟩ : ∃ y : Int32, y = v25_3 + (1 : Int32) := ⟨_, rfl⟩
            have r57 : rg z56 1 80 := rg_add ez56 r6 rl_1 (by decide)
            have a58 : z56.toInt = v25_3.toInt + 1 := ai_add ez56 r6 tl_1 (by decide)
            refine lv_iinc (v := z56) (lv' := [(3, .int z56), (2, .int z53), (4, .int r21), (0, .ref q), (1, .ref p1)]) hx hb dX0_sift_99 hl (k := 4) rfl (by rw [ez56]; rfl) (by decide) rfl (fun ls hl => ?_)
            refine lv_goto (tgt := 25) hx hb dX0_sift_102 (by decide) ?_
            exact ih25 _ _ _ _ z53 z56 (fu_s hfu25 a58 (by decide)) hI hH (rg_w r57 (by decide)) (lv_sub hl [3, 4, 1, 0] rfl)
  refine lv_aload_n hx hb dX0_sift_0 rfl (lv_at hl 0 rfl) ?_
  refine t_getX C hH hI.1 mq tq td_27 iX0 rfl 1 (by decide) wd225 rfl (hI.rf kq_1) dX0_sift_1 ?_
  refine lv_aload_n hx hb dX0_sift_4 rfl (lv_at hl 0 rfl) ?_
  refine t_getX C hH hI.1 mq tq td_27 iX0 rfl 0 (by decide) wd197 rfl (hI.rf kq_0) dX0_sift_5 ?_
  refine t_geti C hH hI.1 mq_0 tq_0 td_3 iX3 rfl 8 (by decide) wd234 rfl rfl dX0_sift_8 (fun z59 rz59 => ?_)
  refine lv_aload_n hx hb dX0_sift_11 rfl (lv_at hl 0 rfl) ?_
  refine t_getX C hH hI.1 mq tq td_27 iX0 rfl 0 (by decide) wd197 rfl (hI.rf kq_0) dX0_sift_12 ?_
  refine t_geti C hH hI.1 mq_0 tq_0 td_3 iX3 rfl 3 (by decide) wd263 rfl rfl dX0_sift_15 (fun z60 rz60 => ?_)
  refine t_Vv C hO hl.1 hA hH hI.1 (As := [.int z59, .int z60]) (rest := []) (t_X7_under l E J τ L f hI.1 mq_1 tq_1 z59 z60) my_X7_under wd235 mq_1 tq_1 td_19 rfl rfl rfl (Nat.le_of_ble_eq_true rfl) ⟨Nat.le_of_ble_eq_true rfl, Nat.le_of_ble_eq_true rfl⟩ ⟨rfl, rfl⟩ dX0_sift_18 (fun L1 f61 H locs hp hH => ?_)
  obtain ⟨rfl, s63, h64⟩ := hp
  have hI := hI.call s63 (by decide)
  refine lv_iconst (v := (0 : Int32)) hx hb dX0_sift_21 (by decide) ?_
  refine lv_istore_n (lv' := [(2, .int (0 : Int32)), (0, .ref q), (1, .ref p1)]) hx hb dX0_sift_22 rfl hl (by decide) rfl (fun ls hl => ?_)
  refine lv_iconst (v := (0 : Int32)) hx hb dX0_sift_23 (by decide) ?_
  refine lv_istore_n (lv' := [(3, .int (0 : Int32)), (2, .int (0 : Int32)), (0, .ref q), (1, .ref p1)]) hx hb dX0_sift_24 rfl hl (by decide) rfl (fun ls hl => ?_)
  exact cut25 81 _ _ _ _ (0 : Int32) (0 : Int32) (fu_i 81 rl_0 (by decide)) hI hH (rg_w rl_0 (by decide)) (lv_sub hl [2, 3, 1, 0] rfl)
set_option maxHeartbeats 4000000 in
set_option maxRecDepth 100000 in
theorem t_X4_forget (l : Launch) (E : gE) (J : Nat → Nat) (τ : Nat → Nat) (L : List Nat) (f : gF) (hI : tI E L τ f) {q : Nat} (mq : q ∈ L) (tq : τ q = 24) : tMv l E J yX4_forget cX4_forget 1 (gRm (1) 0 0) [.ref q] L f (tPv E L τ [24] f (fun f1 => True)) := by
  refine tMv.intro (by decide) (Nat.le_of_ble_eq_true rfl) ?_
  intro p e s m below meth c A ls C hr hA hO hH hl
  have C : gC E cX4_forget 1 RX4 p s m _ meth c := C
  have hl : lv_has ls 1 [(0, .ref q)] := hl
  have hx := C.1
  have hb := C.2.1
  have hI := hI.S [24]
  refine lv_aload_n hx hb dX4_forget_0 rfl (lv_at hl 0 rfl) ?_
  refine lv_iconst (v := (0 : Int32)) hx hb dX4_forget_1 (by decide) ?_
  refine t_put C hH hI mq tq (by decide) td_24 iX4 tyX4 tyX4_ok nmX4 rfl 4 (by decide) wd264 rfl rfl (v := .int (0 : Int32)) rfl rfl rfl ⟨_, rfl, (rg_w rl_0 (by decide))⟩ (fun _ h => nomatch h) dX4_forget_2 (fun f1 H locs hH hI nf1 of1 bf1 => ?_)
  exact g_vret C hr hH (Nat.zero_le _) (Nat.zero_le _) dX4_forget_5 ⟨rfl, hI, trivial⟩
set_option maxHeartbeats 4000000 in
set_option maxRecDepth 100000 in
theorem t_X4_tryLamps (l : Launch) (E : gE) (J : Nat → Nat) (τ : Nat → Nat) (L : List Nat) (f : gF) (hI : tI E L τ f) {q : Nat} (mq : q ∈ L) (tq : τ q = 24) (p1 : Int32) (p2 : Int32) : tMv l E J yX4_tryLamps cX4_tryLamps 4 (gRm (4) 0 0) [.ref q, .int p1, .int p2] L f (tPv E L τ [19, 20, 21, 23, 25, 26] f (fun f1 => True)) := by
  refine tMv.intro (by decide) (Nat.le_of_ble_eq_true rfl) ?_
  intro p e s m below meth c A ls C hr hA hO hH hl
  have C : gC E cX4_tryLamps 4 RX4 p s m _ meth c := C
  have hl : lv_has ls 4 [(0, .ref q), (1, .int p1), (2, .int p2)] := hl
  have hx := C.1
  have hb := C.2.1
  have hI := hI.S [19, 20, 21, 23, 25, 26]
  obtain ⟨q_1, mq_1, tq_1, kq_1⟩ := t_fldr hI.1 mq tq td_24 (k := 1) rfl
  obtain ⟨q_0, mq_0, tq_0, kq_0⟩ := t_fldr hI.1 mq tq td_24 (k := 0) rfl
  obtain ⟨q_2, mq_2, tq_2, kq_2⟩ := t_fldr hI.1 mq tq td_24 (k := 2) rfl
  obtain ⟨q_3, mq_3, tq_3, kq_3⟩ := t_fldr hI.1 mq tq td_24 (k := 3) rfl
  have cut62 : ∀ (fh62 : gF) (H : Heap) (locs : List Loc) (ls : Array Slot) (v62_3 : Int32), tS E L τ [19, 20, 21, 23, 25, 26] f fh62 → gH E A L fh62 s.heap H locs → rg v62_3 0 63 → lv_has ls 4 [(0, .ref q), (1, .int p1), (2, .int p2), (3, .int v62_3)] → W p l e (gRm (4) 0 0) s m [.ref q, .int p1, .int p2].toArray below meth c H locs 0 0 (MQ below (gQv E A (tPv E L τ [19, 20, 21, 23, 25, 26] f (fun f1 => True))) [.ref q, .int p1, .int p2].toArray s (gRm (4) 0 0).cells (gRm (4) 0 0).slots A) (F0 m 62 ls []) := by
    intro fh62 H locs ls v62_3 hI hH r_v62_3 hl
    refine lv_aload_n hx hb dX4_tryLamps_62 rfl (lv_at hl 0 rfl) ?_
    refine t_getX C hH hI.1 mq tq td_24 iX4 rfl 2 (by decide) wd265 rfl (hI.rf kq_2) dX4_tryLamps_63 ?_
    refine lv_iload_n hx hb dX4_tryLamps_66 rfl (lv_at hl 3 rfl) ?_
    refine lv_iload_n hx hb dX4_tryLamps_67 rfl (lv_at hl 2 rfl) ?_
    refine t_ast C hH hI mq_2 tq_2 (by decide) td_25 (rg_in r_v62_3 (by decide)) (fun _ _ _ => trivial) dX4_tryLamps_68 (fun f1 H locs hH hI bf1 uf1 => ?_)
    refine lv_aload_n hx hb dX4_tryLamps_69 rfl (lv_at hl 0 rfl) ?_
    refine t_getX C hH hI.1 mq tq td_24 iX4 rfl 3 (by decide) wd266 rfl (hI.rf kq_3) dX4_tryLamps_70 ?_
    refine lv_iload_n hx hb dX4_tryLamps_73 rfl (lv_at hl 3 rfl) ?_
    refine lv_iload_n hx hb dX4_tryLamps_74 rfl (lv_at hl 1 rfl) ?_
    refine t_ast C hH hI mq_3 tq_3 (by decide) td_26 (rg_in r_v62_3 (by decide)) (fun _ _ _ => trivial) dX4_tryLamps_75 (fun f2 H locs hH hI bf2 uf2 => ?_)
    exact g_vret C hr hH (Nat.zero_le _) (Nat.zero_le _) dX4_tryLamps_76 ⟨rfl, hI, trivial⟩
  refine lv_aload_n hx hb dX4_tryLamps_0 rfl (lv_at hl 0 rfl) ?_
  refine t_getX C hH hI.1 mq tq td_24 iX4 rfl 1 (by decide) wd267 rfl (hI.rf kq_1) dX4_tryLamps_1 ?_
  refine lv_iload_n hx hb dX4_tryLamps_4 rfl (lv_at hl 1 rfl) ?_
  refine lv_aload_n hx hb dX4_tryLamps_5 rfl (lv_at hl 0 rfl) ?_
  refine t_getX C hH hI.1 mq tq td_24 iX4 rfl 0 (by decide) wd268 rfl (hI.rf kq_0) dX4_tryLamps_6 ?_
  refine t_geti C hH hI.1 mq_0 tq_0 td_3 iX3 rfl 3 (by decide) wd269 rfl rfl dX4_tryLamps_9 (fun z3 rz3 => ?_)
  refine t_Vv C hO hl.1 hA hH hI.1 (As := [.int p1, .int z3]) (rest := []) (t_X7_under l E J τ L f hI.1 mq_1 tq_1 p1 z3) my_X7_under wd270 mq_1 tq_1 td_19 rfl rfl rfl (Nat.le_of_ble_eq_true rfl) ⟨Nat.le_of_ble_eq_true rfl, Nat.le_of_ble_eq_true rfl⟩ ⟨rfl, rfl⟩ dX4_tryLamps_12 (fun L1 f4 H locs hp hH => ?_)
  obtain ⟨rfl, s6, h7⟩ := hp
  have hI := hI.call s6 (by decide)
  refine lv_aload_n hx hb dX4_tryLamps_15 rfl (lv_at hl 0 rfl) ?_
  refine t_getX C hH hI.1 mq tq td_24 iX4 rfl 1 (by decide) wd267 rfl (hI.rf kq_1) dX4_tryLamps_16 ?_
  refine lv_bipush (v := (15 : Int32)) hx hb dX4_tryLamps_19 (by decide) ?_
  refine t_Vv C hO hl.1 hA hH hI.1 (As := [.int (15 : Int32)]) (rest := []) (t_X7_pass l E J τ L f4 hI.1 mq_1 tq_1 (15 : Int32)) my_X7_pass wd271 mq_1 tq_1 td_19 rfl rfl rfl (Nat.le_of_ble_eq_true rfl) ⟨Nat.le_of_ble_eq_true rfl, Nat.le_of_ble_eq_true rfl⟩ ⟨rfl, rfl⟩ dX4_tryLamps_21 (fun L1 f8 H locs hp hH => ?_)
  obtain ⟨rfl, s10, h11⟩ := hp
  have hI := hI.call s10 (by decide)
  refine lv_aload_n hx hb dX4_tryLamps_24 rfl (lv_at hl 0 rfl) ?_
  refine t_getX C hH hI.1 mq tq td_24 iX4 rfl 1 (by decide) wd267 rfl (hI.rf kq_1) dX4_tryLamps_25 ?_
  refine t_Vi C hO hl.1 hA hH hI.1 (As := []) (rest := []) (t_X7_servedBits l E J τ L f8 hI.1 mq_1 tq_1) my_X7_servedBits wd272 mq_1 tq_1 td_19 rfl rfl rfl (Nat.le_of_ble_eq_true rfl) ⟨Nat.le_of_ble_eq_true rfl, Nat.le_of_ble_eq_true rfl⟩ ⟨rfl, rfl⟩ dX4_tryLamps_28 (fun r13 L1 f12 H locs hp hH => ?_)
  obtain ⟨rfl, s14, h15⟩ := hp
  have hI := hI.call s14 (by decide)
  refine lv_istore_n (lv' := [(3, .int r13), (0, .ref q), (1, .int p1), (2, .int p2)]) hx hb dX4_tryLamps_31 rfl hl (by decide) rfl (fun ls hl => ?_)
  refine lv_iload_n hx hb dX4_tryLamps_32 rfl (lv_at hl 3 rfl) ?_
  refine lv_aload_n hx hb dX4_tryLamps_33 rfl (lv_at hl 1 rfl) ?_
  refine t_getX C hH hI.1 mq tq td_24 iX4 rfl 2 (by decide) wd265 rfl (hI.rf kq_2) dX4_tryLamps_34 ?_
  refine lv_iload_n hx hb dX4_tryLamps_37 rfl (lv_at hl 0 rfl) ?_
  refine t_ald C hH hI.1 mq_2 tq_2 td_25 (rg_in h15 (by decide)) dX4_tryLamps_38 (fun z16v az16 _ => ?_)
  refine lv_topi (fun z16 ez16 => ?_)
  refine lv_icmp_lt (tgt := 62) hx hb dX4_tryLamps_39 (by decide) (fun c17 => ?_) (fun c17 => ?_)
  · skip
    have r18 : rg p2 (-2147483648) 2147483646 := rf_ltl (c_lt c17) (rg_all _) (rg_all _) (by decide)
    have r19 : rg z16 (-2147483647) 2147483647 := rf_ltr (c_lt c17) (rg_all _) (rg_all _) (by decide)
    exact cut62 _ _ _ _ r13 hI hH h15 (lv_sub hl [1, 2, 3, 0] rfl)
  · skip
    refine lv_iload_n hx hb dX4_tryLamps_42 rfl (lv_at hl 3 rfl) ?_
    refine lv_aload_n hx hb dX4_tryLamps_43 rfl (lv_at hl 1 rfl) ?_
    refine t_getX C hH hI.1 mq tq td_24 iX4 rfl 2 (by decide) wd265 rfl (hI.rf kq_2) dX4_tryLamps_44 ?_
    refine lv_iload_n hx hb dX4_tryLamps_47 rfl (lv_at hl 0 rfl) ?_
    refine t_ald C hH hI.1 mq_2 tq_2 td_25 (rg_in h15 (by decide)) dX4_tryLamps_48 (fun z20v az20 _ => ?_)
    refine lv_topi (fun z20 ez20 => ?_)
    refine lv_icmp_ne (tgt := 76) hx hb dX4_tryLamps_49 (by decide) (fun c21 => ?_) (fun c21 => ?_)
    · skip
      exact g_vret C hr hH (Nat.zero_le _) (Nat.zero_le _) dX4_tryLamps_76 ⟨rfl, hI, trivial⟩
    · skip
      refine lv_iload_n hx hb dX4_tryLamps_52 rfl (lv_at hl 2 rfl) ?_
      refine lv_aload_n hx hb dX4_tryLamps_53 rfl (lv_at hl 1 rfl) ?_
      refine t_getX C hH hI.1 mq tq td_24 iX4 rfl 3 (by decide) wd266 rfl (hI.rf kq_3) dX4_tryLamps_54 ?_
      refine lv_iload_n hx hb dX4_tryLamps_57 rfl (lv_at hl 0 rfl) ?_
      refine t_ald C hH hI.1 mq_3 tq_3 td_26 (rg_in h15 (by decide)) dX4_tryLamps_58 (fun z22v az22 _ => ?_)
      refine lv_topi (fun z22 ez22 => ?_)
      refine lv_icmp_ge (tgt := 76) hx hb dX4_tryLamps_59 (by decide) (fun c23 => ?_) (fun c23 => ?_)
      · skip
        exact g_vret C hr hH (Nat.zero_le _) (Nat.zero_le _) dX4_tryLamps_76 ⟨rfl, hI, trivial⟩
      · skip
        have r24 : rg p1 (-2147483648) 2147483646 := rf_ltl (n_le c23) (rg_all _) (rg_all _) (by decide)
        have r25 : rg z22 (-2147483647) 2147483647 := rf_ltr (n_le c23) (rg_all _) (rg_all _) (by decide)
        exact cut62 _ _ _ _ r13 hI hH h15 (lv_sub hl [1, 2, 3, 0] rfl)
set_option maxHeartbeats 4000000 in
set_option maxRecDepth 100000 in
theorem t_X4_learn (l : Launch) (E : gE) (J : Nat → Nat) (τ : Nat → Nat) (L : List Nat) (f : gF) (hI : tI E L τ f) {q : Nat} (mq : q ∈ L) (tq : τ q = 24) : tMv l E J yX4_learn cX4_learn 4 (gRm (5) 0 0) [.ref q] L f (tPv E L τ [19, 20, 21, 23, 24, 25, 26] f (fun f1 => True)) := by
  refine tMv.intro (by decide) (Nat.le_of_ble_eq_true rfl) ?_
  intro p e s m below meth c A ls C hr hA hO hH hl
  have C : gC E cX4_learn 4 RX4 p s m _ meth c := C
  have hl : lv_has ls 4 [(0, .ref q)] := hl
  have hx := C.1
  have hb := C.2.1
  have hI := hI.S [19, 20, 21, 23, 24, 25, 26]
  obtain ⟨q_2, mq_2, tq_2, kq_2⟩ := t_fldr hI.1 mq tq td_24 (k := 2) rfl
  obtain ⟨q_0, mq_0, tq_0, kq_0⟩ := t_fldr hI.1 mq tq td_24 (k := 0) rfl
  have cut25 : ∀ (n : Nat) (fh25 : gF) (H : Heap) (locs : List Loc) (ls : Array Slot) (v25_1 : Int32), 20 - v25_1.toInt < (n : Int) → tS E L τ [19, 20, 21, 23, 24, 25, 26] f fh25 → gH E A L fh25 s.heap H locs → rg v25_1 0 20 → lv_has ls 4 [(0, .ref q), (1, .int v25_1)] → W p l e (gRm (5) 0 0) s m [.ref q].toArray below meth c H locs 0 0 (MQ below (gQv E A (tPv E L τ [19, 20, 21, 23, 24, 25, 26] f (fun f1 => True))) [.ref q].toArray s (gRm (5) 0 0).cells (gRm (5) 0 0).slots A) (F0 m 25 ls []) := by
    intro n
    induction n with
    | zero =>
      intro fh25 H locs ls v25_1 hfu25 hI hH r_v25_1 hl
      exact (fu_0 hfu25 r_v25_1).elim
    | succ n ih25 =>
      intro fh25 H locs ls v25_1 hfu25 hI hH r_v25_1 hl
      have cut46 : ∀ (n : Nat) (fh46 : gF) (H : Heap) (locs : List Loc) (ls : Array Slot) (v46_2 : Int32), 19 - v46_2.toInt < (n : Int) → tS E L τ [19, 20, 21, 23, 24, 25, 26] f fh46 → gH E A L fh46 s.heap H locs → rg v46_2 0 19 → rg v25_1 0 19 → lv_has ls 4 [(0, .ref q), (1, .int v25_1), (2, .int v46_2)] → W p l e (gRm (5) 0 0) s m [.ref q].toArray below meth c H locs 0 0 (MQ below (gQv E A (tPv E L τ [19, 20, 21, 23, 24, 25, 26] f (fun f1 => True))) [.ref q].toArray s (gRm (5) 0 0).cells (gRm (5) 0 0).slots A) (F0 m 46 ls []) := by
        intro n
        induction n with
        | zero =>
          intro fh46 H locs ls v46_2 hfu46 hI hH r_v46_2 r46_v25_1 hl
          exact (fu_0 hfu46 r_v46_2).elim
        | succ n ih46 =>
          intro fh46 H locs ls v46_2 hfu46 hI hH r_v46_2 r46_v25_1 hl
          have cut65 : ∀ (n : Nat) (fh65 : gF) (H : Heap) (locs : List Loc) (ls : Array Slot) (v65_3 : Int32), 19 - v65_3.toInt < (n : Int) → tS E L τ [19, 20, 21, 23, 24, 25, 26] f fh65 → gH E A L fh65 s.heap H locs → rg v65_3 0 19 → rg v25_1 1 19 → rg v46_2 0 18 → lv_has ls 4 [(0, .ref q), (1, .int v25_1), (2, .int v46_2), (3, .int v65_3)] → W p l e (gRm (5) 0 0) s m [.ref q].toArray below meth c H locs 0 0 (MQ below (gQv E A (tPv E L τ [19, 20, 21, 23, 24, 25, 26] f (fun f1 => True))) [.ref q].toArray s (gRm (5) 0 0).cells (gRm (5) 0 0).slots A) (F0 m 65 ls []) := by
            intro n
            induction n with
            | zero =>
              intro fh65 H locs ls v65_3 hfu65 hI hH r_v65_3 r65_v25_1 r65_v46_2 hl
              exact (fu_0 hfu65 r_v65_3).elim
            | succ n ih65 =>
              intro fh65 H locs ls v65_3 hfu65 hI hH r_v65_3 r65_v25_1 r65_v46_2 hl
              refine lv_iload_n hx hb dX4_learn_65 rfl (lv_at hl 3 rfl) ?_
              refine lv_iload_n hx hb dX4_learn_66 rfl (lv_at hl 2 rfl) ?_
              refine lv_icmp_ge (tgt := 92) hx hb dX4_learn_67 (by decide) (fun c1 => ?_) (fun c1 => ?_)
              · skip
                obtain ⟨z2, ez2⟩ : ∃ y : Int32, y = v46_2 + (1 : Int32) := ⟨_, rfl⟩
                have r3 : rg z2 1 19 := rg_add ez2 r65_v46_2 rl_1 (by decide)
                have a4 : z2.toInt = v46_2.toInt + 1 := ai_add ez2 r65_v46_2 tl_1 (by decide)
                refine lv_iinc (v := z2) (lv' := [(2, .int z2), (0, .ref q), (1, .int v25_1), (3, .int v65_3)]) hx hb dX4_learn_92 hl (k := 2) rfl (by rw [ez2]; rfl) (by decide) rfl (fun ls hl => ?_)
                refine lv_goto (tgt := 46) hx hb dX4_learn_95 (by decide) ?_
                exact ih46 _ _ _ _ z2 (fu_s hfu46 a4 (by decide)) hI hH (rg_w r3 (by decide)) (rg_w r65_v25_1 (by decide)) (lv_sub hl [1, 2, 0] rfl)
              · skip
                have r5 : rg v65_3 0 17 := rf_ltl (n_le c1) r_v65_3 r65_v46_2 (by decide)
                have r6 : rg v46_2 1 18 := rf_ltr (n_le c1) r_v65_3 r65_v46_2 (by decide)
                refine lv_aload_n hx hb dX4_learn_70 rfl (lv_at hl 0 rfl) ?_
                refine lv_iconst (v := (1 : Int32)) hx hb dX4_learn_71 (by decide) ?_
                refine lv_iload_n hx hb dX4_learn_72 rfl (lv_at hl 1 rfl) ?_
                refine lv_ishl hx hb dX4_learn_73 ?_
                refine lv_topi (fun z7 ez7 => ?_)
                have r8 : rg z7 2 524288 := rg_shl 1 19 ez7 r65_v25_1 (by decide)
                refine lv_iconst (v := (1 : Int32)) hx hb dX4_learn_74 (by decide) ?_
                refine lv_iload_n hx hb dX4_learn_75 rfl (lv_at hl 2 rfl) ?_
                refine lv_ishl hx hb dX4_learn_76 ?_
                refine lv_topi (fun z9 ez9 => ?_)
                have r10 : rg z9 2 262144 := rg_shl 1 18 ez9 r6 (by decide)
                refine lv_ior hx hb dX4_learn_77 ?_
                refine lv_topi (fun z11 ez11 => ?_)
                have r12 : rg z11 0 1048575 := rg_or 20 ez11 r8 r10 (by decide)
                refine lv_iconst (v := (1 : Int32)) hx hb dX4_learn_78 (by decide) ?_
                refine lv_iload_n hx hb dX4_learn_79 rfl (lv_at hl 3 rfl) ?_
                refine lv_ishl hx hb dX4_learn_80 ?_
                refine lv_topi (fun z13 ez13 => ?_)
                have r14 : rg z13 1 131072 := rg_shl 0 17 ez13 r5 (by decide)
                refine lv_ior hx hb dX4_learn_81 ?_
                refine lv_topi (fun z15 ez15 => ?_)
                have r16 : rg z15 0 1048575 := rg_or 20 ez15 r12 r14 (by decide)
                refine lv_iconst (v := (3 : Int32)) hx hb dX4_learn_82 (by decide) ?_
                refine t_Vv C hO hl.1 hA hH hI.1 (As := [.int z15, .int (3 : Int32)]) (rest := []) (t_X4_tryLamps l E J τ L fh65 hI.1 mq tq z15 (3 : Int32)) my_X4_tryLamps wd277 mq tq td_24 rfl rfl rfl (Nat.le_of_ble_eq_true rfl) ⟨Nat.le_of_ble_eq_true rfl, Nat.le_of_ble_eq_true rfl⟩ ⟨rfl, rfl⟩ dX4_learn_83 (fun L1 f17 H locs hp hH => ?_)
                obtain ⟨rfl, s19, h20⟩ := hp
                have hI := hI.call s19 (by decide)
                obtain ⟨z21, ez21⟩ : ∃ y : Int32, y = v65_3 + (1 : Int32) := ⟨_, rfl⟩
                have r22 : rg z21 1 18 := rg_add ez21 r5 rl_1 (by decide)
                have a23 : z21.toInt = v65_3.toInt + 1 := ai_add ez21 r5 tl_1 (by decide)
                refine lv_iinc (v := z21) (lv' := [(3, .int z21), (0, .ref q), (1, .int v25_1), (2, .int v46_2)]) hx hb dX4_learn_86 hl (k := 3) rfl (by rw [ez21]; rfl) (by decide) rfl (fun ls hl => ?_)
                refine lv_goto (tgt := 65) hx hb dX4_learn_89 (by decide) ?_
                exact ih65 _ _ _ _ z21 (fu_s hfu65 a23 (by decide)) hI hH (rg_w r22 (by decide)) r65_v25_1 (rg_w r6 (by decide)) (lv_sub hl [1, 2, 3, 0] rfl)
          refine lv_iload_n hx hb dX4_learn_46 rfl (lv_at hl 2 rfl) ?_
          refine lv_iload_n hx hb dX4_learn_47 rfl (lv_at hl 1 rfl) ?_
          refine lv_icmp_ge (tgt := 98) hx hb dX4_learn_48 (by decide) (fun c24 => ?_) (fun c24 => ?_)
          · skip
            obtain ⟨z25, ez25⟩ : ∃ y : Int32, y = v25_1 + (1 : Int32) := ⟨_, rfl⟩
            have r26 : rg z25 1 20 := rg_add ez25 r46_v25_1 rl_1 (by decide)
            have a27 : z25.toInt = v25_1.toInt + 1 := ai_add ez25 r46_v25_1 tl_1 (by decide)
            refine lv_iinc (v := z25) (lv' := [(1, .int z25), (0, .ref q), (2, .int v46_2)]) hx hb dX4_learn_98 hl (k := 1) rfl (by rw [ez25]; rfl) (by decide) rfl (fun ls hl => ?_)
            refine lv_goto (tgt := 25) hx hb dX4_learn_101 (by decide) ?_
            exact ih25 _ _ _ _ z25 (fu_s hfu25 a27 (by decide)) hI hH (rg_w r26 (by decide)) (lv_sub hl [1, 0] rfl)
          · skip
            have r28 : rg v46_2 0 18 := rf_ltl (n_le c24) r_v46_2 r46_v25_1 (by decide)
            have r29 : rg v25_1 1 19 := rf_ltr (n_le c24) r_v46_2 r46_v25_1 (by decide)
            refine lv_aload_n hx hb dX4_learn_51 rfl (lv_at hl 0 rfl) ?_
            refine lv_iconst (v := (1 : Int32)) hx hb dX4_learn_52 (by decide) ?_
            refine lv_iload_n hx hb dX4_learn_53 rfl (lv_at hl 1 rfl) ?_
            refine lv_ishl hx hb dX4_learn_54 ?_
            refine lv_topi (fun z30 ez30 => ?_)
            have r31 : rg z30 2 524288 := rg_shl 1 19 ez30 r29 (by decide)
            refine lv_iconst (v := (1 : Int32)) hx hb dX4_learn_55 (by decide) ?_
            refine lv_iload_n hx hb dX4_learn_56 rfl (lv_at hl 2 rfl) ?_
            refine lv_ishl hx hb dX4_learn_57 ?_
            refine lv_topi (fun z32 ez32 => ?_)
            have r33 : rg z32 1 262144 := rg_shl 0 18 ez32 r28 (by decide)
            refine lv_ior hx hb dX4_learn_58 ?_
            refine lv_topi (fun z34 ez34 => ?_)
            have r35 : rg z34 0 1048575 := rg_or 20 ez34 r31 r33 (by decide)
            refine lv_iconst (v := (2 : Int32)) hx hb dX4_learn_59 (by decide) ?_
            refine t_Vv C hO hl.1 hA hH hI.1 (As := [.int z34, .int (2 : Int32)]) (rest := []) (t_X4_tryLamps l E J τ L fh46 hI.1 mq tq z34 (2 : Int32)) my_X4_tryLamps wd277 mq tq td_24 rfl rfl rfl (Nat.le_of_ble_eq_true rfl) ⟨Nat.le_of_ble_eq_true rfl, Nat.le_of_ble_eq_true rfl⟩ ⟨rfl, rfl⟩ dX4_learn_60 (fun L1 f36 H locs hp hH => ?_)
            obtain ⟨rfl, s38, h39⟩ := hp
            have hI := hI.call s38 (by decide)
            refine lv_iconst (v := (0 : Int32)) hx hb dX4_learn_63 (by decide) ?_
            refine lv_istore_n (lv' := [(3, .int (0 : Int32)), (0, .ref q), (1, .int v25_1), (2, .int v46_2)]) hx hb dX4_learn_64 rfl hl (by decide) rfl (fun ls hl => ?_)
            exact cut65 20 _ _ _ _ (0 : Int32) (fu_i 20 rl_0 (by decide)) hI hH (rg_w rl_0 (by decide)) r29 r28 (lv_sub hl [1, 2, 3, 0] rfl)
      refine lv_iload_n hx hb dX4_learn_25 rfl (lv_at hl 1 rfl) ?_
      refine lv_aload_n hx hb dX4_learn_26 rfl (lv_at hl 0 rfl) ?_
      refine t_getX C hH hI.1 mq tq td_24 iX4 rfl 0 (by decide) wd268 rfl (hI.rf kq_0) dX4_learn_27 ?_
      refine t_Vi C hO hl.1 hA hH hI.1 (As := []) (rest := [.int v25_1]) (t_X3_cells l E J τ L fh25 hI.1 mq_0 tq_0) my_X3_cells wd278 mq_0 tq_0 td_3 rfl rfl rfl (Nat.le_of_ble_eq_true rfl) ⟨Nat.le_of_ble_eq_true rfl, Nat.le_of_ble_eq_true rfl⟩ ⟨rfl, rfl⟩ dX4_learn_30 (fun r41 L1 f40 H locs hp hH => ?_)
      obtain ⟨rfl, s42, h43⟩ := hp
      have hI := hI.call s42 (by decide)
      refine lv_icmp_ge (tgt := 104) hx hb dX4_learn_33 (by decide) (fun c44 => ?_) (fun c44 => ?_)
      · skip
        refine lv_aload_n hx hb dX4_learn_104 rfl (lv_at hl 0 rfl) ?_
        refine lv_iconst (v := (1 : Int32)) hx hb dX4_learn_105 (by decide) ?_
        refine t_put C hH hI mq tq (by decide) td_24 iX4 tyX4 tyX4_ok nmX4 rfl 4 (by decide) wd264 rfl rfl (v := .int (1 : Int32)) rfl rfl rfl ⟨_, rfl, (rg_w rl_1 (by decide))⟩ (fun _ h => nomatch h) dX4_learn_106 (fun f45 H locs hH hI nf45 of45 bf45 => ?_)
        exact g_vret C hr hH (Nat.zero_le _) (Nat.zero_le _) dX4_learn_109 ⟨rfl, hI, trivial⟩
      · skip
        have r46 : rg v25_1 0 19 := rf_ltl (n_le c44) r_v25_1 h43 (by decide)
        have r47 : rg r41 1 20 := rf_ltr (n_le c44) r_v25_1 h43 (by decide)
        refine lv_aload_n hx hb dX4_learn_36 rfl (lv_at hl 0 rfl) ?_
        refine lv_iconst (v := (1 : Int32)) hx hb dX4_learn_37 (by decide) ?_
        refine lv_iload_n hx hb dX4_learn_38 rfl (lv_at hl 1 rfl) ?_
        refine lv_ishl hx hb dX4_learn_39 ?_
        refine lv_topi (fun z48 ez48 => ?_)
        have r49 : rg z48 1 524288 := rg_shl 0 19 ez48 r46 (by decide)
        refine lv_iconst (v := (1 : Int32)) hx hb dX4_learn_40 (by decide) ?_
        refine t_Vv C hO hl.1 hA hH hI.1 (As := [.int z48, .int (1 : Int32)]) (rest := []) (t_X4_tryLamps l E J τ L f40 hI.1 mq tq z48 (1 : Int32)) my_X4_tryLamps wd277 mq tq td_24 rfl rfl rfl (Nat.le_of_ble_eq_true rfl) ⟨Nat.le_of_ble_eq_true rfl, Nat.le_of_ble_eq_true rfl⟩ ⟨rfl, rfl⟩ dX4_learn_41 (fun L1 f50 H locs hp hH => ?_)
        obtain ⟨rfl, s52, h53⟩ := hp
        have hI := hI.call s52 (by decide)
        refine lv_iconst (v := (0 : Int32)) hx hb dX4_learn_44 (by decide) ?_
        refine lv_istore_n (lv' := [(2, .int (0 : Int32)), (0, .ref q), (1, .int v25_1)]) hx hb dX4_learn_45 rfl hl (by decide) rfl (fun ls hl => ?_)
        exact cut46 20 _ _ _ _ (0 : Int32) (fu_i 20 rl_0 (by decide)) hI hH (rg_w rl_0 (by decide)) r46 (lv_sub hl [1, 2, 0] rfl)
  refine lv_aload_n hx hb dX4_learn_0 rfl (lv_at hl 0 rfl) ?_
  refine t_geti C hH hI.1 mq tq td_24 iX4 rfl 4 (by decide) wd264 rfl rfl dX4_learn_1 (fun z54 rz54 => ?_)
  refine lv_if_eq (tgt := 8) hx hb dX4_learn_4 (by decide) (fun c55 => ?_) (fun c55 => ?_)
  · skip
    have r56 : rg z54 0 0 := rf_eql (c_eq c55) rz54 rl_0 (by decide)
    refine lv_aload_n hx hb dX4_learn_8 rfl (lv_at hl 0 rfl) ?_
    refine t_getX C hH hI.1 mq tq td_24 iX4 rfl 2 (by decide) wd265 rfl (hI.rf kq_2) dX4_learn_9 ?_
    refine lv_bipush (v := (99 : Int32)) hx hb dX4_learn_12 (by decide) ?_
    refine t_Sv C hO hl.1 hA hH (As := [.ref q_2, .int (99 : Int32)]) (rest := []) (t_fill_25 l E J τ L f hI.1 mq_2 tq_2 (99 : Int32)) my_J7_fill_53178 wd279 rfl rfl (Nat.le_of_ble_eq_true rfl) ⟨Nat.le_of_ble_eq_true rfl, Nat.le_of_ble_eq_true rfl⟩ ⟨rfl, rfl⟩ dX4_learn_14 (fun L1 f57 H locs hp hH => ?_)
    obtain ⟨rfl, s59, h60⟩ := hp
    have hI := hI.call s59 (by decide)
    refine lv_aload_n hx hb dX4_learn_17 rfl (lv_at hl 0 rfl) ?_
    refine lv_iconst (v := (0 : Int32)) hx hb dX4_learn_18 (by decide) ?_
    refine lv_iconst (v := (0 : Int32)) hx hb dX4_learn_19 (by decide) ?_
    refine t_Vv C hO hl.1 hA hH hI.1 (As := [.int (0 : Int32), .int (0 : Int32)]) (rest := []) (t_X4_tryLamps l E J τ L f57 hI.1 mq tq (0 : Int32) (0 : Int32)) my_X4_tryLamps wd277 mq tq td_24 rfl rfl rfl (Nat.le_of_ble_eq_true rfl) ⟨Nat.le_of_ble_eq_true rfl, Nat.le_of_ble_eq_true rfl⟩ ⟨rfl, rfl⟩ dX4_learn_20 (fun L1 f61 H locs hp hH => ?_)
    obtain ⟨rfl, s63, h64⟩ := hp
    have hI := hI.call s63 (by decide)
    refine lv_iconst (v := (0 : Int32)) hx hb dX4_learn_23 (by decide) ?_
    refine lv_istore_n (lv' := [(1, .int (0 : Int32)), (0, .ref q)]) hx hb dX4_learn_24 rfl hl (by decide) rfl (fun ls hl => ?_)
    exact cut25 21 _ _ _ _ (0 : Int32) (fu_i 21 rl_0 (by decide)) hI hH (rg_w rl_0 (by decide)) (lv_sub hl [1, 0] rfl)
  · skip
    have r65 : rg z54 1 1 := rf_nel (n_eq c55) rz54 rl_0 (by decide)
    exact g_vret C hr hH (Nat.zero_le _) (Nat.zero_le _) dX4_learn_7 ⟨rfl, hI, trivial⟩
set_option maxHeartbeats 4000000 in
set_option maxRecDepth 100000 in
theorem t_X4_isCheaper (l : Launch) (E : gE) (J : Nat → Nat) (τ : Nat → Nat) (L : List Nat) (f : gF) (hI : tI E L τ f) {q : Nat} (mq : q ∈ L) (tq : τ q = 24) (p1 : Int32) (rp1 : rg p1 0 63) (p2 : Int32) (rp2 : rg p2 0 63) : tMi l E J yX4_isCheaper cX4_isCheaper 3 .boolean (gRm (1) 0 0) [.ref q, .int p1, .int p2] L f (tPi E L τ [] f (fun r f1 => rg r 0 1)) := by
  refine tMi.intro (by decide) (Nat.le_of_ble_eq_true rfl) ?_
  intro p e s m below meth c A ls C hr hA hO hH hl
  have C : gC E cX4_isCheaper 3 RX4 p s m _ meth c := C
  have hl : lv_has ls 3 [(0, .ref q), (1, .int p1), (2, .int p2)] := hl
  have hx := C.1
  have hb := C.2.1
  have hI := hI.S []
  obtain ⟨q_2, mq_2, tq_2, kq_2⟩ := t_fldr hI.1 mq tq td_24 (k := 2) rfl
  obtain ⟨q_3, mq_3, tq_3, kq_3⟩ := t_fldr hI.1 mq tq td_24 (k := 3) rfl
  refine lv_aload_n hx hb dX4_isCheaper_0 rfl (lv_at hl 0 rfl) ?_
  refine t_getX C hH hI.1 mq tq td_24 iX4 rfl 2 (by decide) wd265 rfl (hI.rf kq_2) dX4_isCheaper_1 ?_
  refine lv_iload_n hx hb dX4_isCheaper_4 rfl (lv_at hl 1 rfl) ?_
  refine t_ald C hH hI.1 mq_2 tq_2 td_25 (rg_in rp1 (by decide)) dX4_isCheaper_5 (fun z1v az1 _ => ?_)
  refine lv_topi (fun z1 ez1 => ?_)
  refine lv_aload_n hx hb dX4_isCheaper_6 rfl (lv_at hl 0 rfl) ?_
  refine t_getX C hH hI.1 mq tq td_24 iX4 rfl 2 (by decide) wd265 rfl (hI.rf kq_2) dX4_isCheaper_7 ?_
  refine lv_iload_n hx hb dX4_isCheaper_10 rfl (lv_at hl 2 rfl) ?_
  refine t_ald C hH hI.1 mq_2 tq_2 td_25 (rg_in rp2 (by decide)) dX4_isCheaper_11 (fun z2v az2 _ => ?_)
  refine lv_topi (fun z2 ez2 => ?_)
  refine lv_icmp_lt (tgt := 45) hx hb dX4_isCheaper_12 (by decide) (fun c3 => ?_) (fun c3 => ?_)
  · skip
    have r4 : rg z1 (-2147483648) 2147483646 := rf_ltl (c_lt c3) (rg_all _) (rg_all _) (by decide)
    have r5 : rg z2 (-2147483647) 2147483647 := rf_ltr (c_lt c3) (rg_all _) (rg_all _) (by decide)
    refine lv_iconst (v := (1 : Int32)) hx hb dX4_isCheaper_45 (by decide) ?_
    refine lv_goto (tgt := 50) hx hb dX4_isCheaper_46 (by decide) ?_
    exact g_zret C hr (rg_z (rg_w rl_1 (by decide))) hH (Nat.zero_le _) (Nat.zero_le _) dX4_isCheaper_50 ⟨rfl, hI, (rg_w rl_1 (by decide))⟩
  · skip
    refine lv_aload_n hx hb dX4_isCheaper_15 rfl (lv_at hl 0 rfl) ?_
    refine t_getX C hH hI.1 mq tq td_24 iX4 rfl 2 (by decide) wd265 rfl (hI.rf kq_2) dX4_isCheaper_16 ?_
    refine lv_iload_n hx hb dX4_isCheaper_19 rfl (lv_at hl 1 rfl) ?_
    refine t_ald C hH hI.1 mq_2 tq_2 td_25 (rg_in rp1 (by decide)) dX4_isCheaper_20 (fun z6v az6 _ => ?_)
    refine lv_topi (fun z6 ez6 => ?_)
    refine lv_aload_n hx hb dX4_isCheaper_21 rfl (lv_at hl 0 rfl) ?_
    refine t_getX C hH hI.1 mq tq td_24 iX4 rfl 2 (by decide) wd265 rfl (hI.rf kq_2) dX4_isCheaper_22 ?_
    refine lv_iload_n hx hb dX4_isCheaper_25 rfl (lv_at hl 2 rfl) ?_
    refine t_ald C hH hI.1 mq_2 tq_2 td_25 (rg_in rp2 (by decide)) dX4_isCheaper_26 (fun z7v az7 _ => ?_)
    refine lv_topi (fun z7 ez7 => ?_)
    refine lv_icmp_ne (tgt := 49) hx hb dX4_isCheaper_27 (by decide) (fun c8 => ?_) (fun c8 => ?_)
    · skip
      refine lv_iconst (v := (0 : Int32)) hx hb dX4_isCheaper_49 (by decide) ?_
      exact g_zret C hr (rg_z (rg_w rl_0 (by decide))) hH (Nat.zero_le _) (Nat.zero_le _) dX4_isCheaper_50 ⟨rfl, hI, (rg_w rl_0 (by decide))⟩
    · skip
      refine lv_aload_n hx hb dX4_isCheaper_30 rfl (lv_at hl 0 rfl) ?_
      refine t_getX C hH hI.1 mq tq td_24 iX4 rfl 3 (by decide) wd266 rfl (hI.rf kq_3) dX4_isCheaper_31 ?_
      refine lv_iload_n hx hb dX4_isCheaper_34 rfl (lv_at hl 1 rfl) ?_
      refine t_ald C hH hI.1 mq_3 tq_3 td_26 (rg_in rp1 (by decide)) dX4_isCheaper_35 (fun z9v az9 _ => ?_)
      refine lv_topi (fun z9 ez9 => ?_)
      refine lv_aload_n hx hb dX4_isCheaper_36 rfl (lv_at hl 0 rfl) ?_
      refine t_getX C hH hI.1 mq tq td_24 iX4 rfl 3 (by decide) wd266 rfl (hI.rf kq_3) dX4_isCheaper_37 ?_
      refine lv_iload_n hx hb dX4_isCheaper_40 rfl (lv_at hl 2 rfl) ?_
      refine t_ald C hH hI.1 mq_3 tq_3 td_26 (rg_in rp2 (by decide)) dX4_isCheaper_41 (fun z10v az10 _ => ?_)
      refine lv_topi (fun z10 ez10 => ?_)
      refine lv_icmp_ge (tgt := 49) hx hb dX4_isCheaper_42 (by decide) (fun c11 => ?_) (fun c11 => ?_)
      · skip
        refine lv_iconst (v := (0 : Int32)) hx hb dX4_isCheaper_49 (by decide) ?_
        exact g_zret C hr (rg_z (rg_w rl_0 (by decide))) hH (Nat.zero_le _) (Nat.zero_le _) dX4_isCheaper_50 ⟨rfl, hI, (rg_w rl_0 (by decide))⟩
      · skip
        have r12 : rg z9 (-2147483648) 2147483646 := rf_ltl (n_le c11) (rg_all _) (rg_all _) (by decide)
        have r13 : rg z10 (-2147483647) 2147483647 := rf_ltr (n_le c11) (rg_all _) (rg_all _) (by decide)
        refine lv_iconst (v := (1 : Int32)) hx hb dX4_isCheaper_45 (by decide) ?_
        refine lv_goto (tgt := 50) hx hb dX4_isCheaper_46 (by decide) ?_
        exact g_zret C hr (rg_z (rg_w rl_1 (by decide))) hH (Nat.zero_le _) (Nat.zero_le _) dX4_isCheaper_50 ⟨rfl, hI, (rg_w rl_1 (by decide))⟩
set_option maxHeartbeats 4000000 in
set_option maxRecDepth 100000 in
theorem t_X4_cheapest (l : Launch) (E : gE) (J : Nat → Nat) (τ : Nat → Nat) (L : List Nat) (f : gF) (hI : tI E L τ f) {q : Nat} (mq : q ∈ L) (tq : τ q = 24) (p1 : Int32) : tMi l E J yX4_cheapest cX4_cheapest 5 .int (gRm (2) 0 0) [.ref q, .int p1] L f (tPi E L τ [] f (fun r f1 => rg r (-1) 63)) := by
  refine tMi.intro (by decide) (Nat.le_of_ble_eq_true rfl) ?_
  intro p e s m below meth c A ls C hr hA hO hH hl
  have C : gC E cX4_cheapest 5 RX4 p s m _ meth c := C
  have hl : lv_has ls 5 [(0, .ref q), (1, .int p1)] := hl
  have hx := C.1
  have hb := C.2.1
  have hI := hI.S []
  obtain ⟨q_2, mq_2, tq_2, kq_2⟩ := t_fldr hI.1 mq tq td_24 (k := 2) rfl
  have cut4 : ∀ (n : Nat) (fh4 : gF) (H : Heap) (locs : List Loc) (ls : Array Slot) (v4_2 : Int32) (v4_3 : Int32), 64 - v4_3.toInt < (n : Int) → tS E L τ [] f fh4 → gH E A L fh4 s.heap H locs → rg v4_2 (-1) 63 → rg v4_3 0 64 → lv_has ls 5 [(0, .ref q), (1, .int p1), (2, .int v4_2), (3, .int v4_3)] → W p l e (gRm (2) 0 0) s m [.ref q, .int p1].toArray below meth c H locs 0 0 (MQ below (gQi E A (tPi E L τ [] f (fun r f1 => rg r (-1) 63))) [.ref q, .int p1].toArray s (gRm (2) 0 0).cells (gRm (2) 0 0).slots A) (F0 m 4 ls []) := by
    intro n
    induction n with
    | zero =>
      intro fh4 H locs ls v4_2 v4_3 hfu4 hI hH r_v4_2 r_v4_3 hl
      exact (fu_0 hfu4 r_v4_3).elim
    | succ n ih4 =>
      intro fh4 H locs ls v4_2 v4_3 hfu4 hI hH r_v4_2 r_v4_3 hl
      have cut32 : ∀ (fh32 : gF) (H : Heap) (locs : List Loc) (ls : Array Slot) , tS E L τ [] f fh32 → gH E A L fh32 s.heap H locs → rg v4_3 0 63 → lv_has ls 5 [(0, .ref q), (1, .int p1), (2, .int v4_2), (3, .int v4_3)] → W p l e (gRm (2) 0 0) s m [.ref q, .int p1].toArray below meth c H locs 0 0 (MQ below (gQi E A (tPi E L τ [] f (fun r f1 => rg r (-1) 63))) [.ref q, .int p1].toArray s (gRm (2) 0 0).cells (gRm (2) 0 0).slots A) (F0 m 32 ls []) := by
        intro fh32 H locs ls hI hH r32_v4_3 hl
        refine lv_iconst (v := (0 : Int32)) hx hb dX4_cheapest_32 (by decide) ?_
        refine lv_istore (lv' := [(4, .int (0 : Int32)), (0, .ref q), (1, .int p1), (2, .int v4_2), (3, .int v4_3)]) hx hb dX4_cheapest_33 hl (by decide) rfl (fun ls hl => ?_)
        refine lv_iload hx hb dX4_cheapest_35 (lv_at hl 0 rfl) ?_
        refine lv_if_eq (tgt := 56) hx hb dX4_cheapest_37 (by decide) (fun _ => ?_) (fun h => absurd (by decide) h)
        obtain ⟨z1, ez1⟩ : ∃ y : Int32, y = v4_3 + (1 : Int32) := ⟨_, rfl⟩
        have r2 : rg z1 1 64 := rg_add ez1 r32_v4_3 rl_1 (by decide)
        have a3 : z1.toInt = v4_3.toInt + 1 := ai_add ez1 r32_v4_3 tl_1 (by decide)
        refine lv_iinc (v := z1) (lv' := [(3, .int z1), (4, .int (0 : Int32)), (0, .ref q), (1, .int p1), (2, .int v4_2)]) hx hb dX4_cheapest_56 hl (k := 4) rfl (by rw [ez1]; rfl) (by decide) rfl (fun ls hl => ?_)
        refine lv_goto (tgt := 4) hx hb dX4_cheapest_59 (by decide) ?_
        exact ih4 _ _ _ _ v4_2 z1 (fu_s hfu4 a3 (by decide)) hI hH r_v4_2 (rg_w r2 (by decide)) (lv_sub hl [2, 3, 4, 0] rfl)
      refine lv_iload_n hx hb dX4_cheapest_4 rfl (lv_at hl 3 rfl) ?_
      refine lv_bipush (v := (64 : Int32)) hx hb dX4_cheapest_5 (by decide) ?_
      refine lv_icmp_ge (tgt := 62) hx hb dX4_cheapest_7 (by decide) (fun c4 => ?_) (fun c4 => ?_)
      · skip
        have r5 : rg v4_3 64 64 := rf_ler (c_le c4) rl_64 r_v4_3 (by decide)
        refine lv_iload_n hx hb dX4_cheapest_62 rfl (lv_at hl 2 rfl) ?_
        exact g_iret C hr hH (Nat.zero_le _) (Nat.zero_le _) dX4_cheapest_63 ⟨rfl, hI, r_v4_2⟩
      · skip
        have r6 : rg v4_3 0 63 := rf_ltl (n_le c4) r_v4_3 rl_64 (by decide)
        refine lv_aload_n hx hb dX4_cheapest_10 rfl (lv_at hl 0 rfl) ?_
        refine t_getX C hH hI.1 mq tq td_24 iX4 rfl 2 (by decide) wd265 rfl (hI.rf kq_2) dX4_cheapest_11 ?_
        refine lv_iload_n hx hb dX4_cheapest_14 rfl (lv_at hl 3 rfl) ?_
        refine t_ald C hH hI.1 mq_2 tq_2 td_25 (rg_in r6 (by decide)) dX4_cheapest_15 (fun z7v az7 _ => ?_)
        refine lv_topi (fun z7 ez7 => ?_)
        refine lv_bipush (v := (99 : Int32)) hx hb dX4_cheapest_16 (by decide) ?_
        refine lv_icmp_eq (tgt := 32) hx hb dX4_cheapest_18 (by decide) (fun c8 => ?_) (fun c8 => ?_)
        · skip
          have r9 : rg z7 99 99 := rf_eql (c_eq c8) (rg_all _) rl_99 (by decide)
          exact cut32 _ _ _ _ hI hH r6 (lv_sub hl [0, 1, 2, 3] rfl)
        · skip
          refine lv_iload_n hx hb dX4_cheapest_21 rfl (lv_at hl 3 rfl) ?_
          refine lv_iload_n hx hb dX4_cheapest_22 rfl (lv_at hl 1 rfl) ?_
          refine lv_iand hx hb dX4_cheapest_23 ?_
          refine lv_topi (fun z10 ez10 => ?_)
          have r11 : rg z10 0 63 := rg_andl ez10 r6 (by decide)
          refine lv_iload_n hx hb dX4_cheapest_24 rfl (lv_at hl 1 rfl) ?_
          refine lv_icmp_ne (tgt := 32) hx hb dX4_cheapest_25 (by decide) (fun c12 => ?_) (fun c12 => ?_)
          · skip
            exact cut32 _ _ _ _ hI hH r6 (lv_sub hl [0, 1, 2, 3] rfl)
          · skip
            have r13 : rg p1 0 63 := rf_eqr (c_eq c12) r11 (rg_all _) (by decide)
            refine lv_iconst (v := (1 : Int32)) hx hb dX4_cheapest_28 (by decide) ?_
            refine lv_goto (tgt := 33) hx hb dX4_cheapest_29 (by decide) ?_
            refine lv_istore (lv' := [(4, .int (1 : Int32)), (0, .ref q), (1, .int p1), (2, .int v4_2), (3, .int v4_3)]) hx hb dX4_cheapest_33 hl (by decide) rfl (fun ls hl => ?_)
            refine lv_iload hx hb dX4_cheapest_35 (lv_at hl 0 rfl) ?_
            refine lv_if_eq (tgt := 56) hx hb dX4_cheapest_37 (by decide) (fun h => absurd h (by decide)) (fun _ => ?_)
            refine lv_iload_n hx hb dX4_cheapest_40 rfl (lv_at hl 3 rfl) ?_
            refine lv_iconst (v := (-1 : Int32)) hx hb dX4_cheapest_41 (by decide) ?_
            refine lv_icmp_eq (tgt := 54) hx hb dX4_cheapest_42 (by decide) (fun c14 => ?_) (fun c14 => ?_)
            · skip
              have r15 : rg v4_2 (-1) (-1) := rf_eql (c_eq c14) r_v4_2 rl_m1 (by decide)
              refine lv_iload_n hx hb dX4_cheapest_54 rfl (lv_at hl 4 rfl) ?_
              refine lv_istore_n (lv' := [(2, .int v4_3), (4, .int (1 : Int32)), (0, .ref q), (1, .int p1), (3, .int v4_3)]) hx hb dX4_cheapest_55 rfl hl (by decide) rfl (fun ls hl => ?_)
              obtain ⟨z16, ez16⟩ : ∃ y : Int32, y = v4_3 + (1 : Int32) := ⟨_, rfl⟩
              have r17 : rg z16 1 64 := rg_add ez16 r6 rl_1 (by decide)
              have a18 : z16.toInt = v4_3.toInt + 1 := ai_add ez16 r6 tl_1 (by decide)
              refine lv_iinc (v := z16) (lv' := [(3, .int z16), (2, .int v4_3), (4, .int (1 : Int32)), (0, .ref q), (1, .int p1)]) hx hb dX4_cheapest_56 hl (k := 4) rfl (by rw [ez16]; rfl) (by decide) rfl (fun ls hl => ?_)
              refine lv_goto (tgt := 4) hx hb dX4_cheapest_59 (by decide) ?_
              exact ih4 _ _ _ _ v4_3 z16 (fu_s hfu4 a18 (by decide)) hI hH (rg_w r6 (by decide)) (rg_w r17 (by decide)) (lv_sub hl [3, 4, 1, 0] rfl)
            · skip
              have r19 : rg v4_2 0 63 := rf_nel (n_eq c14) r_v4_2 rl_m1 (by decide)
              refine lv_aload_n hx hb dX4_cheapest_45 rfl (lv_at hl 1 rfl) ?_
              refine lv_iload_n hx hb dX4_cheapest_46 rfl (lv_at hl 4 rfl) ?_
              refine lv_iload_n hx hb dX4_cheapest_47 rfl (lv_at hl 3 rfl) ?_
              refine t_Vi C hO hl.1 hA hH hI.1 (As := [.int v4_3, .int v4_2]) (rest := []) (t_X4_isCheaper l E J τ L fh4 hI.1 mq tq v4_3 r6 v4_2 r19) my_X4_isCheaper wd283 mq tq td_24 rfl rfl rfl (Nat.le_of_ble_eq_true rfl) ⟨Nat.le_of_ble_eq_true rfl, Nat.le_of_ble_eq_true rfl⟩ ⟨rfl, rfl⟩ dX4_cheapest_48 (fun r21 L1 f20 H locs hp hH => ?_)
              obtain ⟨rfl, s22, h23⟩ := hp
              have hI := hI.call s22 (by decide)
              refine lv_if_eq (tgt := 56) hx hb dX4_cheapest_51 (by decide) (fun c24 => ?_) (fun c24 => ?_)
              · skip
                have r25 : rg r21 0 0 := rf_eql (c_eq c24) h23 rl_0 (by decide)
                obtain ⟨z26, ez26⟩ : ∃ y : Int32, y = v4_3 + (1 : Int32) := ⟨_, rfl⟩
                have r27 : rg z26 1 64 := rg_add ez26 r6 rl_1 (by decide)
                have a28 : z26.toInt = v4_3.toInt + 1 := ai_add ez26 r6 tl_1 (by decide)
                refine lv_iinc (v := z26) (lv' := [(3, .int z26), (4, .int (1 : Int32)), (0, .ref q), (1, .int p1), (2, .int v4_2)]) hx hb dX4_cheapest_56 hl (k := 4) rfl (by rw [ez26]; rfl) (by decide) rfl (fun ls hl => ?_)
                refine lv_goto (tgt := 4) hx hb dX4_cheapest_59 (by decide) ?_
                exact ih4 _ _ _ _ v4_2 z26 (fu_s hfu4 a28 (by decide)) hI hH (rg_w r19 (by decide)) (rg_w r27 (by decide)) (lv_sub hl [2, 3, 4, 0] rfl)
              · skip
                have r29 : rg r21 1 1 := rf_nel (n_eq c24) h23 rl_0 (by decide)
                refine lv_iload_n hx hb dX4_cheapest_54 rfl (lv_at hl 4 rfl) ?_
                refine lv_istore_n (lv' := [(2, .int v4_3), (4, .int (1 : Int32)), (0, .ref q), (1, .int p1), (3, .int v4_3)]) hx hb dX4_cheapest_55 rfl hl (by decide) rfl (fun ls hl => ?_)
                obtain ⟨z30, ez30⟩ : ∃ y : Int32, y = v4_3 + (1 : Int32) := ⟨_, rfl⟩
                have r31 : rg z30 1 64 := rg_add ez30 r6 rl_1 (by decide)
                have a32 : z30.toInt = v4_3.toInt + 1 := ai_add ez30 r6 tl_1 (by decide)
                refine lv_iinc (v := z30) (lv' := [(3, .int z30), (2, .int v4_3), (4, .int (1 : Int32)), (0, .ref q), (1, .int p1)]) hx hb dX4_cheapest_56 hl (k := 4) rfl (by rw [ez30]; rfl) (by decide) rfl (fun ls hl => ?_)
                refine lv_goto (tgt := 4) hx hb dX4_cheapest_59 (by decide) ?_
                exact ih4 _ _ _ _ v4_3 z30 (fu_s hfu4 a32 (by decide)) hI hH (rg_w r6 (by decide)) (rg_w r31 (by decide)) (lv_sub hl [3, 4, 1, 0] rfl)
  refine lv_iconst (v := (-1 : Int32)) hx hb dX4_cheapest_0 (by decide) ?_
  refine lv_istore_n (lv' := [(2, .int (-1 : Int32)), (0, .ref q), (1, .int p1)]) hx hb dX4_cheapest_1 rfl hl (by decide) rfl (fun ls hl => ?_)
  refine lv_iconst (v := (0 : Int32)) hx hb dX4_cheapest_2 (by decide) ?_
  refine lv_istore_n (lv' := [(3, .int (0 : Int32)), (2, .int (-1 : Int32)), (0, .ref q), (1, .int p1)]) hx hb dX4_cheapest_3 rfl hl (by decide) rfl (fun ls hl => ?_)
  exact cut4 65 _ _ _ _ (-1 : Int32) (0 : Int32) (fu_i 65 rl_0 (by decide)) hI hH (rg_w rl_m1 (by decide)) (rg_w rl_0 (by decide)) (lv_sub hl [2, 3, 1, 0] rfl)
set_option maxHeartbeats 4000000 in
set_option maxRecDepth 100000 in
theorem t_X4_isRicher (l : Launch) (E : gE) (J : Nat → Nat) (τ : Nat → Nat) (L : List Nat) (f : gF) (hI : tI E L τ f) {q : Nat} (mq : q ∈ L) (tq : τ q = 24) (p1 : Int32) (rp1 : rg p1 0 63) (p2 : Int32) (rp2 : rg p2 0 63) : tMi l E J yX4_isRicher cX4_isRicher 4 .boolean (gRm (3) 0 0) [.ref q, .int p1, .int p2] L f (tPi E L τ [] f (fun r f1 => rg r 0 1)) := by
  refine tMi.intro (by decide) (Nat.le_of_ble_eq_true rfl) ?_
  intro p e s m below meth c A ls C hr hA hO hH hl
  have C : gC E cX4_isRicher 4 RX4 p s m _ meth c := C
  have hl : lv_has ls 4 [(0, .ref q), (1, .int p1), (2, .int p2)] := hl
  have hx := C.1
  have hb := C.2.1
  have hI := hI.S []
  obtain ⟨q_0, mq_0, tq_0, kq_0⟩ := t_fldr hI.1 mq tq td_24 (k := 0) rfl
  refine lv_aload_n hx hb dX4_isRicher_0 rfl (lv_at hl 0 rfl) ?_
  refine t_getX C hH hI.1 mq tq td_24 iX4 rfl 0 (by decide) wd268 rfl (hI.rf kq_0) dX4_isRicher_1 ?_
  refine lv_iload_n hx hb dX4_isRicher_4 rfl (lv_at hl 1 rfl) ?_
  refine t_Vi C hO hl.1 hA hH hI.1 (As := [.int p1]) (rest := []) (t_X3_paidBy l E J τ L f hI.1 mq_0 tq_0 p1) my_X3_paidBy wd284 mq_0 tq_0 td_3 rfl rfl rfl (Nat.le_of_ble_eq_true rfl) ⟨Nat.le_of_ble_eq_true rfl, Nat.le_of_ble_eq_true rfl⟩ ⟨rfl, rfl⟩ dX4_isRicher_5 (fun r2 L1 f1 H locs hp hH => ?_)
  obtain ⟨rfl, s3, h4⟩ := hp
  have hI := hI.call s3 (by decide)
  refine lv_aload_n hx hb dX4_isRicher_8 rfl (lv_at hl 0 rfl) ?_
  refine t_getX C hH hI.1 mq tq td_24 iX4 rfl 0 (by decide) wd268 rfl (hI.rf kq_0) dX4_isRicher_9 ?_
  refine lv_iload_n hx hb dX4_isRicher_12 rfl (lv_at hl 2 rfl) ?_
  refine t_Vi C hO hl.1 hA hH hI.1 (As := [.int p2]) (rest := [.int r2]) (t_X3_paidBy l E J τ L f1 hI.1 mq_0 tq_0 p2) my_X3_paidBy wd284 mq_0 tq_0 td_3 rfl rfl rfl (Nat.le_of_ble_eq_true rfl) ⟨Nat.le_of_ble_eq_true rfl, Nat.le_of_ble_eq_true rfl⟩ ⟨rfl, rfl⟩ dX4_isRicher_13 (fun r6 L1 f5 H locs hp hH => ?_)
  obtain ⟨rfl, s7, h8⟩ := hp
  have hI := hI.call s7 (by decide)
  refine lv_isub hx hb dX4_isRicher_16 ?_
  refine lv_topi (fun z9 ez9 => ?_)
  refine lv_istore_n (lv' := [(3, .int z9), (0, .ref q), (1, .int p1), (2, .int p2)]) hx hb dX4_isRicher_17 rfl hl (by decide) rfl (fun ls hl => ?_)
  refine lv_iload_n hx hb dX4_isRicher_18 rfl (lv_at hl 0 rfl) ?_
  refine lv_if_gt (tgt := 35) hx hb dX4_isRicher_19 (by decide) (fun c10 => ?_) (fun c10 => ?_)
  · skip
    have r11 : rg z9 1 2147483647 := rf_ltr (c_lt c10) rl_0 (rg_all _) (by decide)
    refine lv_iconst (v := (1 : Int32)) hx hb dX4_isRicher_35 (by decide) ?_
    refine lv_goto (tgt := 40) hx hb dX4_isRicher_36 (by decide) ?_
    exact g_zret C hr (rg_z (rg_w rl_1 (by decide))) hH (Nat.zero_le _) (Nat.zero_le _) dX4_isRicher_40 ⟨rfl, hI, (rg_w rl_1 (by decide))⟩
  · skip
    have r12 : rg z9 (-2147483648) 0 := rf_lel (n_lt c10) (rg_all _) rl_0 (by decide)
    refine lv_iload_n hx hb dX4_isRicher_22 rfl (lv_at hl 0 rfl) ?_
    refine lv_if_ne (tgt := 39) hx hb dX4_isRicher_23 (by decide) (fun c13 => ?_) (fun c13 => ?_)
    · skip
      have r14 : rg z9 (-2147483648) (-1) := rf_nel (n_eq c13) r12 rl_0 (by decide)
      refine lv_iconst (v := (0 : Int32)) hx hb dX4_isRicher_39 (by decide) ?_
      exact g_zret C hr (rg_z (rg_w rl_0 (by decide))) hH (Nat.zero_le _) (Nat.zero_le _) dX4_isRicher_40 ⟨rfl, hI, (rg_w rl_0 (by decide))⟩
    · skip
      have r15 : rg z9 0 0 := rf_eql (c_eq c13) r12 rl_0 (by decide)
      refine lv_aload_n hx hb dX4_isRicher_26 rfl (lv_at hl 1 rfl) ?_
      refine lv_iload_n hx hb dX4_isRicher_27 rfl (lv_at hl 2 rfl) ?_
      refine lv_iload_n hx hb dX4_isRicher_28 rfl (lv_at hl 3 rfl) ?_
      refine t_Vi C hO hl.1 hA hH hI.1 (As := [.int p1, .int p2]) (rest := []) (t_X4_isCheaper l E J τ L f5 hI.1 mq tq p1 rp1 p2 rp2) my_X4_isCheaper wd283 mq tq td_24 rfl rfl rfl (Nat.le_of_ble_eq_true rfl) ⟨Nat.le_of_ble_eq_true rfl, Nat.le_of_ble_eq_true rfl⟩ ⟨rfl, rfl⟩ dX4_isRicher_29 (fun r17 L1 f16 H locs hp hH => ?_)
      obtain ⟨rfl, s18, h19⟩ := hp
      have hI := hI.call s18 (by decide)
      refine lv_if_eq (tgt := 39) hx hb dX4_isRicher_32 (by decide) (fun c20 => ?_) (fun c20 => ?_)
      · skip
        have r21 : rg r17 0 0 := rf_eql (c_eq c20) h19 rl_0 (by decide)
        refine lv_iconst (v := (0 : Int32)) hx hb dX4_isRicher_39 (by decide) ?_
        exact g_zret C hr (rg_z (rg_w rl_0 (by decide))) hH (Nat.zero_le _) (Nat.zero_le _) dX4_isRicher_40 ⟨rfl, hI, (rg_w rl_0 (by decide))⟩
      · skip
        have r22 : rg r17 1 1 := rf_nel (n_eq c20) h19 rl_0 (by decide)
        refine lv_iconst (v := (1 : Int32)) hx hb dX4_isRicher_35 (by decide) ?_
        refine lv_goto (tgt := 40) hx hb dX4_isRicher_36 (by decide) ?_
        exact g_zret C hr (rg_z (rg_w rl_1 (by decide))) hH (Nat.zero_le _) (Nat.zero_le _) dX4_isRicher_40 ⟨rfl, hI, (rg_w rl_1 (by decide))⟩
set_option maxHeartbeats 4000000 in
set_option maxRecDepth 100000 in
theorem t_X4_richest (l : Launch) (E : gE) (J : Nat → Nat) (τ : Nat → Nat) (L : List Nat) (f : gF) (hI : tI E L τ f) {q : Nat} (mq : q ∈ L) (tq : τ q = 24) (p1 : Int32) : tMi l E J yX4_richest cX4_richest 4 .int (gRm (4) 0 0) [.ref q, .int p1] L f (tPi E L τ [] f (fun r f1 => rg r 0 63)) := by
  refine tMi.intro (by decide) (Nat.le_of_ble_eq_true rfl) ?_
  intro p e s m below meth c A ls C hr hA hO hH hl
  have C : gC E cX4_richest 4 RX4 p s m _ meth c := C
  have hl : lv_has ls 4 [(0, .ref q), (1, .int p1)] := hl
  have hx := C.1
  have hb := C.2.1
  have hI := hI.S []
  obtain ⟨q_2, mq_2, tq_2, kq_2⟩ := t_fldr hI.1 mq tq td_24 (k := 2) rfl
  have cut4 : ∀ (n : Nat) (fh4 : gF) (H : Heap) (locs : List Loc) (ls : Array Slot) (v4_2 : Int32) (v4_3 : Int32), 64 - v4_3.toInt < (n : Int) → tS E L τ [] f fh4 → gH E A L fh4 s.heap H locs → rg v4_2 (-1) 63 → rg v4_3 0 64 → lv_has ls 4 [(0, .ref q), (1, .int p1), (2, .int v4_2), (3, .int v4_3)] → W p l e (gRm (4) 0 0) s m [.ref q, .int p1].toArray below meth c H locs 0 0 (MQ below (gQi E A (tPi E L τ [] f (fun r f1 => rg r 0 63))) [.ref q, .int p1].toArray s (gRm (4) 0 0).cells (gRm (4) 0 0).slots A) (F0 m 4 ls []) := by
    intro n
    induction n with
    | zero =>
      intro fh4 H locs ls v4_2 v4_3 hfu4 hI hH r_v4_2 r_v4_3 hl
      exact (fu_0 hfu4 r_v4_3).elim
    | succ n ih4 =>
      intro fh4 H locs ls v4_2 v4_3 hfu4 hI hH r_v4_2 r_v4_3 hl
      refine lv_iload_n hx hb dX4_richest_4 rfl (lv_at hl 3 rfl) ?_
      refine lv_bipush (v := (64 : Int32)) hx hb dX4_richest_5 (by decide) ?_
      refine lv_icmp_ge (tgt := 42) hx hb dX4_richest_7 (by decide) (fun c1 => ?_) (fun c1 => ?_)
      · skip
        have r2 : rg v4_3 64 64 := rf_ler (c_le c1) rl_64 r_v4_3 (by decide)
        refine lv_iconst (v := (0 : Int32)) hx hb dX4_richest_42 (by decide) ?_
        refine lv_iload_n hx hb dX4_richest_43 rfl (lv_at hl 2 rfl) ?_
        refine va_mmax hx hb (C.2.2.1.trans hl.1.symm) C.2.2.2.1 (C.2.2.2.2.1 _ wd285) (C.2.2.2.2.1 _ wd182) (C.2.2.2.2.1 _ wd37) (C.2.2.2.2.1 _ wd183) (Nat.le_of_ble_eq_true rfl) (Nat.le_of_ble_eq_true rfl) (Nat.le_of_ble_eq_true rfl) (Nat.le_of_ble_eq_true rfl) dX4_richest_44 ?_
        refine lv_topi (fun z3 ez3 => ?_)
        have r4 : rg z3 0 63 := rg_max ez3 rl_0 r_v4_2 (by decide)
        exact g_iret C hr hH (Nat.zero_le _) (Nat.zero_le _) dX4_richest_47 ⟨rfl, hI, r4⟩
      · skip
        have r5 : rg v4_3 0 63 := rf_ltl (n_le c1) r_v4_3 rl_64 (by decide)
        refine lv_aload_n hx hb dX4_richest_10 rfl (lv_at hl 0 rfl) ?_
        refine t_getX C hH hI.1 mq tq td_24 iX4 rfl 2 (by decide) wd265 rfl (hI.rf kq_2) dX4_richest_11 ?_
        refine lv_iload_n hx hb dX4_richest_14 rfl (lv_at hl 3 rfl) ?_
        refine t_ald C hH hI.1 mq_2 tq_2 td_25 (rg_in r5 (by decide)) dX4_richest_15 (fun z6v az6 _ => ?_)
        refine lv_topi (fun z6 ez6 => ?_)
        refine lv_iload_n hx hb dX4_richest_16 rfl (lv_at hl 1 rfl) ?_
        refine lv_icmp_gt (tgt := 36) hx hb dX4_richest_17 (by decide) (fun c7 => ?_) (fun c7 => ?_)
        · skip
          have r8 : rg p1 (-2147483648) 2147483646 := rf_ltl (c_lt c7) (rg_all _) (rg_all _) (by decide)
          have r9 : rg z6 (-2147483647) 2147483647 := rf_ltr (c_lt c7) (rg_all _) (rg_all _) (by decide)
          obtain ⟨z10, ez10⟩ : ∃ y : Int32, y = v4_3 + (1 : Int32) := ⟨_, rfl⟩
          have r11 : rg z10 1 64 := rg_add ez10 r5 rl_1 (by decide)
          have a12 : z10.toInt = v4_3.toInt + 1 := ai_add ez10 r5 tl_1 (by decide)
          refine lv_iinc (v := z10) (lv' := [(3, .int z10), (0, .ref q), (1, .int p1), (2, .int v4_2)]) hx hb dX4_richest_36 hl (k := 3) rfl (by rw [ez10]; rfl) (by decide) rfl (fun ls hl => ?_)
          refine lv_goto (tgt := 4) hx hb dX4_richest_39 (by decide) ?_
          exact ih4 _ _ _ _ v4_2 z10 (fu_s hfu4 a12 (by decide)) hI hH r_v4_2 (rg_w r11 (by decide)) (lv_sub hl [1, 2, 3, 0] rfl)
        · skip
          refine lv_iload_n hx hb dX4_richest_20 rfl (lv_at hl 2 rfl) ?_
          refine lv_iconst (v := (-1 : Int32)) hx hb dX4_richest_21 (by decide) ?_
          refine lv_icmp_eq (tgt := 34) hx hb dX4_richest_22 (by decide) (fun c13 => ?_) (fun c13 => ?_)
          · skip
            have r14 : rg v4_2 (-1) (-1) := rf_eql (c_eq c13) r_v4_2 rl_m1 (by decide)
            refine lv_iload_n hx hb dX4_richest_34 rfl (lv_at hl 3 rfl) ?_
            refine lv_istore_n (lv' := [(2, .int v4_3), (0, .ref q), (1, .int p1), (3, .int v4_3)]) hx hb dX4_richest_35 rfl hl (by decide) rfl (fun ls hl => ?_)
            obtain ⟨z15, ez15⟩ : ∃ y : Int32, y = v4_3 + (1 : Int32) := ⟨_, rfl⟩
            have r16 : rg z15 1 64 := rg_add ez15 r5 rl_1 (by decide)
            have a17 : z15.toInt = v4_3.toInt + 1 := ai_add ez15 r5 tl_1 (by decide)
            refine lv_iinc (v := z15) (lv' := [(3, .int z15), (2, .int v4_3), (0, .ref q), (1, .int p1)]) hx hb dX4_richest_36 hl (k := 3) rfl (by rw [ez15]; rfl) (by decide) rfl (fun ls hl => ?_)
            refine lv_goto (tgt := 4) hx hb dX4_richest_39 (by decide) ?_
            exact ih4 _ _ _ _ v4_3 z15 (fu_s hfu4 a17 (by decide)) hI hH (rg_w r5 (by decide)) (rg_w r16 (by decide)) (lv_sub hl [2, 3, 1, 0] rfl)
          · skip
            have r18 : rg v4_2 0 63 := rf_nel (n_eq c13) r_v4_2 rl_m1 (by decide)
            refine lv_aload_n hx hb dX4_richest_25 rfl (lv_at hl 0 rfl) ?_
            refine lv_iload_n hx hb dX4_richest_26 rfl (lv_at hl 3 rfl) ?_
            refine lv_iload_n hx hb dX4_richest_27 rfl (lv_at hl 2 rfl) ?_
            refine t_Vi C hO hl.1 hA hH hI.1 (As := [.int v4_3, .int v4_2]) (rest := []) (t_X4_isRicher l E J τ L fh4 hI.1 mq tq v4_3 r5 v4_2 r18) my_X4_isRicher wd289 mq tq td_24 rfl rfl rfl (Nat.le_of_ble_eq_true rfl) ⟨Nat.le_of_ble_eq_true rfl, Nat.le_of_ble_eq_true rfl⟩ ⟨rfl, rfl⟩ dX4_richest_28 (fun r20 L1 f19 H locs hp hH => ?_)
            obtain ⟨rfl, s21, h22⟩ := hp
            have hI := hI.call s21 (by decide)
            refine lv_if_eq (tgt := 36) hx hb dX4_richest_31 (by decide) (fun c23 => ?_) (fun c23 => ?_)
            · skip
              have r24 : rg r20 0 0 := rf_eql (c_eq c23) h22 rl_0 (by decide)
              obtain ⟨z25, ez25⟩ : ∃ y : Int32, y = v4_3 + (1 : Int32) := ⟨_, rfl⟩
              have r26 : rg z25 1 64 := rg_add ez25 r5 rl_1 (by decide)
              have a27 : z25.toInt = v4_3.toInt + 1 := ai_add ez25 r5 tl_1 (by decide)
              refine lv_iinc (v := z25) (lv' := [(3, .int z25), (0, .ref q), (1, .int p1), (2, .int v4_2)]) hx hb dX4_richest_36 hl (k := 3) rfl (by rw [ez25]; rfl) (by decide) rfl (fun ls hl => ?_)
              refine lv_goto (tgt := 4) hx hb dX4_richest_39 (by decide) ?_
              exact ih4 _ _ _ _ v4_2 z25 (fu_s hfu4 a27 (by decide)) hI hH (rg_w r18 (by decide)) (rg_w r26 (by decide)) (lv_sub hl [1, 2, 3, 0] rfl)
            · skip
              have r28 : rg r20 1 1 := rf_nel (n_eq c23) h22 rl_0 (by decide)
              refine lv_iload_n hx hb dX4_richest_34 rfl (lv_at hl 3 rfl) ?_
              refine lv_istore_n (lv' := [(2, .int v4_3), (0, .ref q), (1, .int p1), (3, .int v4_3)]) hx hb dX4_richest_35 rfl hl (by decide) rfl (fun ls hl => ?_)
              obtain ⟨z29, ez29⟩ : ∃ y : Int32, y = v4_3 + (1 : Int32) := ⟨_, rfl⟩
              have r30 : rg z29 1 64 := rg_add ez29 r5 rl_1 (by decide)
              have a31 : z29.toInt = v4_3.toInt + 1 := ai_add ez29 r5 tl_1 (by decide)
              refine lv_iinc (v := z29) (lv' := [(3, .int z29), (2, .int v4_3), (0, .ref q), (1, .int p1)]) hx hb dX4_richest_36 hl (k := 3) rfl (by rw [ez29]; rfl) (by decide) rfl (fun ls hl => ?_)
              refine lv_goto (tgt := 4) hx hb dX4_richest_39 (by decide) ?_
              exact ih4 _ _ _ _ v4_3 z29 (fu_s hfu4 a31 (by decide)) hI hH (rg_w r5 (by decide)) (rg_w r30 (by decide)) (lv_sub hl [2, 3, 1, 0] rfl)
  refine lv_iconst (v := (-1 : Int32)) hx hb dX4_richest_0 (by decide) ?_
  refine lv_istore_n (lv' := [(2, .int (-1 : Int32)), (0, .ref q), (1, .int p1)]) hx hb dX4_richest_1 rfl hl (by decide) rfl (fun ls hl => ?_)
  refine lv_iconst (v := (0 : Int32)) hx hb dX4_richest_2 (by decide) ?_
  refine lv_istore_n (lv' := [(3, .int (0 : Int32)), (2, .int (-1 : Int32)), (0, .ref q), (1, .int p1)]) hx hb dX4_richest_3 rfl hl (by decide) rfl (fun ls hl => ?_)
  exact cut4 65 _ _ _ _ (-1 : Int32) (0 : Int32) (fu_i 65 rl_0 (by decide)) hI hH (rg_w rl_m1 (by decide)) (rg_w rl_0 (by decide)) (lv_sub hl [2, 3, 1, 0] rfl)
set_option maxHeartbeats 4000000 in
set_option maxRecDepth 100000 in
theorem t_X4_mostServed (l : Launch) (E : gE) (J : Nat → Nat) (τ : Nat → Nat) (L : List Nat) (f : gF) (hI : tI E L τ f) {q : Nat} (mq : q ∈ L) (tq : τ q = 24) (p1 : Int32) : tMi l E J yX4_mostServed cX4_mostServed 4 .int (gRm (2) 0 0) [.ref q, .int p1] L f (tPi E L τ [] f (fun r f1 => rg r (-2147483648) 2147483647)) := by
  refine tMi.intro (by decide) (Nat.le_of_ble_eq_true rfl) ?_
  intro p e s m below meth c A ls C hr hA hO hH hl
  have C : gC E cX4_mostServed 4 RX4 p s m _ meth c := C
  have hl : lv_has ls 4 [(0, .ref q), (1, .int p1)] := hl
  have hx := C.1
  have hb := C.2.1
  have hI := hI.S []
  obtain ⟨q_2, mq_2, tq_2, kq_2⟩ := t_fldr hI.1 mq tq td_24 (k := 2) rfl
  have cut4 : ∀ (n : Nat) (fh4 : gF) (H : Heap) (locs : List Loc) (ls : Array Slot) (v4_2 : Int32) (v4_3 : Int32), 64 - v4_3.toInt < (n : Int) → tS E L τ [] f fh4 → gH E A L fh4 s.heap H locs → rg v4_2 0 6 → rg v4_3 0 64 → lv_has ls 4 [(0, .ref q), (1, .int p1), (2, .int v4_2), (3, .int v4_3)] → W p l e (gRm (2) 0 0) s m [.ref q, .int p1].toArray below meth c H locs 0 0 (MQ below (gQi E A (tPi E L τ [] f (fun r f1 => rg r (-2147483648) 2147483647))) [.ref q, .int p1].toArray s (gRm (2) 0 0).cells (gRm (2) 0 0).slots A) (F0 m 4 ls []) := by
    intro n
    induction n with
    | zero =>
      intro fh4 H locs ls v4_2 v4_3 hfu4 hI hH r_v4_2 r_v4_3 hl
      exact (fu_0 hfu4 r_v4_3).elim
    | succ n ih4 =>
      intro fh4 H locs ls v4_2 v4_3 hfu4 hI hH r_v4_2 r_v4_3 hl
      refine lv_iload_n hx hb dX4_mostServed_4 rfl (lv_at hl 3 rfl) ?_
      refine lv_bipush (v := (64 : Int32)) hx hb dX4_mostServed_5 (by decide) ?_
      refine lv_icmp_ge (tgt := 35) hx hb dX4_mostServed_7 (by decide) (fun c1 => ?_) (fun c1 => ?_)
      · skip
        have r2 : rg v4_3 64 64 := rf_ler (c_le c1) rl_64 r_v4_3 (by decide)
        refine lv_iload_n hx hb dX4_mostServed_35 rfl (lv_at hl 2 rfl) ?_
        exact g_iret C hr hH (Nat.zero_le _) (Nat.zero_le _) dX4_mostServed_36 ⟨rfl, hI, (rg_w r_v4_2 (by decide))⟩
      · skip
        have r3 : rg v4_3 0 63 := rf_ltl (n_le c1) r_v4_3 rl_64 (by decide)
        refine lv_aload_n hx hb dX4_mostServed_10 rfl (lv_at hl 0 rfl) ?_
        refine t_getX C hH hI.1 mq tq td_24 iX4 rfl 2 (by decide) wd265 rfl (hI.rf kq_2) dX4_mostServed_11 ?_
        refine lv_iload_n hx hb dX4_mostServed_14 rfl (lv_at hl 3 rfl) ?_
        refine t_ald C hH hI.1 mq_2 tq_2 td_25 (rg_in r3 (by decide)) dX4_mostServed_15 (fun z4v az4 _ => ?_)
        refine lv_topi (fun z4 ez4 => ?_)
        refine lv_iload_n hx hb dX4_mostServed_16 rfl (lv_at hl 1 rfl) ?_
        refine lv_icmp_gt (tgt := 29) hx hb dX4_mostServed_17 (by decide) (fun c5 => ?_) (fun c5 => ?_)
        · skip
          have r6 : rg p1 (-2147483648) 2147483646 := rf_ltl (c_lt c5) (rg_all _) (rg_all _) (by decide)
          have r7 : rg z4 (-2147483647) 2147483647 := rf_ltr (c_lt c5) (rg_all _) (rg_all _) (by decide)
          obtain ⟨z8, ez8⟩ : ∃ y : Int32, y = v4_3 + (1 : Int32) := ⟨_, rfl⟩
          have r9 : rg z8 1 64 := rg_add ez8 r3 rl_1 (by decide)
          have a10 : z8.toInt = v4_3.toInt + 1 := ai_add ez8 r3 tl_1 (by decide)
          refine lv_iinc (v := z8) (lv' := [(3, .int z8), (0, .ref q), (1, .int p1), (2, .int v4_2)]) hx hb dX4_mostServed_29 hl (k := 3) rfl (by rw [ez8]; rfl) (by decide) rfl (fun ls hl => ?_)
          refine lv_goto (tgt := 4) hx hb dX4_mostServed_32 (by decide) ?_
          exact ih4 _ _ _ _ v4_2 z8 (fu_s hfu4 a10 (by decide)) hI hH r_v4_2 (rg_w r9 (by decide)) (lv_sub hl [1, 2, 3, 0] rfl)
        · skip
          refine lv_iload_n hx hb dX4_mostServed_20 rfl (lv_at hl 2 rfl) ?_
          refine lv_iload_n hx hb dX4_mostServed_21 rfl (lv_at hl 3 rfl) ?_
          refine t_Si C hO hl.1 hA hH (As := [.int v4_3]) (rest := [.int v4_2]) (t_bit6 l E J τ L fh4 hI.1 v4_3 r3) my_J6_bitCount_0f7a4 wd290 rfl rfl (Nat.le_of_ble_eq_true rfl) ⟨Nat.le_of_ble_eq_true rfl, Nat.le_of_ble_eq_true rfl⟩ ⟨rfl, rfl⟩ dX4_mostServed_22 (fun r12 L1 f11 H locs hp hH => ?_)
          obtain ⟨rfl, s13, h14⟩ := hp
          have hI := hI.call s13 (by decide)
          refine va_mmax hx hb (C.2.2.1.trans hl.1.symm) C.2.2.2.1 (C.2.2.2.2.1 _ wd285) (C.2.2.2.2.1 _ wd182) (C.2.2.2.2.1 _ wd37) (C.2.2.2.2.1 _ wd183) (Nat.le_of_ble_eq_true rfl) (Nat.le_of_ble_eq_true rfl) (Nat.le_of_ble_eq_true rfl) (Nat.le_of_ble_eq_true rfl) dX4_mostServed_25 ?_
          refine lv_topi (fun z15 ez15 => ?_)
          have r16 : rg z15 0 6 := rg_max ez15 r_v4_2 h14 (by decide)
          refine lv_istore_n (lv' := [(2, .int z15), (0, .ref q), (1, .int p1), (3, .int v4_3)]) hx hb dX4_mostServed_28 rfl hl (by decide) rfl (fun ls hl => ?_)
          obtain ⟨z17, ez17⟩ : ∃ y : Int32, y = v4_3 + (1 : Int32) := ⟨_, rfl⟩
          have r18 : rg z17 1 64 := rg_add ez17 r3 rl_1 (by decide)
          have a19 : z17.toInt = v4_3.toInt + 1 := ai_add ez17 r3 tl_1 (by decide)
          refine lv_iinc (v := z17) (lv' := [(3, .int z17), (2, .int z15), (0, .ref q), (1, .int p1)]) hx hb dX4_mostServed_29 hl (k := 3) rfl (by rw [ez17]; rfl) (by decide) rfl (fun ls hl => ?_)
          refine lv_goto (tgt := 4) hx hb dX4_mostServed_32 (by decide) ?_
          exact ih4 _ _ _ _ z15 z17 (fu_s hfu4 a19 (by decide)) hI hH r16 (rg_w r18 (by decide)) (lv_sub hl [2, 3, 1, 0] rfl)
  refine lv_iconst (v := (0 : Int32)) hx hb dX4_mostServed_0 (by decide) ?_
  refine lv_istore_n (lv' := [(2, .int (0 : Int32)), (0, .ref q), (1, .int p1)]) hx hb dX4_mostServed_1 rfl hl (by decide) rfl (fun ls hl => ?_)
  refine lv_iconst (v := (0 : Int32)) hx hb dX4_mostServed_2 (by decide) ?_
  refine lv_istore_n (lv' := [(3, .int (0 : Int32)), (2, .int (0 : Int32)), (0, .ref q), (1, .int p1)]) hx hb dX4_mostServed_3 rfl hl (by decide) rfl (fun ls hl => ?_)
  exact cut4 65 _ _ _ _ (0 : Int32) (0 : Int32) (fu_i 65 rl_0 (by decide)) hI hH (rg_w rl_0 (by decide)) (rg_w rl_0 (by decide)) (lv_sub hl [2, 3, 1, 0] rfl)
set_option maxHeartbeats 4000000 in
set_option maxRecDepth 100000 in
theorem t_X4_costOf (l : Launch) (E : gE) (J : Nat → Nat) (τ : Nat → Nat) (L : List Nat) (f : gF) (hI : tI E L τ f) {q : Nat} (mq : q ∈ L) (tq : τ q = 24) (p1 : Int32) : tMi l E J yX4_costOf cX4_costOf 3 .int (gRm (3) 0 0) [.ref q, .int p1] L f (tPi E L τ [] f (fun r f1 => rg r (-2147483648) 2147483647)) := by
  refine tMi.intro (by decide) (Nat.le_of_ble_eq_true rfl) ?_
  intro p e s m below meth c A ls C hr hA hO hH hl
  have C : gC E cX4_costOf 3 RX4 p s m _ meth c := C
  have hl : lv_has ls 3 [(0, .ref q), (1, .int p1)] := hl
  have hx := C.1
  have hb := C.2.1
  have hI := hI.S []
  obtain ⟨q_0, mq_0, tq_0, kq_0⟩ := t_fldr hI.1 mq tq td_24 (k := 0) rfl
  obtain ⟨q_2, mq_2, tq_2, kq_2⟩ := t_fldr hI.1 mq tq td_24 (k := 2) rfl
  refine lv_aload_n hx hb dX4_costOf_0 rfl (lv_at hl 0 rfl) ?_
  refine lv_iload_n hx hb dX4_costOf_1 rfl (lv_at hl 1 rfl) ?_
  refine lv_aload_n hx hb dX4_costOf_2 rfl (lv_at hl 0 rfl) ?_
  refine t_getX C hH hI.1 mq tq td_24 iX4 rfl 0 (by decide) wd268 rfl (hI.rf kq_0) dX4_costOf_3 ?_
  refine t_Vi C hO hl.1 hA hH hI.1 (As := []) (rest := [.int p1, .ref q]) (t_X3_wanters l E J τ L f hI.1 mq_0 tq_0) my_X3_wanters wd294 mq_0 tq_0 td_3 rfl rfl rfl (Nat.le_of_ble_eq_true rfl) ⟨Nat.le_of_ble_eq_true rfl, Nat.le_of_ble_eq_true rfl⟩ ⟨rfl, rfl⟩ dX4_costOf_6 (fun r2 L1 f1 H locs hp hH => ?_)
  obtain ⟨rfl, s3, h4⟩ := hp
  have hI := hI.call s3 (by decide)
  refine lv_iand hx hb dX4_costOf_9 ?_
  refine lv_topi (fun z5 ez5 => ?_)
  have r6 : rg z5 0 63 := rg_andr ez5 h4 (by decide)
  refine t_Vi C hO hl.1 hA hH hI.1 (As := [.int z5]) (rest := []) (t_X4_cheapest l E J τ L f1 hI.1 mq tq z5) my_X4_cheapest wd298 mq tq td_24 rfl rfl rfl (Nat.le_of_ble_eq_true rfl) ⟨Nat.le_of_ble_eq_true rfl, Nat.le_of_ble_eq_true rfl⟩ ⟨rfl, rfl⟩ dX4_costOf_10 (fun r8 L1 f7 H locs hp hH => ?_)
  obtain ⟨rfl, s9, h10⟩ := hp
  have hI := hI.call s9 (by decide)
  refine lv_istore_n (lv' := [(2, .int r8), (0, .ref q), (1, .int p1)]) hx hb dX4_costOf_13 rfl hl (by decide) rfl (fun ls hl => ?_)
  refine lv_iload_n hx hb dX4_costOf_14 rfl (lv_at hl 0 rfl) ?_
  refine lv_iconst (v := (-1 : Int32)) hx hb dX4_costOf_15 (by decide) ?_
  refine lv_icmp_ne (tgt := 23) hx hb dX4_costOf_16 (by decide) (fun c11 => ?_) (fun c11 => ?_)
  · skip
    have r12 : rg r8 0 63 := rf_nel (n_eq c11) h10 rl_m1 (by decide)
    refine lv_aload_n hx hb dX4_costOf_23 rfl (lv_at hl 1 rfl) ?_
    refine t_getX C hH hI.1 mq tq td_24 iX4 rfl 2 (by decide) wd265 rfl (hI.rf kq_2) dX4_costOf_24 ?_
    refine lv_iload_n hx hb dX4_costOf_27 rfl (lv_at hl 0 rfl) ?_
    refine t_ald C hH hI.1 mq_2 tq_2 td_25 (rg_in r12 (by decide)) dX4_costOf_28 (fun z13v az13 _ => ?_)
    refine lv_topi (fun z13 ez13 => ?_)
    exact g_iret C hr hH (Nat.zero_le _) (Nat.zero_le _) dX4_costOf_29 ⟨rfl, hI, (rg_all _)⟩
  · skip
    have r14 : rg r8 (-1) (-1) := rf_eql (c_eq c11) h10 rl_m1 (by decide)
    refine lv_iconst (v := (-1 : Int32)) hx hb dX4_costOf_19 (by decide) ?_
    refine lv_goto (tgt := 29) hx hb dX4_costOf_20 (by decide) ?_
    exact g_iret C hr hH (Nat.zero_le _) (Nat.zero_le _) dX4_costOf_29 ⟨rfl, hI, (rg_w rl_m1 (by decide))⟩
set_option maxHeartbeats 4000000 in
set_option maxRecDepth 100000 in
theorem t_X4_orders (l : Launch) (E : gE) (J : Nat → Nat) (τ : Nat → Nat) (L : List Nat) (f : gF) (hI : tI E L τ f) {q : Nat} (mq : q ∈ L) (tq : τ q = 24) : tMi l E J yX4_orders cX4_orders 1 .int (gRm (1) 0 0) [.ref q] L f (tPi E L τ [] f (fun r f1 => rg r (-2147483648) 2147483647)) := by
  refine tMi.intro (by decide) (Nat.le_of_ble_eq_true rfl) ?_
  intro p e s m below meth c A ls C hr hA hO hH hl
  have C : gC E cX4_orders 1 RX4 p s m _ meth c := C
  have hl : lv_has ls 1 [(0, .ref q)] := hl
  have hx := C.1
  have hb := C.2.1
  have hI := hI.S []
  obtain ⟨q_0, mq_0, tq_0, kq_0⟩ := t_fldr hI.1 mq tq td_24 (k := 0) rfl
  refine va_gets hx hb hO.1.1 hH.2.2 C.2.2.2.1 (C.2.2.2.2.1 _ wd299) (fun _ h => h) dX4_orders_0 ?_
  refine lv_aload_n hx hb dX4_orders_3 rfl (lv_at hl 0 rfl) ?_
  refine t_getX C hH hI.1 mq tq td_24 iX4 rfl 0 (by decide) wd268 rfl (hI.rf kq_0) dX4_orders_4 ?_
  refine t_geti C hH hI.1 mq_0 tq_0 td_3 iX3 rfl 7 (by decide) wd300 rfl rfl dX4_orders_7 (fun z1 rz1 => ?_)
  refine va_ti hx hb hO.1.2 hH.2.2 (rg_in rz1 (by decide)) rfl dX4_orders_10 ?_
  refine lv_topi (fun z2 ez2 => ?_)
  exact g_iret C hr hH (Nat.zero_le _) (Nat.zero_le _) dX4_orders_11 ⟨rfl, hI, (rg_all _)⟩
set_option maxHeartbeats 4000000 in
set_option maxRecDepth 100000 in
theorem t_allMembersX (l : Launch) (E : gE) (J : Nat → Nat) (τ : Nat → Nat) (L : List Nat) (f : gF) (hI : tI E L τ f) {q : Nat} (mq : q ∈ L) (tq : τ q = 3) : tMi l E J yX3_allMembers cX3_allMembers 1 .int (gRm (1) 0 0) [.ref q] L f (tPi E L τ [] f (fun r f1 => rg r 0 63 ∧ (∀ n : Int32, fld f q 7 (.int n) → r = amE n))) := by
  refine tMi.intro (by decide) (Nat.le_of_ble_eq_true rfl) ?_
  intro p e s m below meth c A ls C hr hA hO hH hl
  have C : gC E cX3_allMembers 1 RX3 p s m _ meth c := C
  have hl : lv_has ls 1 [(0, .ref q)] := hl
  have hx := C.1
  have hb := C.2.1
  have hI := hI.S []
  refine lv_iconst (v := (1 : Int32)) hx hb dX3_allMembers_0 (by decide) ?_
  refine lv_aload_n hx hb dX3_allMembers_1 rfl (lv_at hl 0 rfl) ?_
  obtain ⟨z1, rz1, kz1⟩ := t_fldi hI.1 mq tq td_3 (k := 7) rfl
  refine t_getX C hH hI.1 mq tq td_3 iX3 rfl 7 (by decide) wd14 rfl kz1 dX3_allMembers_2 ?_
  refine lv_ishl hx hb dX3_allMembers_5 ?_
  refine lv_topi (fun z2 ez2 => ?_)
  have r3 : rg z2 1 64 := rg_shl 0 6 ez2 rz1 (by decide)
  refine lv_iconst (v := (1 : Int32)) hx hb dX3_allMembers_6 (by decide) ?_
  refine lv_isub hx hb dX3_allMembers_7 ?_
  refine lv_topi (fun z4 ez4 => ?_)
  have r5 : rg z4 0 63 := rg_sub ez4 r3 rl_1 (by decide)
  exact g_iret C hr hH (Nat.zero_le _) (Nat.zero_le _) dX3_allMembers_8 ⟨rfl, hI, ⟨r5, (fun n h => by rw [fld_inj h kz1]; subst_vars; rfl)⟩⟩
set_option maxHeartbeats 4000000 in
set_option maxRecDepth 100000 in
theorem t_hasBitX (l : Launch) (E : gE) (J : Nat → Nat) (τ : Nat → Nat) (L : List Nat) (f : gF) (hI : tI E L τ f) (p0 : Int32) (rp0 : rg p0 0 63) (p1 : Int32) (rp1 : rg p1 0 5) : tMi l E J yX9_hasBit cX9_hasBit 2 .boolean (gRm (1) 0 0) [.int p0, .int p1] L f (tPi E L τ [] f (fun r f1 => rg r 0 1 ∧ (r = 0 → rg p0 0 62) ∧ (r = 0 → (p0 >>> (p1 &&& 31)) &&& 1 = 0))) := by
  refine tMi.intro (by decide) (Nat.le_of_ble_eq_true rfl) ?_
  intro p e s m below meth c A ls C hr hA hO hH hl
  have C : gC E cX9_hasBit 2 RX9 p s m _ meth c := C
  have hl : lv_has ls 2 [(0, .int p0), (1, .int p1)] := hl
  have hx := C.1
  have hb := C.2.1
  have hI := hI.S []
  refine lv_iload_n hx hb dX9_hasBit_0 rfl (lv_at hl 0 rfl) ?_
  refine lv_iload_n hx hb dX9_hasBit_1 rfl (lv_at hl 1 rfl) ?_
  refine lv_ishr hx hb dX9_hasBit_2 ?_
  refine lv_topi (fun z1 ez1 => ?_)
  refine lv_iconst (v := (1 : Int32)) hx hb dX9_hasBit_3 (by decide) ?_
  refine lv_iand hx hb dX9_hasBit_4 ?_
  refine lv_topi (fun z2 ez2 => ?_)
  have r3 : rg z2 0 1 := rg_andr ez2 rl_1 (by decide)
  refine lv_if_eq (tgt := 12) hx hb dX9_hasBit_5 (by decide) (fun c4 => ?_) (fun c4 => ?_)
  · skip
    have r5 : rg z2 0 0 := rf_eql (c_eq c4) r3 rl_0 (by decide)
    refine lv_iconst (v := (0 : Int32)) hx hb dX9_hasBit_12 (by decide) ?_
    exact g_zret C hr (rg_z (rg_w rl_0 (by decide))) hH (Nat.zero_le _) (Nat.zero_le _) dX9_hasBit_13 ⟨rfl, hI, ⟨(rg_w rl_0 (by decide)), (fun _ => hb_62 rp0 rp1 ez1 ez2 c4), (fun _ => by rw [← ez1, ← ez2]; exact c4)⟩⟩
  · skip
    have r6 : rg z2 1 1 := rf_nel (n_eq c4) r3 rl_0 (by decide)
    refine lv_iconst (v := (1 : Int32)) hx hb dX9_hasBit_8 (by decide) ?_
    refine lv_goto (tgt := 13) hx hb dX9_hasBit_9 (by decide) ?_
    exact g_zret C hr (rg_z (rg_w rl_1 (by decide))) hH (Nat.zero_le _) (Nat.zero_le _) dX9_hasBit_13 ⟨rfl, hI, ⟨(rg_w rl_1 (by decide)), (fun h => absurd h (by decide)), (fun h => absurd h (by decide))⟩⟩
set_option maxHeartbeats 4000000 in
set_option maxRecDepth 100000 in
theorem t_bitX (l : Launch) (E : gE) (J : Nat → Nat) (τ : Nat → Nat) (L : List Nat) (f : gF) (hI : tI E L τ f) (p0 : Int32) (rp0 : rg p0 0 62) : tMi l E J yJ6_bitCount_0f7a4 cJ6_bitCount_0f7a4 1 .int (gRm (1) 0 0) [.int p0] L f (tPi E L τ [] f (fun r f1 => rg r 0 5 ∧ (r = bcE p0))) := by
  refine tMi.intro (by decide) (Nat.le_of_ble_eq_true rfl) ?_
  intro p e s m below meth c A ls C hr hA hO hH hl
  have C : gC E cJ6_bitCount_0f7a4 1 "java/lang/Integer" p s m _ meth c := C
  have hl : lv_has ls 1 [(0, .int p0)] := hl
  have hx := C.1
  have hb := C.2.1
  have hI := hI.S []
  refine lv_iload_n hx hb dJ6_bitCount_0f7a4_0 rfl (lv_at hl 0 rfl) ?_
  refine lv_iload_n hx hb dJ6_bitCount_0f7a4_1 rfl (lv_at hl 0 rfl) ?_
  refine lv_iconst (v := (1 : Int32)) hx hb dJ6_bitCount_0f7a4_2 (by decide) ?_
  refine lv_iushr (v := _) hx hb dJ6_bitCount_0f7a4_3 rfl ?_
  refine lv_topi (fun z1 ez1 => ?_)
  refine lv_ldcw hx hb C.2.2.2.1 (C.2.2.2.2.1 _ wd115) dJ6_bitCount_0f7a4_4 ?_
  refine lv_iand hx hb dJ6_bitCount_0f7a4_7 ?_
  refine lv_topi (fun z2 ez2 => ?_)
  have r3 : rg z2 0 1431655765 := rg_andr ez2 rl_1431655765 (by decide)
  refine lv_isub hx hb dJ6_bitCount_0f7a4_8 ?_
  refine lv_topi (fun z4 ez4 => ?_)
  have r5 : rg z4 (-1431655765) 62 := rg_sub ez4 rp0 r3 (by decide)
  refine lv_istore_n (lv' := [(0, .int z4)]) hx hb dJ6_bitCount_0f7a4_9 rfl hl (by decide) rfl (fun ls hl => ?_)
  refine lv_iload_n hx hb dJ6_bitCount_0f7a4_10 rfl (lv_at hl 0 rfl) ?_
  refine lv_ldcw hx hb C.2.2.2.1 (C.2.2.2.2.1 _ wd116) dJ6_bitCount_0f7a4_11 ?_
  refine lv_iand hx hb dJ6_bitCount_0f7a4_14 ?_
  refine lv_topi (fun z6 ez6 => ?_)
  have r7 : rg z6 0 858993459 := rg_andr ez6 rl_858993459 (by decide)
  refine lv_iload_n hx hb dJ6_bitCount_0f7a4_15 rfl (lv_at hl 0 rfl) ?_
  refine lv_iconst (v := (2 : Int32)) hx hb dJ6_bitCount_0f7a4_16 (by decide) ?_
  refine lv_iushr (v := _) hx hb dJ6_bitCount_0f7a4_17 rfl ?_
  refine lv_topi (fun z8 ez8 => ?_)
  refine lv_ldcw hx hb C.2.2.2.1 (C.2.2.2.2.1 _ wd116) dJ6_bitCount_0f7a4_18 ?_
  refine lv_iand hx hb dJ6_bitCount_0f7a4_21 ?_
  refine lv_topi (fun z9 ez9 => ?_)
  have r10 : rg z9 0 858993459 := rg_andr ez9 rl_858993459 (by decide)
  refine lv_iadd hx hb dJ6_bitCount_0f7a4_22 ?_
  refine lv_topi (fun z11 ez11 => ?_)
  have r12 : rg z11 0 1717986918 := rg_add ez11 r7 r10 (by decide)
  refine lv_istore_n (lv' := [(0, .int z11)]) hx hb dJ6_bitCount_0f7a4_23 rfl hl (by decide) rfl (fun ls hl => ?_)
  refine lv_iload_n hx hb dJ6_bitCount_0f7a4_24 rfl (lv_at hl 0 rfl) ?_
  refine lv_iload_n hx hb dJ6_bitCount_0f7a4_25 rfl (lv_at hl 0 rfl) ?_
  refine lv_iconst (v := (4 : Int32)) hx hb dJ6_bitCount_0f7a4_26 (by decide) ?_
  refine lv_iushr (v := _) hx hb dJ6_bitCount_0f7a4_27 rfl ?_
  refine lv_topi (fun z13 ez13 => ?_)
  refine lv_iadd hx hb dJ6_bitCount_0f7a4_28 ?_
  refine lv_topi (fun z14 ez14 => ?_)
  refine lv_ldcw hx hb C.2.2.2.1 (C.2.2.2.2.1 _ wd117) dJ6_bitCount_0f7a4_29 ?_
  refine lv_iand hx hb dJ6_bitCount_0f7a4_32 ?_
  refine lv_topi (fun z15 ez15 => ?_)
  have r16 : rg z15 0 252645135 := rg_andr ez15 rl_252645135 (by decide)
  refine lv_istore_n (lv' := [(0, .int z15)]) hx hb dJ6_bitCount_0f7a4_33 rfl hl (by decide) rfl (fun ls hl => ?_)
  refine lv_iload_n hx hb dJ6_bitCount_0f7a4_34 rfl (lv_at hl 0 rfl) ?_
  refine lv_iload_n hx hb dJ6_bitCount_0f7a4_35 rfl (lv_at hl 0 rfl) ?_
  refine lv_bipush (v := (8 : Int32)) hx hb dJ6_bitCount_0f7a4_36 (by decide) ?_
  refine lv_iushr (v := _) hx hb dJ6_bitCount_0f7a4_38 rfl ?_
  refine lv_topi (fun z17 ez17 => ?_)
  refine lv_iadd hx hb dJ6_bitCount_0f7a4_39 ?_
  refine lv_topi (fun z18 ez18 => ?_)
  refine lv_istore_n (lv' := [(0, .int z18)]) hx hb dJ6_bitCount_0f7a4_40 rfl hl (by decide) rfl (fun ls hl => ?_)
  refine lv_iload_n hx hb dJ6_bitCount_0f7a4_41 rfl (lv_at hl 0 rfl) ?_
  refine lv_iload_n hx hb dJ6_bitCount_0f7a4_42 rfl (lv_at hl 0 rfl) ?_
  refine lv_bipush (v := (16 : Int32)) hx hb dJ6_bitCount_0f7a4_43 (by decide) ?_
  refine lv_iushr (v := _) hx hb dJ6_bitCount_0f7a4_45 rfl ?_
  refine lv_topi (fun z19 ez19 => ?_)
  refine lv_iadd hx hb dJ6_bitCount_0f7a4_46 ?_
  refine lv_topi (fun z20 ez20 => ?_)
  refine lv_istore_n (lv' := [(0, .int z20)]) hx hb dJ6_bitCount_0f7a4_47 rfl hl (by decide) rfl (fun ls hl => ?_)
  refine lv_iload_n hx hb dJ6_bitCount_0f7a4_48 rfl (lv_at hl 0 rfl) ?_
  refine lv_bipush (v := (63 : Int32)) hx hb dJ6_bitCount_0f7a4_49 (by decide) ?_
  refine lv_iand hx hb dJ6_bitCount_0f7a4_51 ?_
  refine lv_topi (fun z21 ez21 => ?_)
  have r22 : rg z21 0 63 := rg_andr ez21 rl_63 (by decide)
  exact g_iret C hr hH (Nat.zero_le _) (Nat.zero_le _) dJ6_bitCount_0f7a4_52 ⟨rfl, hI, ⟨(bc_5 rp0 (by subst_vars; rfl)), (by subst_vars; rfl)⟩⟩
set_option maxHeartbeats 4000000 in
set_option maxRecDepth 100000 in
theorem t_X4_borneBy (l : Launch) (E : gE) (J : Nat → Nat) (τ : Nat → Nat) (L : List Nat) (f : gF) (hI : tI E L τ f) {q : Nat} (mq : q ∈ L) (tq : τ q = 24) (p1 : Int32) (rp1 : rg p1 0 5) (hm : mOK L τ f p1) : tMi l E J yX4_borneBy cX4_borneBy 6 .int (gRm (4) 0 0) [.ref q, .int p1] L f (tPi E L τ [] f (fun r f1 => rg r (-2147483648) 2147483647)) := by
  refine tMi.intro (by decide) (Nat.le_of_ble_eq_true rfl) ?_
  intro p e s m below meth c A ls C hr hA hO hH hl
  have C : gC E cX4_borneBy 6 RX4 p s m _ meth c := C
  have hl : lv_has ls 6 [(0, .ref q), (1, .int p1)] := hl
  have hx := C.1
  have hb := C.2.1
  have hI := hI.S []
  obtain ⟨ld0, mld0, tld0, kld0⟩ := t_fldr hI.1 mq tq td_24 (k := 0) rfl
  obtain ⟨n0, rn0, kn0⟩ := t_fldi hI.1 mld0 tld0 td_3 (k := 7) rfl
  have hm0 := hm ld0 mld0 tld0 n0 kn0
  have cut4 : ∀ (n : Nat) (fh4 : gF) (H : Heap) (locs : List Loc) (ls : Array Slot) (v4_2 : Int32) (v4_3 : Int32), 64 - v4_3.toInt < (n : Int) → tS E L τ [] f fh4 → gH E A L fh4 s.heap H locs → rg v4_3 0 64 → lv_has ls 6 [(0, .ref q), (1, .int p1), (2, .int v4_2), (3, .int v4_3)] → W p l e (gRm (4) 0 0) s m [.ref q, .int p1].toArray below meth c H locs 0 0 (MQ below (gQi E A (tPi E L τ [] f (fun r f1 => rg r (-2147483648) 2147483647))) [.ref q, .int p1].toArray s (gRm (4) 0 0).cells (gRm (4) 0 0).slots A) (F0 m 4 ls []) := by
    intro n
    induction n with
    | zero =>
      intro fh4 H locs ls v4_2 v4_3 hfu4 hI hH r_v4_3 hl
      exact (fu_0 hfu4 r_v4_3).elim
    | succ n ih4 =>
      intro fh4 H locs ls v4_2 v4_3 hfu4 hI hH r_v4_3 hl
      refine lv_iload_n hx hb dX4_borneBy_4 rfl (lv_at hl 3 rfl) ?_
      refine lv_aload_n hx hb dX4_borneBy_5 rfl (lv_at hl 0 rfl) ?_
      refine t_getX C hH hI.1 mq tq td_24 iX4 rfl 0 (by decide) wd268 rfl (fld.eq kld0 (hI.fr q mq (t_lim tq rfl))) dX4_borneBy_6 ?_
      refine t_Vi C hO hl.1 hA hH hI.1 (As := []) (rest := [.int v4_3]) (t_allMembersX l E J τ L fh4 hI.1 mld0 tld0) my_X3_allMembers wd301 mld0 tld0 td_3 rfl rfl rfl (Nat.le_of_ble_eq_true rfl) ⟨Nat.le_of_ble_eq_true rfl, Nat.le_of_ble_eq_true rfl⟩ ⟨rfl, rfl⟩ dX4_borneBy_9 (fun r2 L1 f1 H locs hp hH => ?_)
      obtain ⟨rfl, s3, h4⟩ := hp
      have hJ := hI
      have hI := hI.call s3 (by decide)
      have am5 := h4.2 n0 (fld.eq kn0 (hJ.fr ld0 mld0 (t_lim tld0 rfl)))
      refine lv_icmp_gt (tgt := 81) hx hb dX4_borneBy_12 (by decide) (fun c6 => ?_) (fun c6 => ?_)
      · skip
        have r7 : rg v4_3 1 64 := rf_ltr (c_lt c6) h4.1 r_v4_3 (by decide)
        refine lv_iload_n hx hb dX4_borneBy_81 rfl (lv_at hl 2 rfl) ?_
        exact g_iret C hr hH (Nat.zero_le _) (Nat.zero_le _) dX4_borneBy_82 ⟨rfl, hI, (rg_all _)⟩
      · skip
        have r8 : rg v4_3 0 63 := rf_lel (n_lt c6) r_v4_3 h4.1 (by decide)
        refine lv_iload_n hx hb dX4_borneBy_15 rfl (lv_at hl 3 rfl) ?_
        refine lv_iload_n hx hb dX4_borneBy_16 rfl (lv_at hl 1 rfl) ?_
        refine t_SNi C hO hl.1 hA hH (As := [.int v4_3, .int p1]) (rest := []) (t_hasBitX l E J τ L f1 hI.1 v4_3 r8 p1 rp1) my_X9_hasBit (host := "GooseShares") (List.mem_of_getElem? (i := 7) rfl) rfl rfl (Nat.le_of_ble_eq_true rfl) ⟨Nat.le_of_ble_eq_true rfl, Nat.le_of_ble_eq_true rfl⟩ ⟨rfl, rfl⟩ dX4_borneBy_17 (fun r10 L1 f9 H locs hp hH => ?_)
        obtain ⟨rfl, s11, h12⟩ := hp
        have hJ := hI
        have hI := hI.call s11 (by decide)
        refine lv_if_ne (tgt := 75) hx hb dX4_borneBy_20 (by decide) (fun c13 => ?_) (fun c13 => ?_)
        · skip
          have r14 : rg r10 1 1 := rf_nel (n_eq c13) h12.1 rl_0 (by decide)
          obtain ⟨z15, ez15⟩ : ∃ y : Int32, y = v4_3 + (1 : Int32) := ⟨_, rfl⟩
          have r16 : rg z15 1 64 := rg_add ez15 r8 rl_1 (by decide)
          have a17 : z15.toInt = v4_3.toInt + 1 := ai_add ez15 r8 tl_1 (by decide)
          refine lv_iinc (v := z15) (lv' := [(3, .int z15), (0, .ref q), (1, .int p1), (2, .int v4_2)]) hx hb dX4_borneBy_75 hl (k := 3) rfl (by rw [ez15]; rfl) (by decide) rfl (fun ls hl => ?_)
          refine lv_goto (tgt := 4) hx hb dX4_borneBy_78 (by decide) ?_
          exact ih4 _ _ _ _ v4_2 z15 (fu_s hfu4 a17 (by decide)) hI hH (rg_w r16 (by decide)) (lv_sub hl [1, 2, 3, 0] rfl)
        · skip
          have r18 : rg r10 0 0 := rf_eql (c_eq c13) h12.1 rl_0 (by decide)
          have r19 : rg v4_3 0 62 := h12.2.1 c13
          refine lv_iload_n hx hb dX4_borneBy_23 rfl (lv_at hl 3 rfl) ?_
          refine t_Si C hO hl.1 hA hH (As := [.int v4_3]) (rest := []) (t_bitX l E J τ L f9 hI.1 v4_3 r19) my_J6_bitCount_0f7a4 wd290 rfl rfl (Nat.le_of_ble_eq_true rfl) ⟨Nat.le_of_ble_eq_true rfl, Nat.le_of_ble_eq_true rfl⟩ ⟨rfl, rfl⟩ dX4_borneBy_24 (fun r21 L1 f20 H locs hp hH => ?_)
          obtain ⟨rfl, s22, h23⟩ := hp
          have hJ := hI
          have hI := hI.call s22 (by decide)
          refine lv_istore (lv' := [(4, .int r21), (0, .ref q), (1, .int p1), (2, .int v4_2), (3, .int v4_3)]) hx hb dX4_borneBy_27 hl (by decide) rfl (fun ls hl => ?_)
          refine lv_aload_n hx hb dX4_borneBy_29 rfl (lv_at hl 1 rfl) ?_
          refine lv_iload_n hx hb dX4_borneBy_30 rfl (lv_at hl 4 rfl) ?_
          refine lv_iconst (v := (1 : Int32)) hx hb dX4_borneBy_31 (by decide) ?_
          refine lv_iload_n hx hb dX4_borneBy_32 rfl (lv_at hl 2 rfl) ?_
          refine lv_ishl hx hb dX4_borneBy_33 ?_
          refine lv_topi (fun z24 ez24 => ?_)
          have r25 : rg z24 1 32 := rg_shl 0 5 ez24 rp1 (by decide)
          refine lv_ior hx hb dX4_borneBy_34 ?_
          refine lv_topi (fun z26 ez26 => ?_)
          have r27 : rg z26 0 63 := rg_or 6 ez26 r19 r25 (by decide)
          refine t_Vi C hO hl.1 hA hH hI.1 (As := [.int z26]) (rest := []) (t_X4_costOf l E J τ L f20 hI.1 mq tq z26) my_X4_costOf wd305 mq tq td_24 rfl rfl rfl (Nat.le_of_ble_eq_true rfl) ⟨Nat.le_of_ble_eq_true rfl, Nat.le_of_ble_eq_true rfl⟩ ⟨rfl, rfl⟩ dX4_borneBy_35 (fun r29 L1 f28 H locs hp hH => ?_)
          obtain ⟨rfl, s30, h31⟩ := hp
          have hI := hI.call s30 (by decide)
          refine lv_aload_n hx hb dX4_borneBy_38 rfl (lv_at hl 1 rfl) ?_
          refine lv_iload_n hx hb dX4_borneBy_39 rfl (lv_at hl 4 rfl) ?_
          refine t_Vi C hO hl.1 hA hH hI.1 (As := [.int v4_3]) (rest := [.int r29]) (t_X4_costOf l E J τ L f28 hI.1 mq tq v4_3) my_X4_costOf wd305 mq tq td_24 rfl rfl rfl (Nat.le_of_ble_eq_true rfl) ⟨Nat.le_of_ble_eq_true rfl, Nat.le_of_ble_eq_true rfl⟩ ⟨rfl, rfl⟩ dX4_borneBy_40 (fun r33 L1 f32 H locs hp hH => ?_)
          obtain ⟨rfl, s34, h35⟩ := hp
          have hI := hI.call s34 (by decide)
          refine lv_isub hx hb dX4_borneBy_43 ?_
          refine lv_topi (fun z36 ez36 => ?_)
          refine lv_istore (lv' := [(5, .int z36), (4, .int r21), (0, .ref q), (1, .int p1), (2, .int v4_2), (3, .int v4_3)]) hx hb dX4_borneBy_44 hl (by decide) rfl (fun ls hl => ?_)
          refine lv_iload_n hx hb dX4_borneBy_46 rfl (lv_at hl 4 rfl) ?_
          refine lv_iload hx hb dX4_borneBy_47 (lv_at hl 0 rfl) ?_
          refine va_gets hx hb hO.1.1 hH.2.2 C.2.2.2.1 (C.2.2.2.2.1 _ wd299) (fun _ h => h) dX4_borneBy_49 ?_
          refine lv_iload hx hb dX4_borneBy_52 (lv_at hl 1 rfl) ?_
          refine va_ti hx hb hO.1.2 hH.2.2 (rg_in h23.1 (by decide)) rfl dX4_borneBy_54 ?_
          refine lv_topi (fun z37 ez37 => ?_)
          refine lv_imul hx hb dX4_borneBy_55 ?_
          refine lv_topi (fun z38 ez38 => ?_)
          refine va_gets hx hb hO.1.1 hH.2.2 C.2.2.2.1 (C.2.2.2.2.1 _ wd299) (fun _ h => h) dX4_borneBy_56 ?_
          refine lv_aload_n hx hb dX4_borneBy_59 rfl (lv_at hl 2 rfl) ?_
          refine t_getX C hH hI.1 mq tq td_24 iX4 rfl 0 (by decide) wd268 rfl (fld.eq kld0 (hI.fr q mq (t_lim tq rfl))) dX4_borneBy_60 ?_
          refine t_getX C hH hI.1 mld0 tld0 td_3 iX3 rfl 7 (by decide) wd300 rfl (fld.eq kn0 (hI.fr ld0 mld0 (t_lim tld0 rfl))) dX4_borneBy_63 ?_
          refine lv_iconst (v := (1 : Int32)) hx hb dX4_borneBy_66 (by decide) ?_
          refine lv_isub hx hb dX4_borneBy_67 ?_
          refine lv_topi (fun z39 ez39 => ?_)
          have r40 : rg z39 (-1) 5 := rg_sub ez39 rn0 rl_1 (by decide)
          refine lv_iload hx hb dX4_borneBy_68 (lv_at hl 1 rfl) ?_
          refine lv_isub hx hb dX4_borneBy_70 ?_
          refine lv_topi (fun z41 ez41 => ?_)
          have r42 : rg z41 (-6) 5 := rg_sub ez41 r40 h23.1 (by decide)
          have r43 : rg z41 0 6 := fac_ix (rg_w r19 (by decide)) rp1 rn0 hm0 (by rw [← am5]; exact n_lt c6) (h12.2.2 c13) h23.2 ez39 ez41
          refine va_ti hx hb hO.1.2 hH.2.2 (rg_in r43 (by decide)) rfl dX4_borneBy_71 ?_
          refine lv_topi (fun z44 ez44 => ?_)
          refine lv_imul hx hb dX4_borneBy_72 ?_
          refine lv_topi (fun z45 ez45 => ?_)
          refine lv_iadd hx hb dX4_borneBy_73 ?_
          refine lv_topi (fun z46 ez46 => ?_)
          refine lv_istore_n (lv' := [(2, .int z46), (5, .int z36), (4, .int r21), (0, .ref q), (1, .int p1), (3, .int v4_3)]) hx hb dX4_borneBy_74 rfl hl (by decide) rfl (fun ls hl => ?_)
          obtain ⟨z47, ez47⟩ : ∃ y : Int32, y = v4_3 + (1 : Int32) := ⟨_, rfl⟩
          have r48 : rg z47 1 63 := rg_add ez47 r19 rl_1 (by decide)
          have a49 : z47.toInt = v4_3.toInt + 1 := ai_add ez47 r19 tl_1 (by decide)
          refine lv_iinc (v := z47) (lv' := [(3, .int z47), (2, .int z46), (5, .int z36), (4, .int r21), (0, .ref q), (1, .int p1)]) hx hb dX4_borneBy_75 hl (k := 5) rfl (by rw [ez47]; rfl) (by decide) rfl (fun ls hl => ?_)
          refine lv_goto (tgt := 4) hx hb dX4_borneBy_78 (by decide) ?_
          exact ih4 _ _ _ _ z46 z47 (fu_s hfu4 a49 (by decide)) hI hH (rg_w r48 (by decide)) (lv_sub hl [4, 5, 1, 0] rfl)
  refine lv_iconst (v := (0 : Int32)) hx hb dX4_borneBy_0 (by decide) ?_
  refine lv_istore_n (lv' := [(2, .int (0 : Int32)), (0, .ref q), (1, .int p1)]) hx hb dX4_borneBy_1 rfl hl (by decide) rfl (fun ls hl => ?_)
  refine lv_iconst (v := (0 : Int32)) hx hb dX4_borneBy_2 (by decide) ?_
  refine lv_istore_n (lv' := [(3, .int (0 : Int32)), (2, .int (0 : Int32)), (0, .ref q), (1, .int p1)]) hx hb dX4_borneBy_3 rfl hl (by decide) rfl (fun ls hl => ?_)
  exact cut4 65 _ _ _ _ (0 : Int32) (0 : Int32) (fu_i 65 rl_0 (by decide)) hI hH (rg_w rl_0 (by decide)) (lv_sub hl [2, 3, 1, 0] rfl)
