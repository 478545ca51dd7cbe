/-! rows told for laws and for beginnings -/
def cOK (d : Nat) (h0 h1 : Int) (vc : Nat → Int64) (s : Int32) (k : Nat) : Prop := (0 ≤ (vc (60 * s.toInt.toNat + d * k)).toInt ∧ (vc (60 * s.toInt.toNat + d * k)).toInt ≤ h0) ∧ (0 ≤ (vc (60 * s.toInt.toNat + d * k + 1)).toInt ∧ (vc (60 * s.toInt.toNat + d * k + 1)).toInt ≤ h1)
def rowsOK (d : Nat) (h0 h1 : Int) (vm : Nat → Int32) (vc : Nat → Int64) (s : Int32) : Prop := (∃ m : Nat, (vm s.toNatClampNeg).toInt = (d : Int) * (m : Int)) ∧ ∀ k : Nat, (d : Int) * (k : Int) < (vm s.toNatClampNeg).toInt → cOK d h0 h1 vc s k
theorem md_ok {x y z v w : Int32} (d : Nat) (e : z = x - x / y * y) (hy : y.toInt = (d : Int)) (hx : rg x 0 60) (hz : z.toInt = w.toInt) (hw : w.toInt = 0) (ex : x = v) (hd : 0 < d) : ∃ m : Nat, v.toInt = (d : Int) * (m : Int) := by
  have h1 := rem_eq e hx hy (by simp only [Bool.and_eq_true, decide_eq_true_eq]; omega)
  have h2 : x.toInt % (d : Int) = 0 := by omega
  have h3 : (d : Int) * (x.toInt / (d : Int)) + x.toInt % (d : Int) = x.toInt := Int.mul_ediv_add_emod _ _
  have h4 : 0 ≤ x.toInt / (d : Int) := Int.ediv_nonneg hx.1 (by omega)
  refine ⟨(x.toInt / (d : Int)).toNat, ?_⟩
  rw [← ex, Int.toNat_of_nonneg h4]
  omega
theorem cj_rg {v x y : Int32} {a b : Int} (d : Nat) (F : ∃ j : Nat, v.toInt = (d : Int) * (j : Int)) (M : ∃ m : Nat, y.toInt = (d : Int) * (m : Int)) (h : v.toInt < x.toInt) (ex : x = y) (rx : rg x a b) (hb : b ≤ 60) (hd : 0 < d) : rg v 0 (60 - d) := by
  obtain ⟨j, hj⟩ := F
  obtain ⟨m, hm⟩ := M
  rw [ex] at h rx
  unfold rg at *
  have h1 : (d : Int) * (j : Int) < (d : Int) * (m : Int) := by omega
  have h2 : (j : Int) < (m : Int) := Int.lt_of_mul_lt_mul_left h1 (by omega)
  have h3 : (d : Int) * ((j : Int) + 1) ≤ (d : Int) * (m : Int) := Int.mul_le_mul_of_nonneg_left (by omega) (by omega)
  have h4 : 0 ≤ (d : Int) * (j : Int) := Int.mul_nonneg (by omega) (by omega)
  rw [Int.mul_add, Int.mul_one] at h3
  omega
theorem cj_0 {P : Nat → Prop} (d : Nat) : ∃ j : Nat, (0 : Int32).toInt = (d : Int) * (j : Int) ∧ ∀ k, k < j → P k := ⟨0, by rw [show (0 : Int32).toInt = 0 from by decide]; simp, fun _ h => absurd h (Nat.not_lt_zero _)⟩
theorem cj_1 {v : Int32} {d : Nat} {P : Nat → Prop} (F : ∃ j : Nat, v.toInt = (d : Int) * (j : Int) ∧ ∀ k, k < j → P k) : ∃ j : Nat, v.toInt = (d : Int) * (j : Int) := by
  obtain ⟨j, h, -⟩ := F
  exact ⟨j, h⟩
theorem cj_x {s v z60 k : Int32} (hs : rg s 0 3) (hv : rg v 0 60) (e1 : z60 = (60 : Int32) * s) (e2 : k = z60 + v) : k.toInt = 60 * s.toInt + v.toInt := by
  have t : (60 : Int32).toInt = 60 := by decide
  unfold rg at *
  have h1 : z60.toInt = 60 * s.toInt := by rw [e1, Int32.toInt_mul, t, bmI (by omega) (by omega)]
  rw [e2, Int32.toInt_add, h1, bmI (by omega) (by omega)]
theorem cj_s {d : Nat} {h0 h1 : Int} {vc : Nat → Int64} {s v v' k k2 : Int32} {a b : Int64} (F : ∃ j : Nat, v.toInt = (d : Int) * (j : Int) ∧ ∀ q, q < j → cOK d h0 h1 vc s q) (ha : v'.toInt = v.toInt + (d : Int)) (hs : rg s 0 3) (hk : k.toInt = 60 * s.toInt + v.toInt) (hk2 : k2.toInt = 60 * s.toInt + v.toInt + 1) (ea : a = vc k.toNatClampNeg) (eb : b = vc k2.toNatClampNeg) (pa : 0 ≤ a.toInt ∧ a.toInt ≤ h0) (pb : 0 ≤ b.toInt ∧ b.toInt ≤ h1) : ∃ j : Nat, v'.toInt = (d : Int) * (j : Int) ∧ ∀ q, q < j → cOK d h0 h1 vc s q := by
  obtain ⟨j, hj, hq⟩ := F
  have hdj : ((d * j : Nat) : Int) = (d : Int) * (j : Int) := Int.natCast_mul d j
  unfold rg at hs
  have n1 : k.toNatClampNeg = 60 * s.toInt.toNat + d * j := by show k.toInt.toNat = _; omega
  have n2 : k2.toNatClampNeg = 60 * s.toInt.toNat + d * j + 1 := by show k2.toInt.toNat = _; omega
  rw [n1] at ea
  rw [n2] at eb
  refine ⟨j + 1, ?_, fun q hq2 => ?_⟩
  · rw [ha, hj, Int.natCast_add, Int.mul_add, Int.natCast_one, Int.mul_one]
  · by_cases e : q = j
    · subst e
      exact ⟨by rw [← ea]; exact pa, by rw [← eb]; exact pb⟩
    · exact hq q (by omega)
theorem cj_2 {d : Nat} {v v' : Int32} (F : ∃ j : Nat, v.toInt = (d : Int) * (j : Int) ∧ ∀ k : Nat, k < j → True) (ha : v'.toInt = v.toInt + (d : Int)) : ∃ j : Nat, v'.toInt = (d : Int) * (j : Int) ∧ ∀ k : Nat, k < j → True := by
  obtain ⟨j, hj, -⟩ := F
  refine ⟨j + 1, ?_, fun _ _ => trivial⟩
  rw [ha, hj, Int.natCast_add, Int.mul_add, Int.natCast_one, Int.mul_one]
theorem cj_e {d : Nat} {h0 h1 : Int} {vm : Nat → Int32} {vc : Nat → Int64} {s v x : Int32} (F : ∃ j : Nat, v.toInt = (d : Int) * (j : Int) ∧ ∀ q, q < j → cOK d h0 h1 vc s q) (M : ∃ m : Nat, (vm s.toNatClampNeg).toInt = (d : Int) * (m : Int)) (h : x.toInt ≤ v.toInt) (ex : x = vm s.toNatClampNeg) : rowsOK d h0 h1 vm vc s := by
  obtain ⟨j, hj, hq⟩ := F
  refine ⟨M, fun k hk => hq k ?_⟩
  rw [← ex] at hk
  have h2 : (d : Int) * (k : Int) < (d : Int) * (j : Int) := by omega
  have h3 : (k : Int) < (j : Int) := Int.lt_of_mul_lt_mul_left h2 (by omega)
  omega
theorem cj_v {d : Nat} {h0 h1 : Int} {vm : Nat → Int32} {vc : Nat → Int64} {s v x : Int32} (hs0 : rowsOK d h0 h1 vm vc s) (F : ∃ j : Nat, v.toInt = (d : Int) * (j : Int) ∧ ∀ k : Nat, k < j → True) (h : v.toInt < x.toInt) (ex : x = vm s.toNatClampNeg) : ∃ j : Nat, v.toInt = (d : Int) * (j : Int) ∧ cOK d h0 h1 vc s j := by
  obtain ⟨j, hj, -⟩ := F
  exact ⟨j, hj, hs0.2 j (by rw [← ex]; omega)⟩
theorem cj_a {d : Nat} {h0 h1 : Int} {vc : Nat → Int64} {s v k z : Int32} {a : Int64} (F : ∃ j : Nat, v.toInt = (d : Int) * (j : Int) ∧ cOK d h0 h1 vc s j) (hs : rg s 0 3) (hk : k.toInt = 60 * s.toInt + v.toInt) (ea : a = vc k.toNatClampNeg) (e : z = a.toInt32) (hb : h0 ≤ 1000) : rg z 0 h0 := by
  obtain ⟨j, hj, h, -⟩ := F
  have hdj : ((d * j : Nat) : Int) = (d : Int) * (j : Int) := Int.natCast_mul d j
  unfold rg at hs
  have n1 : k.toNatClampNeg = 60 * s.toInt.toNat + d * j := by show k.toInt.toNat = _; omega
  rw [n1] at ea
  exact l2i_rg (by rw [ea]; exact h) (by simp only [decide_eq_true_eq]; exact hb) e
theorem cj_b {d : Nat} {h0 h1 : Int} {vc : Nat → Int64} {s v k z : Int32} {a : Int64} (F : ∃ j : Nat, v.toInt = (d : Int) * (j : Int) ∧ cOK d h0 h1 vc s j) (hs : rg s 0 3) (hk : k.toInt = 60 * s.toInt + v.toInt + 1) (ea : a = vc k.toNatClampNeg) (e : z = a.toInt32) (hb : h1 ≤ 1000) : rg z 0 h1 := by
  obtain ⟨j, hj, -, h⟩ := F
  have hdj : ((d * j : Nat) : Int) = (d : Int) * (j : Int) := Int.natCast_mul d j
  unfold rg at hs
  have n1 : k.toNatClampNeg = 60 * s.toInt.toNat + d * j + 1 := by show k.toInt.toNat = _; omega
  rw [n1] at ea
  exact l2i_rg (by rw [ea]; exact h) (by simp only [decide_eq_true_eq]; exact hb) e
theorem hm_0 {vh : Nat → Int32} (h : hasP vh) : (0 : Int32).toInt ≤ (vh 6).toInt := by
  rw [show (0 : Int32).toInt = 0 from by decide]
  exact (h 6 (by decide)).1
theorem hm_c {vh : Nat → Int32} (h : hasP vh) : (vh 6).toInt - (0 : Int32).toInt < ((7 : Nat) : Int) := by
  rw [show (0 : Int32).toInt = 0 from by decide]
  have h1 : (vh 6).toInt ≤ 6 := (h 6 (by decide)).2
  omega
theorem hm_lt {vh : Nat → Int32} {p r : Int32} {a b : Int} (hm : p.toInt ≤ (vh 6).toInt) (er : r = vh 6) (h : ¬ p.toInt = r.toInt) : p.toInt < (vh 6).toInt := by
  rw [er] at h
  omega
theorem hm_5 {vh : Nat → Int32} {p r : Int32} {a b : Int} (h : p.toInt < (vh 6).toInt) (er : r = vh 6) (rr : rg r 0 6) (rp : rg p a b) (ha : 0 ≤ a) : rg p 0 5 := by
  rw [er] at rr
  unfold rg at *
  omega
theorem many_rg {v : Nat → Int32} (h : tR 4 0 60 v) {i z : Int32} (hi : vp_in i 4) (e : z = v i.toNatClampNeg) : rg z 0 60 := by
  rw [e]
  exact h _ (vp_lt hi)
theorem in_01 {a x y : Int64} {n : Int} (h : x.toInt ≤ a.toInt ∧ a.toInt ≤ y.toInt) (hx : x.toInt = 0) (hy : y.toInt = n) : 0 ≤ a.toInt ∧ a.toInt ≤ n := by
  rw [hx, hy] at h
  exact h
set_option maxHeartbeats 4000000 in
set_option maxRecDepth 100000 in
theorem t_X10_homesFrom (l : Launch) (E : gE) (J : Nat → Nat) (τ : Nat → Nat) (L : List Nat) (N : Nat) : ∀ (f : gF) (hI : tI E L τ f) {q : Nat} (mq : q ∈ L) (tq : τ q = 40) (p1 : Int32) (rp1 : rg p1 0 6) (p2 : Int32) (p3 : Int32) {vh : Nat → Int32} (hh : isA E L τ f 47 45 vh) (hm : p1.toInt ≤ (vh 6).toInt), (vh 6).toInt - p1.toInt < (N : Int) → tMv l E J yX10_homesFrom cX10_homesFrom 5 (gRm (3 + N) 0 0) [.ref q, .int p1, .int p2, .int p3] L f (tPv E L τ [40, 64, 65] f (fun f1 => True)) := by
  induction N with
  | zero =>
    intro f hI q mq tq p1 rp1 p2 p3 vh hh hm hc
    exact absurd hc (by omega)
  | succ N ih =>
    intro f hI q mq tq p1 rp1 p2 p3 vh hh hm hc
    refine tMv.intro (by decide) (Nat.le_of_ble_eq_true rfl) ?_
    intro p e s m below meth c A ls C hr hA hO hH hl
    have C : gC E cX10_homesFrom 5 RX10 p s m _ meth c := C
    have hl : lv_has ls 5 [(0, .ref q), (1, .int p1), (2, .int p2), (3, .int p3)] := hl
    have hx := C.1
    have hb := C.2.1
    have hI := hI.S [40, 64, 65]
    obtain ⟨q_41, mq_41, tq_41, kq_41⟩ := t_fldr hI.1 mq tq td_40 (k := 41) rfl
    obtain ⟨q_19, mq_19, tq_19, kq_19⟩ := t_fldr hI.1 mq tq td_40 (k := 19) rfl
    obtain ⟨q_42, mq_42, tq_42, kq_42⟩ := t_fldr hI.1 mq tq td_40 (k := 42) rfl
    have cut40 : ∀ (n : Nat) (fh40 : gF) (H : Heap) (locs : List Loc) (ls : Array Slot) (v40_4 : Int32), 6 - v40_4.toInt < (n : Int) → tS E L τ [40, 64, 65] f fh40 → gH E A L fh40 s.heap H locs → rg v40_4 0 6 → lv_has ls 5 [(0, .ref q), (1, .int p1), (2, .int p2), (3, .int p3), (4, .int v40_4)] → W p l e (gRm (3 + (N + 1)) 0 0) s m [.ref q, .int p1, .int p2, .int p3].toArray below meth c H locs 0 0 (MQ below (gQv E A (tPv E L τ [40, 64, 65] f (fun f1 => True))) [.ref q, .int p1, .int p2, .int p3].toArray s (gRm (3 + (N + 1)) 0 0).cells (gRm (3 + (N + 1)) 0 0).slots A) (F0 m 40 ls []) := by
      intro n
      induction n with
      | zero =>
        intro fh40 H locs ls v40_4 hfu40 hI hH r_v40_4 hl
        exact (fu_0 hfu40 r_v40_4).elim
      | succ n ih40 =>
        intro fh40 H locs ls v40_4 hfu40 hI hH r_v40_4 hl
        refine lv_iload hx hb dX10_homesFrom_40 (lv_at hl 4 rfl) ?_
        refine lv_iload_n hx hb dX10_homesFrom_42 rfl (lv_at hl 1 rfl) ?_
        refine lv_icmp_ge (tgt := 66) hx hb dX10_homesFrom_43 (by decide) (fun c1 => ?_) (fun c1 => ?_)
        · skip
          exact g_vret C hr hH (Nat.zero_le _) (Nat.zero_le _) dX10_homesFrom_66 ⟨rfl, hI, trivial⟩
        · skip
          have r2 : rg v40_4 0 5 := rf_ltl (n_le c1) r_v40_4 rp1 (by decide)
          have r3 : rg p1 1 6 := rf_ltr (n_le c1) r_v40_4 rp1 (by decide)
          refine lv_aload_n hx hb dX10_homesFrom_46 rfl (lv_at hl 0 rfl) ?_
          refine t_getX C hH hI.1 mq tq td_40 iX10 rfl 42 (by decide) wd854 rfl (hI.rf kq_42) dX10_homesFrom_47 ?_
          refine lv_iload hx hb dX10_homesFrom_50 (lv_at hl 4 rfl) ?_
          refine lv_aload_n hx hb dX10_homesFrom_52 rfl (lv_at hl 0 rfl) ?_
          refine t_getX C hH hI.1 mq tq td_40 iX10 rfl 41 (by decide) wd853 rfl (hI.rf kq_41) dX10_homesFrom_53 ?_
          refine lv_iload hx hb dX10_homesFrom_56 (lv_at hl 4 rfl) ?_
          refine t_aldR C hH hI.1 mq_41 tq_41 td_64 (rg_in r2 (by decide)) dX10_homesFrom_58 (fun z4 rz4 => ?_)
          refine t_ast C hH hI mq_42 tq_42 (by decide) td_65 (rg_in r2 (by decide)) (fun _ _ _ => trivial) dX10_homesFrom_59 (fun f5 H locs hH hI bf5 uf5 => ?_)
          obtain ⟨z6, ez6⟩ : ∃ y : Int32, y = v40_4 + (1 : Int32) := ⟨_, rfl⟩
          have r7 : rg z6 1 6 := rg_add ez6 r2 rl_1 (by decide)
          have a8 : z6.toInt = v40_4.toInt + 1 := ai_add ez6 r2 tl_1 (by decide)
          refine lv_iinc (v := z6) (lv' := [(4, .int z6), (0, .ref q), (1, .int p1), (2, .int p2), (3, .int p3)]) hx hb dX10_homesFrom_60 hl (k := 4) rfl (by rw [ez6]; rfl) (by decide) rfl (fun ls hl => ?_)
          refine lv_goto (tgt := 40) hx hb dX10_homesFrom_63 (by decide) ?_
          exact ih40 _ _ _ _ z6 (fu_s hfu40 a8 (by decide)) hI hH (rg_w r7 (by decide)) (lv_sub hl [1, 2, 3, 4, 0] rfl)
    have cut70 : ∀ (n : Nat) (fh70 : gF) (H : Heap) (locs : List Loc) (ls : Array Slot) (v70_4 : Int32), 6 - v70_4.toInt < (n : Int) → tS E L τ [40, 64, 65] f fh70 → gH E A L fh70 s.heap H locs → rg v70_4 0 6 → rg p1 0 5 → p1.toInt < (vh 6).toInt → lv_has ls 5 [(0, .ref q), (1, .int p1), (2, .int p2), (3, .int p3), (4, .int v70_4)] → W p l e (gRm (3 + (N + 1)) 0 0) s m [.ref q, .int p1, .int p2, .int p3].toArray below meth c H locs 0 0 (MQ below (gQv E A (tPv E L τ [40, 64, 65] f (fun f1 => True))) [.ref q, .int p1, .int p2, .int p3].toArray s (gRm (3 + (N + 1)) 0 0).cells (gRm (3 + (N + 1)) 0 0).slots A) (F0 m 70 ls []) := by
      intro n
      induction n with
      | zero =>
        intro fh70 H locs ls v70_4 hfu70 hI hH r_v70_4 r70_p1 F70_lt hl
        exact (fu_0 hfu70 r_v70_4).elim
      | succ n ih70 =>
        intro fh70 H locs ls v70_4 hfu70 hI hH r_v70_4 r70_p1 F70_lt hl
        refine lv_iload hx hb dX10_homesFrom_70 (lv_at hl 4 rfl) ?_
        refine lv_aload_n hx hb dX10_homesFrom_72 rfl (lv_at hl 0 rfl) ?_
        refine t_Vi C hO hl.1 hA hH hI.1 (As := []) (rest := [.int v70_4]) (t_X10_members l E J τ L fh70 hI.1 mq tq) my_X10_members wd756 mq tq td_40 rfl rfl rfl (Nat.le_of_ble_eq_true rfl) ⟨(by show 1 + 1 ≤ 3 + (N + 1); omega), (by show 8 + (1 + 11) + 100 * (1) ≤ 100 * (3 + (N + 1)); omega)⟩ ⟨rfl, rfl⟩ dX10_homesFrom_73 (fun r10 L1 f9 H locs hp hH => ?_)
        obtain ⟨rfl, s11, h12⟩ := hp
        have hJ := hI
        have hI := hI.call s11 (by decide)
        have mr13 := h12.2 vh (hh.S hJ rfl)
        refine lv_icmp_ge (tgt := 150) hx hb dX10_homesFrom_76 (by decide) (fun c14 => ?_) (fun c14 => ?_)
        · skip
          exact g_vret C hr hH (Nat.zero_le _) (Nat.zero_le _) dX10_homesFrom_150 ⟨rfl, hI, trivial⟩
        · skip
          have r15 : rg v70_4 0 5 := rf_ltl (n_le c14) r_v70_4 h12.1 (by decide)
          have r16 : rg r10 1 6 := rf_ltr (n_le c14) r_v70_4 h12.1 (by decide)
          refine lv_iload_n hx hb dX10_homesFrom_79 rfl (lv_at hl 2 rfl) ?_
          refine lv_iload hx hb dX10_homesFrom_80 (lv_at hl 4 rfl) ?_
          refine t_Si C hO hl.1 hA hH (As := [.int p2, .int v70_4]) (rest := []) (t_X10_isBit l E J τ L f9 hI.1 p2 v70_4) my_X10_isBit wd783 rfl rfl (Nat.le_of_ble_eq_true rfl) ⟨(by show 1 + 1 ≤ 3 + (N + 1); omega), (by show 8 + (2 + 11) + 100 * (1) ≤ 100 * (3 + (N + 1)); omega)⟩ ⟨rfl, rfl⟩ dX10_homesFrom_82 (fun r18 L1 f17 H locs hp hH => ?_)
          obtain ⟨rfl, s19, h20⟩ := hp
          have hI := hI.call s19 (by decide)
          refine lv_if_eq (tgt := 91) hx hb dX10_homesFrom_85 (by decide) (fun c21 => ?_) (fun c21 => ?_)
          · skip
            have r22 : rg r18 0 0 := rf_eql (c_eq c21) h20 rl_0 (by decide)
            refine lv_aload_n hx hb dX10_homesFrom_91 rfl (lv_at hl 0 rfl) ?_
            refine t_getX C hH hI.1 mq tq td_40 iX10 rfl 41 (by decide) wd853 rfl (hI.rf kq_41) dX10_homesFrom_92 ?_
            refine lv_iload_n hx hb dX10_homesFrom_95 rfl (lv_at hl 1 rfl) ?_
            refine lv_aload_n hx hb dX10_homesFrom_96 rfl (lv_at hl 0 rfl) ?_
            refine t_getX C hH hI.1 mq tq td_40 iX10 rfl 19 (by decide) wd818 rfl (hI.rf kq_19) dX10_homesFrom_97 ?_
            refine lv_iconst (v := (3 : Int32)) hx hb dX10_homesFrom_100 (by decide) ?_
            refine lv_iload hx hb dX10_homesFrom_101 (lv_at hl 4 rfl) ?_
            refine lv_imul hx hb dX10_homesFrom_103 ?_
            refine lv_topi (fun z23 ez23 => ?_)
            have r24 : rg z23 0 15 := rg_mul ez23 rl_3 r15 (by decide)
            have m25 := mul3 ez23 r15 (by decide)
            refine t_ald C hH hI.1 mq_19 tq_19 td_49 (rg_in r24 (by decide)) dX10_homesFrom_104 (fun z26v az26 pz26 => ?_)
            refine lv_topi (fun z26 ez26 => ?_)
            have r27 : rg z26 0 19 := mem_c pz26 (rg_in r24 (by decide)) m25 ez26
            refine t_ast C hH hI mq_41 tq_41 (by decide) td_64 (rg_in r70_p1 (by decide)) (fun _ _ h => tR_upd h r27) dX10_homesFrom_105 (fun f28 H locs hH hI bf28 uf28 => ?_)
            refine lv_aload_n hx hb dX10_homesFrom_106 rfl (lv_at hl 0 rfl) ?_
            refine lv_iload_n hx hb dX10_homesFrom_107 rfl (lv_at hl 1 rfl) ?_
            refine lv_iconst (v := (1 : Int32)) hx hb dX10_homesFrom_108 (by decide) ?_
            refine lv_iadd hx hb dX10_homesFrom_109 ?_
            refine lv_topi (fun z29 ez29 => ?_)
            have r30 : rg z29 1 6 := rg_add ez29 r70_p1 rl_1 (by decide)
            have a31 : z29.toInt = p1.toInt + 1 := ai_add ez29 r70_p1 tl_1 (by decide)
            refine lv_iload_n hx hb dX10_homesFrom_110 rfl (lv_at hl 2 rfl) ?_
            refine lv_iconst (v := (1 : Int32)) hx hb dX10_homesFrom_111 (by decide) ?_
            refine lv_iload hx hb dX10_homesFrom_112 (lv_at hl 4 rfl) ?_
            refine lv_ishl hx hb dX10_homesFrom_114 ?_
            refine lv_topi (fun z32 ez32 => ?_)
            have r33 : rg z32 1 32 := rg_shl 0 5 ez32 r15 (by decide)
            refine lv_ior hx hb dX10_homesFrom_115 ?_
            refine lv_topi (fun z34 ez34 => ?_)
            refine lv_iload_n hx hb dX10_homesFrom_116 rfl (lv_at hl 3 rfl) ?_
            refine lv_aload_n hx hb dX10_homesFrom_117 rfl (lv_at hl 0 rfl) ?_
            refine lv_iload_n hx hb dX10_homesFrom_118 rfl (lv_at hl 1 rfl) ?_
            refine lv_aload_n hx hb dX10_homesFrom_119 rfl (lv_at hl 0 rfl) ?_
            refine t_getX C hH hI.1 mq tq td_40 iX10 rfl 41 (by decide) wd853 rfl (hI.rf kq_41) dX10_homesFrom_120 ?_
            refine lv_iload_n hx hb dX10_homesFrom_123 rfl (lv_at hl 1 rfl) ?_
            refine t_aldR C hH hI.1 mq_41 tq_41 td_64 (rg_in r70_p1 (by decide)) dX10_homesFrom_124 (fun z35 rz35 => ?_)
            refine t_Vi C hO hl.1 hA hH hI.1 (As := [.int p1, .int z35]) (rest := [.int p3, .int z34, .int z29, .ref q]) (t_X10_isServedIn l E J τ L f28 hI.1 mq tq p1 r70_p1 z35 rz35) my_X10_isServedIn wd826 mq tq td_40 rfl rfl rfl (Nat.le_of_ble_eq_true rfl) ⟨(by show 2 + 1 ≤ 3 + (N + 1); omega), (by show 8 + (3 + 11) + 100 * (2) ≤ 100 * (3 + (N + 1)); omega)⟩ ⟨rfl, rfl⟩ dX10_homesFrom_125 (fun r37 L1 f36 H locs hp hH => ?_)
            obtain ⟨rfl, s38, h39⟩ := hp
            have hI := hI.call s38 (by decide)
            refine lv_if_eq (tgt := 139) hx hb dX10_homesFrom_128 (by decide) (fun c40 => ?_) (fun c40 => ?_)
            · skip
              have r41 : rg r37 0 0 := rf_eql (c_eq c40) h39 rl_0 (by decide)
              refine lv_iconst (v := (0 : Int32)) hx hb dX10_homesFrom_139 (by decide) ?_
              refine lv_iadd hx hb dX10_homesFrom_140 ?_
              refine lv_topi (fun z42 ez42 => ?_)
              have r43 : rg z42 (-2147483648) 2147483647 := rg_add ez42 (rg_all _) rl_0 (by decide)
              have a44 : z42.toInt = p3.toInt + 0 := ai_add ez42 (rg_all _) tl_0 (by decide)
              refine t_Vv C hO hl.1 hA hH hI.1 (As := [.int z29, .int z34, .int z42]) (rest := []) (ih f36 hI.1 mq tq z29 (rg_w r30 (by decide)) z34 z42 (hh.S hI rfl) (by have h1 := a31; have h2 := F70_lt; omega) (by have h1 := a31; omega)) my_X10_homesFrom wd978 mq tq td_40 rfl rfl rfl (Nat.le_of_ble_eq_true rfl) ⟨(by show 3 + N + 1 ≤ 3 + (N + 1); omega), (by show 8 + (5 + 11) + 100 * (3 + N) ≤ 100 * (3 + (N + 1)); omega)⟩ ⟨rfl, rfl⟩ dX10_homesFrom_141 (fun L1 f45 H locs hp hH => ?_)
              obtain ⟨rfl, s47, h48⟩ := hp
              have hI := hI.call s47 (by decide)
              obtain ⟨z49, ez49⟩ : ∃ y : Int32, y = v70_4 + (1 : Int32) := ⟨_, rfl⟩
              have r50 : rg z49 1 6 := rg_add ez49 r15 rl_1 (by decide)
              have a51 : z49.toInt = v70_4.toInt + 1 := ai_add ez49 r15 tl_1 (by decide)
              refine lv_iinc (v := z49) (lv' := [(4, .int z49), (0, .ref q), (1, .int p1), (2, .int p2), (3, .int p3)]) hx hb dX10_homesFrom_144 hl (k := 4) rfl (by rw [ez49]; rfl) (by decide) rfl (fun ls hl => ?_)
              refine lv_goto (tgt := 70) hx hb dX10_homesFrom_147 (by decide) ?_
              exact ih70 _ _ _ _ z49 (fu_s hfu70 a51 (by decide)) hI hH (rg_w r50 (by decide)) r70_p1 F70_lt (lv_sub hl [1, 2, 3, 4, 0] rfl)
            · skip
              have r52 : rg r37 1 1 := rf_nel (n_eq c40) h39 rl_0 (by decide)
              refine lv_aload_n hx hb dX10_homesFrom_131 rfl (lv_at hl 0 rfl) ?_
              refine lv_iload_n hx hb dX10_homesFrom_132 rfl (lv_at hl 1 rfl) ?_
              refine t_Vi C hO hl.1 hA hH hI.1 (As := [.int p1]) (rest := [.int p3, .int z34, .int z29, .ref q]) (t_X10_paysOf l E J τ L f36 hI.1 mq tq p1 r70_p1) my_X10_paysOf wd830 mq tq td_40 rfl rfl rfl (Nat.le_of_ble_eq_true rfl) ⟨(by show 1 + 1 ≤ 3 + (N + 1); omega), (by show 8 + (2 + 11) + 100 * (1) ≤ 100 * (3 + (N + 1)); omega)⟩ ⟨rfl, rfl⟩ dX10_homesFrom_133 (fun r54 L1 f53 H locs hp hH => ?_)
              obtain ⟨rfl, s55, h56⟩ := hp
              have hI := hI.call s55 (by decide)
              refine lv_goto (tgt := 140) hx hb dX10_homesFrom_136 (by decide) ?_
              refine lv_iadd hx hb dX10_homesFrom_140 ?_
              refine lv_topi (fun z57 ez57 => ?_)
              refine t_Vv C hO hl.1 hA hH hI.1 (As := [.int z29, .int z34, .int z57]) (rest := []) (ih f53 hI.1 mq tq z29 (rg_w r30 (by decide)) z34 z57 (hh.S hI rfl) (by have h1 := a31; have h2 := F70_lt; omega) (by have h1 := a31; omega)) my_X10_homesFrom wd978 mq tq td_40 rfl rfl rfl (Nat.le_of_ble_eq_true rfl) ⟨(by show 3 + N + 1 ≤ 3 + (N + 1); omega), (by show 8 + (5 + 11) + 100 * (3 + N) ≤ 100 * (3 + (N + 1)); omega)⟩ ⟨rfl, rfl⟩ dX10_homesFrom_141 (fun L1 f58 H locs hp hH => ?_)
              obtain ⟨rfl, s60, h61⟩ := hp
              have hI := hI.call s60 (by decide)
              obtain ⟨z62, ez62⟩ : ∃ y : Int32, y = v70_4 + (1 : Int32) := ⟨_, rfl⟩
              have r63 : rg z62 1 6 := rg_add ez62 r15 rl_1 (by decide)
              have a64 : z62.toInt = v70_4.toInt + 1 := ai_add ez62 r15 tl_1 (by decide)
              refine lv_iinc (v := z62) (lv' := [(4, .int z62), (0, .ref q), (1, .int p1), (2, .int p2), (3, .int p3)]) hx hb dX10_homesFrom_144 hl (k := 4) rfl (by rw [ez62]; rfl) (by decide) rfl (fun ls hl => ?_)
              refine lv_goto (tgt := 70) hx hb dX10_homesFrom_147 (by decide) ?_
              exact ih70 _ _ _ _ z62 (fu_s hfu70 a64 (by decide)) hI hH (rg_w r63 (by decide)) r70_p1 F70_lt (lv_sub hl [1, 2, 3, 4, 0] rfl)
          · skip
            have r65 : rg r18 1 1 := rf_nel (n_eq c21) h20 rl_0 (by decide)
            refine lv_goto (tgt := 144) hx hb dX10_homesFrom_88 (by decide) ?_
            obtain ⟨z66, ez66⟩ : ∃ y : Int32, y = v70_4 + (1 : Int32) := ⟨_, rfl⟩
            have r67 : rg z66 1 6 := rg_add ez66 r15 rl_1 (by decide)
            have a68 : z66.toInt = v70_4.toInt + 1 := ai_add ez66 r15 tl_1 (by decide)
            refine lv_iinc (v := z66) (lv' := [(4, .int z66), (0, .ref q), (1, .int p1), (2, .int p2), (3, .int p3)]) hx hb dX10_homesFrom_144 hl (k := 4) rfl (by rw [ez66]; rfl) (by decide) rfl (fun ls hl => ?_)
            refine lv_goto (tgt := 70) hx hb dX10_homesFrom_147 (by decide) ?_
            exact ih70 _ _ _ _ z66 (fu_s hfu70 a68 (by decide)) hI hH (rg_w r67 (by decide)) r70_p1 F70_lt (lv_sub hl [1, 2, 3, 4, 0] rfl)
    refine lv_iload_n hx hb dX10_homesFrom_0 rfl (lv_at hl 1 rfl) ?_
    refine lv_aload_n hx hb dX10_homesFrom_1 rfl (lv_at hl 0 rfl) ?_
    refine t_Vi C hO hl.1 hA hH hI.1 (As := []) (rest := [.int p1]) (t_X10_members l E J τ L f hI.1 mq tq) my_X10_members wd756 mq tq td_40 rfl rfl rfl (Nat.le_of_ble_eq_true rfl) ⟨(by show 1 + 1 ≤ 3 + (N + 1); omega), (by show 8 + (1 + 11) + 100 * (1) ≤ 100 * (3 + (N + 1)); omega)⟩ ⟨rfl, rfl⟩ dX10_homesFrom_2 (fun r70 L1 f69 H locs hp hH => ?_)
    obtain ⟨rfl, s71, h72⟩ := hp
    have hJ := hI
    have hI := hI.call s71 (by decide)
    have mr73 := h72.2 vh (hh.S hJ rfl)
    refine lv_icmp_ne (tgt := 67) hx hb dX10_homesFrom_5 (by decide) (fun c74 => ?_) (fun c74 => ?_)
    · skip
      have F75 := hm_lt (a := 0) (b := 0) hm mr73 (n_eq c74)
      have r76 : rg p1 0 5 := hm_5 F75 mr73 h72.1 rp1 (by decide)
      refine lv_iconst (v := (0 : Int32)) hx hb dX10_homesFrom_67 (by decide) ?_
      refine lv_istore (lv' := [(4, .int (0 : Int32)), (0, .ref q), (1, .int p1), (2, .int p2), (3, .int p3)]) hx hb dX10_homesFrom_68 hl (by decide) rfl (fun ls hl => ?_)
      exact cut70 7 _ _ _ _ (0 : Int32) (fu_i 7 rl_0 (by decide)) hI hH (rg_w rl_0 (by decide)) r76 F75 (lv_sub hl [1, 2, 3, 4, 0] rfl)
    · skip
      refine lv_iload_n hx hb dX10_homesFrom_8 rfl (lv_at hl 3 rfl) ?_
      refine lv_aload_n hx hb dX10_homesFrom_9 rfl (lv_at hl 0 rfl) ?_
      refine t_geti C hH hI.1 mq tq td_40 iX10 rfl 43 (by decide) wd979 rfl rfl dX10_homesFrom_10 (fun z77 rz77 => ?_)
      refine lv_icmp_lt (tgt := 31) hx hb dX10_homesFrom_13 (by decide) (fun c78 => ?_) (fun c78 => ?_)
      · skip
        have r79 : rg p3 (-2147483648) 2147483646 := rf_ltl (c_lt c78) (rg_all _) rz77 (by decide)
        have r80 : rg z77 (-2147483647) 2147483647 := rf_ltr (c_lt c78) (rg_all _) rz77 (by decide)
        exact g_vret C hr hH (Nat.zero_le _) (Nat.zero_le _) dX10_homesFrom_31 ⟨rfl, hI, trivial⟩
      · skip
        refine lv_iload_n hx hb dX10_homesFrom_16 rfl (lv_at hl 3 rfl) ?_
        refine lv_aload_n hx hb dX10_homesFrom_17 rfl (lv_at hl 0 rfl) ?_
        refine t_geti C hH hI.1 mq tq td_40 iX10 rfl 43 (by decide) wd979 rfl rfl dX10_homesFrom_18 (fun z81 rz81 => ?_)
        refine lv_icmp_ne (tgt := 32) hx hb dX10_homesFrom_21 (by decide) (fun c82 => ?_) (fun c82 => ?_)
        · skip
          refine lv_aload_n hx hb dX10_homesFrom_32 rfl (lv_at hl 0 rfl) ?_
          refine lv_iload_n hx hb dX10_homesFrom_33 rfl (lv_at hl 3 rfl) ?_
          refine t_put C hH hI mq tq (by decide) td_40 iX10 tyX10 tyX10_ok nmX10 rfl 43 (by decide) wd979 rfl rfl (v := .int p3) rfl rfl rfl ⟨_, rfl, (rg_all _)⟩ (fun _ h => nomatch h) dX10_homesFrom_34 (fun f83 H locs hH hI nf83 of83 bf83 => ?_)
          refine lv_iconst (v := (0 : Int32)) hx hb dX10_homesFrom_37 (by decide) ?_
          refine lv_istore (lv' := [(4, .int (0 : Int32)), (0, .ref q), (1, .int p1), (2, .int p2), (3, .int p3)]) hx hb dX10_homesFrom_38 hl (by decide) rfl (fun ls hl => ?_)
          exact cut40 7 _ _ _ _ (0 : Int32) (fu_i 7 rl_0 (by decide)) hI hH (rg_w rl_0 (by decide)) (lv_sub hl [1, 2, 3, 4, 0] rfl)
        · skip
          refine lv_aload_n hx hb dX10_homesFrom_24 rfl (lv_at hl 0 rfl) ?_
          refine t_Vi C hO hl.1 hA hH hI.1 (As := []) (rest := []) (t_X10_isLess l E J τ L f69 hI.1 mq tq) my_X10_isLess wd983 mq tq td_40 rfl rfl rfl (Nat.le_of_ble_eq_true rfl) ⟨(by show 2 + 1 ≤ 3 + (N + 1); omega), (by show 8 + (2 + 11) + 100 * (2) ≤ 100 * (3 + (N + 1)); omega)⟩ ⟨rfl, rfl⟩ dX10_homesFrom_25 (fun r85 L1 f84 H locs hp hH => ?_)
          obtain ⟨rfl, s86, h87⟩ := hp
          have hI := hI.call s86 (by decide)
          refine lv_if_ne (tgt := 32) hx hb dX10_homesFrom_28 (by decide) (fun c88 => ?_) (fun c88 => ?_)
          · skip
            have r89 : rg r85 1 1 := rf_nel (n_eq c88) h87 rl_0 (by decide)
            refine lv_aload_n hx hb dX10_homesFrom_32 rfl (lv_at hl 0 rfl) ?_
            refine lv_iload_n hx hb dX10_homesFrom_33 rfl (lv_at hl 3 rfl) ?_
            refine t_put C hH hI mq tq (by decide) td_40 iX10 tyX10 tyX10_ok nmX10 rfl 43 (by decide) wd979 rfl rfl (v := .int p3) rfl rfl rfl ⟨_, rfl, (rg_all _)⟩ (fun _ h => nomatch h) dX10_homesFrom_34 (fun f90 H locs hH hI nf90 of90 bf90 => ?_)
            refine lv_iconst (v := (0 : Int32)) hx hb dX10_homesFrom_37 (by decide) ?_
            refine lv_istore (lv' := [(4, .int (0 : Int32)), (0, .ref q), (1, .int p1), (2, .int p2), (3, .int p3)]) hx hb dX10_homesFrom_38 hl (by decide) rfl (fun ls hl => ?_)
            exact cut40 7 _ _ _ _ (0 : Int32) (fu_i 7 rl_0 (by decide)) hI hH (rg_w rl_0 (by decide)) (lv_sub hl [1, 2, 3, 4, 0] rfl)
          · skip
            have r91 : rg r85 0 0 := rf_eql (c_eq c88) h87 rl_0 (by decide)
            exact g_vret C hr hH (Nat.zero_le _) (Nat.zero_le _) dX10_homesFrom_31 ⟨rfl, hI, trivial⟩
set_option maxHeartbeats 4000000 in
set_option maxRecDepth 100000 in
theorem t_X10_laysHomes (l : Launch) (E : gE) (J : Nat → Nat) (τ : Nat → Nat) (L : List Nat) (f : gF) (hI : tI E L τ f) {q : Nat} (mq : q ∈ L) (tq : τ q = 40) {vh : Nat → Int32} (hh : isA E L τ f 47 45 vh) (hW : 1 ≤ (vh 0).toInt) : tMv l E J yX10_laysHomes cX10_laysHomes 1 (gRm (11) 0 0) [.ref q] L f (tPv E L τ [40, 52, 53, 54, 55, 56, 64, 65] f (fun f1 => True)) := by
  refine tMv.intro (by decide) (Nat.le_of_ble_eq_true rfl) ?_
  intro p e s m below meth c A ls C hr hA hO hH hl
  have C : gC E cX10_laysHomes 1 RX10 p s m _ meth c := C
  have hl : lv_has ls 1 [(0, .ref q)] := hl
  have hx := C.1
  have hb := C.2.1
  have hI := hI.S [40, 52, 53, 54, 55, 56, 64, 65]
  refine lv_aload_n hx hb dX10_laysHomes_0 rfl (lv_at hl 0 rfl) ?_
  refine t_Vv C hO hl.1 hA hH hI.1 (As := []) (rest := []) (t_X10_laysNow l E J τ L f hI.1 mq tq (hh.S hI rfl) hW) my_X10_laysNow wd842 mq tq td_40 rfl rfl rfl (Nat.le_of_ble_eq_true rfl) ⟨Nat.le_of_ble_eq_true rfl, Nat.le_of_ble_eq_true rfl⟩ ⟨rfl, rfl⟩ dX10_laysHomes_1 (fun L1 f1 H locs hp hH => ?_)
  obtain ⟨rfl, s3, h4⟩ := hp
  have hI := hI.call s3 (by decide)
  refine lv_aload_n hx hb dX10_laysHomes_4 rfl (lv_at hl 0 rfl) ?_
  refine lv_iconst (v := (-1 : Int32)) hx hb dX10_laysHomes_5 (by decide) ?_
  refine t_put C hH hI mq tq (by decide) td_40 iX10 tyX10 tyX10_ok nmX10 rfl 43 (by decide) wd979 rfl rfl (v := .int (-1 : Int32)) rfl rfl rfl ⟨_, rfl, (rg_w rl_m1 (by decide))⟩ (fun _ h => nomatch h) dX10_laysHomes_6 (fun f5 H locs hH hI nf5 of5 bf5 => ?_)
  refine lv_aload_n hx hb dX10_laysHomes_9 rfl (lv_at hl 0 rfl) ?_
  refine lv_iconst (v := (0 : Int32)) hx hb dX10_laysHomes_10 (by decide) ?_
  refine lv_iconst (v := (0 : Int32)) hx hb dX10_laysHomes_11 (by decide) ?_
  refine lv_iconst (v := (0 : Int32)) hx hb dX10_laysHomes_12 (by decide) ?_
  refine t_Vv C hO hl.1 hA hH hI.1 (As := [.int (0 : Int32), .int (0 : Int32), .int (0 : Int32)]) (rest := []) (t_X10_homesFrom l E J τ L 7 f5 hI.1 mq tq (0 : Int32) (rg_w rl_0 (by decide)) (0 : Int32) (0 : Int32) (hh.S hI rfl) (hm_0 (hasP_of hI.1 mq tq (hh.S hI rfl))) (hm_c (hasP_of hI.1 mq tq (hh.S hI rfl)))) my_X10_homesFrom wd978 mq tq td_40 rfl rfl rfl (Nat.le_of_ble_eq_true rfl) ⟨Nat.le_of_ble_eq_true rfl, Nat.le_of_ble_eq_true rfl⟩ ⟨rfl, rfl⟩ dX10_laysHomes_13 (fun L1 f6 H locs hp hH => ?_)
  obtain ⟨rfl, s8, h9⟩ := hp
  have hI := hI.call s8 (by decide)
  exact g_vret C hr hH (Nat.zero_le _) (Nat.zero_le _) dX10_laysHomes_16 ⟨rfl, hI, trivial⟩
set_option maxHeartbeats 4000000 in
set_option maxRecDepth 100000 in
theorem t_X10_homes (l : Launch) (E : gE) (J : Nat → Nat) (τ : Nat → Nat) (L : List Nat) (f : gF) (hI : tI E L τ f) {q : Nat} (mq : q ∈ L) (tq : τ q = 40) {vl vh : Nat → Int32} (hl0 : isA E L τ f 46 5 vl) (hh : isA E L τ f 47 45 vh) (hR : rowOK vl vh 0) : tMi l E J yX10_homes cX10_homes 1 .int (gRm (12) 0 0) [.ref q] L f (tPi E L τ [40, 52, 53, 54, 55, 56, 64, 65] f (fun r f1 => rg r (-2147483648) 2147483647)) := by
  refine tMi.intro (by decide) (Nat.le_of_ble_eq_true rfl) ?_
  intro p e s m below meth c A ls C hr hA hO hH hl
  have C : gC E cX10_homes 1 RX10 p s m _ meth c := C
  have hl : lv_has ls 1 [(0, .ref q)] := hl
  have hx := C.1
  have hb := C.2.1
  have hI := hI.S [40, 52, 53, 54, 55, 56, 64, 65]
  refine lv_aload_n hx hb dX10_homes_0 rfl (lv_at hl 0 rfl) ?_
  refine lv_iconst (v := (0 : Int32)) hx hb dX10_homes_1 (by decide) ?_
  refine t_put C hH hI mq tq (by decide) td_40 iX10 tyX10 tyX10_ok nmX10 rfl 0 (by decide) wd855 rfl rfl (v := .int (0 : Int32)) rfl rfl rfl ⟨_, rfl, (rg_w rl_0 (by decide))⟩ (fun _ h => nomatch h) dX10_homes_2 (fun f1 H locs hH hI nf1 of1 bf1 => ?_)
  refine lv_aload_n hx hb dX10_homes_5 rfl (lv_at hl 0 rfl) ?_
  refine t_Vi C hO hl.1 hA hH hI.1 (As := []) (rest := []) (t_X10_isLand l E J τ L f1 hI.1 mq tq) my_X10_isLand wd768 mq tq td_40 rfl rfl rfl (Nat.le_of_ble_eq_true rfl) ⟨Nat.le_of_ble_eq_true rfl, Nat.le_of_ble_eq_true rfl⟩ ⟨rfl, rfl⟩ dX10_homes_6 (fun r3 L1 f2 H locs hp hH => ?_)
  obtain ⟨rfl, s4, h5⟩ := hp
  have hJ := hI
  have hI := hI.call s4 (by decide)
  have w6 := h5.2 vl vh (hl0.S hJ rfl) (hh.S hJ rfl) hR
  refine lv_if_ne (tgt := 15) hx hb dX10_homes_9 (by decide) (fun c7 => ?_) (fun c7 => ?_)
  · skip
    have r8 : rg r3 1 1 := rf_nel (n_eq c7) h5.1 rl_0 (by decide)
    have F9 : 1 ≤ (vh 0).toInt := w6 c7
    refine lv_aload_n hx hb dX10_homes_15 rfl (lv_at hl 0 rfl) ?_
    refine t_Vv C hO hl.1 hA hH hI.1 (As := []) (rest := []) (t_X10_laysHomes l E J τ L f2 hI.1 mq tq (hh.S hI rfl) F9) my_X10_laysHomes wd987 mq tq td_40 rfl rfl rfl (Nat.le_of_ble_eq_true rfl) ⟨Nat.le_of_ble_eq_true rfl, Nat.le_of_ble_eq_true rfl⟩ ⟨rfl, rfl⟩ dX10_homes_16 (fun L1 f10 H locs hp hH => ?_)
    obtain ⟨rfl, s12, h13⟩ := hp
    have hI := hI.call s12 (by decide)
    refine lv_aload_n hx hb dX10_homes_19 rfl (lv_at hl 0 rfl) ?_
    refine t_geti C hH hI.1 mq tq td_40 iX10 rfl 43 (by decide) wd979 rfl rfl dX10_homes_20 (fun z14 rz14 => ?_)
    exact g_iret C hr hH (Nat.zero_le _) (Nat.zero_le _) dX10_homes_23 ⟨rfl, hI, rz14⟩
  · skip
    have r15 : rg r3 0 0 := rf_eql (c_eq c7) h5.1 rl_0 (by decide)
    refine lv_bipush (v := (-2 : Int32)) hx hb dX10_homes_12 (by decide) ?_
    exact g_iret C hr hH (Nat.zero_le _) (Nat.zero_le _) dX10_homes_14 ⟨rfl, hI, (rg_w rl_m2 (by decide))⟩
set_option maxHeartbeats 4000000 in
set_option maxRecDepth 100000 in
theorem t_X10_home (l : Launch) (E : gE) (J : Nat → Nat) (τ : Nat → Nat) (L : List Nat) (f : gF) (hI : tI E L τ f) {q : Nat} (mq : q ∈ L) (tq : τ q = 40) (p1 : Int32) {vl vh : Nat → Int32} (hl0 : isA E L τ f 46 5 vl) (hh : isA E L τ f 47 45 vh) (hR : rowOK vl vh 0) : tMi l E J yX10_home cX10_home 2 .int (gRm (12) 0 0) [.ref q, .int p1] L f (tPi E L τ [40, 52, 53, 54, 55, 56, 64, 65] f (fun r f1 => rg r (-2147483648) 2147483647)) := by
  refine tMi.intro (by decide) (Nat.le_of_ble_eq_true rfl) ?_
  intro p e s m below meth c A ls C hr hA hO hH hl
  have C : gC E cX10_home 2 RX10 p s m _ meth c := C
  have hl : lv_has ls 2 [(0, .ref q), (1, .int p1)] := hl
  have hx := C.1
  have hb := C.2.1
  have hI := hI.S [40, 52, 53, 54, 55, 56, 64, 65]
  obtain ⟨q_42, mq_42, tq_42, kq_42⟩ := t_fldr hI.1 mq tq td_40 (k := 42) rfl
  refine lv_aload_n hx hb dX10_home_0 rfl (lv_at hl 0 rfl) ?_
  refine lv_iconst (v := (0 : Int32)) hx hb dX10_home_1 (by decide) ?_
  refine t_put C hH hI mq tq (by decide) td_40 iX10 tyX10 tyX10_ok nmX10 rfl 0 (by decide) wd855 rfl rfl (v := .int (0 : Int32)) rfl rfl rfl ⟨_, rfl, (rg_w rl_0 (by decide))⟩ (fun _ h => nomatch h) dX10_home_2 (fun f1 H locs hH hI nf1 of1 bf1 => ?_)
  refine lv_aload_n hx hb dX10_home_5 rfl (lv_at hl 0 rfl) ?_
  refine lv_iload_n hx hb dX10_home_6 rfl (lv_at hl 1 rfl) ?_
  refine lv_i2l (v := (p1).toInt64) hx hb dX10_home_7 rfl ?_
  refine t_Vi C hO hl.1 hA hH hI.1 (As := [.long (p1).toInt64]) (rest := []) (t_X10_isMember l E J τ L f1 hI.1 mq tq ((p1).toInt64)) my_X10_isMember wd764 mq tq td_40 rfl rfl rfl (Nat.le_of_ble_eq_true rfl) ⟨Nat.le_of_ble_eq_true rfl, Nat.le_of_ble_eq_true rfl⟩ ⟨rfl, rfl⟩ dX10_home_8 (fun r3 L1 f2 H locs hp hH => ?_)
  obtain ⟨rfl, s4, h5⟩ := hp
  have hJ := hI
  have hI := hI.call s4 (by decide)
  have w6 := h5.2.2 vl vh (hl0.S hJ rfl) (hh.S hJ rfl) hR
  refine lv_if_ne (tgt := 17) hx hb dX10_home_11 (by decide) (fun c7 => ?_) (fun c7 => ?_)
  · skip
    have r8 : rg r3 1 1 := rf_nel (n_eq c7) h5.1 rl_0 (by decide)
    have r9 : rg p1 0 5 := is_rg (h5.2.1 c7) (rg_all _) (by decide)
    have F10 : 1 ≤ (vh 0).toInt := w6 c7
    refine lv_aload_n hx hb dX10_home_17 rfl (lv_at hl 0 rfl) ?_
    refine t_Vv C hO hl.1 hA hH hI.1 (As := []) (rest := []) (t_X10_laysHomes l E J τ L f2 hI.1 mq tq (hh.S hI rfl) F10) my_X10_laysHomes wd987 mq tq td_40 rfl rfl rfl (Nat.le_of_ble_eq_true rfl) ⟨Nat.le_of_ble_eq_true rfl, Nat.le_of_ble_eq_true rfl⟩ ⟨rfl, rfl⟩ dX10_home_18 (fun L1 f11 H locs hp hH => ?_)
    obtain ⟨rfl, s13, h14⟩ := hp
    have hI := hI.call s13 (by decide)
    refine lv_aload_n hx hb dX10_home_21 rfl (lv_at hl 0 rfl) ?_
    refine t_getX C hH hI.1 mq tq td_40 iX10 rfl 42 (by decide) wd854 rfl (hI.rf kq_42) dX10_home_22 ?_
    refine lv_iload_n hx hb dX10_home_25 rfl (lv_at hl 1 rfl) ?_
    refine t_ald C hH hI.1 mq_42 tq_42 td_65 (rg_in r9 (by decide)) dX10_home_26 (fun z15v az15 _ => ?_)
    refine lv_topi (fun z15 ez15 => ?_)
    exact g_iret C hr hH (Nat.zero_le _) (Nat.zero_le _) dX10_home_27 ⟨rfl, hI, (rg_all _)⟩
  · skip
    have r16 : rg r3 0 0 := rf_eql (c_eq c7) h5.1 rl_0 (by decide)
    refine lv_bipush (v := (-2 : Int32)) hx hb dX10_home_14 (by decide) ?_
    exact g_iret C hr hH (Nat.zero_le _) (Nat.zero_le _) dX10_home_16 ⟨rfl, hI, (rg_w rl_m2 (by decide))⟩
set_option maxHeartbeats 4000000 in
set_option maxRecDepth 100000 in
theorem t_X10_whyNotLaws (l : Launch) (E : gE) (J : Nat → Nat) (τ : Nat → Nat) (L : List Nat) (f : gF) (hI : tI E L τ f) {q : Nat} (mq : q ∈ L) (tq : τ q = 40) (p1 : Int32) {vl vh : Nat → Int32} (hl0 : isA E L τ f 46 5 vl) (hh : isA E L τ f 47 45 vh) (hR : rowOK vl vh 0) {vm : Nat → Int32} {vc : Nat → Int64} (hm0 : isA E L τ f 42 4 vm) (hc0 : isJ E L τ f 43 240 vc) : tMi l E J yX10_whyNotLaws cX10_whyNotLaws 4 .int (gRm (3) 0 0) [.ref q, .int p1] L f (tPi E L τ [] f (fun r f1 => rg r (-6) 0 ∧ (r = 0 → rg p1 0 3) ∧ (r = 0 → rowsOK 3 3 40 vm vc p1 ∧ 1 ≤ (vh 0).toInt))) := by
  refine tMi.intro (by decide) (Nat.le_of_ble_eq_true rfl) ?_
  intro p e s m below meth c A ls C hr hA hO hH hl
  have C : gC E cX10_whyNotLaws 4 RX10 p s m _ meth c := C
  have hl : lv_has ls 4 [(0, .ref q), (1, .int p1)] := hl
  have hx := C.1
  have hb := C.2.1
  have hI := hI.S []
  obtain ⟨q_1, mq_1, tq_1, kq_1⟩ := t_fldr hI.1 mq tq td_40 (k := 1) rfl
  obtain ⟨q_2, mq_2, tq_2, kq_2⟩ := t_fldr hI.1 mq tq td_40 (k := 2) rfl
  obtain ⟨q_3, mq_3, tq_3, kq_3⟩ := t_fldr hI.1 mq tq td_40 (k := 3) rfl
  have cut46 : ∀ (n : Nat) (fh46 : gF) (H : Heap) (locs : List Loc) (ls : Array Slot) (v46_2 : Int32), 60 - v46_2.toInt < (n : Int) → tS E L τ [] f fh46 → gH E A L fh46 s.heap H locs → rg v46_2 0 60 → rg p1 0 3 → 1 ≤ (vh 0).toInt → (∃ j : Nat, v46_2.toInt = ((3 : Nat) : Int) * (j : Int) ∧ ∀ q, q < j → cOK 3 3 40 vc p1 q) → (∃ m : Nat, (vm p1.toNatClampNeg).toInt = ((3 : Nat) : Int) * (m : Int)) → lv_has ls 4 [(0, .ref q), (1, .int p1), (2, .int v46_2)] → W p l e (gRm (3) 0 0) s m [.ref q, .int p1].toArray below meth c H locs 0 0 (MQ below (gQi E A (tPi E L τ [] f (fun r f1 => rg r (-6) 0 ∧ (r = 0 → rg p1 0 3) ∧ (r = 0 → rowsOK 3 3 40 vm vc p1 ∧ 1 ≤ (vh 0).toInt)))) [.ref q, .int p1].toArray s (gRm (3) 0 0).cells (gRm (3) 0 0).slots A) (F0 m 46 ls []) := by
    intro n
    induction n with
    | zero =>
      intro fh46 H locs ls v46_2 hfu46 hI hH r_v46_2 r46_p1 F46_W F46_cj F46_md hl
      exact (fu_0 hfu46 r_v46_2).elim
    | succ n ih46 =>
      intro fh46 H locs ls v46_2 hfu46 hI hH r_v46_2 r46_p1 F46_W F46_cj F46_md hl
      refine lv_iload_n hx hb dX10_whyNotLaws_46 rfl (lv_at hl 2 rfl) ?_
      refine lv_aload_n hx hb dX10_whyNotLaws_47 rfl (lv_at hl 0 rfl) ?_
      refine t_getX C hH hI.1 mq tq td_40 iX10 rfl 2 (by decide) wd988 rfl (hI.rf kq_2) dX10_whyNotLaws_48 ?_
      refine lv_iload_n hx hb dX10_whyNotLaws_51 rfl (lv_at hl 1 rfl) ?_
      refine t_ald C hH hI.1 mq_2 tq_2 td_42 (rg_in r46_p1 (by decide)) dX10_whyNotLaws_52 (fun z1v az1 pz1 => ?_)
      refine lv_topi (fun z1 ez1 => ?_)
      have r2 : rg z1 0 60 := many_rg pz1 (rg_in r46_p1 (by decide)) ez1
      rw [arr_inj az1 ((hI.fr q_2 mq_2 (t_lim tq_2 rfl)).trans (hm0 q_2 mq_2 tq_2))] at ez1
      refine lv_icmp_ge (tgt := 127) hx hb dX10_whyNotLaws_53 (by decide) (fun c3 => ?_) (fun c3 => ?_)
      · skip
        refine lv_iconst (v := (0 : Int32)) hx hb dX10_whyNotLaws_127 (by decide) ?_
        exact g_iret C hr hH (Nat.zero_le _) (Nat.zero_le _) dX10_whyNotLaws_128 ⟨rfl, hI, ⟨(rg_w rl_0 (by decide)), (fun _ => r46_p1), (fun _ => ⟨cj_e F46_cj F46_md (c_le c3) ez1, F46_W⟩)⟩⟩
      · skip
        have r4 : rg v46_2 0 59 := rf_ltl (n_le c3) r_v46_2 r2 (by decide)
        have r5 : rg z1 1 60 := rf_ltr (n_le c3) r_v46_2 r2 (by decide)
        have r6 : rg v46_2 0 57 := cj_rg (a := 0) (b := 60) 3 (cj_1 F46_cj) F46_md (n_le c3) ez1 (rg_w r5 (by decide)) (by decide) (by decide)
        refine lv_bipush (v := (60 : Int32)) hx hb dX10_whyNotLaws_56 (by decide) ?_
        refine lv_iload_n hx hb dX10_whyNotLaws_58 rfl (lv_at hl 1 rfl) ?_
        refine lv_imul hx hb dX10_whyNotLaws_59 ?_
        refine lv_topi (fun z7 ez7 => ?_)
        have r8 : rg z7 0 180 := rg_mul ez7 rl_60 r46_p1 (by decide)
        refine lv_iload_n hx hb dX10_whyNotLaws_60 rfl (lv_at hl 2 rfl) ?_
        refine lv_iadd hx hb dX10_whyNotLaws_61 ?_
        refine lv_topi (fun z9 ez9 => ?_)
        have r10 : rg z9 0 237 := rg_add ez9 r8 r6 (by decide)
        have kx11 := cj_x r46_p1 (rg_w r6 (by decide)) ez7 ez9
        refine lv_istore_n (lv' := [(3, .int z9), (0, .ref q), (1, .int p1), (2, .int v46_2)]) hx hb dX10_whyNotLaws_62 rfl hl (by decide) rfl (fun ls hl => ?_)
        refine lv_aload_n hx hb dX10_whyNotLaws_63 rfl (lv_at hl 1 rfl) ?_
        refine lv_aload_n hx hb dX10_whyNotLaws_64 rfl (lv_at hl 1 rfl) ?_
        refine t_getX C hH hI.1 mq tq td_40 iX10 rfl 3 (by decide) wd989 rfl (hI.rf kq_3) dX10_whyNotLaws_65 ?_
        refine lv_iload_n hx hb dX10_whyNotLaws_68 rfl (lv_at hl 0 rfl) ?_
        refine t_lald C hH hI.1 mq_3 tq_3 td_43 (rg_in r10 (by decide)) dX10_whyNotLaws_69 (fun z12v az12 => ?_)
        refine lv_topl (fun z12 ez12 => ?_)
        rw [arr_injJ az12 ((hI.fr q_3 mq_3 (t_lim tq_3 rfl)).trans (hc0 q_3 mq_3 tq_3))] at ez12
        refine t_Vi C hO hl.1 hA hH hI.1 (As := [.long z12]) (rest := []) (t_X10_isFlight l E J τ L fh46 hI.1 mq tq z12) my_X10_isFlight wd859 mq tq td_40 rfl rfl rfl (Nat.le_of_ble_eq_true rfl) ⟨Nat.le_of_ble_eq_true rfl, Nat.le_of_ble_eq_true rfl⟩ ⟨rfl, rfl⟩ dX10_whyNotLaws_70 (fun r14 L1 f13 H locs hp hH => ?_)
        obtain ⟨rfl, s15, h16⟩ := hp
        have hJ := hI
        have hI := hI.call s15 (by decide)
        have w17 := h16.2.2 vl vh (hl0.S hJ rfl) (hh.S hJ rfl) hR
        refine lv_if_eq (tgt := 118) hx hb dX10_whyNotLaws_73 (by decide) (fun c18 => ?_) (fun c18 => ?_)
        · skip
          have r19 : rg r14 0 0 := rf_eql (c_eq c18) h16.1 rl_0 (by decide)
          refine lv_bipush (v := (-2 : Int32)) hx hb dX10_whyNotLaws_118 (by decide) ?_
          exact g_iret C hr hH (Nat.zero_le _) (Nat.zero_le _) dX10_whyNotLaws_120 ⟨rfl, hI, ⟨(rg_w rl_m2 (by decide)), (fun h => absurd h (by decide)), (fun h => absurd h (by decide))⟩⟩
        · skip
          have r20 : rg r14 1 1 := rf_nel (n_eq c18) h16.1 rl_0 (by decide)
          refine lv_aload_n hx hb dX10_whyNotLaws_76 rfl (lv_at hl 1 rfl) ?_
          refine t_getX C hH hI.1 mq tq td_40 iX10 rfl 3 (by decide) wd989 rfl (hI.rf kq_3) dX10_whyNotLaws_77 ?_
          refine lv_iload_n hx hb dX10_whyNotLaws_80 rfl (lv_at hl 0 rfl) ?_
          refine lv_iconst (v := (1 : Int32)) hx hb dX10_whyNotLaws_81 (by decide) ?_
          refine lv_iadd hx hb dX10_whyNotLaws_82 ?_
          refine lv_topi (fun z21 ez21 => ?_)
          have r22 : rg z21 1 238 := rg_add ez21 r10 rl_1 (by decide)
          have a23 : z21.toInt = z9.toInt + 1 := ai_add ez21 r10 tl_1 (by decide)
          have kx24 : z21.toInt = 60 * p1.toInt + v46_2.toInt + 1 := by rw [a23, kx11]
          refine t_lald C hH hI.1 mq_3 tq_3 td_43 (rg_in r22 (by decide)) dX10_whyNotLaws_83 (fun z25v az25 => ?_)
          refine lv_topl (fun z25 ez25 => ?_)
          rw [arr_injJ az25 ((hI.fr q_3 mq_3 (t_lim tq_3 rfl)).trans (hc0 q_3 mq_3 tq_3))] at ez25
          refine lv_lconst (v := (0 : Int64)) hx hb dX10_whyNotLaws_84 (by decide) ?_
          refine lv_ldc2 hx hb C.2.2.2.1 (C.2.2.2.2.1 _ wd745) dX10_whyNotLaws_85 ?_
          refine t_Si C hO hl.1 hA hH (As := [.long z25, .long (0 : Int64), .long (40 : Int64)]) (rest := []) (t_X10_in l E J τ L f13 hI.1 z25 ((0 : Int64)) ((40 : Int64))) my_X10_in wd744 rfl rfl (Nat.le_of_ble_eq_true rfl) ⟨Nat.le_of_ble_eq_true rfl, Nat.le_of_ble_eq_true rfl⟩ ⟨rfl, rfl⟩ dX10_whyNotLaws_88 (fun r27 L1 f26 H locs hp hH => ?_)
          obtain ⟨rfl, s28, h29⟩ := hp
          have hJ := hI
          have hI := hI.call s28 (by decide)
          refine lv_if_eq (tgt := 118) hx hb dX10_whyNotLaws_91 (by decide) (fun c30 => ?_) (fun c30 => ?_)
          · skip
            have r31 : rg r27 0 0 := rf_eql (c_eq c30) h29.1 rl_0 (by decide)
            refine lv_bipush (v := (-2 : Int32)) hx hb dX10_whyNotLaws_118 (by decide) ?_
            exact g_iret C hr hH (Nat.zero_le _) (Nat.zero_le _) dX10_whyNotLaws_120 ⟨rfl, hI, ⟨(rg_w rl_m2 (by decide)), (fun h => absurd h (by decide)), (fun h => absurd h (by decide))⟩⟩
          · skip
            have r32 : rg r27 1 1 := rf_nel (n_eq c30) h29.1 rl_0 (by decide)
            refine lv_aload_n hx hb dX10_whyNotLaws_94 rfl (lv_at hl 1 rfl) ?_
            refine t_getX C hH hI.1 mq tq td_40 iX10 rfl 3 (by decide) wd989 rfl (hI.rf kq_3) dX10_whyNotLaws_95 ?_
            refine lv_iload_n hx hb dX10_whyNotLaws_98 rfl (lv_at hl 0 rfl) ?_
            refine lv_iconst (v := (2 : Int32)) hx hb dX10_whyNotLaws_99 (by decide) ?_
            refine lv_iadd hx hb dX10_whyNotLaws_100 ?_
            refine lv_topi (fun z33 ez33 => ?_)
            have r34 : rg z33 2 239 := rg_add ez33 r10 rl_2 (by decide)
            have a35 : z33.toInt = z9.toInt + 2 := ai_add ez33 r10 tl_2 (by decide)
            have kx36 : z33.toInt = 60 * p1.toInt + v46_2.toInt + 2 := by rw [a35, kx11]
            refine t_lald C hH hI.1 mq_3 tq_3 td_43 (rg_in r34 (by decide)) dX10_whyNotLaws_101 (fun z37v az37 => ?_)
            refine lv_topl (fun z37 ez37 => ?_)
            rw [arr_injJ az37 ((hI.fr q_3 mq_3 (t_lim tq_3 rfl)).trans (hc0 q_3 mq_3 tq_3))] at ez37
            refine lv_ldc2 hx hb C.2.2.2.1 (C.2.2.2.2.1 _ wd990) dX10_whyNotLaws_102 ?_
            refine lv_aload_n hx hb dX10_whyNotLaws_105 rfl (lv_at hl 1 rfl) ?_
            refine t_Vi C hO hl.1 hA hH hI.1 (As := []) (rest := [.long (-1 : Int64), .long z37]) (t_X10_cellsAll l E J τ L f26 hI.1 mq tq) my_X10_cellsAll wd760 mq tq td_40 rfl rfl rfl (Nat.le_of_ble_eq_true rfl) ⟨Nat.le_of_ble_eq_true rfl, Nat.le_of_ble_eq_true rfl⟩ ⟨rfl, rfl⟩ dX10_whyNotLaws_106 (fun r39 L1 f38 H locs hp hH => ?_)
            obtain ⟨rfl, s40, h41⟩ := hp
            have hJ := hI
            have hI := hI.call s40 (by decide)
            refine lv_i2l (v := (r39).toInt64) hx hb dX10_whyNotLaws_109 rfl ?_
            refine lv_lconst (v := (1 : Int64)) hx hb dX10_whyNotLaws_110 (by decide) ?_
            refine lv_lsub hx hb dX10_whyNotLaws_111 ?_
            refine lv_topl (fun z42 ez42 => ?_)
            refine t_Si C hO hl.1 hA hH (As := [.long z37, .long (-1 : Int64), .long z42]) (rest := []) (t_X10_in l E J τ L f38 hI.1 z37 ((-1 : Int64)) z42) my_X10_in wd744 rfl rfl (Nat.le_of_ble_eq_true rfl) ⟨Nat.le_of_ble_eq_true rfl, Nat.le_of_ble_eq_true rfl⟩ ⟨rfl, rfl⟩ dX10_whyNotLaws_112 (fun r44 L1 f43 H locs hp hH => ?_)
            obtain ⟨rfl, s45, h46⟩ := hp
            have hJ := hI
            have hI := hI.call s45 (by decide)
            refine lv_if_ne (tgt := 121) hx hb dX10_whyNotLaws_115 (by decide) (fun c47 => ?_) (fun c47 => ?_)
            · skip
              have r48 : rg r44 1 1 := rf_nel (n_eq c47) h46.1 rl_0 (by decide)
              obtain ⟨z49, ez49⟩ : ∃ y : Int32, y = v46_2 + (3 : Int32) := ⟨_, rfl⟩
              have r50 : rg z49 3 60 := rg_add ez49 r6 rl_3 (by decide)
              have a51 : z49.toInt = v46_2.toInt + 3 := ai_add ez49 r6 tl_3 (by decide)
              refine lv_iinc (v := z49) (lv' := [(2, .int z49), (3, .int z9), (0, .ref q), (1, .int p1)]) hx hb dX10_whyNotLaws_121 hl (k := 3) rfl (by rw [ez49]; rfl) (by decide) rfl (fun ls hl => ?_)
              refine lv_goto (tgt := 46) hx hb dX10_whyNotLaws_124 (by decide) ?_
              exact ih46 _ _ _ _ z49 (fu_s hfu46 a51 (by decide)) hI hH (rg_w r50 (by decide)) r46_p1 F46_W (cj_s F46_cj a51 r46_p1 kx11 kx24 ez12 ez25 (h16.2.1 c18) (in_01 (h29.2 c30) (by decide) (by decide))) F46_md (lv_sub hl [2, 3, 0] rfl)
            · skip
              have r52 : rg r44 0 0 := rf_eql (c_eq c47) h46.1 rl_0 (by decide)
              refine lv_bipush (v := (-2 : Int32)) hx hb dX10_whyNotLaws_118 (by decide) ?_
              exact g_iret C hr hH (Nat.zero_le _) (Nat.zero_le _) dX10_whyNotLaws_120 ⟨rfl, hI, ⟨(rg_w rl_m2 (by decide)), (fun h => absurd h (by decide)), (fun h => absurd h (by decide))⟩⟩
  refine lv_iload_n hx hb dX10_whyNotLaws_0 rfl (lv_at hl 1 rfl) ?_
  refine t_Si C hO hl.1 hA hH (As := [.int p1]) (rest := []) (t_X10_isSlot l E J τ L f hI.1 p1) my_X10_isSlot wd993 rfl rfl (Nat.le_of_ble_eq_true rfl) ⟨Nat.le_of_ble_eq_true rfl, Nat.le_of_ble_eq_true rfl⟩ ⟨rfl, rfl⟩ dX10_whyNotLaws_1 (fun r54 L1 f53 H locs hp hH => ?_)
  obtain ⟨rfl, s55, h56⟩ := hp
  have hI := hI.call s55 (by decide)
  refine lv_if_eq (tgt := 14) hx hb dX10_whyNotLaws_4 (by decide) (fun c57 => ?_) (fun c57 => ?_)
  · skip
    have r58 : rg r54 0 0 := rf_eql (c_eq c57) h56.1 rl_0 (by decide)
    refine lv_bipush (v := (-2 : Int32)) hx hb dX10_whyNotLaws_14 (by decide) ?_
    exact g_iret C hr hH (Nat.zero_le _) (Nat.zero_le _) dX10_whyNotLaws_16 ⟨rfl, hI, ⟨(rg_w rl_m2 (by decide)), (fun h => absurd h (by decide)), (fun h => absurd h (by decide))⟩⟩
  · skip
    have r59 : rg r54 1 1 := rf_nel (n_eq c57) h56.1 rl_0 (by decide)
    have r60 : rg p1 0 3 := h56.2 c57
    refine lv_aload_n hx hb dX10_whyNotLaws_7 rfl (lv_at hl 0 rfl) ?_
    refine t_Vi C hO hl.1 hA hH hI.1 (As := []) (rest := []) (t_X10_isLand l E J τ L f53 hI.1 mq tq) my_X10_isLand wd768 mq tq td_40 rfl rfl rfl (Nat.le_of_ble_eq_true rfl) ⟨Nat.le_of_ble_eq_true rfl, Nat.le_of_ble_eq_true rfl⟩ ⟨rfl, rfl⟩ dX10_whyNotLaws_8 (fun r62 L1 f61 H locs hp hH => ?_)
    obtain ⟨rfl, s63, h64⟩ := hp
    have hJ := hI
    have hI := hI.call s63 (by decide)
    have w65 := h64.2 vl vh (hl0.S hJ rfl) (hh.S hJ rfl) hR
    refine lv_if_ne (tgt := 17) hx hb dX10_whyNotLaws_11 (by decide) (fun c66 => ?_) (fun c66 => ?_)
    · skip
      have r67 : rg r62 1 1 := rf_nel (n_eq c66) h64.1 rl_0 (by decide)
      have F68 : 1 ≤ (vh 0).toInt := w65 c66
      refine lv_aload_n hx hb dX10_whyNotLaws_17 rfl (lv_at hl 0 rfl) ?_
      refine t_getX C hH hI.1 mq tq td_40 iX10 rfl 1 (by decide) wd994 rfl (hI.rf kq_1) dX10_whyNotLaws_18 ?_
      refine lv_iload_n hx hb dX10_whyNotLaws_21 rfl (lv_at hl 1 rfl) ?_
      refine t_ald C hH hI.1 mq_1 tq_1 td_41 (rg_in r60 (by decide)) dX10_whyNotLaws_22 (fun z69v az69 _ => ?_)
      refine lv_topi (fun z69 ez69 => ?_)
      refine lv_iconst (v := (-1 : Int32)) hx hb dX10_whyNotLaws_23 (by decide) ?_
      refine lv_icmp_ne (tgt := 30) hx hb dX10_whyNotLaws_24 (by decide) (fun c70 => ?_) (fun c70 => ?_)
      · skip
        refine lv_aload_n hx hb dX10_whyNotLaws_30 rfl (lv_at hl 0 rfl) ?_
        refine t_getX C hH hI.1 mq tq td_40 iX10 rfl 2 (by decide) wd988 rfl (hI.rf kq_2) dX10_whyNotLaws_31 ?_
        refine lv_iload_n hx hb dX10_whyNotLaws_34 rfl (lv_at hl 1 rfl) ?_
        refine t_ald C hH hI.1 mq_2 tq_2 td_42 (rg_in r60 (by decide)) dX10_whyNotLaws_35 (fun z71v az71 pz71 => ?_)
        refine lv_topi (fun z71 ez71 => ?_)
        have r72 : rg z71 0 60 := many_rg pz71 (rg_in r60 (by decide)) ez71
        rw [arr_inj az71 ((hI.fr q_2 mq_2 (t_lim tq_2 rfl)).trans (hm0 q_2 mq_2 tq_2))] at ez71
        refine lv_iconst (v := (3 : Int32)) hx hb dX10_whyNotLaws_36 (by decide) ?_
        refine lv_irem hx hb dX10_whyNotLaws_37 (by decide) ?_
        refine lv_topi (fun z73 ez73 => ?_)
        have r74 : rg z73 0 2 := rg_rem ez73 r72 tl_3 (by decide)
        refine lv_if_eq (tgt := 44) hx hb dX10_whyNotLaws_38 (by decide) (fun c75 => ?_) (fun c75 => ?_)
        · skip
          have r76 : rg z73 0 0 := rf_eql (c_eq c75) r74 rl_0 (by decide)
          have F77 := md_ok 3 ez73 tl_3 r72 (c_eq c75) tl_0 ez71 (by decide)
          refine lv_iconst (v := (0 : Int32)) hx hb dX10_whyNotLaws_44 (by decide) ?_
          refine lv_istore_n (lv' := [(2, .int (0 : Int32)), (0, .ref q), (1, .int p1)]) hx hb dX10_whyNotLaws_45 rfl hl (by decide) rfl (fun ls hl => ?_)
          exact cut46 61 _ _ _ _ (0 : Int32) (fu_i 61 rl_0 (by decide)) hI hH (rg_w rl_0 (by decide)) r60 F68 (cj_0 3) F77 (lv_sub hl [1, 2, 0] rfl)
        · skip
          have r78 : rg z73 1 2 := rf_nel (n_eq c75) r74 rl_0 (by decide)
          refine lv_bipush (v := (-2 : Int32)) hx hb dX10_whyNotLaws_41 (by decide) ?_
          exact g_iret C hr hH (Nat.zero_le _) (Nat.zero_le _) dX10_whyNotLaws_43 ⟨rfl, hI, ⟨(rg_w rl_m2 (by decide)), (fun h => absurd h (by decide)), (fun h => absurd h (by decide))⟩⟩
      · skip
        have r79 : rg z69 (-1) (-1) := rf_eql (c_eq c70) (rg_all _) rl_m1 (by decide)
        refine lv_bipush (v := (-6 : Int32)) hx hb dX10_whyNotLaws_27 (by decide) ?_
        exact g_iret C hr hH (Nat.zero_le _) (Nat.zero_le _) dX10_whyNotLaws_29 ⟨rfl, hI, ⟨(rg_w rl_m6 (by decide)), (fun h => absurd h (by decide)), (fun h => absurd h (by decide))⟩⟩
    · skip
      have r80 : rg r62 0 0 := rf_eql (c_eq c66) h64.1 rl_0 (by decide)
      refine lv_bipush (v := (-2 : Int32)) hx hb dX10_whyNotLaws_14 (by decide) ?_
      exact g_iret C hr hH (Nat.zero_le _) (Nat.zero_le _) dX10_whyNotLaws_16 ⟨rfl, hI, ⟨(rg_w rl_m2 (by decide)), (fun h => absurd h (by decide)), (fun h => absurd h (by decide))⟩⟩
set_option maxHeartbeats 4000000 in
set_option maxRecDepth 100000 in
theorem t_X10_whyNotBegan (l : Launch) (E : gE) (J : Nat → Nat) (τ : Nat → Nat) (L : List Nat) (f : gF) (hI : tI E L τ f) {q : Nat} (mq : q ∈ L) (tq : τ q = 40) (p1 : Int32) {vl vh : Nat → Int32} (hl0 : isA E L τ f 46 5 vl) (hh : isA E L τ f 47 45 vh) (hR : rowOK vl vh 0) {vm : Nat → Int32} {vc : Nat → Int64} (hm0 : isA E L τ f 42 4 vm) (hc0 : isJ E L τ f 43 240 vc) : tMi l E J yX10_whyNotBegan cX10_whyNotBegan 3 .int (gRm (3) 0 0) [.ref q, .int p1] L f (tPi E L τ [] f (fun r f1 => rg r (-6) 0 ∧ (r = 0 → rg p1 0 3) ∧ (r = 0 → rowsOK 2 5 1 vm vc p1 ∧ 1 ≤ (vh 0).toInt))) := by
  refine tMi.intro (by decide) (Nat.le_of_ble_eq_true rfl) ?_
  intro p e s m below meth c A ls C hr hA hO hH hl
  have C : gC E cX10_whyNotBegan 3 RX10 p s m _ meth c := C
  have hl : lv_has ls 3 [(0, .ref q), (1, .int p1)] := hl
  have hx := C.1
  have hb := C.2.1
  have hI := hI.S []
  obtain ⟨q_1, mq_1, tq_1, kq_1⟩ := t_fldr hI.1 mq tq td_40 (k := 1) rfl
  obtain ⟨q_2, mq_2, tq_2, kq_2⟩ := t_fldr hI.1 mq tq td_40 (k := 2) rfl
  obtain ⟨q_3, mq_3, tq_3, kq_3⟩ := t_fldr hI.1 mq tq td_40 (k := 3) rfl
  have cut46 : ∀ (n : Nat) (fh46 : gF) (H : Heap) (locs : List Loc) (ls : Array Slot) (v46_2 : Int32), 60 - v46_2.toInt < (n : Int) → tS E L τ [] f fh46 → gH E A L fh46 s.heap H locs → rg v46_2 0 60 → rg p1 0 3 → 1 ≤ (vh 0).toInt → (∃ j : Nat, v46_2.toInt = ((2 : Nat) : Int) * (j : Int) ∧ ∀ q, q < j → cOK 2 5 1 vc p1 q) → (∃ m : Nat, (vm p1.toNatClampNeg).toInt = ((2 : Nat) : Int) * (m : Int)) → lv_has ls 3 [(0, .ref q), (1, .int p1), (2, .int v46_2)] → W p l e (gRm (3) 0 0) s m [.ref q, .int p1].toArray below meth c H locs 0 0 (MQ below (gQi E A (tPi E L τ [] f (fun r f1 => rg r (-6) 0 ∧ (r = 0 → rg p1 0 3) ∧ (r = 0 → rowsOK 2 5 1 vm vc p1 ∧ 1 ≤ (vh 0).toInt)))) [.ref q, .int p1].toArray s (gRm (3) 0 0).cells (gRm (3) 0 0).slots A) (F0 m 46 ls []) := by
    intro n
    induction n with
    | zero =>
      intro fh46 H locs ls v46_2 hfu46 hI hH r_v46_2 r46_p1 F46_W F46_cj F46_md hl
      exact (fu_0 hfu46 r_v46_2).elim
    | succ n ih46 =>
      intro fh46 H locs ls v46_2 hfu46 hI hH r_v46_2 r46_p1 F46_W F46_cj F46_md hl
      refine lv_iload_n hx hb dX10_whyNotBegan_46 rfl (lv_at hl 2 rfl) ?_
      refine lv_aload_n hx hb dX10_whyNotBegan_47 rfl (lv_at hl 0 rfl) ?_
      refine t_getX C hH hI.1 mq tq td_40 iX10 rfl 2 (by decide) wd988 rfl (hI.rf kq_2) dX10_whyNotBegan_48 ?_
      refine lv_iload_n hx hb dX10_whyNotBegan_51 rfl (lv_at hl 1 rfl) ?_
      refine t_ald C hH hI.1 mq_2 tq_2 td_42 (rg_in r46_p1 (by decide)) dX10_whyNotBegan_52 (fun z1v az1 pz1 => ?_)
      refine lv_topi (fun z1 ez1 => ?_)
      have r2 : rg z1 0 60 := many_rg pz1 (rg_in r46_p1 (by decide)) ez1
      rw [arr_inj az1 ((hI.fr q_2 mq_2 (t_lim tq_2 rfl)).trans (hm0 q_2 mq_2 tq_2))] at ez1
      refine lv_icmp_ge (tgt := 104) hx hb dX10_whyNotBegan_53 (by decide) (fun c3 => ?_) (fun c3 => ?_)
      · skip
        refine lv_iconst (v := (0 : Int32)) hx hb dX10_whyNotBegan_104 (by decide) ?_
        exact g_iret C hr hH (Nat.zero_le _) (Nat.zero_le _) dX10_whyNotBegan_105 ⟨rfl, hI, ⟨(rg_w rl_0 (by decide)), (fun _ => r46_p1), (fun _ => ⟨cj_e F46_cj F46_md (c_le c3) ez1, F46_W⟩)⟩⟩
      · skip
        have r4 : rg v46_2 0 59 := rf_ltl (n_le c3) r_v46_2 r2 (by decide)
        have r5 : rg z1 1 60 := rf_ltr (n_le c3) r_v46_2 r2 (by decide)
        have r6 : rg v46_2 0 58 := cj_rg (a := 0) (b := 60) 2 (cj_1 F46_cj) F46_md (n_le c3) ez1 (rg_w r5 (by decide)) (by decide) (by decide)
        refine lv_aload_n hx hb dX10_whyNotBegan_56 rfl (lv_at hl 0 rfl) ?_
        refine lv_aload_n hx hb dX10_whyNotBegan_57 rfl (lv_at hl 0 rfl) ?_
        refine t_getX C hH hI.1 mq tq td_40 iX10 rfl 3 (by decide) wd989 rfl (hI.rf kq_3) dX10_whyNotBegan_58 ?_
        refine lv_bipush (v := (60 : Int32)) hx hb dX10_whyNotBegan_61 (by decide) ?_
        refine lv_iload_n hx hb dX10_whyNotBegan_63 rfl (lv_at hl 1 rfl) ?_
        refine lv_imul hx hb dX10_whyNotBegan_64 ?_
        refine lv_topi (fun z7 ez7 => ?_)
        have r8 : rg z7 0 180 := rg_mul ez7 rl_60 r46_p1 (by decide)
        refine lv_iload_n hx hb dX10_whyNotBegan_65 rfl (lv_at hl 2 rfl) ?_
        refine lv_iadd hx hb dX10_whyNotBegan_66 ?_
        refine lv_topi (fun z9 ez9 => ?_)
        have r10 : rg z9 0 238 := rg_add ez9 r8 r6 (by decide)
        have kx11 := cj_x r46_p1 (rg_w r6 (by decide)) ez7 ez9
        refine t_lald C hH hI.1 mq_3 tq_3 td_43 (rg_in r10 (by decide)) dX10_whyNotBegan_67 (fun z12v az12 => ?_)
        refine lv_topl (fun z12 ez12 => ?_)
        rw [arr_injJ az12 ((hI.fr q_3 mq_3 (t_lim tq_3 rfl)).trans (hc0 q_3 mq_3 tq_3))] at ez12
        refine t_Vi C hO hl.1 hA hH hI.1 (As := [.long z12]) (rest := []) (t_X10_isMember l E J τ L fh46 hI.1 mq tq z12) my_X10_isMember wd764 mq tq td_40 rfl rfl rfl (Nat.le_of_ble_eq_true rfl) ⟨Nat.le_of_ble_eq_true rfl, Nat.le_of_ble_eq_true rfl⟩ ⟨rfl, rfl⟩ dX10_whyNotBegan_68 (fun r14 L1 f13 H locs hp hH => ?_)
        obtain ⟨rfl, s15, h16⟩ := hp
        have hJ := hI
        have hI := hI.call s15 (by decide)
        have w17 := h16.2.2 vl vh (hl0.S hJ rfl) (hh.S hJ rfl) hR
        refine lv_if_eq (tgt := 95) hx hb dX10_whyNotBegan_71 (by decide) (fun c18 => ?_) (fun c18 => ?_)
        · skip
          have r19 : rg r14 0 0 := rf_eql (c_eq c18) h16.1 rl_0 (by decide)
          refine lv_bipush (v := (-2 : Int32)) hx hb dX10_whyNotBegan_95 (by decide) ?_
          exact g_iret C hr hH (Nat.zero_le _) (Nat.zero_le _) dX10_whyNotBegan_97 ⟨rfl, hI, ⟨(rg_w rl_m2 (by decide)), (fun h => absurd h (by decide)), (fun h => absurd h (by decide))⟩⟩
        · skip
          have r20 : rg r14 1 1 := rf_nel (n_eq c18) h16.1 rl_0 (by decide)
          refine lv_aload_n hx hb dX10_whyNotBegan_74 rfl (lv_at hl 0 rfl) ?_
          refine t_getX C hH hI.1 mq tq td_40 iX10 rfl 3 (by decide) wd989 rfl (hI.rf kq_3) dX10_whyNotBegan_75 ?_
          refine lv_bipush (v := (60 : Int32)) hx hb dX10_whyNotBegan_78 (by decide) ?_
          refine lv_iload_n hx hb dX10_whyNotBegan_80 rfl (lv_at hl 1 rfl) ?_
          refine lv_imul hx hb dX10_whyNotBegan_81 ?_
          refine lv_topi (fun z21 ez21 => ?_)
          have r22 : rg z21 0 180 := rg_mul ez21 rl_60 r46_p1 (by decide)
          refine lv_iload_n hx hb dX10_whyNotBegan_82 rfl (lv_at hl 2 rfl) ?_
          refine lv_iadd hx hb dX10_whyNotBegan_83 ?_
          refine lv_topi (fun z23 ez23 => ?_)
          have r24 : rg z23 0 238 := rg_add ez23 r22 r6 (by decide)
          have kx25 := cj_x r46_p1 (rg_w r6 (by decide)) ez21 ez23
          refine lv_iconst (v := (1 : Int32)) hx hb dX10_whyNotBegan_84 (by decide) ?_
          refine lv_iadd hx hb dX10_whyNotBegan_85 ?_
          refine lv_topi (fun z26 ez26 => ?_)
          have r27 : rg z26 1 239 := rg_add ez26 r24 rl_1 (by decide)
          have a28 : z26.toInt = z23.toInt + 1 := ai_add ez26 r24 tl_1 (by decide)
          have kx29 : z26.toInt = 60 * p1.toInt + v46_2.toInt + 1 := by rw [a28, kx25]
          refine t_lald C hH hI.1 mq_3 tq_3 td_43 (rg_in r27 (by decide)) dX10_whyNotBegan_86 (fun z30v az30 => ?_)
          refine lv_topl (fun z30 ez30 => ?_)
          rw [arr_injJ az30 ((hI.fr q_3 mq_3 (t_lim tq_3 rfl)).trans (hc0 q_3 mq_3 tq_3))] at ez30
          refine lv_lconst (v := (0 : Int64)) hx hb dX10_whyNotBegan_87 (by decide) ?_
          refine lv_lconst (v := (1 : Int64)) hx hb dX10_whyNotBegan_88 (by decide) ?_
          refine t_Si C hO hl.1 hA hH (As := [.long z30, .long (0 : Int64), .long (1 : Int64)]) (rest := []) (t_X10_in l E J τ L f13 hI.1 z30 ((0 : Int64)) ((1 : Int64))) my_X10_in wd744 rfl rfl (Nat.le_of_ble_eq_true rfl) ⟨Nat.le_of_ble_eq_true rfl, Nat.le_of_ble_eq_true rfl⟩ ⟨rfl, rfl⟩ dX10_whyNotBegan_89 (fun r32 L1 f31 H locs hp hH => ?_)
          obtain ⟨rfl, s33, h34⟩ := hp
          have hJ := hI
          have hI := hI.call s33 (by decide)
          refine lv_if_ne (tgt := 98) hx hb dX10_whyNotBegan_92 (by decide) (fun c35 => ?_) (fun c35 => ?_)
          · skip
            have r36 : rg r32 1 1 := rf_nel (n_eq c35) h34.1 rl_0 (by decide)
            obtain ⟨z37, ez37⟩ : ∃ y : Int32, y = v46_2 + (2 : Int32) := ⟨_, rfl⟩
            have r38 : rg z37 2 60 := rg_add ez37 r6 rl_2 (by decide)
            have a39 : z37.toInt = v46_2.toInt + 2 := ai_add ez37 r6 tl_2 (by decide)
            refine lv_iinc (v := z37) (lv' := [(2, .int z37), (0, .ref q), (1, .int p1)]) hx hb dX10_whyNotBegan_98 hl (k := 2) rfl (by rw [ez37]; rfl) (by decide) rfl (fun ls hl => ?_)
            refine lv_goto (tgt := 46) hx hb dX10_whyNotBegan_101 (by decide) ?_
            exact ih46 _ _ _ _ z37 (fu_s hfu46 a39 (by decide)) hI hH (rg_w r38 (by decide)) r46_p1 F46_W (cj_s F46_cj a39 r46_p1 kx11 kx29 ez12 ez30 (h16.2.1 c18) (in_01 (h34.2 c35) (by decide) (by decide))) F46_md (lv_sub hl [1, 2, 0] rfl)
          · skip
            have r40 : rg r32 0 0 := rf_eql (c_eq c35) h34.1 rl_0 (by decide)
            refine lv_bipush (v := (-2 : Int32)) hx hb dX10_whyNotBegan_95 (by decide) ?_
            exact g_iret C hr hH (Nat.zero_le _) (Nat.zero_le _) dX10_whyNotBegan_97 ⟨rfl, hI, ⟨(rg_w rl_m2 (by decide)), (fun h => absurd h (by decide)), (fun h => absurd h (by decide))⟩⟩
  refine lv_iload_n hx hb dX10_whyNotBegan_0 rfl (lv_at hl 1 rfl) ?_
  refine t_Si C hO hl.1 hA hH (As := [.int p1]) (rest := []) (t_X10_isSlot l E J τ L f hI.1 p1) my_X10_isSlot wd993 rfl rfl (Nat.le_of_ble_eq_true rfl) ⟨Nat.le_of_ble_eq_true rfl, Nat.le_of_ble_eq_true rfl⟩ ⟨rfl, rfl⟩ dX10_whyNotBegan_1 (fun r42 L1 f41 H locs hp hH => ?_)
  obtain ⟨rfl, s43, h44⟩ := hp
  have hI := hI.call s43 (by decide)
  refine lv_if_eq (tgt := 14) hx hb dX10_whyNotBegan_4 (by decide) (fun c45 => ?_) (fun c45 => ?_)
  · skip
    have r46 : rg r42 0 0 := rf_eql (c_eq c45) h44.1 rl_0 (by decide)
    refine lv_bipush (v := (-2 : Int32)) hx hb dX10_whyNotBegan_14 (by decide) ?_
    exact g_iret C hr hH (Nat.zero_le _) (Nat.zero_le _) dX10_whyNotBegan_16 ⟨rfl, hI, ⟨(rg_w rl_m2 (by decide)), (fun h => absurd h (by decide)), (fun h => absurd h (by decide))⟩⟩
  · skip
    have r47 : rg r42 1 1 := rf_nel (n_eq c45) h44.1 rl_0 (by decide)
    have r48 : rg p1 0 3 := h44.2 c45
    refine lv_aload_n hx hb dX10_whyNotBegan_7 rfl (lv_at hl 0 rfl) ?_
    refine t_Vi C hO hl.1 hA hH hI.1 (As := []) (rest := []) (t_X10_isLand l E J τ L f41 hI.1 mq tq) my_X10_isLand wd768 mq tq td_40 rfl rfl rfl (Nat.le_of_ble_eq_true rfl) ⟨Nat.le_of_ble_eq_true rfl, Nat.le_of_ble_eq_true rfl⟩ ⟨rfl, rfl⟩ dX10_whyNotBegan_8 (fun r50 L1 f49 H locs hp hH => ?_)
    obtain ⟨rfl, s51, h52⟩ := hp
    have hJ := hI
    have hI := hI.call s51 (by decide)
    have w53 := h52.2 vl vh (hl0.S hJ rfl) (hh.S hJ rfl) hR
    refine lv_if_ne (tgt := 17) hx hb dX10_whyNotBegan_11 (by decide) (fun c54 => ?_) (fun c54 => ?_)
    · skip
      have r55 : rg r50 1 1 := rf_nel (n_eq c54) h52.1 rl_0 (by decide)
      have F56 : 1 ≤ (vh 0).toInt := w53 c54
      refine lv_aload_n hx hb dX10_whyNotBegan_17 rfl (lv_at hl 0 rfl) ?_
      refine t_getX C hH hI.1 mq tq td_40 iX10 rfl 1 (by decide) wd994 rfl (hI.rf kq_1) dX10_whyNotBegan_18 ?_
      refine lv_iload_n hx hb dX10_whyNotBegan_21 rfl (lv_at hl 1 rfl) ?_
      refine t_ald C hH hI.1 mq_1 tq_1 td_41 (rg_in r48 (by decide)) dX10_whyNotBegan_22 (fun z57v az57 _ => ?_)
      refine lv_topi (fun z57 ez57 => ?_)
      refine lv_iconst (v := (-1 : Int32)) hx hb dX10_whyNotBegan_23 (by decide) ?_
      refine lv_icmp_ne (tgt := 30) hx hb dX10_whyNotBegan_24 (by decide) (fun c58 => ?_) (fun c58 => ?_)
      · skip
        refine lv_aload_n hx hb dX10_whyNotBegan_30 rfl (lv_at hl 0 rfl) ?_
        refine t_getX C hH hI.1 mq tq td_40 iX10 rfl 2 (by decide) wd988 rfl (hI.rf kq_2) dX10_whyNotBegan_31 ?_
        refine lv_iload_n hx hb dX10_whyNotBegan_34 rfl (lv_at hl 1 rfl) ?_
        refine t_ald C hH hI.1 mq_2 tq_2 td_42 (rg_in r48 (by decide)) dX10_whyNotBegan_35 (fun z59v az59 pz59 => ?_)
        refine lv_topi (fun z59 ez59 => ?_)
        have r60 : rg z59 0 60 := many_rg pz59 (rg_in r48 (by decide)) ez59
        rw [arr_inj az59 ((hI.fr q_2 mq_2 (t_lim tq_2 rfl)).trans (hm0 q_2 mq_2 tq_2))] at ez59
        refine lv_iconst (v := (2 : Int32)) hx hb dX10_whyNotBegan_36 (by decide) ?_
        refine lv_irem hx hb dX10_whyNotBegan_37 (by decide) ?_
        refine lv_topi (fun z61 ez61 => ?_)
        have r62 : rg z61 0 1 := rg_rem ez61 r60 tl_2 (by decide)
        refine lv_if_eq (tgt := 44) hx hb dX10_whyNotBegan_38 (by decide) (fun c63 => ?_) (fun c63 => ?_)
        · skip
          have r64 : rg z61 0 0 := rf_eql (c_eq c63) r62 rl_0 (by decide)
          have F65 := md_ok 2 ez61 tl_2 r60 (c_eq c63) tl_0 ez59 (by decide)
          refine lv_iconst (v := (0 : Int32)) hx hb dX10_whyNotBegan_44 (by decide) ?_
          refine lv_istore_n (lv' := [(2, .int (0 : Int32)), (0, .ref q), (1, .int p1)]) hx hb dX10_whyNotBegan_45 rfl hl (by decide) rfl (fun ls hl => ?_)
          exact cut46 61 _ _ _ _ (0 : Int32) (fu_i 61 rl_0 (by decide)) hI hH (rg_w rl_0 (by decide)) r48 F56 (cj_0 2) F65 (lv_sub hl [1, 2, 0] rfl)
        · skip
          have r66 : rg z61 1 1 := rf_nel (n_eq c63) r62 rl_0 (by decide)
          refine lv_bipush (v := (-2 : Int32)) hx hb dX10_whyNotBegan_41 (by decide) ?_
          exact g_iret C hr hH (Nat.zero_le _) (Nat.zero_le _) dX10_whyNotBegan_43 ⟨rfl, hI, ⟨(rg_w rl_m2 (by decide)), (fun h => absurd h (by decide)), (fun h => absurd h (by decide))⟩⟩
      · skip
        have r67 : rg z57 (-1) (-1) := rf_eql (c_eq c58) (rg_all _) rl_m1 (by decide)
        refine lv_bipush (v := (-6 : Int32)) hx hb dX10_whyNotBegan_27 (by decide) ?_
        exact g_iret C hr hH (Nat.zero_le _) (Nat.zero_le _) dX10_whyNotBegan_29 ⟨rfl, hI, ⟨(rg_w rl_m6 (by decide)), (fun h => absurd h (by decide)), (fun h => absurd h (by decide))⟩⟩
    · skip
      have r68 : rg r50 0 0 := rf_eql (c_eq c54) h52.1 rl_0 (by decide)
      refine lv_bipush (v := (-2 : Int32)) hx hb dX10_whyNotBegan_14 (by decide) ?_
      exact g_iret C hr hH (Nat.zero_le _) (Nat.zero_le _) dX10_whyNotBegan_16 ⟨rfl, hI, ⟨(rg_w rl_m2 (by decide)), (fun h => absurd h (by decide)), (fun h => absurd h (by decide))⟩⟩
set_option maxHeartbeats 4000000 in
set_option maxRecDepth 100000 in
theorem t_X10_isByLaw (l : Launch) (E : gE) (J : Nat → Nat) (τ : Nat → Nat) (L : List Nat) (f : gF) (hI : tI E L τ f) {q : Nat} (mq : q ∈ L) (tq : τ q = 40) (p1 : Int32) (rp1 : rg p1 0 3) (p2 : Int32) {vh : Nat → Int32} (hh : isA E L τ f 47 45 vh) (hW : 1 ≤ (vh 0).toInt) {vm : Nat → Int32} {vc : Nat → Int64} (hm0 : isA E L τ f 42 4 vm) (hc0 : isJ E L τ f 43 240 vc) (hs : rowsOK 3 3 40 vm vc p1) : tMi l E J yX10_isByLaw cX10_isByLaw 5 .boolean (gRm (7) 0 0) [.ref q, .int p1, .int p2] L f (tPi E L τ [40, 52, 53, 54, 55, 56] f (fun r f1 => rg r 0 1)) := by
  refine tMi.intro (by decide) (Nat.le_of_ble_eq_true rfl) ?_
  intro p e s m below meth c A ls C hr hA hO hH hl
  have C : gC E cX10_isByLaw 5 RX10 p s m _ meth c := C
  have hl : lv_has ls 5 [(0, .ref q), (1, .int p1), (2, .int p2)] := hl
  have hx := C.1
  have hb := C.2.1
  have hI := hI.S [40, 52, 53, 54, 55, 56]
  obtain ⟨q_2, mq_2, tq_2, kq_2⟩ := t_fldr hI.1 mq tq td_40 (k := 2) rfl
  obtain ⟨q_26, mq_26, tq_26, kq_26⟩ := t_fldr hI.1 mq tq td_40 (k := 26) rfl
  obtain ⟨q_3, mq_3, tq_3, kq_3⟩ := t_fldr hI.1 mq tq td_40 (k := 3) rfl
  have cut8 : ∀ (n : Nat) (fh8 : gF) (H : Heap) (locs : List Loc) (ls : Array Slot) (v8_3 : Int32), 60 - v8_3.toInt < (n : Int) → tS E L τ [40, 52, 53, 54, 55, 56] f fh8 → gH E A L fh8 s.heap H locs → rg v8_3 0 60 → (∃ j : Nat, v8_3.toInt = ((3 : Nat) : Int) * (j : Int) ∧ ∀ k : Nat, k < j → True) → lv_has ls 5 [(0, .ref q), (1, .int p1), (2, .int p2), (3, .int v8_3)] → W p l e (gRm (7) 0 0) s m [.ref q, .int p1, .int p2].toArray below meth c H locs 0 0 (MQ below (gQi E A (tPi E L τ [40, 52, 53, 54, 55, 56] f (fun r f1 => rg r 0 1))) [.ref q, .int p1, .int p2].toArray s (gRm (7) 0 0).cells (gRm (7) 0 0).slots A) (F0 m 8 ls []) := by
    intro n
    induction n with
    | zero =>
      intro fh8 H locs ls v8_3 hfu8 hI hH r_v8_3 F8_cj hl
      exact (fu_0 hfu8 r_v8_3).elim
    | succ n ih8 =>
      intro fh8 H locs ls v8_3 hfu8 hI hH r_v8_3 F8_cj hl
      refine lv_iload_n hx hb dX10_isByLaw_8 rfl (lv_at hl 3 rfl) ?_
      refine lv_aload_n hx hb dX10_isByLaw_9 rfl (lv_at hl 0 rfl) ?_
      refine t_getX C hH hI.1 mq tq td_40 iX10 rfl 2 (by decide) wd988 rfl (hI.rf kq_2) dX10_isByLaw_10 ?_
      refine lv_iload_n hx hb dX10_isByLaw_13 rfl (lv_at hl 1 rfl) ?_
      refine t_ald C hH hI.1 mq_2 tq_2 td_42 (rg_in rp1 (by decide)) dX10_isByLaw_14 (fun z1v az1 pz1 => ?_)
      refine lv_topi (fun z1 ez1 => ?_)
      have r2 : rg z1 0 60 := many_rg pz1 (rg_in rp1 (by decide)) ez1
      rw [arr_inj az1 ((hI.fr q_2 mq_2 (t_lim tq_2 rfl)).trans (hm0 q_2 mq_2 tq_2))] at ez1
      refine lv_icmp_ge (tgt := 75) hx hb dX10_isByLaw_15 (by decide) (fun c3 => ?_) (fun c3 => ?_)
      · skip
        refine lv_iconst (v := (1 : Int32)) hx hb dX10_isByLaw_75 (by decide) ?_
        exact g_zret C hr (rg_z (rg_w rl_1 (by decide))) hH (Nat.zero_le _) (Nat.zero_le _) dX10_isByLaw_76 ⟨rfl, hI, (rg_w rl_1 (by decide))⟩
      · skip
        have r4 : rg v8_3 0 59 := rf_ltl (n_le c3) r_v8_3 r2 (by decide)
        have r5 : rg z1 1 60 := rf_ltr (n_le c3) r_v8_3 r2 (by decide)
        have r6 : rg v8_3 0 57 := cj_rg (a := 0) (b := 60) 3 (cj_1 F8_cj) hs.1 (n_le c3) ez1 (rg_w r5 (by decide)) (by decide) (by decide)
        have cv7 := cj_v hs F8_cj (n_le c3) ez1
        refine lv_bipush (v := (60 : Int32)) hx hb dX10_isByLaw_18 (by decide) ?_
        refine lv_iload_n hx hb dX10_isByLaw_20 rfl (lv_at hl 1 rfl) ?_
        refine lv_imul hx hb dX10_isByLaw_21 ?_
        refine lv_topi (fun z8 ez8 => ?_)
        have r9 : rg z8 0 180 := rg_mul ez8 rl_60 rp1 (by decide)
        refine lv_iload_n hx hb dX10_isByLaw_22 rfl (lv_at hl 3 rfl) ?_
        refine lv_iadd hx hb dX10_isByLaw_23 ?_
        refine lv_topi (fun z10 ez10 => ?_)
        have r11 : rg z10 0 237 := rg_add ez10 r9 r6 (by decide)
        have kx12 := cj_x rp1 (rg_w r6 (by decide)) ez8 ez10
        refine lv_istore (lv' := [(4, .int z10), (0, .ref q), (1, .int p1), (2, .int p2), (3, .int v8_3)]) hx hb dX10_isByLaw_24 hl (by decide) rfl (fun ls hl => ?_)
        refine lv_aload_n hx hb dX10_isByLaw_26 rfl (lv_at hl 1 rfl) ?_
        refine t_getX C hH hI.1 mq tq td_40 iX10 rfl 26 (by decide) wd780 rfl (hI.rf kq_26) dX10_isByLaw_27 ?_
        refine lv_bipush (v := (41 : Int32)) hx hb dX10_isByLaw_30 (by decide) ?_
        refine lv_aload_n hx hb dX10_isByLaw_32 rfl (lv_at hl 1 rfl) ?_
        refine t_getX C hH hI.1 mq tq td_40 iX10 rfl 3 (by decide) wd989 rfl (hI.rf kq_3) dX10_isByLaw_33 ?_
        refine lv_iload hx hb dX10_isByLaw_36 (lv_at hl 0 rfl) ?_
        refine t_lald C hH hI.1 mq_3 tq_3 td_43 (rg_in r11 (by decide)) dX10_isByLaw_38 (fun z13v az13 => ?_)
        refine lv_topl (fun z13 ez13 => ?_)
        rw [arr_injJ az13 ((hI.fr q_3 mq_3 (t_lim tq_3 rfl)).trans (hc0 q_3 mq_3 tq_3))] at ez13
        refine lv_l2i (v := _) hx hb dX10_isByLaw_39 rfl ?_
        refine lv_topi (fun z14 ez14 => ?_)
        have r15 : rg z14 0 3 := cj_a cv7 rp1 kx12 ez13 ez14 (by decide)
        refine lv_imul hx hb dX10_isByLaw_40 ?_
        refine lv_topi (fun z16 ez16 => ?_)
        have r17 : rg z16 0 123 := rg_mul ez16 rl_41 r15 (by decide)
        refine lv_aload_n hx hb dX10_isByLaw_41 rfl (lv_at hl 1 rfl) ?_
        refine t_getX C hH hI.1 mq tq td_40 iX10 rfl 3 (by decide) wd989 rfl (hI.rf kq_3) dX10_isByLaw_42 ?_
        refine lv_iload hx hb dX10_isByLaw_45 (lv_at hl 0 rfl) ?_
        refine lv_iconst (v := (1 : Int32)) hx hb dX10_isByLaw_47 (by decide) ?_
        refine lv_iadd hx hb dX10_isByLaw_48 ?_
        refine lv_topi (fun z18 ez18 => ?_)
        have r19 : rg z18 1 238 := rg_add ez18 r11 rl_1 (by decide)
        have a20 : z18.toInt = z10.toInt + 1 := ai_add ez18 r11 tl_1 (by decide)
        have kx21 : z18.toInt = 60 * p1.toInt + v8_3.toInt + 1 := by rw [a20, kx12]
        refine t_lald C hH hI.1 mq_3 tq_3 td_43 (rg_in r19 (by decide)) dX10_isByLaw_49 (fun z22v az22 => ?_)
        refine lv_topl (fun z22 ez22 => ?_)
        rw [arr_injJ az22 ((hI.fr q_3 mq_3 (t_lim tq_3 rfl)).trans (hc0 q_3 mq_3 tq_3))] at ez22
        refine lv_l2i (v := _) hx hb dX10_isByLaw_50 rfl ?_
        refine lv_topi (fun z23 ez23 => ?_)
        have r24 : rg z23 0 40 := cj_b cv7 rp1 kx21 ez22 ez23 (by decide)
        refine lv_iadd hx hb dX10_isByLaw_51 ?_
        refine lv_topi (fun z25 ez25 => ?_)
        have r26 : rg z25 0 163 := rg_add ez25 r17 r24 (by decide)
        refine t_ald C hH hI.1 mq_26 tq_26 td_53 (rg_in r26 (by decide)) dX10_isByLaw_52 (fun z27v az27 _ => ?_)
        refine lv_topi (fun z27 ez27 => ?_)
        refine lv_i2l (v := (z27).toInt64) hx hb dX10_isByLaw_53 rfl ?_
        refine lv_aload_n hx hb dX10_isByLaw_54 rfl (lv_at hl 1 rfl) ?_
        refine t_getX C hH hI.1 mq tq td_40 iX10 rfl 3 (by decide) wd989 rfl (hI.rf kq_3) dX10_isByLaw_55 ?_
        refine lv_iload hx hb dX10_isByLaw_58 (lv_at hl 0 rfl) ?_
        refine lv_iconst (v := (2 : Int32)) hx hb dX10_isByLaw_60 (by decide) ?_
        refine lv_iadd hx hb dX10_isByLaw_61 ?_
        refine lv_topi (fun z28 ez28 => ?_)
        have r29 : rg z28 2 239 := rg_add ez28 r11 rl_2 (by decide)
        have a30 : z28.toInt = z10.toInt + 2 := ai_add ez28 r11 tl_2 (by decide)
        have kx31 : z28.toInt = 60 * p1.toInt + v8_3.toInt + 2 := by rw [a30, kx12]
        refine t_lald C hH hI.1 mq_3 tq_3 td_43 (rg_in r29 (by decide)) dX10_isByLaw_62 (fun z32v az32 => ?_)
        refine lv_topl (fun z32 ez32 => ?_)
        rw [arr_injJ az32 ((hI.fr q_3 mq_3 (t_lim tq_3 rfl)).trans (hc0 q_3 mq_3 tq_3))] at ez32
        refine W.lcmp hx hb dX10_isByLaw_63 ?_
        refine lv_topi (fun z33 ez33 => ?_)
        refine lv_if_eq (tgt := 69) hx hb dX10_isByLaw_64 (by decide) (fun c34 => ?_) (fun c34 => ?_)
        · skip
          have r35 : rg z33 0 0 := rf_eql (c_eq c34) (rg_all _) rl_0 (by decide)
          obtain ⟨z36, ez36⟩ : ∃ y : Int32, y = v8_3 + (3 : Int32) := ⟨_, rfl⟩
          have r37 : rg z36 3 60 := rg_add ez36 r6 rl_3 (by decide)
          have a38 : z36.toInt = v8_3.toInt + 3 := ai_add ez36 r6 tl_3 (by decide)
          refine lv_iinc (v := z36) (lv' := [(3, .int z36), (4, .int z10), (0, .ref q), (1, .int p1), (2, .int p2)]) hx hb dX10_isByLaw_69 hl (k := 4) rfl (by rw [ez36]; rfl) (by decide) rfl (fun ls hl => ?_)
          refine lv_goto (tgt := 8) hx hb dX10_isByLaw_72 (by decide) ?_
          exact ih8 _ _ _ _ z36 (fu_s hfu8 a38 (by decide)) hI hH (rg_w r37 (by decide)) (cj_2 F8_cj a38) (lv_sub hl [2, 3, 4, 0] rfl)
        · skip
          refine lv_iconst (v := (0 : Int32)) hx hb dX10_isByLaw_67 (by decide) ?_
          exact g_zret C hr (rg_z (rg_w rl_0 (by decide))) hH (Nat.zero_le _) (Nat.zero_le _) dX10_isByLaw_68 ⟨rfl, hI, (rg_w rl_0 (by decide))⟩
  refine lv_aload_n hx hb dX10_isByLaw_0 rfl (lv_at hl 0 rfl) ?_
  refine lv_iload_n hx hb dX10_isByLaw_1 rfl (lv_at hl 2 rfl) ?_
  refine t_Vi C hO hl.1 hA hH hI.1 (As := [.int p2]) (rest := []) (t_X10_incomeBy l E J τ L f hI.1 mq tq p2 (hh.S hI rfl) hW) my_X10_incomeBy wd895 mq tq td_40 rfl rfl rfl (Nat.le_of_ble_eq_true rfl) ⟨Nat.le_of_ble_eq_true rfl, Nat.le_of_ble_eq_true rfl⟩ ⟨rfl, rfl⟩ dX10_isByLaw_2 (fun r40 L1 f39 H locs hp hH => ?_)
  obtain ⟨rfl, s41, h42⟩ := hp
  have hI := hI.call s41 (by decide)
  refine lv_pop hx hb dX10_isByLaw_5 rfl ?_
  refine lv_iconst (v := (0 : Int32)) hx hb dX10_isByLaw_6 (by decide) ?_
  refine lv_istore_n (lv' := [(3, .int (0 : Int32)), (0, .ref q), (1, .int p1), (2, .int p2)]) hx hb dX10_isByLaw_7 rfl hl (by decide) rfl (fun ls hl => ?_)
  exact cut8 61 _ _ _ _ (0 : Int32) (fu_i 61 rl_0 (by decide)) hI hH (rg_w rl_0 (by decide)) (cj_0 3) (lv_sub hl [1, 2, 3, 0] rfl)
set_option maxHeartbeats 4000000 in
set_option maxRecDepth 100000 in
theorem t_X10_lawsOf (l : Launch) (E : gE) (J : Nat → Nat) (τ : Nat → Nat) (L : List Nat) (f : gF) (hI : tI E L τ f) {q : Nat} (mq : q ∈ L) (tq : τ q = 40) (p1 : Int32) (rp1 : rg p1 0 3) {vh : Nat → Int32} (hh : isA E L τ f 47 45 vh) (hW : 1 ≤ (vh 0).toInt) {vm : Nat → Int32} {vc : Nat → Int64} (hm0 : isA E L τ f 42 4 vm) (hc0 : isJ E L τ f 43 240 vc) (hs : rowsOK 3 3 40 vm vc p1) : tMi l E J yX10_lawsOf cX10_lawsOf 4 .int (gRm (8) 0 0) [.ref q, .int p1] L f (tPi E L τ [40, 52, 53, 54, 55, 56] f (fun r f1 => rg r 0 15)) := by
  refine tMi.intro (by decide) (Nat.le_of_ble_eq_true rfl) ?_
  intro p e s m below meth c A ls C hr hA hO hH hl
  have C : gC E cX10_lawsOf 4 RX10 p s m _ meth c := C
  have hl : lv_has ls 4 [(0, .ref q), (1, .int p1)] := hl
  have hx := C.1
  have hb := C.2.1
  have hI := hI.S [40, 52, 53, 54, 55, 56]
  have cut4 : ∀ (n : Nat) (fh4 : gF) (H : Heap) (locs : List Loc) (ls : Array Slot) (v4_2 : Int32) (v4_3 : Int32), 4 - v4_3.toInt < (n : Int) → tS E L τ [40, 52, 53, 54, 55, 56] f fh4 → gH E A L fh4 s.heap H locs → rg v4_2 0 15 → rg v4_3 0 4 → lv_has ls 4 [(0, .ref q), (1, .int p1), (2, .int v4_2), (3, .int v4_3)] → W p l e (gRm (8) 0 0) s m [.ref q, .int p1].toArray below meth c H locs 0 0 (MQ below (gQi E A (tPi E L τ [40, 52, 53, 54, 55, 56] f (fun r f1 => rg r 0 15))) [.ref q, .int p1].toArray s (gRm (8) 0 0).cells (gRm (8) 0 0).slots A) (F0 m 4 ls []) := by
    intro n
    induction n with
    | zero =>
      intro fh4 H locs ls v4_2 v4_3 hfu4 hI hH r_v4_2 r_v4_3 hl
      exact (fu_0 hfu4 r_v4_3).elim
    | succ n ih4 =>
      intro fh4 H locs ls v4_2 v4_3 hfu4 hI hH r_v4_2 r_v4_3 hl
      refine lv_iload_n hx hb dX10_lawsOf_4 rfl (lv_at hl 3 rfl) ?_
      refine lv_iconst (v := (4 : Int32)) hx hb dX10_lawsOf_5 (by decide) ?_
      refine lv_icmp_ge (tgt := 34) hx hb dX10_lawsOf_6 (by decide) (fun c1 => ?_) (fun c1 => ?_)
      · skip
        have r2 : rg v4_3 4 4 := rf_ler (c_le c1) rl_4 r_v4_3 (by decide)
        refine lv_iload_n hx hb dX10_lawsOf_34 rfl (lv_at hl 2 rfl) ?_
        exact g_iret C hr hH (Nat.zero_le _) (Nat.zero_le _) dX10_lawsOf_35 ⟨rfl, hI, r_v4_2⟩
      · skip
        have r3 : rg v4_3 0 3 := rf_ltl (n_le c1) r_v4_3 rl_4 (by decide)
        refine lv_iload_n hx hb dX10_lawsOf_9 rfl (lv_at hl 2 rfl) ?_
        refine lv_aload_n hx hb dX10_lawsOf_10 rfl (lv_at hl 0 rfl) ?_
        refine lv_iload_n hx hb dX10_lawsOf_11 rfl (lv_at hl 1 rfl) ?_
        refine lv_iload_n hx hb dX10_lawsOf_12 rfl (lv_at hl 3 rfl) ?_
        refine t_Vi C hO hl.1 hA hH hI.1 (As := [.int p1, .int v4_3]) (rest := [.int v4_2]) (t_X10_isByLaw l E J τ L fh4 hI.1 mq tq p1 rp1 v4_3 (hh.S hI rfl) hW (hm0.S hI rfl) (hc0.S hI rfl) hs) my_X10_isByLaw wd998 mq tq td_40 rfl rfl rfl (Nat.le_of_ble_eq_true rfl) ⟨Nat.le_of_ble_eq_true rfl, Nat.le_of_ble_eq_true rfl⟩ ⟨rfl, rfl⟩ dX10_lawsOf_13 (fun r5 L1 f4 H locs hp hH => ?_)
        obtain ⟨rfl, s6, h7⟩ := hp
        have hI := hI.call s6 (by decide)
        refine lv_if_eq (tgt := 25) hx hb dX10_lawsOf_16 (by decide) (fun c8 => ?_) (fun c8 => ?_)
        · skip
          have r9 : rg r5 0 0 := rf_eql (c_eq c8) h7 rl_0 (by decide)
          refine lv_iconst (v := (0 : Int32)) hx hb dX10_lawsOf_25 (by decide) ?_
          refine lv_ior hx hb dX10_lawsOf_26 ?_
          refine lv_topi (fun z10 ez10 => ?_)
          have r11 : rg z10 0 15 := rg_or 4 ez10 r_v4_2 rl_0 (by decide)
          refine lv_istore_n (lv' := [(2, .int z10), (0, .ref q), (1, .int p1), (3, .int v4_3)]) hx hb dX10_lawsOf_27 rfl hl (by decide) rfl (fun ls hl => ?_)
          obtain ⟨z12, ez12⟩ : ∃ y : Int32, y = v4_3 + (1 : Int32) := ⟨_, rfl⟩
          have r13 : rg z12 1 4 := rg_add ez12 r3 rl_1 (by decide)
          have a14 : z12.toInt = v4_3.toInt + 1 := ai_add ez12 r3 tl_1 (by decide)
          refine lv_iinc (v := z12) (lv' := [(3, .int z12), (2, .int z10), (0, .ref q), (1, .int p1)]) hx hb dX10_lawsOf_28 hl (k := 3) rfl (by rw [ez12]; rfl) (by decide) rfl (fun ls hl => ?_)
          refine lv_goto (tgt := 4) hx hb dX10_lawsOf_31 (by decide) ?_
          exact ih4 _ _ _ _ z10 z12 (fu_s hfu4 a14 (by decide)) hI hH r11 (rg_w r13 (by decide)) (lv_sub hl [2, 3, 1, 0] rfl)
        · skip
          have r15 : rg r5 1 1 := rf_nel (n_eq c8) h7 rl_0 (by decide)
          refine lv_iconst (v := (1 : Int32)) hx hb dX10_lawsOf_19 (by decide) ?_
          refine lv_iload_n hx hb dX10_lawsOf_20 rfl (lv_at hl 3 rfl) ?_
          refine lv_ishl hx hb dX10_lawsOf_21 ?_
          refine lv_topi (fun z16 ez16 => ?_)
          have r17 : rg z16 1 8 := rg_shl 0 3 ez16 r3 (by decide)
          refine lv_goto (tgt := 26) hx hb dX10_lawsOf_22 (by decide) ?_
          refine lv_ior hx hb dX10_lawsOf_26 ?_
          refine lv_topi (fun z18 ez18 => ?_)
          have r19 : rg z18 0 15 := rg_or 4 ez18 r_v4_2 r17 (by decide)
          refine lv_istore_n (lv' := [(2, .int z18), (0, .ref q), (1, .int p1), (3, .int v4_3)]) hx hb dX10_lawsOf_27 rfl hl (by decide) rfl (fun ls hl => ?_)
          obtain ⟨z20, ez20⟩ : ∃ y : Int32, y = v4_3 + (1 : Int32) := ⟨_, rfl⟩
          have r21 : rg z20 1 4 := rg_add ez20 r3 rl_1 (by decide)
          have a22 : z20.toInt = v4_3.toInt + 1 := ai_add ez20 r3 tl_1 (by decide)
          refine lv_iinc (v := z20) (lv' := [(3, .int z20), (2, .int z18), (0, .ref q), (1, .int p1)]) hx hb dX10_lawsOf_28 hl (k := 3) rfl (by rw [ez20]; rfl) (by decide) rfl (fun ls hl => ?_)
          refine lv_goto (tgt := 4) hx hb dX10_lawsOf_31 (by decide) ?_
          exact ih4 _ _ _ _ z18 z20 (fu_s hfu4 a22 (by decide)) hI hH r19 (rg_w r21 (by decide)) (lv_sub hl [2, 3, 1, 0] rfl)
  refine lv_iconst (v := (0 : Int32)) hx hb dX10_lawsOf_0 (by decide) ?_
  refine lv_istore_n (lv' := [(2, .int (0 : Int32)), (0, .ref q), (1, .int p1)]) hx hb dX10_lawsOf_1 rfl hl (by decide) rfl (fun ls hl => ?_)
  refine lv_iconst (v := (0 : Int32)) hx hb dX10_lawsOf_2 (by decide) ?_
  refine lv_istore_n (lv' := [(3, .int (0 : Int32)), (2, .int (0 : Int32)), (0, .ref q), (1, .int p1)]) hx hb dX10_lawsOf_3 rfl hl (by decide) rfl (fun ls hl => ?_)
  exact cut4 5 _ _ _ _ (0 : Int32) (0 : Int32) (fu_i 5 rl_0 (by decide)) hI hH (rg_w rl_0 (by decide)) (rg_w rl_0 (by decide)) (lv_sub hl [2, 3, 1, 0] rfl)
set_option maxHeartbeats 4000000 in
set_option maxRecDepth 100000 in
theorem t_X10_laysBegan (l : Launch) (E : gE) (J : Nat → Nat) (τ : Nat → Nat) (L : List Nat) (f : gF) (hI : tI E L τ f) {q : Nat} (mq : q ∈ L) (tq : τ q = 40) (p1 : Int32) (rp1 : rg p1 0 3) {vh : Nat → Int32} (hh : isA E L τ f 47 45 vh) (hW : 1 ≤ (vh 0).toInt) {vm : Nat → Int32} {vc : Nat → Int64} (hm0 : isA E L τ f 42 4 vm) (hc0 : isJ E L τ f 43 240 vc) (hs : rowsOK 2 5 1 vm vc p1) : tMv l E J yX10_laysBegan cX10_laysBegan 5 (gRm (5) 0 0) [.ref q, .int p1] L f (tPv E L τ [40, 52, 53, 54, 55, 63] f (fun f1 => True)) := by
  refine tMv.intro (by decide) (Nat.le_of_ble_eq_true rfl) ?_
  intro p e s m below meth c A ls C hr hA hO hH hl
  have C : gC E cX10_laysBegan 5 RX10 p s m _ meth c := C
  have hl : lv_has ls 5 [(0, .ref q), (1, .int p1)] := hl
  have hx := C.1
  have hb := C.2.1
  have hI := hI.S [40, 52, 53, 54, 55, 63]
  obtain ⟨q_38, mq_38, tq_38, kq_38⟩ := t_fldr hI.1 mq tq td_40 (k := 38) rfl
  obtain ⟨q_2, mq_2, tq_2, kq_2⟩ := t_fldr hI.1 mq tq td_40 (k := 2) rfl
  obtain ⟨q_3, mq_3, tq_3, kq_3⟩ := t_fldr hI.1 mq tq td_40 (k := 3) rfl
  have cut16 : ∀ (n : Nat) (fh16 : gF) (H : Heap) (locs : List Loc) (ls : Array Slot) (v16_2 : Int32), 6 - v16_2.toInt < (n : Int) → tS E L τ [40, 52, 53, 54, 55, 63] f fh16 → gH E A L fh16 s.heap H locs → rg v16_2 0 6 → lv_has ls 5 [(0, .ref q), (1, .int p1), (2, .int v16_2)] → W p l e (gRm (5) 0 0) s m [.ref q, .int p1].toArray below meth c H locs 0 0 (MQ below (gQv E A (tPv E L τ [40, 52, 53, 54, 55, 63] f (fun f1 => True))) [.ref q, .int p1].toArray s (gRm (5) 0 0).cells (gRm (5) 0 0).slots A) (F0 m 16 ls []) := by
    intro n
    induction n with
    | zero =>
      intro fh16 H locs ls v16_2 hfu16 hI hH r_v16_2 hl
      exact (fu_0 hfu16 r_v16_2).elim
    | succ n ih16 =>
      intro fh16 H locs ls v16_2 hfu16 hI hH r_v16_2 hl
      have cut37 : ∀ (n : Nat) (fh37 : gF) (H : Heap) (locs : List Loc) (ls : Array Slot) (v37_2 : Int32), 80 - v37_2.toInt < (n : Int) → tS E L τ [40, 52, 53, 54, 55, 63] f fh37 → gH E A L fh37 s.heap H locs → rg v37_2 0 80 → lv_has ls 5 [(0, .ref q), (1, .int p1), (2, .int v37_2)] → W p l e (gRm (5) 0 0) s m [.ref q, .int p1].toArray below meth c H locs 0 0 (MQ below (gQv E A (tPv E L τ [40, 52, 53, 54, 55, 63] f (fun f1 => True))) [.ref q, .int p1].toArray s (gRm (5) 0 0).cells (gRm (5) 0 0).slots A) (F0 m 37 ls []) := by
        intro n
        induction n with
        | zero =>
          intro fh37 H locs ls v37_2 hfu37 hI hH r_v37_2 hl
          exact (fu_0 hfu37 r_v37_2).elim
        | succ n ih37 =>
          intro fh37 H locs ls v37_2 hfu37 hI hH r_v37_2 hl
          have cut63 : ∀ (n : Nat) (fh63 : gF) (H : Heap) (locs : List Loc) (ls : Array Slot) (v63_3 : Int32) (v63_4 : Int32), 60 - v63_4.toInt < (n : Int) → tS E L τ [40, 52, 53, 54, 55, 63] f fh63 → gH E A L fh63 s.heap H locs → rg v63_3 0 1 → rg v63_4 0 60 → rg v37_2 0 79 → (∃ j : Nat, v63_4.toInt = ((2 : Nat) : Int) * (j : Int) ∧ ∀ k : Nat, k < j → True) → lv_has ls 5 [(0, .ref q), (1, .int p1), (2, .int v37_2), (3, .int v63_3), (4, .int v63_4)] → W p l e (gRm (5) 0 0) s m [.ref q, .int p1].toArray below meth c H locs 0 0 (MQ below (gQv E A (tPv E L τ [40, 52, 53, 54, 55, 63] f (fun f1 => True))) [.ref q, .int p1].toArray s (gRm (5) 0 0).cells (gRm (5) 0 0).slots A) (F0 m 63 ls []) := by
            intro n
            induction n with
            | zero =>
              intro fh63 H locs ls v63_3 v63_4 hfu63 hI hH r_v63_3 r_v63_4 r63_v37_2 F63_cj hl
              exact (fu_0 hfu63 r_v63_4).elim
            | succ n ih63 =>
              intro fh63 H locs ls v63_3 v63_4 hfu63 hI hH r_v63_3 r_v63_4 r63_v37_2 F63_cj hl
              have cut166 : ∀ (n : Nat) (fh166 : gF) (H : Heap) (locs : List Loc) (ls : Array Slot) (v166_4 : Int32), 6 - v166_4.toInt < (n : Int) → tS E L τ [40, 52, 53, 54, 55, 63] f fh166 → gH E A L fh166 s.heap H locs → rg v166_4 0 6 → rg v63_3 1 1 → lv_has ls 5 [(0, .ref q), (1, .int p1), (2, .int v37_2), (3, .int v63_3), (4, .int v166_4)] → W p l e (gRm (5) 0 0) s m [.ref q, .int p1].toArray below meth c H locs 0 0 (MQ below (gQv E A (tPv E L τ [40, 52, 53, 54, 55, 63] f (fun f1 => True))) [.ref q, .int p1].toArray s (gRm (5) 0 0).cells (gRm (5) 0 0).slots A) (F0 m 166 ls []) := by
                intro n
                induction n with
                | zero =>
                  intro fh166 H locs ls v166_4 hfu166 hI hH r_v166_4 r166_v63_3 hl
                  exact (fu_0 hfu166 r_v166_4).elim
                | succ n ih166 =>
                  intro fh166 H locs ls v166_4 hfu166 hI hH r_v166_4 r166_v63_3 hl
                  refine lv_iload hx hb dX10_laysBegan_166 (lv_at hl 4 rfl) ?_
                  refine lv_aload_n hx hb dX10_laysBegan_168 rfl (lv_at hl 0 rfl) ?_
                  refine t_Vi C hO hl.1 hA hH hI.1 (As := []) (rest := [.int v166_4]) (t_X10_members l E J τ L fh166 hI.1 mq tq) my_X10_members wd756 mq tq td_40 rfl rfl rfl (Nat.le_of_ble_eq_true rfl) ⟨Nat.le_of_ble_eq_true rfl, Nat.le_of_ble_eq_true rfl⟩ ⟨rfl, rfl⟩ dX10_laysBegan_169 (fun r2 L1 f1 H locs hp hH => ?_)
                  obtain ⟨rfl, s3, h4⟩ := hp
                  have hJ := hI
                  have hI := hI.call s3 (by decide)
                  refine lv_icmp_ge (tgt := 205) hx hb dX10_laysBegan_172 (by decide) (fun c5 => ?_) (fun c5 => ?_)
                  · skip
                    obtain ⟨z6, ez6⟩ : ∃ y : Int32, y = v37_2 + (1 : Int32) := ⟨_, rfl⟩
                    have r7 : rg z6 1 80 := rg_add ez6 r63_v37_2 rl_1 (by decide)
                    have a8 : z6.toInt = v37_2.toInt + 1 := ai_add ez6 r63_v37_2 tl_1 (by decide)
                    refine lv_iinc (v := z6) (lv' := [(2, .int z6), (0, .ref q), (1, .int p1), (3, .int v63_3), (4, .int v166_4)]) hx hb dX10_laysBegan_205 hl (k := 2) rfl (by rw [ez6]; rfl) (by decide) rfl (fun ls hl => ?_)
                    refine lv_goto (tgt := 37) hx hb dX10_laysBegan_208 (by decide) ?_
                    exact ih37 _ _ _ _ z6 (fu_s hfu37 a8 (by decide)) hI hH (rg_w r7 (by decide)) (lv_sub hl [1, 2, 0] rfl)
                  · skip
                    have r9 : rg v166_4 0 5 := rf_ltl (n_le c5) r_v166_4 h4.1 (by decide)
                    have r10 : rg r2 1 6 := rf_ltr (n_le c5) r_v166_4 h4.1 (by decide)
                    refine lv_aload_n hx hb dX10_laysBegan_175 rfl (lv_at hl 0 rfl) ?_
                    refine t_getX C hH hI.1 mq tq td_40 iX10 rfl 38 (by decide) wd999 rfl (hI.rf kq_38) dX10_laysBegan_176 ?_
                    refine lv_iload hx hb dX10_laysBegan_179 (lv_at hl 4 rfl) ?_
                    refine lv_dup2_11 hx hb dX10_laysBegan_181 rfl rfl ?_
                    refine t_ald C hH hI.1 mq_38 tq_38 td_63 (rg_in r9 (by decide)) dX10_laysBegan_182 (fun z11v az11 _ => ?_)
                    refine lv_topi (fun z11 ez11 => ?_)
                    refine lv_aload_n hx hb dX10_laysBegan_183 rfl (lv_at hl 0 rfl) ?_
                    refine lv_iload hx hb dX10_laysBegan_184 (lv_at hl 4 rfl) ?_
                    refine t_Vi C hO hl.1 hA hH hI.1 (As := [.int v166_4]) (rest := [.int z11, .int v166_4, .ref q_38]) (t_X10_hasHeard l E J τ L f1 hI.1 mq tq v166_4 r9 (hh.S hI rfl) hW) my_X10_hasHeard wd1003 mq tq td_40 rfl rfl rfl (Nat.le_of_ble_eq_true rfl) ⟨Nat.le_of_ble_eq_true rfl, Nat.le_of_ble_eq_true rfl⟩ ⟨rfl, rfl⟩ dX10_laysBegan_186 (fun r13 L1 f12 H locs hp hH => ?_)
                    obtain ⟨rfl, s14, h15⟩ := hp
                    have hI := hI.call s14 (by decide)
                    refine lv_if_eq (tgt := 196) hx hb dX10_laysBegan_189 (by decide) (fun c16 => ?_) (fun c16 => ?_)
                    · skip
                      have r17 : rg r13 0 0 := rf_eql (c_eq c16) h15 rl_0 (by decide)
                      refine lv_iconst (v := (0 : Int32)) hx hb dX10_laysBegan_196 (by decide) ?_
                      refine lv_iadd hx hb dX10_laysBegan_197 ?_
                      refine lv_topi (fun z18 ez18 => ?_)
                      have r19 : rg z18 (-2147483648) 2147483647 := rg_add ez18 (rg_all _) rl_0 (by decide)
                      have a20 : z18.toInt = z11.toInt + 0 := ai_add ez18 (rg_all _) tl_0 (by decide)
                      refine t_ast C hH hI mq_38 tq_38 (by decide) td_63 (rg_in r9 (by decide)) (fun _ _ _ => trivial) dX10_laysBegan_198 (fun f21 H locs hH hI bf21 uf21 => ?_)
                      obtain ⟨z22, ez22⟩ : ∃ y : Int32, y = v166_4 + (1 : Int32) := ⟨_, rfl⟩
                      have r23 : rg z22 1 6 := rg_add ez22 r9 rl_1 (by decide)
                      have a24 : z22.toInt = v166_4.toInt + 1 := ai_add ez22 r9 tl_1 (by decide)
                      refine lv_iinc (v := z22) (lv' := [(4, .int z22), (0, .ref q), (1, .int p1), (2, .int v37_2), (3, .int v63_3)]) hx hb dX10_laysBegan_199 hl (k := 4) rfl (by rw [ez22]; rfl) (by decide) rfl (fun ls hl => ?_)
                      refine lv_goto (tgt := 166) hx hb dX10_laysBegan_202 (by decide) ?_
                      exact ih166 _ _ _ _ z22 (fu_s hfu166 a24 (by decide)) hI hH (rg_w r23 (by decide)) r166_v63_3 (lv_sub hl [1, 2, 3, 4, 0] rfl)
                    · skip
                      have r25 : rg r13 1 1 := rf_nel (n_eq c16) h15 rl_0 (by decide)
                      refine lv_iconst (v := (1 : Int32)) hx hb dX10_laysBegan_192 (by decide) ?_
                      refine lv_goto (tgt := 197) hx hb dX10_laysBegan_193 (by decide) ?_
                      refine lv_iadd hx hb dX10_laysBegan_197 ?_
                      refine lv_topi (fun z26 ez26 => ?_)
                      refine t_ast C hH hI mq_38 tq_38 (by decide) td_63 (rg_in r9 (by decide)) (fun _ _ _ => trivial) dX10_laysBegan_198 (fun f27 H locs hH hI bf27 uf27 => ?_)
                      obtain ⟨z28, ez28⟩ : ∃ y : Int32, y = v166_4 + (1 : Int32) := ⟨_, rfl⟩
                      have r29 : rg z28 1 6 := rg_add ez28 r9 rl_1 (by decide)
                      have a30 : z28.toInt = v166_4.toInt + 1 := ai_add ez28 r9 tl_1 (by decide)
                      refine lv_iinc (v := z28) (lv' := [(4, .int z28), (0, .ref q), (1, .int p1), (2, .int v37_2), (3, .int v63_3)]) hx hb dX10_laysBegan_199 hl (k := 4) rfl (by rw [ez28]; rfl) (by decide) rfl (fun ls hl => ?_)
                      refine lv_goto (tgt := 166) hx hb dX10_laysBegan_202 (by decide) ?_
                      exact ih166 _ _ _ _ z28 (fu_s hfu166 a30 (by decide)) hI hH (rg_w r29 (by decide)) r166_v63_3 (lv_sub hl [1, 2, 3, 4, 0] rfl)
              refine lv_iload hx hb dX10_laysBegan_63 (lv_at hl 4 rfl) ?_
              refine lv_aload_n hx hb dX10_laysBegan_65 rfl (lv_at hl 0 rfl) ?_
              refine t_getX C hH hI.1 mq tq td_40 iX10 rfl 2 (by decide) wd988 rfl (hI.rf kq_2) dX10_laysBegan_66 ?_
              refine lv_iload_n hx hb dX10_laysBegan_69 rfl (lv_at hl 1 rfl) ?_
              refine t_ald C hH hI.1 mq_2 tq_2 td_42 (rg_in rp1 (by decide)) dX10_laysBegan_70 (fun z31v az31 pz31 => ?_)
              refine lv_topi (fun z31 ez31 => ?_)
              have r32 : rg z31 0 60 := many_rg pz31 (rg_in rp1 (by decide)) ez31
              rw [arr_inj az31 ((hI.fr q_2 mq_2 (t_lim tq_2 rfl)).trans (hm0 q_2 mq_2 tq_2))] at ez31
              refine lv_icmp_ge (tgt := 132) hx hb dX10_laysBegan_71 (by decide) (fun c33 => ?_) (fun c33 => ?_)
              · skip
                refine lv_iload_n hx hb dX10_laysBegan_132 rfl (lv_at hl 3 rfl) ?_
                refine lv_if_ne (tgt := 139) hx hb dX10_laysBegan_133 (by decide) (fun c34 => ?_) (fun c34 => ?_)
                · skip
                  have r35 : rg v63_3 1 1 := rf_nel (n_eq c34) r_v63_3 rl_0 (by decide)
                  refine lv_aload_n hx hb dX10_laysBegan_139 rfl (lv_at hl 0 rfl) ?_
                  refine lv_dup hx hb dX10_laysBegan_140 rfl ?_
                  refine t_geti C hH hI.1 mq tq td_40 iX10 rfl 36 (by decide) wd1004 rfl rfl dX10_laysBegan_141 (fun z36 rz36 => ?_)
                  refine lv_iconst (v := (1 : Int32)) hx hb dX10_laysBegan_144 (by decide) ?_
                  refine lv_iadd hx hb dX10_laysBegan_145 ?_
                  refine lv_topi (fun z37 ez37 => ?_)
                  refine t_put C hH hI mq tq (by decide) td_40 iX10 tyX10 tyX10_ok nmX10 rfl 36 (by decide) wd1004 rfl rfl (v := .int z37) rfl rfl rfl ⟨_, rfl, (rg_all _)⟩ (fun _ h => nomatch h) dX10_laysBegan_146 (fun f38 H locs hH hI nf38 of38 bf38 => ?_)
                  refine lv_aload_n hx hb dX10_laysBegan_149 rfl (lv_at hl 0 rfl) ?_
                  refine lv_dup hx hb dX10_laysBegan_150 rfl ?_
                  refine t_geti C hH hI.1 mq tq td_40 iX10 rfl 37 (by decide) wd1005 rfl rfl dX10_laysBegan_151 (fun z39 rz39 => ?_)
                  refine lv_iconst (v := (1 : Int32)) hx hb dX10_laysBegan_154 (by decide) ?_
                  refine lv_iload_n hx hb dX10_laysBegan_155 rfl (lv_at hl 2 rfl) ?_
                  refine lv_iconst (v := (4 : Int32)) hx hb dX10_laysBegan_156 (by decide) ?_
                  refine lv_idiv hx hb dX10_laysBegan_157 (by decide) ?_
                  refine lv_topi (fun z40 ez40 => ?_)
                  have r41 : rg z40 0 19 := rg_div ez40 r63_v37_2 tl_4 (by decide)
                  refine lv_ishl hx hb dX10_laysBegan_158 ?_
                  refine lv_topi (fun z42 ez42 => ?_)
                  have r43 : rg z42 1 524288 := rg_shl 0 19 ez42 r41 (by decide)
                  refine lv_ior hx hb dX10_laysBegan_159 ?_
                  refine lv_topi (fun z44 ez44 => ?_)
                  refine t_put C hH hI mq tq (by decide) td_40 iX10 tyX10 tyX10_ok nmX10 rfl 37 (by decide) wd1005 rfl rfl (v := .int z44) rfl rfl rfl ⟨_, rfl, (rg_all _)⟩ (fun _ h => nomatch h) dX10_laysBegan_160 (fun f45 H locs hH hI nf45 of45 bf45 => ?_)
                  refine lv_iconst (v := (0 : Int32)) hx hb dX10_laysBegan_163 (by decide) ?_
                  refine lv_istore (lv' := [(4, .int (0 : Int32)), (0, .ref q), (1, .int p1), (2, .int v37_2), (3, .int v63_3)]) hx hb dX10_laysBegan_164 hl (by decide) rfl (fun ls hl => ?_)
                  exact cut166 7 _ _ _ _ (0 : Int32) (fu_i 7 rl_0 (by decide)) hI hH (rg_w rl_0 (by decide)) r35 (lv_sub hl [1, 2, 3, 4, 0] rfl)
                · skip
                  have r46 : rg v63_3 0 0 := rf_eql (c_eq c34) r_v63_3 rl_0 (by decide)
                  refine lv_goto (tgt := 205) hx hb dX10_laysBegan_136 (by decide) ?_
                  obtain ⟨z47, ez47⟩ : ∃ y : Int32, y = v37_2 + (1 : Int32) := ⟨_, rfl⟩
                  have r48 : rg z47 1 80 := rg_add ez47 r63_v37_2 rl_1 (by decide)
                  have a49 : z47.toInt = v37_2.toInt + 1 := ai_add ez47 r63_v37_2 tl_1 (by decide)
                  refine lv_iinc (v := z47) (lv' := [(2, .int z47), (0, .ref q), (1, .int p1), (3, .int v63_3), (4, .int v63_4)]) hx hb dX10_laysBegan_205 hl (k := 2) rfl (by rw [ez47]; rfl) (by decide) rfl (fun ls hl => ?_)
                  refine lv_goto (tgt := 37) hx hb dX10_laysBegan_208 (by decide) ?_
                  exact ih37 _ _ _ _ z47 (fu_s hfu37 a49 (by decide)) hI hH (rg_w r48 (by decide)) (lv_sub hl [1, 2, 0] rfl)
              · skip
                have r50 : rg v63_4 0 59 := rf_ltl (n_le c33) r_v63_4 r32 (by decide)
                have r51 : rg z31 1 60 := rf_ltr (n_le c33) r_v63_4 r32 (by decide)
                have r52 : rg v63_4 0 58 := cj_rg (a := 0) (b := 60) 2 (cj_1 F63_cj) hs.1 (n_le c33) ez31 (rg_w r51 (by decide)) (by decide) (by decide)
                have cv53 := cj_v hs F63_cj (n_le c33) ez31
                refine lv_iload_n hx hb dX10_laysBegan_74 rfl (lv_at hl 3 rfl) ?_
                refine lv_aload_n hx hb dX10_laysBegan_75 rfl (lv_at hl 0 rfl) ?_
                refine lv_aload_n hx hb dX10_laysBegan_76 rfl (lv_at hl 0 rfl) ?_
                refine t_getX C hH hI.1 mq tq td_40 iX10 rfl 3 (by decide) wd989 rfl (hI.rf kq_3) dX10_laysBegan_77 ?_
                refine lv_bipush (v := (60 : Int32)) hx hb dX10_laysBegan_80 (by decide) ?_
                refine lv_iload_n hx hb dX10_laysBegan_82 rfl (lv_at hl 1 rfl) ?_
                refine lv_imul hx hb dX10_laysBegan_83 ?_
                refine lv_topi (fun z54 ez54 => ?_)
                have r55 : rg z54 0 180 := rg_mul ez54 rl_60 rp1 (by decide)
                refine lv_iload hx hb dX10_laysBegan_84 (lv_at hl 4 rfl) ?_
                refine lv_iadd hx hb dX10_laysBegan_86 ?_
                refine lv_topi (fun z56 ez56 => ?_)
                have r57 : rg z56 0 238 := rg_add ez56 r55 r52 (by decide)
                have kx58 := cj_x rp1 (rg_w r52 (by decide)) ez54 ez56
                refine t_lald C hH hI.1 mq_3 tq_3 td_43 (rg_in r57 (by decide)) dX10_laysBegan_87 (fun z59v az59 => ?_)
                refine lv_topl (fun z59 ez59 => ?_)
                rw [arr_injJ az59 ((hI.fr q_3 mq_3 (t_lim tq_3 rfl)).trans (hc0 q_3 mq_3 tq_3))] at ez59
                refine lv_l2i (v := _) hx hb dX10_laysBegan_88 rfl ?_
                refine lv_topi (fun z60 ez60 => ?_)
                have r61 : rg z60 0 5 := cj_a cv53 rp1 kx58 ez59 ez60 (by decide)
                refine t_Vi C hO hl.1 hA hH hI.1 (As := [.int z60]) (rest := [.int v63_3]) (t_X10_hasHeard l E J τ L fh63 hI.1 mq tq z60 r61 (hh.S hI rfl) hW) my_X10_hasHeard wd1003 mq tq td_40 rfl rfl rfl (Nat.le_of_ble_eq_true rfl) ⟨Nat.le_of_ble_eq_true rfl, Nat.le_of_ble_eq_true rfl⟩ ⟨rfl, rfl⟩ dX10_laysBegan_89 (fun r63 L1 f62 H locs hp hH => ?_)
                obtain ⟨rfl, s64, h65⟩ := hp
                have hI := hI.call s64 (by decide)
                refine lv_aload_n hx hb dX10_laysBegan_92 rfl (lv_at hl 0 rfl) ?_
                refine t_getX C hH hI.1 mq tq td_40 iX10 rfl 3 (by decide) wd989 rfl (hI.rf kq_3) dX10_laysBegan_93 ?_
                refine lv_bipush (v := (60 : Int32)) hx hb dX10_laysBegan_96 (by decide) ?_
                refine lv_iload_n hx hb dX10_laysBegan_98 rfl (lv_at hl 1 rfl) ?_
                refine lv_imul hx hb dX10_laysBegan_99 ?_
                refine lv_topi (fun z66 ez66 => ?_)
                have r67 : rg z66 0 180 := rg_mul ez66 rl_60 rp1 (by decide)
                refine lv_iload hx hb dX10_laysBegan_100 (lv_at hl 4 rfl) ?_
                refine lv_iadd hx hb dX10_laysBegan_102 ?_
                refine lv_topi (fun z68 ez68 => ?_)
                have r69 : rg z68 0 238 := rg_add ez68 r67 r52 (by decide)
                have kx70 := cj_x rp1 (rg_w r52 (by decide)) ez66 ez68
                refine lv_iconst (v := (1 : Int32)) hx hb dX10_laysBegan_103 (by decide) ?_
                refine lv_iadd hx hb dX10_laysBegan_104 ?_
                refine lv_topi (fun z71 ez71 => ?_)
                have r72 : rg z71 1 239 := rg_add ez71 r69 rl_1 (by decide)
                have a73 : z71.toInt = z68.toInt + 1 := ai_add ez71 r69 tl_1 (by decide)
                have kx74 : z71.toInt = 60 * p1.toInt + v63_4.toInt + 1 := by rw [a73, kx70]
                refine t_lald C hH hI.1 mq_3 tq_3 td_43 (rg_in r72 (by decide)) dX10_laysBegan_105 (fun z75v az75 => ?_)
                refine lv_topl (fun z75 ez75 => ?_)
                rw [arr_injJ az75 ((hI.fr q_3 mq_3 (t_lim tq_3 rfl)).trans (hc0 q_3 mq_3 tq_3))] at ez75
                refine lv_lconst (v := (1 : Int64)) hx hb dX10_laysBegan_106 (by decide) ?_
                refine W.lcmp hx hb dX10_laysBegan_107 ?_
                refine lv_topi (fun z76 ez76 => ?_)
                refine lv_if_ne (tgt := 115) hx hb dX10_laysBegan_108 (by decide) (fun c77 => ?_) (fun c77 => ?_)
                · skip
                  refine lv_iconst (v := (0 : Int32)) hx hb dX10_laysBegan_115 (by decide) ?_
                  refine lv_icmp_ne (tgt := 123) hx hb dX10_laysBegan_116 (by decide) (fun c78 => ?_) (fun c78 => ?_)
                  · skip
                    have r79 : rg r63 1 1 := rf_nel (n_eq c78) h65 rl_0 (by decide)
                    refine lv_iconst (v := (0 : Int32)) hx hb dX10_laysBegan_123 (by decide) ?_
                    refine lv_iand hx hb dX10_laysBegan_124 ?_
                    refine lv_topi (fun z80 ez80 => ?_)
                    have r81 : rg z80 0 0 := rg_andr ez80 rl_0 (by decide)
                    refine lv_istore_n (lv' := [(3, .int z80), (0, .ref q), (1, .int p1), (2, .int v37_2), (4, .int v63_4)]) hx hb dX10_laysBegan_125 rfl hl (by decide) rfl (fun ls hl => ?_)
                    obtain ⟨z82, ez82⟩ : ∃ y : Int32, y = v63_4 + (2 : Int32) := ⟨_, rfl⟩
                    have r83 : rg z82 2 60 := rg_add ez82 r52 rl_2 (by decide)
                    have a84 : z82.toInt = v63_4.toInt + 2 := ai_add ez82 r52 tl_2 (by decide)
                    refine lv_iinc (v := z82) (lv' := [(4, .int z82), (3, .int z80), (0, .ref q), (1, .int p1), (2, .int v37_2)]) hx hb dX10_laysBegan_126 hl (k := 4) rfl (by rw [ez82]; rfl) (by decide) rfl (fun ls hl => ?_)
                    refine lv_goto (tgt := 63) hx hb dX10_laysBegan_129 (by decide) ?_
                    exact ih63 _ _ _ _ z80 z82 (fu_s hfu63 a84 (by decide)) hI hH (rg_w r81 (by decide)) (rg_w r83 (by decide)) r63_v37_2 (cj_2 F63_cj a84) (lv_sub hl [2, 3, 4, 1, 0] rfl)
                  · skip
                    have r85 : rg r63 0 0 := rf_eql (c_eq c78) h65 rl_0 (by decide)
                    refine lv_iconst (v := (1 : Int32)) hx hb dX10_laysBegan_119 (by decide) ?_
                    refine lv_goto (tgt := 124) hx hb dX10_laysBegan_120 (by decide) ?_
                    refine lv_iand hx hb dX10_laysBegan_124 ?_
                    refine lv_topi (fun z86 ez86 => ?_)
                    have r87 : rg z86 0 1 := rg_andr ez86 rl_1 (by decide)
                    refine lv_istore_n (lv' := [(3, .int z86), (0, .ref q), (1, .int p1), (2, .int v37_2), (4, .int v63_4)]) hx hb dX10_laysBegan_125 rfl hl (by decide) rfl (fun ls hl => ?_)
                    obtain ⟨z88, ez88⟩ : ∃ y : Int32, y = v63_4 + (2 : Int32) := ⟨_, rfl⟩
                    have r89 : rg z88 2 60 := rg_add ez88 r52 rl_2 (by decide)
                    have a90 : z88.toInt = v63_4.toInt + 2 := ai_add ez88 r52 tl_2 (by decide)
                    refine lv_iinc (v := z88) (lv' := [(4, .int z88), (3, .int z86), (0, .ref q), (1, .int p1), (2, .int v37_2)]) hx hb dX10_laysBegan_126 hl (k := 4) rfl (by rw [ez88]; rfl) (by decide) rfl (fun ls hl => ?_)
                    refine lv_goto (tgt := 63) hx hb dX10_laysBegan_129 (by decide) ?_
                    exact ih63 _ _ _ _ z86 z88 (fu_s hfu63 a90 (by decide)) hI hH r87 (rg_w r89 (by decide)) r63_v37_2 (cj_2 F63_cj a90) (lv_sub hl [2, 3, 4, 1, 0] rfl)
                · skip
                  have r91 : rg z76 0 0 := rf_eql (c_eq c77) (rg_all _) rl_0 (by decide)
                  refine lv_iconst (v := (1 : Int32)) hx hb dX10_laysBegan_111 (by decide) ?_
                  refine lv_goto (tgt := 116) hx hb dX10_laysBegan_112 (by decide) ?_
                  refine lv_icmp_ne (tgt := 123) hx hb dX10_laysBegan_116 (by decide) (fun c92 => ?_) (fun c92 => ?_)
                  · skip
                    have r93 : rg r63 0 0 := rf_nel (n_eq c92) h65 rl_1 (by decide)
                    refine lv_iconst (v := (0 : Int32)) hx hb dX10_laysBegan_123 (by decide) ?_
                    refine lv_iand hx hb dX10_laysBegan_124 ?_
                    refine lv_topi (fun z94 ez94 => ?_)
                    have r95 : rg z94 0 0 := rg_andr ez94 rl_0 (by decide)
                    refine lv_istore_n (lv' := [(3, .int z94), (0, .ref q), (1, .int p1), (2, .int v37_2), (4, .int v63_4)]) hx hb dX10_laysBegan_125 rfl hl (by decide) rfl (fun ls hl => ?_)
                    obtain ⟨z96, ez96⟩ : ∃ y : Int32, y = v63_4 + (2 : Int32) := ⟨_, rfl⟩
                    have r97 : rg z96 2 60 := rg_add ez96 r52 rl_2 (by decide)
                    have a98 : z96.toInt = v63_4.toInt + 2 := ai_add ez96 r52 tl_2 (by decide)
                    refine lv_iinc (v := z96) (lv' := [(4, .int z96), (3, .int z94), (0, .ref q), (1, .int p1), (2, .int v37_2)]) hx hb dX10_laysBegan_126 hl (k := 4) rfl (by rw [ez96]; rfl) (by decide) rfl (fun ls hl => ?_)
                    refine lv_goto (tgt := 63) hx hb dX10_laysBegan_129 (by decide) ?_
                    exact ih63 _ _ _ _ z94 z96 (fu_s hfu63 a98 (by decide)) hI hH (rg_w r95 (by decide)) (rg_w r97 (by decide)) r63_v37_2 (cj_2 F63_cj a98) (lv_sub hl [2, 3, 4, 1, 0] rfl)
                  · skip
                    have r99 : rg r63 1 1 := rf_eql (c_eq c92) h65 rl_1 (by decide)
                    refine lv_iconst (v := (1 : Int32)) hx hb dX10_laysBegan_119 (by decide) ?_
                    refine lv_goto (tgt := 124) hx hb dX10_laysBegan_120 (by decide) ?_
                    refine lv_iand hx hb dX10_laysBegan_124 ?_
                    refine lv_topi (fun z100 ez100 => ?_)
                    have r101 : rg z100 0 1 := rg_andr ez100 rl_1 (by decide)
                    refine lv_istore_n (lv' := [(3, .int z100), (0, .ref q), (1, .int p1), (2, .int v37_2), (4, .int v63_4)]) hx hb dX10_laysBegan_125 rfl hl (by decide) rfl (fun ls hl => ?_)
                    obtain ⟨z102, ez102⟩ : ∃ y : Int32, y = v63_4 + (2 : Int32) := ⟨_, rfl⟩
                    have r103 : rg z102 2 60 := rg_add ez102 r52 rl_2 (by decide)
                    have a104 : z102.toInt = v63_4.toInt + 2 := ai_add ez102 r52 tl_2 (by decide)
                    refine lv_iinc (v := z102) (lv' := [(4, .int z102), (3, .int z100), (0, .ref q), (1, .int p1), (2, .int v37_2)]) hx hb dX10_laysBegan_126 hl (k := 4) rfl (by rw [ez102]; rfl) (by decide) rfl (fun ls hl => ?_)
                    refine lv_goto (tgt := 63) hx hb dX10_laysBegan_129 (by decide) ?_
                    exact ih63 _ _ _ _ z100 z102 (fu_s hfu63 a104 (by decide)) hI hH r101 (rg_w r103 (by decide)) r63_v37_2 (cj_2 F63_cj a104) (lv_sub hl [2, 3, 4, 1, 0] rfl)
          refine lv_iload_n hx hb dX10_laysBegan_37 rfl (lv_at hl 2 rfl) ?_
          refine lv_iconst (v := (4 : Int32)) hx hb dX10_laysBegan_38 (by decide) ?_
          refine lv_aload_n hx hb dX10_laysBegan_39 rfl (lv_at hl 0 rfl) ?_
          refine t_Vi C hO hl.1 hA hH hI.1 (As := []) (rest := [.int (4 : Int32), .int v37_2]) (t_X10_cellsAll l E J τ L fh37 hI.1 mq tq) my_X10_cellsAll wd760 mq tq td_40 rfl rfl rfl (Nat.le_of_ble_eq_true rfl) ⟨Nat.le_of_ble_eq_true rfl, Nat.le_of_ble_eq_true rfl⟩ ⟨rfl, rfl⟩ dX10_laysBegan_40 (fun r106 L1 f105 H locs hp hH => ?_)
          obtain ⟨rfl, s107, h108⟩ := hp
          have hJ := hI
          have hI := hI.call s107 (by decide)
          refine lv_imul hx hb dX10_laysBegan_43 ?_
          refine lv_topi (fun z109 ez109 => ?_)
          have r110 : rg z109 0 80 := rg_mul ez109 rl_4 h108.1 (by decide)
          refine lv_icmp_ge (tgt := 211) hx hb dX10_laysBegan_44 (by decide) (fun c111 => ?_) (fun c111 => ?_)
          · skip
            exact g_vret C hr hH (Nat.zero_le _) (Nat.zero_le _) dX10_laysBegan_211 ⟨rfl, hI, trivial⟩
          · skip
            have r112 : rg v37_2 0 79 := rf_ltl (n_le c111) r_v37_2 r110 (by decide)
            have r113 : rg z109 1 80 := rf_ltr (n_le c111) r_v37_2 r110 (by decide)
            refine lv_aload_n hx hb dX10_laysBegan_47 rfl (lv_at hl 0 rfl) ?_
            refine lv_iconst (v := (4 : Int32)) hx hb dX10_laysBegan_48 (by decide) ?_
            refine lv_iload_n hx hb dX10_laysBegan_49 rfl (lv_at hl 2 rfl) ?_
            refine lv_iconst (v := (4 : Int32)) hx hb dX10_laysBegan_50 (by decide) ?_
            refine lv_idiv hx hb dX10_laysBegan_51 (by decide) ?_
            refine lv_topi (fun z114 ez114 => ?_)
            have r115 : rg z114 0 19 := rg_div ez114 r112 tl_4 (by decide)
            refine lv_iload_n hx hb dX10_laysBegan_52 rfl (lv_at hl 2 rfl) ?_
            refine lv_iconst (v := (4 : Int32)) hx hb dX10_laysBegan_53 (by decide) ?_
            refine lv_irem hx hb dX10_laysBegan_54 (by decide) ?_
            refine lv_topi (fun z116 ez116 => ?_)
            have r117 : rg z116 0 3 := rg_rem ez116 r112 tl_4 (by decide)
            refine t_Vv C hO hl.1 hA hH hI.1 (As := [.int (4 : Int32), .int z114, .int z116]) (rest := []) (t_X10_flies l E J τ L f105 hI.1 mq tq (4 : Int32) (rg_w rl_4 (by decide)) z114 z116 (hh.S hI rfl) hW) my_X10_flies wd809 mq tq td_40 rfl rfl rfl (Nat.le_of_ble_eq_true rfl) ⟨Nat.le_of_ble_eq_true rfl, Nat.le_of_ble_eq_true rfl⟩ ⟨rfl, rfl⟩ dX10_laysBegan_55 (fun L1 f118 H locs hp hH => ?_)
            obtain ⟨rfl, s120, h121⟩ := hp
            have hI := hI.call s120 (by decide)
            refine lv_iconst (v := (1 : Int32)) hx hb dX10_laysBegan_58 (by decide) ?_
            refine lv_istore_n (lv' := [(3, .int (1 : Int32)), (0, .ref q), (1, .int p1), (2, .int v37_2)]) hx hb dX10_laysBegan_59 rfl hl (by decide) rfl (fun ls hl => ?_)
            refine lv_iconst (v := (0 : Int32)) hx hb dX10_laysBegan_60 (by decide) ?_
            refine lv_istore (lv' := [(4, .int (0 : Int32)), (3, .int (1 : Int32)), (0, .ref q), (1, .int p1), (2, .int v37_2)]) hx hb dX10_laysBegan_61 hl (by decide) rfl (fun ls hl => ?_)
            exact cut63 61 _ _ _ _ (1 : Int32) (0 : Int32) (fu_i 61 rl_0 (by decide)) hI hH (rg_w rl_1 (by decide)) (rg_w rl_0 (by decide)) r112 (cj_0 2) (lv_sub hl [2, 3, 4, 1, 0] rfl)
      refine lv_iload_n hx hb dX10_laysBegan_16 rfl (lv_at hl 2 rfl) ?_
      refine lv_bipush (v := (6 : Int32)) hx hb dX10_laysBegan_17 (by decide) ?_
      refine lv_icmp_ge (tgt := 35) hx hb dX10_laysBegan_19 (by decide) (fun c122 => ?_) (fun c122 => ?_)
      · skip
        have r123 : rg v16_2 6 6 := rf_ler (c_le c122) rl_6 r_v16_2 (by decide)
        refine lv_iconst (v := (0 : Int32)) hx hb dX10_laysBegan_35 (by decide) ?_
        refine lv_istore_n (lv' := [(2, .int (0 : Int32)), (0, .ref q), (1, .int p1)]) hx hb dX10_laysBegan_36 rfl hl (by decide) rfl (fun ls hl => ?_)
        exact cut37 81 _ _ _ _ (0 : Int32) (fu_i 81 rl_0 (by decide)) hI hH (rg_w rl_0 (by decide)) (lv_sub hl [1, 2, 0] rfl)
      · skip
        have r124 : rg v16_2 0 5 := rf_ltl (n_le c122) r_v16_2 rl_6 (by decide)
        refine lv_aload_n hx hb dX10_laysBegan_22 rfl (lv_at hl 0 rfl) ?_
        refine t_getX C hH hI.1 mq tq td_40 iX10 rfl 38 (by decide) wd999 rfl (hI.rf kq_38) dX10_laysBegan_23 ?_
        refine lv_iload_n hx hb dX10_laysBegan_26 rfl (lv_at hl 2 rfl) ?_
        refine lv_iconst (v := (0 : Int32)) hx hb dX10_laysBegan_27 (by decide) ?_
        refine t_ast C hH hI mq_38 tq_38 (by decide) td_63 (rg_in r124 (by decide)) (fun _ _ _ => trivial) dX10_laysBegan_28 (fun f125 H locs hH hI bf125 uf125 => ?_)
        obtain ⟨z126, ez126⟩ : ∃ y : Int32, y = v16_2 + (1 : Int32) := ⟨_, rfl⟩
        have r127 : rg z126 1 6 := rg_add ez126 r124 rl_1 (by decide)
        have a128 : z126.toInt = v16_2.toInt + 1 := ai_add ez126 r124 tl_1 (by decide)
        refine lv_iinc (v := z126) (lv' := [(2, .int z126), (0, .ref q), (1, .int p1)]) hx hb dX10_laysBegan_29 hl (k := 2) rfl (by rw [ez126]; rfl) (by decide) rfl (fun ls hl => ?_)
        refine lv_goto (tgt := 16) hx hb dX10_laysBegan_32 (by decide) ?_
        exact ih16 _ _ _ _ z126 (fu_s hfu16 a128 (by decide)) hI hH (rg_w r127 (by decide)) (lv_sub hl [1, 2, 0] rfl)
  refine lv_aload_n hx hb dX10_laysBegan_0 rfl (lv_at hl 0 rfl) ?_
  refine t_Vv C hO hl.1 hA hH hI.1 (As := []) (rest := []) (t_X10_lays l E J τ L f hI.1 mq tq) my_X10_lays wd813 mq tq td_40 rfl rfl rfl (Nat.le_of_ble_eq_true rfl) ⟨Nat.le_of_ble_eq_true rfl, Nat.le_of_ble_eq_true rfl⟩ ⟨rfl, rfl⟩ dX10_laysBegan_1 (fun L1 f129 H locs hp hH => ?_)
  obtain ⟨rfl, s131, h132⟩ := hp
  have hI := hI.call s131 (by decide)
  refine lv_aload_n hx hb dX10_laysBegan_4 rfl (lv_at hl 0 rfl) ?_
  refine lv_iconst (v := (0 : Int32)) hx hb dX10_laysBegan_5 (by decide) ?_
  refine t_put C hH hI mq tq (by decide) td_40 iX10 tyX10 tyX10_ok nmX10 rfl 36 (by decide) wd1004 rfl rfl (v := .int (0 : Int32)) rfl rfl rfl ⟨_, rfl, (rg_w rl_0 (by decide))⟩ (fun _ h => nomatch h) dX10_laysBegan_6 (fun f133 H locs hH hI nf133 of133 bf133 => ?_)
  refine lv_aload_n hx hb dX10_laysBegan_9 rfl (lv_at hl 0 rfl) ?_
  refine lv_iconst (v := (0 : Int32)) hx hb dX10_laysBegan_10 (by decide) ?_
  refine t_put C hH hI mq tq (by decide) td_40 iX10 tyX10 tyX10_ok nmX10 rfl 37 (by decide) wd1005 rfl rfl (v := .int (0 : Int32)) rfl rfl rfl ⟨_, rfl, (rg_w rl_0 (by decide))⟩ (fun _ h => nomatch h) dX10_laysBegan_11 (fun f134 H locs hH hI nf134 of134 bf134 => ?_)
  refine lv_iconst (v := (0 : Int32)) hx hb dX10_laysBegan_14 (by decide) ?_
  refine lv_istore_n (lv' := [(2, .int (0 : Int32)), (0, .ref q), (1, .int p1)]) hx hb dX10_laysBegan_15 rfl hl (by decide) rfl (fun ls hl => ?_)
  exact cut16 7 _ _ _ _ (0 : Int32) (fu_i 7 rl_0 (by decide)) hI hH (rg_w rl_0 (by decide)) (lv_sub hl [1, 2, 0] rfl)
set_option maxHeartbeats 4000000 in
set_option maxRecDepth 100000 in
theorem t_X10_laysWho (l : Launch) (E : gE) (J : Nat → Nat) (τ : Nat → Nat) (L : List Nat) (f : gF) (hI : tI E L τ f) {q : Nat} (mq : q ∈ L) (tq : τ q = 40) (p1 : Int32) (rp1 : rg p1 0 3) {vh : Nat → Int32} (hh : isA E L τ f 47 45 vh) (hW : 1 ≤ (vh 0).toInt) {vm : Nat → Int32} {vc : Nat → Int64} (hm0 : isA E L τ f 42 4 vm) (hc0 : isJ E L τ f 43 240 vc) (hs : rowsOK 2 5 1 vm vc p1) : tMv l E J yX10_laysWho cX10_laysWho 4 (gRm (6) 0 0) [.ref q, .int p1] L f (tPv E L τ [40, 52, 53, 54, 55, 63] f (fun f1 => True)) := by
  refine tMv.intro (by decide) (Nat.le_of_ble_eq_true rfl) ?_
  intro p e s m below meth c A ls C hr hA hO hH hl
  have C : gC E cX10_laysWho 4 RX10 p s m _ meth c := C
  have hl : lv_has ls 4 [(0, .ref q), (1, .int p1)] := hl
  have hx := C.1
  have hb := C.2.1
  have hI := hI.S [40, 52, 53, 54, 55, 63]
  obtain ⟨q_38, mq_38, tq_38, kq_38⟩ := t_fldr hI.1 mq tq td_40 (k := 38) rfl
  have cut20 : ∀ (n : Nat) (fh20 : gF) (H : Heap) (locs : List Loc) (ls : Array Slot) (v20_2 : Int32), 6 - v20_2.toInt < (n : Int) → tS E L τ [40, 52, 53, 54, 55, 63] f fh20 → gH E A L fh20 s.heap H locs → rg v20_2 0 6 → lv_has ls 4 [(0, .ref q), (1, .int p1), (2, .int v20_2)] → W p l e (gRm (6) 0 0) s m [.ref q, .int p1].toArray below meth c H locs 0 0 (MQ below (gQv E A (tPv E L τ [40, 52, 53, 54, 55, 63] f (fun f1 => True))) [.ref q, .int p1].toArray s (gRm (6) 0 0).cells (gRm (6) 0 0).slots A) (F0 m 20 ls []) := by
    intro n
    induction n with
    | zero =>
      intro fh20 H locs ls v20_2 hfu20 hI hH r_v20_2 hl
      exact (fu_0 hfu20 r_v20_2).elim
    | succ n ih20 =>
      intro fh20 H locs ls v20_2 hfu20 hI hH r_v20_2 hl
      refine lv_iload_n hx hb dX10_laysWho_20 rfl (lv_at hl 2 rfl) ?_
      refine lv_aload_n hx hb dX10_laysWho_21 rfl (lv_at hl 0 rfl) ?_
      refine t_Vi C hO hl.1 hA hH hI.1 (As := []) (rest := [.int v20_2]) (t_X10_members l E J τ L fh20 hI.1 mq tq) my_X10_members wd756 mq tq td_40 rfl rfl rfl (Nat.le_of_ble_eq_true rfl) ⟨Nat.le_of_ble_eq_true rfl, Nat.le_of_ble_eq_true rfl⟩ ⟨rfl, rfl⟩ dX10_laysWho_22 (fun r2 L1 f1 H locs hp hH => ?_)
      obtain ⟨rfl, s3, h4⟩ := hp
      have hJ := hI
      have hI := hI.call s3 (by decide)
      refine lv_icmp_ge (tgt := 96) hx hb dX10_laysWho_25 (by decide) (fun c5 => ?_) (fun c5 => ?_)
      · skip
        exact g_vret C hr hH (Nat.zero_le _) (Nat.zero_le _) dX10_laysWho_96 ⟨rfl, hI, trivial⟩
      · skip
        have r6 : rg v20_2 0 5 := rf_ltl (n_le c5) r_v20_2 h4.1 (by decide)
        have r7 : rg r2 1 6 := rf_ltr (n_le c5) r_v20_2 h4.1 (by decide)
        refine lv_aload_n hx hb dX10_laysWho_28 rfl (lv_at hl 0 rfl) ?_
        refine t_getX C hH hI.1 mq tq td_40 iX10 rfl 38 (by decide) wd999 rfl (hI.rf kq_38) dX10_laysWho_29 ?_
        refine lv_iload_n hx hb dX10_laysWho_32 rfl (lv_at hl 2 rfl) ?_
        refine t_ald C hH hI.1 mq_38 tq_38 td_63 (rg_in r6 (by decide)) dX10_laysWho_33 (fun z8v az8 _ => ?_)
        refine lv_topi (fun z8 ez8 => ?_)
        refine lv_aload_n hx hb dX10_laysWho_34 rfl (lv_at hl 0 rfl) ?_
        refine t_geti C hH hI.1 mq tq td_40 iX10 rfl 36 (by decide) wd1004 rfl rfl dX10_laysWho_35 (fun z9 rz9 => ?_)
        refine lv_aload_n hx hb dX10_laysWho_38 rfl (lv_at hl 0 rfl) ?_
        refine t_getX C hH hI.1 mq tq td_40 iX10 rfl 38 (by decide) wd999 rfl (hI.rf kq_38) dX10_laysWho_39 ?_
        refine lv_iload_n hx hb dX10_laysWho_42 rfl (lv_at hl 2 rfl) ?_
        refine t_ald C hH hI.1 mq_38 tq_38 td_63 (rg_in r6 (by decide)) dX10_laysWho_43 (fun z10v az10 _ => ?_)
        refine lv_topi (fun z10 ez10 => ?_)
        refine lv_isub hx hb dX10_laysWho_44 ?_
        refine lv_topi (fun z11 ez11 => ?_)
        refine lv_icmp_le (tgt := 57) hx hb dX10_laysWho_45 (by decide) (fun c12 => ?_) (fun c12 => ?_)
        · skip
          refine lv_aload_n hx hb dX10_laysWho_57 rfl (lv_at hl 0 rfl) ?_
          refine t_geti C hH hI.1 mq tq td_40 iX10 rfl 36 (by decide) wd1004 rfl rfl dX10_laysWho_58 (fun z13 rz13 => ?_)
          refine lv_aload_n hx hb dX10_laysWho_61 rfl (lv_at hl 0 rfl) ?_
          refine t_getX C hH hI.1 mq tq td_40 iX10 rfl 38 (by decide) wd999 rfl (hI.rf kq_38) dX10_laysWho_62 ?_
          refine lv_iload_n hx hb dX10_laysWho_65 rfl (lv_at hl 2 rfl) ?_
          refine t_ald C hH hI.1 mq_38 tq_38 td_63 (rg_in r6 (by decide)) dX10_laysWho_66 (fun z14v az14 _ => ?_)
          refine lv_topi (fun z14 ez14 => ?_)
          refine lv_isub hx hb dX10_laysWho_67 ?_
          refine lv_topi (fun z15 ez15 => ?_)
          refine lv_istore_n (lv' := [(3, .int z15), (0, .ref q), (1, .int p1), (2, .int v20_2)]) hx hb dX10_laysWho_68 rfl hl (by decide) rfl (fun ls hl => ?_)
          refine lv_iload_n hx hb dX10_laysWho_69 rfl (lv_at hl 0 rfl) ?_
          refine lv_aload_n hx hb dX10_laysWho_70 rfl (lv_at hl 1 rfl) ?_
          refine t_geti C hH hI.1 mq tq td_40 iX10 rfl 40 (by decide) wd1006 rfl rfl dX10_laysWho_71 (fun z16 rz16 => ?_)
          refine lv_icmp_lt (tgt := 80) hx hb dX10_laysWho_74 (by decide) (fun c17 => ?_) (fun c17 => ?_)
          · skip
            have r18 : rg z15 (-2147483648) 2147483646 := rf_ltl (c_lt c17) (rg_all _) rz16 (by decide)
            have r19 : rg z16 (-2147483647) 2147483647 := rf_ltr (c_lt c17) (rg_all _) rz16 (by decide)
            refine lv_aload_n hx hb dX10_laysWho_80 rfl (lv_at hl 1 rfl) ?_
            refine lv_iload_n hx hb dX10_laysWho_81 rfl (lv_at hl 3 rfl) ?_
            refine t_put C hH hI mq tq (by decide) td_40 iX10 tyX10 tyX10_ok nmX10 rfl 39 (by decide) wd1007 rfl rfl (v := .int v20_2) rfl rfl rfl ⟨_, rfl, (rg_w r6 (by decide))⟩ (fun _ h => nomatch h) dX10_laysWho_82 (fun f20 H locs hH hI nf20 of20 bf20 => ?_)
            refine lv_aload_n hx hb dX10_laysWho_85 rfl (lv_at hl 1 rfl) ?_
            refine lv_iload_n hx hb dX10_laysWho_86 rfl (lv_at hl 0 rfl) ?_
            refine t_put C hH hI mq tq (by decide) td_40 iX10 tyX10 tyX10_ok nmX10 rfl 40 (by decide) wd1006 rfl rfl (v := .int z15) rfl rfl rfl ⟨_, rfl, (rg_w r18 (by decide))⟩ (fun _ h => nomatch h) dX10_laysWho_87 (fun f21 H locs hH hI nf21 of21 bf21 => ?_)
            obtain ⟨z22, ez22⟩ : ∃ y : Int32, y = v20_2 + (1 : Int32) := ⟨_, rfl⟩
            have r23 : rg z22 1 6 := rg_add ez22 r6 rl_1 (by decide)
            have a24 : z22.toInt = v20_2.toInt + 1 := ai_add ez22 r6 tl_1 (by decide)
            refine lv_iinc (v := z22) (lv' := [(2, .int z22), (3, .int z15), (0, .ref q), (1, .int p1)]) hx hb dX10_laysWho_90 hl (k := 3) rfl (by rw [ez22]; rfl) (by decide) rfl (fun ls hl => ?_)
            refine lv_goto (tgt := 20) hx hb dX10_laysWho_93 (by decide) ?_
            exact ih20 _ _ _ _ z22 (fu_s hfu20 a24 (by decide)) hI hH (rg_w r23 (by decide)) (lv_sub hl [2, 3, 0] rfl)
          · skip
            refine lv_goto (tgt := 90) hx hb dX10_laysWho_77 (by decide) ?_
            obtain ⟨z25, ez25⟩ : ∃ y : Int32, y = v20_2 + (1 : Int32) := ⟨_, rfl⟩
            have r26 : rg z25 1 6 := rg_add ez25 r6 rl_1 (by decide)
            have a27 : z25.toInt = v20_2.toInt + 1 := ai_add ez25 r6 tl_1 (by decide)
            refine lv_iinc (v := z25) (lv' := [(2, .int z25), (3, .int z15), (0, .ref q), (1, .int p1)]) hx hb dX10_laysWho_90 hl (k := 3) rfl (by rw [ez25]; rfl) (by decide) rfl (fun ls hl => ?_)
            refine lv_goto (tgt := 20) hx hb dX10_laysWho_93 (by decide) ?_
            exact ih20 _ _ _ _ z25 (fu_s hfu20 a27 (by decide)) hI hH (rg_w r26 (by decide)) (lv_sub hl [2, 3, 0] rfl)
        · skip
          have r28 : rg z11 (-2147483648) 2147483646 := rf_ltl (n_le c12) (rg_all _) (rg_all _) (by decide)
          have r29 : rg z8 (-2147483647) 2147483647 := rf_ltr (n_le c12) (rg_all _) (rg_all _) (by decide)
          refine lv_aload_n hx hb dX10_laysWho_48 rfl (lv_at hl 0 rfl) ?_
          refine t_getX C hH hI.1 mq tq td_40 iX10 rfl 38 (by decide) wd999 rfl (hI.rf kq_38) dX10_laysWho_49 ?_
          refine lv_iload_n hx hb dX10_laysWho_52 rfl (lv_at hl 2 rfl) ?_
          refine t_ald C hH hI.1 mq_38 tq_38 td_63 (rg_in r6 (by decide)) dX10_laysWho_53 (fun z30v az30 _ => ?_)
          refine lv_topi (fun z30 ez30 => ?_)
          refine lv_goto (tgt := 68) hx hb dX10_laysWho_54 (by decide) ?_
          refine lv_istore_n (lv' := [(3, .int z30), (0, .ref q), (1, .int p1), (2, .int v20_2)]) hx hb dX10_laysWho_68 rfl hl (by decide) rfl (fun ls hl => ?_)
          refine lv_iload_n hx hb dX10_laysWho_69 rfl (lv_at hl 0 rfl) ?_
          refine lv_aload_n hx hb dX10_laysWho_70 rfl (lv_at hl 1 rfl) ?_
          refine t_geti C hH hI.1 mq tq td_40 iX10 rfl 40 (by decide) wd1006 rfl rfl dX10_laysWho_71 (fun z31 rz31 => ?_)
          refine lv_icmp_lt (tgt := 80) hx hb dX10_laysWho_74 (by decide) (fun c32 => ?_) (fun c32 => ?_)
          · skip
            have r33 : rg z30 (-2147483648) 2147483646 := rf_ltl (c_lt c32) (rg_all _) rz31 (by decide)
            have r34 : rg z31 (-2147483647) 2147483647 := rf_ltr (c_lt c32) (rg_all _) rz31 (by decide)
            refine lv_aload_n hx hb dX10_laysWho_80 rfl (lv_at hl 1 rfl) ?_
            refine lv_iload_n hx hb dX10_laysWho_81 rfl (lv_at hl 3 rfl) ?_
            refine t_put C hH hI mq tq (by decide) td_40 iX10 tyX10 tyX10_ok nmX10 rfl 39 (by decide) wd1007 rfl rfl (v := .int v20_2) rfl rfl rfl ⟨_, rfl, (rg_w r6 (by decide))⟩ (fun _ h => nomatch h) dX10_laysWho_82 (fun f35 H locs hH hI nf35 of35 bf35 => ?_)
            refine lv_aload_n hx hb dX10_laysWho_85 rfl (lv_at hl 1 rfl) ?_
            refine lv_iload_n hx hb dX10_laysWho_86 rfl (lv_at hl 0 rfl) ?_
            refine t_put C hH hI mq tq (by decide) td_40 iX10 tyX10 tyX10_ok nmX10 rfl 40 (by decide) wd1006 rfl rfl (v := .int z30) rfl rfl rfl ⟨_, rfl, (rg_w r33 (by decide))⟩ (fun _ h => nomatch h) dX10_laysWho_87 (fun f36 H locs hH hI nf36 of36 bf36 => ?_)
            obtain ⟨z37, ez37⟩ : ∃ y : Int32, y = v20_2 + (1 : Int32) := ⟨_, rfl⟩
            have r38 : rg z37 1 6 := rg_add ez37 r6 rl_1 (by decide)
            have a39 : z37.toInt = v20_2.toInt + 1 := ai_add ez37 r6 tl_1 (by decide)
            refine lv_iinc (v := z37) (lv' := [(2, .int z37), (3, .int z30), (0, .ref q), (1, .int p1)]) hx hb dX10_laysWho_90 hl (k := 3) rfl (by rw [ez37]; rfl) (by decide) rfl (fun ls hl => ?_)
            refine lv_goto (tgt := 20) hx hb dX10_laysWho_93 (by decide) ?_
            exact ih20 _ _ _ _ z37 (fu_s hfu20 a39 (by decide)) hI hH (rg_w r38 (by decide)) (lv_sub hl [2, 3, 0] rfl)
          · skip
            refine lv_goto (tgt := 90) hx hb dX10_laysWho_77 (by decide) ?_
            obtain ⟨z40, ez40⟩ : ∃ y : Int32, y = v20_2 + (1 : Int32) := ⟨_, rfl⟩
            have r41 : rg z40 1 6 := rg_add ez40 r6 rl_1 (by decide)
            have a42 : z40.toInt = v20_2.toInt + 1 := ai_add ez40 r6 tl_1 (by decide)
            refine lv_iinc (v := z40) (lv' := [(2, .int z40), (3, .int z30), (0, .ref q), (1, .int p1)]) hx hb dX10_laysWho_90 hl (k := 3) rfl (by rw [ez40]; rfl) (by decide) rfl (fun ls hl => ?_)
            refine lv_goto (tgt := 20) hx hb dX10_laysWho_93 (by decide) ?_
            exact ih20 _ _ _ _ z40 (fu_s hfu20 a42 (by decide)) hI hH (rg_w r41 (by decide)) (lv_sub hl [2, 3, 0] rfl)
  refine lv_aload_n hx hb dX10_laysWho_0 rfl (lv_at hl 0 rfl) ?_
  refine lv_iload_n hx hb dX10_laysWho_1 rfl (lv_at hl 1 rfl) ?_
  refine t_Vv C hO hl.1 hA hH hI.1 (As := [.int p1]) (rest := []) (t_X10_laysBegan l E J τ L f hI.1 mq tq p1 rp1 (hh.S hI rfl) hW (hm0.S hI rfl) (hc0.S hI rfl) hs) my_X10_laysBegan wd1011 mq tq td_40 rfl rfl rfl (Nat.le_of_ble_eq_true rfl) ⟨Nat.le_of_ble_eq_true rfl, Nat.le_of_ble_eq_true rfl⟩ ⟨rfl, rfl⟩ dX10_laysWho_2 (fun L1 f43 H locs hp hH => ?_)
  obtain ⟨rfl, s45, h46⟩ := hp
  have hI := hI.call s45 (by decide)
  refine lv_aload_n hx hb dX10_laysWho_5 rfl (lv_at hl 0 rfl) ?_
  refine lv_iconst (v := (-1 : Int32)) hx hb dX10_laysWho_6 (by decide) ?_
  refine t_put C hH hI mq tq (by decide) td_40 iX10 tyX10 tyX10_ok nmX10 rfl 39 (by decide) wd1007 rfl rfl (v := .int (-1 : Int32)) rfl rfl rfl ⟨_, rfl, (rg_w rl_m1 (by decide))⟩ (fun _ h => nomatch h) dX10_laysWho_7 (fun f47 H locs hH hI nf47 of47 bf47 => ?_)
  refine lv_aload_n hx hb dX10_laysWho_10 rfl (lv_at hl 0 rfl) ?_
  refine lv_aload_n hx hb dX10_laysWho_11 rfl (lv_at hl 0 rfl) ?_
  refine t_geti C hH hI.1 mq tq td_40 iX10 rfl 36 (by decide) wd1004 rfl rfl dX10_laysWho_12 (fun z48 rz48 => ?_)
  refine t_put C hH hI mq tq (by decide) td_40 iX10 tyX10 tyX10_ok nmX10 rfl 40 (by decide) wd1006 rfl rfl (v := .int z48) rfl rfl rfl ⟨_, rfl, rz48⟩ (fun _ h => nomatch h) dX10_laysWho_15 (fun f49 H locs hH hI nf49 of49 bf49 => ?_)
  refine lv_iconst (v := (0 : Int32)) hx hb dX10_laysWho_18 (by decide) ?_
  refine lv_istore_n (lv' := [(2, .int (0 : Int32)), (0, .ref q), (1, .int p1)]) hx hb dX10_laysWho_19 rfl hl (by decide) rfl (fun ls hl => ?_)
  exact cut20 7 _ _ _ _ (0 : Int32) (fu_i 7 rl_0 (by decide)) hI hH (rg_w rl_0 (by decide)) (lv_sub hl [1, 2, 0] rfl)
set_option maxHeartbeats 4000000 in
set_option maxRecDepth 100000 in
theorem t_X10_laws (l : Launch) (E : gE) (J : Nat → Nat) (τ : Nat → Nat) (L : List Nat) (f : gF) (hI : tI E L τ f) {q : Nat} (mq : q ∈ L) (tq : τ q = 40) (p1 : Int32) {vl vh : Nat → Int32} (hl0 : isA E L τ f 46 5 vl) (hh : isA E L τ f 47 45 vh) (hR : rowOK vl vh 0) {vm : Nat → Int32} {vc : Nat → Int64} (hm0 : isA E L τ f 42 4 vm) (hc0 : isJ E L τ f 43 240 vc) : tMi l E J yX10_laws cX10_laws 3 .int (gRm (9) 0 0) [.ref q, .int p1] L f (tPi E L τ [40, 52, 53, 54, 55, 56] f (fun r f1 => rg r (-2147483648) 2147483647)) := by
  refine tMi.intro (by decide) (Nat.le_of_ble_eq_true rfl) ?_
  intro p e s m below meth c A ls C hr hA hO hH hl
  have C : gC E cX10_laws 3 RX10 p s m _ meth c := C
  have hl : lv_has ls 3 [(0, .ref q), (1, .int p1)] := hl
  have hx := C.1
  have hb := C.2.1
  have hI := hI.S [40, 52, 53, 54, 55, 56]
  refine lv_aload_n hx hb dX10_laws_0 rfl (lv_at hl 0 rfl) ?_
  refine lv_iconst (v := (0 : Int32)) hx hb dX10_laws_1 (by decide) ?_
  refine t_put C hH hI mq tq (by decide) td_40 iX10 tyX10 tyX10_ok nmX10 rfl 0 (by decide) wd855 rfl rfl (v := .int (0 : Int32)) rfl rfl rfl ⟨_, rfl, (rg_w rl_0 (by decide))⟩ (fun _ h => nomatch h) dX10_laws_2 (fun f1 H locs hH hI nf1 of1 bf1 => ?_)
  refine lv_aload_n hx hb dX10_laws_5 rfl (lv_at hl 0 rfl) ?_
  refine lv_iload_n hx hb dX10_laws_6 rfl (lv_at hl 1 rfl) ?_
  refine t_Vi C hO hl.1 hA hH hI.1 (As := [.int p1]) (rest := []) (t_X10_whyNotLaws l E J τ L f1 hI.1 mq tq p1 (hl0.S hI rfl) (hh.S hI rfl) hR (hm0.S hI rfl) (hc0.S hI rfl)) my_X10_whyNotLaws wd1015 mq tq td_40 rfl rfl rfl (Nat.le_of_ble_eq_true rfl) ⟨Nat.le_of_ble_eq_true rfl, Nat.le_of_ble_eq_true rfl⟩ ⟨rfl, rfl⟩ dX10_laws_7 (fun r3 L1 f2 H locs hp hH => ?_)
  obtain ⟨rfl, s4, h5⟩ := hp
  have hJ := hI
  have hI := hI.call s4 (by decide)
  refine lv_istore_n (lv' := [(2, .int r3), (0, .ref q), (1, .int p1)]) hx hb dX10_laws_10 rfl hl (by decide) rfl (fun ls hl => ?_)
  refine lv_iload_n hx hb dX10_laws_11 rfl (lv_at hl 0 rfl) ?_
  refine lv_if_eq (tgt := 19) hx hb dX10_laws_12 (by decide) (fun c6 => ?_) (fun c6 => ?_)
  · skip
    have r7 : rg r3 0 0 := rf_eql (c_eq c6) h5.1 rl_0 (by decide)
    have r8 : rg p1 0 3 := h5.2.1 c6
    have F9 := h5.2.2 c6
    refine lv_aload_n hx hb dX10_laws_19 rfl (lv_at hl 1 rfl) ?_
    refine lv_iload_n hx hb dX10_laws_20 rfl (lv_at hl 2 rfl) ?_
    refine t_Vi C hO hl.1 hA hH hI.1 (As := [.int p1]) (rest := []) (t_X10_lawsOf l E J τ L f2 hI.1 mq tq p1 r8 (hh.S hI rfl) F9.2 (hm0.S hI rfl) (hc0.S hI rfl) F9.1) my_X10_lawsOf wd1019 mq tq td_40 rfl rfl rfl (Nat.le_of_ble_eq_true rfl) ⟨Nat.le_of_ble_eq_true rfl, Nat.le_of_ble_eq_true rfl⟩ ⟨rfl, rfl⟩ dX10_laws_21 (fun r11 L1 f10 H locs hp hH => ?_)
    obtain ⟨rfl, s12, h13⟩ := hp
    have hI := hI.call s12 (by decide)
    exact g_iret C hr hH (Nat.zero_le _) (Nat.zero_le _) dX10_laws_24 ⟨rfl, hI, (rg_w h13 (by decide))⟩
  · skip
    have r14 : rg r3 (-6) (-1) := rf_nel (n_eq c6) h5.1 rl_0 (by decide)
    refine lv_iload_n hx hb dX10_laws_15 rfl (lv_at hl 0 rfl) ?_
    refine lv_goto (tgt := 24) hx hb dX10_laws_16 (by decide) ?_
    exact g_iret C hr hH (Nat.zero_le _) (Nat.zero_le _) dX10_laws_24 ⟨rfl, hI, (rg_w r14 (by decide))⟩
set_option maxHeartbeats 4000000 in
set_option maxRecDepth 100000 in
theorem t_X10_began (l : Launch) (E : gE) (J : Nat → Nat) (τ : Nat → Nat) (L : List Nat) (f : gF) (hI : tI E L τ f) {q : Nat} (mq : q ∈ L) (tq : τ q = 40) (p1 : Int32) {vl vh : Nat → Int32} (hl0 : isA E L τ f 46 5 vl) (hh : isA E L τ f 47 45 vh) (hR : rowOK vl vh 0) {vm : Nat → Int32} {vc : Nat → Int64} (hm0 : isA E L τ f 42 4 vm) (hc0 : isJ E L τ f 43 240 vc) : tMi l E J yX10_began cX10_began 3 .int (gRm (6) 0 0) [.ref q, .int p1] L f (tPi E L τ [40, 52, 53, 54, 55, 63] f (fun r f1 => rg r (-2147483648) 2147483647)) := by
  refine tMi.intro (by decide) (Nat.le_of_ble_eq_true rfl) ?_
  intro p e s m below meth c A ls C hr hA hO hH hl
  have C : gC E cX10_began 3 RX10 p s m _ meth c := C
  have hl : lv_has ls 3 [(0, .ref q), (1, .int p1)] := hl
  have hx := C.1
  have hb := C.2.1
  have hI := hI.S [40, 52, 53, 54, 55, 63]
  refine lv_aload_n hx hb dX10_began_0 rfl (lv_at hl 0 rfl) ?_
  refine lv_iconst (v := (0 : Int32)) hx hb dX10_began_1 (by decide) ?_
  refine t_put C hH hI mq tq (by decide) td_40 iX10 tyX10 tyX10_ok nmX10 rfl 0 (by decide) wd855 rfl rfl (v := .int (0 : Int32)) rfl rfl rfl ⟨_, rfl, (rg_w rl_0 (by decide))⟩ (fun _ h => nomatch h) dX10_began_2 (fun f1 H locs hH hI nf1 of1 bf1 => ?_)
  refine lv_aload_n hx hb dX10_began_5 rfl (lv_at hl 0 rfl) ?_
  refine lv_iload_n hx hb dX10_began_6 rfl (lv_at hl 1 rfl) ?_
  refine t_Vi C hO hl.1 hA hH hI.1 (As := [.int p1]) (rest := []) (t_X10_whyNotBegan l E J τ L f1 hI.1 mq tq p1 (hl0.S hI rfl) (hh.S hI rfl) hR (hm0.S hI rfl) (hc0.S hI rfl)) my_X10_whyNotBegan wd1023 mq tq td_40 rfl rfl rfl (Nat.le_of_ble_eq_true rfl) ⟨Nat.le_of_ble_eq_true rfl, Nat.le_of_ble_eq_true rfl⟩ ⟨rfl, rfl⟩ dX10_began_7 (fun r3 L1 f2 H locs hp hH => ?_)
  obtain ⟨rfl, s4, h5⟩ := hp
  have hJ := hI
  have hI := hI.call s4 (by decide)
  refine lv_istore_n (lv' := [(2, .int r3), (0, .ref q), (1, .int p1)]) hx hb dX10_began_10 rfl hl (by decide) rfl (fun ls hl => ?_)
  refine lv_iload_n hx hb dX10_began_11 rfl (lv_at hl 0 rfl) ?_
  refine lv_if_eq (tgt := 17) hx hb dX10_began_12 (by decide) (fun c6 => ?_) (fun c6 => ?_)
  · skip
    have r7 : rg r3 0 0 := rf_eql (c_eq c6) h5.1 rl_0 (by decide)
    have r8 : rg p1 0 3 := h5.2.1 c6
    have F9 := h5.2.2 c6
    refine lv_aload_n hx hb dX10_began_17 rfl (lv_at hl 1 rfl) ?_
    refine lv_iload_n hx hb dX10_began_18 rfl (lv_at hl 2 rfl) ?_
    refine t_Vv C hO hl.1 hA hH hI.1 (As := [.int p1]) (rest := []) (t_X10_laysBegan l E J τ L f2 hI.1 mq tq p1 r8 (hh.S hI rfl) F9.2 (hm0.S hI rfl) (hc0.S hI rfl) F9.1) my_X10_laysBegan wd1011 mq tq td_40 rfl rfl rfl (Nat.le_of_ble_eq_true rfl) ⟨Nat.le_of_ble_eq_true rfl, Nat.le_of_ble_eq_true rfl⟩ ⟨rfl, rfl⟩ dX10_began_19 (fun L1 f10 H locs hp hH => ?_)
    obtain ⟨rfl, s12, h13⟩ := hp
    have hI := hI.call s12 (by decide)
    refine lv_aload_n hx hb dX10_began_22 rfl (lv_at hl 1 rfl) ?_
    refine t_geti C hH hI.1 mq tq td_40 iX10 rfl 36 (by decide) wd1004 rfl rfl dX10_began_23 (fun z14 rz14 => ?_)
    exact g_iret C hr hH (Nat.zero_le _) (Nat.zero_le _) dX10_began_26 ⟨rfl, hI, rz14⟩
  · skip
    have r15 : rg r3 (-6) (-1) := rf_nel (n_eq c6) h5.1 rl_0 (by decide)
    refine lv_iload_n hx hb dX10_began_15 rfl (lv_at hl 0 rfl) ?_
    exact g_iret C hr hH (Nat.zero_le _) (Nat.zero_le _) dX10_began_16 ⟨rfl, hI, (rg_w r15 (by decide))⟩
set_option maxHeartbeats 4000000 in
set_option maxRecDepth 100000 in
theorem t_X10_spots (l : Launch) (E : gE) (J : Nat → Nat) (τ : Nat → Nat) (L : List Nat) (f : gF) (hI : tI E L τ f) {q : Nat} (mq : q ∈ L) (tq : τ q = 40) (p1 : Int32) {vl vh : Nat → Int32} (hl0 : isA E L τ f 46 5 vl) (hh : isA E L τ f 47 45 vh) (hR : rowOK vl vh 0) {vm : Nat → Int32} {vc : Nat → Int64} (hm0 : isA E L τ f 42 4 vm) (hc0 : isJ E L τ f 43 240 vc) : tMi l E J yX10_spots cX10_spots 3 .int (gRm (6) 0 0) [.ref q, .int p1] L f (tPi E L τ [40, 52, 53, 54, 55, 63] f (fun r f1 => rg r (-2147483648) 2147483647)) := by
  refine tMi.intro (by decide) (Nat.le_of_ble_eq_true rfl) ?_
  intro p e s m below meth c A ls C hr hA hO hH hl
  have C : gC E cX10_spots 3 RX10 p s m _ meth c := C
  have hl : lv_has ls 3 [(0, .ref q), (1, .int p1)] := hl
  have hx := C.1
  have hb := C.2.1
  have hI := hI.S [40, 52, 53, 54, 55, 63]
  refine lv_aload_n hx hb dX10_spots_0 rfl (lv_at hl 0 rfl) ?_
  refine lv_iconst (v := (0 : Int32)) hx hb dX10_spots_1 (by decide) ?_
  refine t_put C hH hI mq tq (by decide) td_40 iX10 tyX10 tyX10_ok nmX10 rfl 0 (by decide) wd855 rfl rfl (v := .int (0 : Int32)) rfl rfl rfl ⟨_, rfl, (rg_w rl_0 (by decide))⟩ (fun _ h => nomatch h) dX10_spots_2 (fun f1 H locs hH hI nf1 of1 bf1 => ?_)
  refine lv_aload_n hx hb dX10_spots_5 rfl (lv_at hl 0 rfl) ?_
  refine lv_iload_n hx hb dX10_spots_6 rfl (lv_at hl 1 rfl) ?_
  refine t_Vi C hO hl.1 hA hH hI.1 (As := [.int p1]) (rest := []) (t_X10_whyNotBegan l E J τ L f1 hI.1 mq tq p1 (hl0.S hI rfl) (hh.S hI rfl) hR (hm0.S hI rfl) (hc0.S hI rfl)) my_X10_whyNotBegan wd1023 mq tq td_40 rfl rfl rfl (Nat.le_of_ble_eq_true rfl) ⟨Nat.le_of_ble_eq_true rfl, Nat.le_of_ble_eq_true rfl⟩ ⟨rfl, rfl⟩ dX10_spots_7 (fun r3 L1 f2 H locs hp hH => ?_)
  obtain ⟨rfl, s4, h5⟩ := hp
  have hJ := hI
  have hI := hI.call s4 (by decide)
  refine lv_istore_n (lv' := [(2, .int r3), (0, .ref q), (1, .int p1)]) hx hb dX10_spots_10 rfl hl (by decide) rfl (fun ls hl => ?_)
  refine lv_iload_n hx hb dX10_spots_11 rfl (lv_at hl 0 rfl) ?_
  refine lv_if_eq (tgt := 17) hx hb dX10_spots_12 (by decide) (fun c6 => ?_) (fun c6 => ?_)
  · skip
    have r7 : rg r3 0 0 := rf_eql (c_eq c6) h5.1 rl_0 (by decide)
    have r8 : rg p1 0 3 := h5.2.1 c6
    have F9 := h5.2.2 c6
    refine lv_aload_n hx hb dX10_spots_17 rfl (lv_at hl 1 rfl) ?_
    refine lv_iload_n hx hb dX10_spots_18 rfl (lv_at hl 2 rfl) ?_
    refine t_Vv C hO hl.1 hA hH hI.1 (As := [.int p1]) (rest := []) (t_X10_laysBegan l E J τ L f2 hI.1 mq tq p1 r8 (hh.S hI rfl) F9.2 (hm0.S hI rfl) (hc0.S hI rfl) F9.1) my_X10_laysBegan wd1011 mq tq td_40 rfl rfl rfl (Nat.le_of_ble_eq_true rfl) ⟨Nat.le_of_ble_eq_true rfl, Nat.le_of_ble_eq_true rfl⟩ ⟨rfl, rfl⟩ dX10_spots_19 (fun L1 f10 H locs hp hH => ?_)
    obtain ⟨rfl, s12, h13⟩ := hp
    have hI := hI.call s12 (by decide)
    refine lv_aload_n hx hb dX10_spots_22 rfl (lv_at hl 1 rfl) ?_
    refine t_geti C hH hI.1 mq tq td_40 iX10 rfl 37 (by decide) wd1005 rfl rfl dX10_spots_23 (fun z14 rz14 => ?_)
    exact g_iret C hr hH (Nat.zero_le _) (Nat.zero_le _) dX10_spots_26 ⟨rfl, hI, rz14⟩
  · skip
    have r15 : rg r3 (-6) (-1) := rf_nel (n_eq c6) h5.1 rl_0 (by decide)
    refine lv_iload_n hx hb dX10_spots_15 rfl (lv_at hl 0 rfl) ?_
    exact g_iret C hr hH (Nat.zero_le _) (Nat.zero_le _) dX10_spots_16 ⟨rfl, hI, (rg_w r15 (by decide))⟩
set_option maxHeartbeats 4000000 in
set_option maxRecDepth 100000 in
theorem t_X10_who (l : Launch) (E : gE) (J : Nat → Nat) (τ : Nat → Nat) (L : List Nat) (f : gF) (hI : tI E L τ f) {q : Nat} (mq : q ∈ L) (tq : τ q = 40) (p1 : Int32) {vl vh : Nat → Int32} (hl0 : isA E L τ f 46 5 vl) (hh : isA E L τ f 47 45 vh) (hR : rowOK vl vh 0) {vm : Nat → Int32} {vc : Nat → Int64} (hm0 : isA E L τ f 42 4 vm) (hc0 : isJ E L τ f 43 240 vc) : tMi l E J yX10_who cX10_who 3 .int (gRm (7) 0 0) [.ref q, .int p1] L f (tPi E L τ [40, 52, 53, 54, 55, 63] f (fun r f1 => rg r (-2147483648) 2147483647)) := by
  refine tMi.intro (by decide) (Nat.le_of_ble_eq_true rfl) ?_
  intro p e s m below meth c A ls C hr hA hO hH hl
  have C : gC E cX10_who 3 RX10 p s m _ meth c := C
  have hl : lv_has ls 3 [(0, .ref q), (1, .int p1)] := hl
  have hx := C.1
  have hb := C.2.1
  have hI := hI.S [40, 52, 53, 54, 55, 63]
  refine lv_aload_n hx hb dX10_who_0 rfl (lv_at hl 0 rfl) ?_
  refine lv_iconst (v := (0 : Int32)) hx hb dX10_who_1 (by decide) ?_
  refine t_put C hH hI mq tq (by decide) td_40 iX10 tyX10 tyX10_ok nmX10 rfl 0 (by decide) wd855 rfl rfl (v := .int (0 : Int32)) rfl rfl rfl ⟨_, rfl, (rg_w rl_0 (by decide))⟩ (fun _ h => nomatch h) dX10_who_2 (fun f1 H locs hH hI nf1 of1 bf1 => ?_)
  refine lv_aload_n hx hb dX10_who_5 rfl (lv_at hl 0 rfl) ?_
  refine lv_iload_n hx hb dX10_who_6 rfl (lv_at hl 1 rfl) ?_
  refine t_Vi C hO hl.1 hA hH hI.1 (As := [.int p1]) (rest := []) (t_X10_whyNotBegan l E J τ L f1 hI.1 mq tq p1 (hl0.S hI rfl) (hh.S hI rfl) hR (hm0.S hI rfl) (hc0.S hI rfl)) my_X10_whyNotBegan wd1023 mq tq td_40 rfl rfl rfl (Nat.le_of_ble_eq_true rfl) ⟨Nat.le_of_ble_eq_true rfl, Nat.le_of_ble_eq_true rfl⟩ ⟨rfl, rfl⟩ dX10_who_7 (fun r3 L1 f2 H locs hp hH => ?_)
  obtain ⟨rfl, s4, h5⟩ := hp
  have hJ := hI
  have hI := hI.call s4 (by decide)
  refine lv_istore_n (lv' := [(2, .int r3), (0, .ref q), (1, .int p1)]) hx hb dX10_who_10 rfl hl (by decide) rfl (fun ls hl => ?_)
  refine lv_iload_n hx hb dX10_who_11 rfl (lv_at hl 0 rfl) ?_
  refine lv_if_eq (tgt := 17) hx hb dX10_who_12 (by decide) (fun c6 => ?_) (fun c6 => ?_)
  · skip
    have r7 : rg r3 0 0 := rf_eql (c_eq c6) h5.1 rl_0 (by decide)
    have r8 : rg p1 0 3 := h5.2.1 c6
    have F9 := h5.2.2 c6
    refine lv_aload_n hx hb dX10_who_17 rfl (lv_at hl 1 rfl) ?_
    refine lv_iload_n hx hb dX10_who_18 rfl (lv_at hl 2 rfl) ?_
    refine t_Vv C hO hl.1 hA hH hI.1 (As := [.int p1]) (rest := []) (t_X10_laysWho l E J τ L f2 hI.1 mq tq p1 r8 (hh.S hI rfl) F9.2 (hm0.S hI rfl) (hc0.S hI rfl) F9.1) my_X10_laysWho wd1027 mq tq td_40 rfl rfl rfl (Nat.le_of_ble_eq_true rfl) ⟨Nat.le_of_ble_eq_true rfl, Nat.le_of_ble_eq_true rfl⟩ ⟨rfl, rfl⟩ dX10_who_19 (fun L1 f10 H locs hp hH => ?_)
    obtain ⟨rfl, s12, h13⟩ := hp
    have hI := hI.call s12 (by decide)
    refine lv_aload_n hx hb dX10_who_22 rfl (lv_at hl 1 rfl) ?_
    refine t_geti C hH hI.1 mq tq td_40 iX10 rfl 39 (by decide) wd1007 rfl rfl dX10_who_23 (fun z14 rz14 => ?_)
    exact g_iret C hr hH (Nat.zero_le _) (Nat.zero_le _) dX10_who_26 ⟨rfl, hI, rz14⟩
  · skip
    have r15 : rg r3 (-6) (-1) := rf_nel (n_eq c6) h5.1 rl_0 (by decide)
    refine lv_iload_n hx hb dX10_who_15 rfl (lv_at hl 0 rfl) ?_
    exact g_iret C hr hH (Nat.zero_le _) (Nat.zero_le _) dX10_who_16 ⟨rfl, hI, (rg_w r15 (by decide))⟩
set_option maxHeartbeats 4000000 in
set_option maxRecDepth 100000 in
theorem t_X10_leaves (l : Launch) (E : gE) (J : Nat → Nat) (τ : Nat → Nat) (L : List Nat) (f : gF) (hI : tI E L τ f) {q : Nat} (mq : q ∈ L) (tq : τ q = 40) (p1 : Int32) {vl vh : Nat → Int32} (hl0 : isA E L τ f 46 5 vl) (hh : isA E L τ f 47 45 vh) (hR : rowOK vl vh 0) {vm : Nat → Int32} {vc : Nat → Int64} (hm0 : isA E L τ f 42 4 vm) (hc0 : isJ E L τ f 43 240 vc) : tMi l E J yX10_leaves cX10_leaves 3 .int (gRm (7) 0 0) [.ref q, .int p1] L f (tPi E L τ [40, 52, 53, 54, 55, 63] f (fun r f1 => rg r (-2147483648) 2147483647)) := by
  refine tMi.intro (by decide) (Nat.le_of_ble_eq_true rfl) ?_
  intro p e s m below meth c A ls C hr hA hO hH hl
  have C : gC E cX10_leaves 3 RX10 p s m _ meth c := C
  have hl : lv_has ls 3 [(0, .ref q), (1, .int p1)] := hl
  have hx := C.1
  have hb := C.2.1
  have hI := hI.S [40, 52, 53, 54, 55, 63]
  refine lv_aload_n hx hb dX10_leaves_0 rfl (lv_at hl 0 rfl) ?_
  refine lv_iconst (v := (0 : Int32)) hx hb dX10_leaves_1 (by decide) ?_
  refine t_put C hH hI mq tq (by decide) td_40 iX10 tyX10 tyX10_ok nmX10 rfl 0 (by decide) wd855 rfl rfl (v := .int (0 : Int32)) rfl rfl rfl ⟨_, rfl, (rg_w rl_0 (by decide))⟩ (fun _ h => nomatch h) dX10_leaves_2 (fun f1 H locs hH hI nf1 of1 bf1 => ?_)
  refine lv_aload_n hx hb dX10_leaves_5 rfl (lv_at hl 0 rfl) ?_
  refine lv_iload_n hx hb dX10_leaves_6 rfl (lv_at hl 1 rfl) ?_
  refine t_Vi C hO hl.1 hA hH hI.1 (As := [.int p1]) (rest := []) (t_X10_whyNotBegan l E J τ L f1 hI.1 mq tq p1 (hl0.S hI rfl) (hh.S hI rfl) hR (hm0.S hI rfl) (hc0.S hI rfl)) my_X10_whyNotBegan wd1023 mq tq td_40 rfl rfl rfl (Nat.le_of_ble_eq_true rfl) ⟨Nat.le_of_ble_eq_true rfl, Nat.le_of_ble_eq_true rfl⟩ ⟨rfl, rfl⟩ dX10_leaves_7 (fun r3 L1 f2 H locs hp hH => ?_)
  obtain ⟨rfl, s4, h5⟩ := hp
  have hJ := hI
  have hI := hI.call s4 (by decide)
  refine lv_istore_n (lv' := [(2, .int r3), (0, .ref q), (1, .int p1)]) hx hb dX10_leaves_10 rfl hl (by decide) rfl (fun ls hl => ?_)
  refine lv_iload_n hx hb dX10_leaves_11 rfl (lv_at hl 0 rfl) ?_
  refine lv_if_eq (tgt := 17) hx hb dX10_leaves_12 (by decide) (fun c6 => ?_) (fun c6 => ?_)
  · skip
    have r7 : rg r3 0 0 := rf_eql (c_eq c6) h5.1 rl_0 (by decide)
    have r8 : rg p1 0 3 := h5.2.1 c6
    have F9 := h5.2.2 c6
    refine lv_aload_n hx hb dX10_leaves_17 rfl (lv_at hl 1 rfl) ?_
    refine lv_iload_n hx hb dX10_leaves_18 rfl (lv_at hl 2 rfl) ?_
    refine t_Vv C hO hl.1 hA hH hI.1 (As := [.int p1]) (rest := []) (t_X10_laysWho l E J τ L f2 hI.1 mq tq p1 r8 (hh.S hI rfl) F9.2 (hm0.S hI rfl) (hc0.S hI rfl) F9.1) my_X10_laysWho wd1027 mq tq td_40 rfl rfl rfl (Nat.le_of_ble_eq_true rfl) ⟨Nat.le_of_ble_eq_true rfl, Nat.le_of_ble_eq_true rfl⟩ ⟨rfl, rfl⟩ dX10_leaves_19 (fun L1 f10 H locs hp hH => ?_)
    obtain ⟨rfl, s12, h13⟩ := hp
    have hI := hI.call s12 (by decide)
    refine lv_aload_n hx hb dX10_leaves_22 rfl (lv_at hl 1 rfl) ?_
    refine t_geti C hH hI.1 mq tq td_40 iX10 rfl 40 (by decide) wd1006 rfl rfl dX10_leaves_23 (fun z14 rz14 => ?_)
    exact g_iret C hr hH (Nat.zero_le _) (Nat.zero_le _) dX10_leaves_26 ⟨rfl, hI, rz14⟩
  · skip
    have r15 : rg r3 (-6) (-1) := rf_nel (n_eq c6) h5.1 rl_0 (by decide)
    refine lv_iload_n hx hb dX10_leaves_15 rfl (lv_at hl 0 rfl) ?_
    exact g_iret C hr hH (Nat.zero_le _) (Nat.zero_le _) dX10_leaves_16 ⟨rfl, hI, (rg_w r15 (by decide))⟩
set_option maxHeartbeats 4000000 in
set_option maxRecDepth 100000 in
theorem t_X10_ask (l : Launch) (E : gE) (J : Nat → Nat) (τ : Nat → Nat) (L : List Nat) (f : gF) (hI : tI E L τ f) {q : Nat} (mq : q ∈ L) (tq : τ q = 40) (p1 : Int32) {vl vh : Nat → Int32} (hl0 : isA E L τ f 46 5 vl) (hh : isA E L τ f 47 45 vh) (hR : rowOK vl vh 0) {vm : Nat → Int32} {vc : Nat → Int64} (hm0 : isA E L τ f 42 4 vm) (hc0 : isJ E L τ f 43 240 vc) : tMi l E J yX10_ask cX10_ask 10 .int (gRm (9) 0 0) [.ref q, .int p1] L f (tPi E L τ [40, 52, 53, 54, 55, 56, 62] f (fun r f1 => rg r (-2147483648) 2147483647)) := by
  refine tMi.intro (by decide) (Nat.le_of_ble_eq_true rfl) ?_
  intro p e s m below meth c A ls C hr hA hO hH hl
  have C : gC E cX10_ask 10 RX10 p s m _ meth c := C
  have hl : lv_has ls 10 [(0, .ref q), (1, .int p1)] := hl
  have hx := C.1
  have hb := C.2.1
  have hI := hI.S [40, 52, 53, 54, 55, 56, 62]
  obtain ⟨q_35, mq_35, tq_35, kq_35⟩ := t_fldr hI.1 mq tq td_40 (k := 35) rfl
  have cut35 : ∀ (n : Nat) (fh35 : gF) (H : Heap) (locs : List Loc) (ls : Array Slot) (v35_2 : Int32) (v35_3 : Int32) (v35_4 : Int32) (v35_5 : Int32) (v35_6 : Int32), 4 - v35_6.toInt < (n : Int) → tS E L τ [40, 52, 53, 54, 55, 56, 62] f fh35 → gH E A L fh35 s.heap H locs → rg v35_2 0 0 → rg v35_3 0 15 → rg v35_4 (-1) 3 → rg v35_6 0 4 → rg p1 0 3 → 1 ≤ (vh 0).toInt → lv_has ls 10 [(0, .ref q), (1, .int p1), (2, .int v35_2), (3, .int v35_3), (4, .int v35_4), (5, .int v35_5), (6, .int v35_6)] → W p l e (gRm (9) 0 0) s m [.ref q, .int p1].toArray below meth c H locs 0 0 (MQ below (gQi E A (tPi E L τ [40, 52, 53, 54, 55, 56, 62] f (fun r f1 => rg r (-2147483648) 2147483647))) [.ref q, .int p1].toArray s (gRm (9) 0 0).cells (gRm (9) 0 0).slots A) (F0 m 35 ls []) := by
    intro n
    induction n with
    | zero =>
      intro fh35 H locs ls v35_2 v35_3 v35_4 v35_5 v35_6 hfu35 hI hH r_v35_2 r_v35_3 r_v35_4 r_v35_6 r35_p1 F35_W hl
      exact (fu_0 hfu35 r_v35_6).elim
    | succ n ih35 =>
      intro fh35 H locs ls v35_2 v35_3 v35_4 v35_5 v35_6 hfu35 hI hH r_v35_2 r_v35_3 r_v35_4 r_v35_6 r35_p1 F35_W hl
      have cut47 : ∀ (n : Nat) (fh47 : gF) (H : Heap) (locs : List Loc) (ls : Array Slot) (v47_7 : Int32), 42 - v47_7.toInt < (n : Int) → tS E L τ [40, 52, 53, 54, 55, 56, 62] f fh47 → gH E A L fh47 s.heap H locs → rg v47_7 0 42 → rg v35_6 0 3 → lv_has ls 10 [(0, .ref q), (1, .int p1), (2, .int v35_2), (3, .int v35_3), (4, .int v35_4), (5, .int v35_5), (6, .int v35_6), (7, .int v47_7)] → W p l e (gRm (9) 0 0) s m [.ref q, .int p1].toArray below meth c H locs 0 0 (MQ below (gQi E A (tPi E L τ [40, 52, 53, 54, 55, 56, 62] f (fun r f1 => rg r (-2147483648) 2147483647))) [.ref q, .int p1].toArray s (gRm (9) 0 0).cells (gRm (9) 0 0).slots A) (F0 m 47 ls []) := by
        intro n
        induction n with
        | zero =>
          intro fh47 H locs ls v47_7 hfu47 hI hH r_v47_7 r47_v35_6 hl
          exact (fu_0 hfu47 r_v47_7).elim
        | succ n ih47 =>
          intro fh47 H locs ls v47_7 hfu47 hI hH r_v47_7 r47_v35_6 hl
          have cut74 : ∀ (n : Nat) (fh74 : gF) (H : Heap) (locs : List Loc) (ls : Array Slot) (v74_7 : Int32) (v74_8 : Int32), 4 - v74_8.toInt < (n : Int) → tS E L τ [40, 52, 53, 54, 55, 56, 62] f fh74 → gH E A L fh74 s.heap H locs → rg v74_8 0 4 → lv_has ls 10 [(0, .ref q), (1, .int p1), (2, .int v35_2), (3, .int v35_3), (4, .int v35_4), (5, .int v35_5), (6, .int v35_6), (7, .int v74_7), (8, .int v74_8)] → W p l e (gRm (9) 0 0) s m [.ref q, .int p1].toArray below meth c H locs 0 0 (MQ below (gQi E A (tPi E L τ [40, 52, 53, 54, 55, 56, 62] f (fun r f1 => rg r (-2147483648) 2147483647))) [.ref q, .int p1].toArray s (gRm (9) 0 0).cells (gRm (9) 0 0).slots A) (F0 m 74 ls []) := by
            intro n
            induction n with
            | zero =>
              intro fh74 H locs ls v74_7 v74_8 hfu74 hI hH r_v74_8 hl
              exact (fu_0 hfu74 r_v74_8).elim
            | succ n ih74 =>
              intro fh74 H locs ls v74_7 v74_8 hfu74 hI hH r_v74_8 hl
              refine lv_iload hx hb dX10_ask_74 (lv_at hl 8 rfl) ?_
              refine lv_iconst (v := (4 : Int32)) hx hb dX10_ask_76 (by decide) ?_
              refine lv_icmp_ge (tgt := 152) hx hb dX10_ask_77 (by decide) (fun c1 => ?_) (fun c1 => ?_)
              · skip
                have r2 : rg v74_8 4 4 := rf_ler (c_le c1) rl_4 r_v74_8 (by decide)
                refine lv_iload hx hb dX10_ask_152 (lv_at hl 7 rfl) ?_
                refine lv_iload hx hb dX10_ask_154 (lv_at hl 5 rfl) ?_
                refine lv_icmp_lt (tgt := 162) hx hb dX10_ask_156 (by decide) (fun c3 => ?_) (fun c3 => ?_)
                · skip
                  have r4 : rg v74_7 (-2147483648) 2147483646 := rf_ltl (c_lt c3) (rg_all _) (rg_all _) (by decide)
                  have r5 : rg v35_5 (-2147483647) 2147483647 := rf_ltr (c_lt c3) (rg_all _) (rg_all _) (by decide)
                  refine lv_iload hx hb dX10_ask_162 (lv_at hl 6 rfl) ?_
                  refine lv_istore (lv' := [(4, .int v35_6), (0, .ref q), (1, .int p1), (2, .int v35_2), (3, .int v35_3), (5, .int v35_5), (6, .int v35_6), (7, .int v74_7), (8, .int v74_8)]) hx hb dX10_ask_164 hl (by decide) rfl (fun ls hl => ?_)
                  refine lv_iload hx hb dX10_ask_166 (lv_at hl 7 rfl) ?_
                  refine lv_istore (lv' := [(5, .int v74_7), (4, .int v35_6), (0, .ref q), (1, .int p1), (2, .int v35_2), (3, .int v35_3), (6, .int v35_6), (7, .int v74_7), (8, .int v74_8)]) hx hb dX10_ask_168 hl (by decide) rfl (fun ls hl => ?_)
                  obtain ⟨z6, ez6⟩ : ∃ y : Int32, y = v35_6 + (1 : Int32) := ⟨_, rfl⟩
                  have r7 : rg z6 1 4 := rg_add ez6 r47_v35_6 rl_1 (by decide)
                  have a8 : z6.toInt = v35_6.toInt + 1 := ai_add ez6 r47_v35_6 tl_1 (by decide)
                  refine lv_iinc (v := z6) (lv' := [(6, .int z6), (5, .int v74_7), (4, .int v35_6), (0, .ref q), (1, .int p1), (2, .int v35_2), (3, .int v35_3), (7, .int v74_7), (8, .int v74_8)]) hx hb dX10_ask_170 hl (k := 6) rfl (by rw [ez6]; rfl) (by decide) rfl (fun ls hl => ?_)
                  refine lv_goto (tgt := 35) hx hb dX10_ask_173 (by decide) ?_
                  exact ih35 _ _ _ _ v35_2 v35_3 v35_6 v74_7 z6 (fu_s hfu35 a8 (by decide)) hI hH r_v35_2 r_v35_3 (rg_w r47_v35_6 (by decide)) (rg_w r7 (by decide)) r35_p1 F35_W (lv_sub hl [3, 4, 5, 6, 2, 1, 0] rfl)
                · skip
                  refine lv_goto (tgt := 170) hx hb dX10_ask_159 (by decide) ?_
                  obtain ⟨z9, ez9⟩ : ∃ y : Int32, y = v35_6 + (1 : Int32) := ⟨_, rfl⟩
                  have r10 : rg z9 1 4 := rg_add ez9 r47_v35_6 rl_1 (by decide)
                  have a11 : z9.toInt = v35_6.toInt + 1 := ai_add ez9 r47_v35_6 tl_1 (by decide)
                  refine lv_iinc (v := z9) (lv' := [(6, .int z9), (0, .ref q), (1, .int p1), (2, .int v35_2), (3, .int v35_3), (4, .int v35_4), (5, .int v35_5), (7, .int v74_7), (8, .int v74_8)]) hx hb dX10_ask_170 hl (k := 6) rfl (by rw [ez9]; rfl) (by decide) rfl (fun ls hl => ?_)
                  refine lv_goto (tgt := 35) hx hb dX10_ask_173 (by decide) ?_
                  exact ih35 _ _ _ _ v35_2 v35_3 v35_4 v35_5 z9 (fu_s hfu35 a11 (by decide)) hI hH r_v35_2 r_v35_3 r_v35_4 (rg_w r10 (by decide)) r35_p1 F35_W (lv_sub hl [1, 2, 3, 4, 5, 6, 0] rfl)
              · skip
                have r12 : rg v74_8 0 3 := rf_ltl (n_le c1) r_v74_8 rl_4 (by decide)
                refine lv_iload_n hx hb dX10_ask_80 rfl (lv_at hl 3 rfl) ?_
                refine lv_iload hx hb dX10_ask_81 (lv_at hl 8 rfl) ?_
                refine t_Si C hO hl.1 hA hH (As := [.int v35_3, .int v74_8]) (rest := []) (t_X10_isBit l E J τ L fh74 hI.1 v35_3 v74_8) my_X10_isBit wd783 rfl rfl (Nat.le_of_ble_eq_true rfl) ⟨Nat.le_of_ble_eq_true rfl, Nat.le_of_ble_eq_true rfl⟩ ⟨rfl, rfl⟩ dX10_ask_83 (fun r14 L1 f13 H locs hp hH => ?_)
                obtain ⟨rfl, s15, h16⟩ := hp
                have hI := hI.call s15 (by decide)
                refine lv_if_ne (tgt := 92) hx hb dX10_ask_86 (by decide) (fun c17 => ?_) (fun c17 => ?_)
                · skip
                  have r18 : rg r14 1 1 := rf_nel (n_eq c17) h16 rl_0 (by decide)
                  refine lv_aload_n hx hb dX10_ask_92 rfl (lv_at hl 0 rfl) ?_
                  refine lv_iload hx hb dX10_ask_93 (lv_at hl 8 rfl) ?_
                  refine t_Vi C hO hl.1 hA hH hI.1 (As := [.int v74_8]) (rest := []) (t_X10_incomeBy l E J τ L f13 hI.1 mq tq v74_8 (hh.S hI rfl) F35_W) my_X10_incomeBy wd895 mq tq td_40 rfl rfl rfl (Nat.le_of_ble_eq_true rfl) ⟨Nat.le_of_ble_eq_true rfl, Nat.le_of_ble_eq_true rfl⟩ ⟨rfl, rfl⟩ dX10_ask_95 (fun r20 L1 f19 H locs hp hH => ?_)
                  obtain ⟨rfl, s21, h22⟩ := hp
                  have hI := hI.call s21 (by decide)
                  refine lv_pop hx hb dX10_ask_98 rfl ?_
                  refine lv_iconst (v := (1 : Int32)) hx hb dX10_ask_99 (by decide) ?_
                  refine lv_aload_n hx hb dX10_ask_100 rfl (lv_at hl 0 rfl) ?_
                  refine lv_iload hx hb dX10_ask_101 (lv_at hl 6 rfl) ?_
                  refine t_Vi C hO hl.1 hA hH hI.1 (As := [.int v35_6]) (rest := [.int (1 : Int32)]) (t_X10_outOf l E J τ L f19 hI.1 mq tq v35_6 r47_v35_6) my_X10_outOf wd867 mq tq td_40 rfl rfl rfl (Nat.le_of_ble_eq_true rfl) ⟨Nat.le_of_ble_eq_true rfl, Nat.le_of_ble_eq_true rfl⟩ ⟨rfl, rfl⟩ dX10_ask_103 (fun r24 L1 f23 H locs hp hH => ?_)
                  obtain ⟨rfl, s25, h26⟩ := hp
                  have hI := hI.call s25 (by decide)
                  refine lv_iadd hx hb dX10_ask_106 ?_
                  refine lv_topi (fun z27 ez27 => ?_)
                  have r28 : rg z27 0 41 := rg_add ez27 rl_1 h26 (by decide)
                  refine lv_istore (lv' := [(9, .int z27), (0, .ref q), (1, .int p1), (2, .int v35_2), (3, .int v35_3), (4, .int v35_4), (5, .int v35_5), (6, .int v35_6), (7, .int v74_7), (8, .int v74_8)]) hx hb dX10_ask_107 hl (by decide) rfl (fun ls hl => ?_)
                  refine lv_aload_n hx hb dX10_ask_109 rfl (lv_at hl 1 rfl) ?_
                  refine t_getX C hH hI.1 mq tq td_40 iX10 rfl 35 (by decide) wd1028 rfl (hI.rf kq_35) dX10_ask_110 ?_
                  refine lv_iload hx hb dX10_ask_113 (lv_at hl 0 rfl) ?_
                  refine lv_dup2_11 hx hb dX10_ask_115 rfl rfl ?_
                  refine t_ald C hH hI.1 mq_35 tq_35 td_62 (rg_in r28 (by decide)) dX10_ask_116 (fun z29v az29 _ => ?_)
                  refine lv_topi (fun z29 ez29 => ?_)
                  refine lv_iconst (v := (1 : Int32)) hx hb dX10_ask_117 (by decide) ?_
                  refine lv_iadd hx hb dX10_ask_118 ?_
                  refine lv_topi (fun z30 ez30 => ?_)
                  refine t_ast C hH hI mq_35 tq_35 (by decide) td_62 (rg_in r28 (by decide)) (fun _ _ _ => trivial) dX10_ask_119 (fun f31 H locs hH hI bf31 uf31 => ?_)
                  refine lv_aload_n hx hb dX10_ask_120 rfl (lv_at hl 1 rfl) ?_
                  refine t_getX C hH hI.1 mq tq td_40 iX10 rfl 35 (by decide) wd1028 rfl (hI.rf kq_35) dX10_ask_121 ?_
                  refine lv_iload hx hb dX10_ask_124 (lv_at hl 0 rfl) ?_
                  refine t_ald C hH hI.1 mq_35 tq_35 td_62 (rg_in r28 (by decide)) dX10_ask_126 (fun z32v az32 _ => ?_)
                  refine lv_topi (fun z32 ez32 => ?_)
                  refine lv_iload hx hb dX10_ask_127 (lv_at hl 8 rfl) ?_
                  refine lv_icmp_le (tgt := 142) hx hb dX10_ask_129 (by decide) (fun c33 => ?_) (fun c33 => ?_)
                  · skip
                    refine lv_iload hx hb dX10_ask_142 (lv_at hl 8 rfl) ?_
                    refine lv_istore (lv' := [(7, .int v74_7), (9, .int z27), (0, .ref q), (1, .int p1), (2, .int v35_2), (3, .int v35_3), (4, .int v35_4), (5, .int v35_5), (6, .int v35_6), (8, .int v74_8)]) hx hb dX10_ask_144 hl (by decide) rfl (fun ls hl => ?_)
                    obtain ⟨z34, ez34⟩ : ∃ y : Int32, y = v74_8 + (1 : Int32) := ⟨_, rfl⟩
                    have r35 : rg z34 1 4 := rg_add ez34 r12 rl_1 (by decide)
                    have a36 : z34.toInt = v74_8.toInt + 1 := ai_add ez34 r12 tl_1 (by decide)
                    refine lv_iinc (v := z34) (lv' := [(8, .int z34), (7, .int v74_7), (9, .int z27), (0, .ref q), (1, .int p1), (2, .int v35_2), (3, .int v35_3), (4, .int v35_4), (5, .int v35_5), (6, .int v35_6)]) hx hb dX10_ask_146 hl (k := 9) rfl (by rw [ez34]; rfl) (by decide) rfl (fun ls hl => ?_)
                    refine lv_goto (tgt := 74) hx hb dX10_ask_149 (by decide) ?_
                    exact ih74 _ _ _ _ v74_7 z34 (fu_s hfu74 a36 (by decide)) hI hH (rg_w r35 (by decide)) (lv_sub hl [3, 4, 5, 6, 7, 8, 9, 1, 0] rfl)
                  · skip
                    have r37 : rg v74_7 (-2147483648) 2147483646 := rf_ltl (n_le c33) (rg_all _) (rg_all _) (by decide)
                    have r38 : rg z32 (-2147483647) 2147483647 := rf_ltr (n_le c33) (rg_all _) (rg_all _) (by decide)
                    refine lv_aload_n hx hb dX10_ask_132 rfl (lv_at hl 1 rfl) ?_
                    refine t_getX C hH hI.1 mq tq td_40 iX10 rfl 35 (by decide) wd1028 rfl (hI.rf kq_35) dX10_ask_133 ?_
                    refine lv_iload hx hb dX10_ask_136 (lv_at hl 0 rfl) ?_
                    refine t_ald C hH hI.1 mq_35 tq_35 td_62 (rg_in r28 (by decide)) dX10_ask_138 (fun z39v az39 _ => ?_)
                    refine lv_topi (fun z39 ez39 => ?_)
                    refine lv_goto (tgt := 144) hx hb dX10_ask_139 (by decide) ?_
                    refine lv_istore (lv' := [(7, .int z39), (9, .int z27), (0, .ref q), (1, .int p1), (2, .int v35_2), (3, .int v35_3), (4, .int v35_4), (5, .int v35_5), (6, .int v35_6), (8, .int v74_8)]) hx hb dX10_ask_144 hl (by decide) rfl (fun ls hl => ?_)
                    obtain ⟨z40, ez40⟩ : ∃ y : Int32, y = v74_8 + (1 : Int32) := ⟨_, rfl⟩
                    have r41 : rg z40 1 4 := rg_add ez40 r12 rl_1 (by decide)
                    have a42 : z40.toInt = v74_8.toInt + 1 := ai_add ez40 r12 tl_1 (by decide)
                    refine lv_iinc (v := z40) (lv' := [(8, .int z40), (7, .int z39), (9, .int z27), (0, .ref q), (1, .int p1), (2, .int v35_2), (3, .int v35_3), (4, .int v35_4), (5, .int v35_5), (6, .int v35_6)]) hx hb dX10_ask_146 hl (k := 9) rfl (by rw [ez40]; rfl) (by decide) rfl (fun ls hl => ?_)
                    refine lv_goto (tgt := 74) hx hb dX10_ask_149 (by decide) ?_
                    exact ih74 _ _ _ _ z39 z40 (fu_s hfu74 a42 (by decide)) hI hH (rg_w r41 (by decide)) (lv_sub hl [3, 4, 5, 6, 7, 8, 9, 1, 0] rfl)
                · skip
                  have r43 : rg r14 0 0 := rf_eql (c_eq c17) h16 rl_0 (by decide)
                  refine lv_goto (tgt := 146) hx hb dX10_ask_89 (by decide) ?_
                  obtain ⟨z44, ez44⟩ : ∃ y : Int32, y = v74_8 + (1 : Int32) := ⟨_, rfl⟩
                  have r45 : rg z44 1 4 := rg_add ez44 r12 rl_1 (by decide)
                  have a46 : z44.toInt = v74_8.toInt + 1 := ai_add ez44 r12 tl_1 (by decide)
                  refine lv_iinc (v := z44) (lv' := [(8, .int z44), (0, .ref q), (1, .int p1), (2, .int v35_2), (3, .int v35_3), (4, .int v35_4), (5, .int v35_5), (6, .int v35_6), (7, .int v74_7)]) hx hb dX10_ask_146 hl (k := 8) rfl (by rw [ez44]; rfl) (by decide) rfl (fun ls hl => ?_)
                  refine lv_goto (tgt := 74) hx hb dX10_ask_149 (by decide) ?_
                  exact ih74 _ _ _ _ v74_7 z44 (fu_s hfu74 a46 (by decide)) hI hH (rg_w r45 (by decide)) (lv_sub hl [1, 2, 3, 4, 5, 6, 7, 8, 0] rfl)
          refine lv_iload hx hb dX10_ask_47 (lv_at hl 7 rfl) ?_
          refine lv_bipush (v := (42 : Int32)) hx hb dX10_ask_49 (by decide) ?_
          refine lv_icmp_ge (tgt := 68) hx hb dX10_ask_51 (by decide) (fun c47 => ?_) (fun c47 => ?_)
          · skip
            have r48 : rg v47_7 42 42 := rf_ler (c_le c47) rl_42 r_v47_7 (by decide)
            refine lv_iconst (v := (0 : Int32)) hx hb dX10_ask_68 (by decide) ?_
            refine lv_istore (lv' := [(7, .int (0 : Int32)), (0, .ref q), (1, .int p1), (2, .int v35_2), (3, .int v35_3), (4, .int v35_4), (5, .int v35_5), (6, .int v35_6)]) hx hb dX10_ask_69 hl (by decide) rfl (fun ls hl => ?_)
            refine lv_iconst (v := (0 : Int32)) hx hb dX10_ask_71 (by decide) ?_
            refine lv_istore (lv' := [(8, .int (0 : Int32)), (7, .int (0 : Int32)), (0, .ref q), (1, .int p1), (2, .int v35_2), (3, .int v35_3), (4, .int v35_4), (5, .int v35_5), (6, .int v35_6)]) hx hb dX10_ask_72 hl (by decide) rfl (fun ls hl => ?_)
            exact cut74 5 _ _ _ _ (0 : Int32) (0 : Int32) (fu_i 5 rl_0 (by decide)) hI hH (rg_w rl_0 (by decide)) (lv_sub hl [2, 3, 4, 5, 6, 7, 8, 1, 0] rfl)
          · skip
            have r49 : rg v47_7 0 41 := rf_ltl (n_le c47) r_v47_7 rl_42 (by decide)
            refine lv_aload_n hx hb dX10_ask_54 rfl (lv_at hl 0 rfl) ?_
            refine t_getX C hH hI.1 mq tq td_40 iX10 rfl 35 (by decide) wd1028 rfl (hI.rf kq_35) dX10_ask_55 ?_
            refine lv_iload hx hb dX10_ask_58 (lv_at hl 7 rfl) ?_
            refine lv_iconst (v := (0 : Int32)) hx hb dX10_ask_60 (by decide) ?_
            refine t_ast C hH hI mq_35 tq_35 (by decide) td_62 (rg_in r49 (by decide)) (fun _ _ _ => trivial) dX10_ask_61 (fun f50 H locs hH hI bf50 uf50 => ?_)
            obtain ⟨z51, ez51⟩ : ∃ y : Int32, y = v47_7 + (1 : Int32) := ⟨_, rfl⟩
            have r52 : rg z51 1 42 := rg_add ez51 r49 rl_1 (by decide)
            have a53 : z51.toInt = v47_7.toInt + 1 := ai_add ez51 r49 tl_1 (by decide)
            refine lv_iinc (v := z51) (lv' := [(7, .int z51), (0, .ref q), (1, .int p1), (2, .int v35_2), (3, .int v35_3), (4, .int v35_4), (5, .int v35_5), (6, .int v35_6)]) hx hb dX10_ask_62 hl (k := 7) rfl (by rw [ez51]; rfl) (by decide) rfl (fun ls hl => ?_)
            refine lv_goto (tgt := 47) hx hb dX10_ask_65 (by decide) ?_
            exact ih47 _ _ _ _ z51 (fu_s hfu47 a53 (by decide)) hI hH (rg_w r52 (by decide)) r47_v35_6 (lv_sub hl [1, 2, 3, 4, 5, 6, 7, 0] rfl)
      refine lv_iload hx hb dX10_ask_35 (lv_at hl 6 rfl) ?_
      refine lv_aload_n hx hb dX10_ask_37 rfl (lv_at hl 0 rfl) ?_
      refine t_Vi C hO hl.1 hA hH hI.1 (As := []) (rest := [.int v35_6]) (t_X10_flights l E J τ L fh35 hI.1 mq tq) my_X10_flights wd752 mq tq td_40 rfl rfl rfl (Nat.le_of_ble_eq_true rfl) ⟨Nat.le_of_ble_eq_true rfl, Nat.le_of_ble_eq_true rfl⟩ ⟨rfl, rfl⟩ dX10_ask_38 (fun r55 L1 f54 H locs hp hH => ?_)
      obtain ⟨rfl, s56, h57⟩ := hp
      have hJ := hI
      have hI := hI.call s56 (by decide)
      refine lv_icmp_ge (tgt := 176) hx hb dX10_ask_41 (by decide) (fun c58 => ?_) (fun c58 => ?_)
      · skip
        refine lv_iload hx hb dX10_ask_176 (lv_at hl 4 rfl) ?_
        exact g_iret C hr hH (Nat.zero_le _) (Nat.zero_le _) dX10_ask_178 ⟨rfl, hI, (rg_w r_v35_4 (by decide))⟩
      · skip
        have r59 : rg v35_6 0 3 := rf_ltl (n_le c58) r_v35_6 h57.1 (by decide)
        have r60 : rg r55 1 4 := rf_ltr (n_le c58) r_v35_6 h57.1 (by decide)
        refine lv_iconst (v := (0 : Int32)) hx hb dX10_ask_44 (by decide) ?_
        refine lv_istore (lv' := [(7, .int (0 : Int32)), (0, .ref q), (1, .int p1), (2, .int v35_2), (3, .int v35_3), (4, .int v35_4), (5, .int v35_5), (6, .int v35_6)]) hx hb dX10_ask_45 hl (by decide) rfl (fun ls hl => ?_)
        exact cut47 43 _ _ _ _ (0 : Int32) (fu_i 43 rl_0 (by decide)) hI hH (rg_w rl_0 (by decide)) r59 (lv_sub hl [1, 2, 3, 4, 5, 6, 7, 0] rfl)
  refine lv_aload_n hx hb dX10_ask_0 rfl (lv_at hl 0 rfl) ?_
  refine lv_iconst (v := (0 : Int32)) hx hb dX10_ask_1 (by decide) ?_
  refine t_put C hH hI mq tq (by decide) td_40 iX10 tyX10 tyX10_ok nmX10 rfl 0 (by decide) wd855 rfl rfl (v := .int (0 : Int32)) rfl rfl rfl ⟨_, rfl, (rg_w rl_0 (by decide))⟩ (fun _ h => nomatch h) dX10_ask_2 (fun f61 H locs hH hI nf61 of61 bf61 => ?_)
  refine lv_aload_n hx hb dX10_ask_5 rfl (lv_at hl 0 rfl) ?_
  refine lv_iload_n hx hb dX10_ask_6 rfl (lv_at hl 1 rfl) ?_
  refine t_Vi C hO hl.1 hA hH hI.1 (As := [.int p1]) (rest := []) (t_X10_whyNotLaws l E J τ L f61 hI.1 mq tq p1 (hl0.S hI rfl) (hh.S hI rfl) hR (hm0.S hI rfl) (hc0.S hI rfl)) my_X10_whyNotLaws wd1015 mq tq td_40 rfl rfl rfl (Nat.le_of_ble_eq_true rfl) ⟨Nat.le_of_ble_eq_true rfl, Nat.le_of_ble_eq_true rfl⟩ ⟨rfl, rfl⟩ dX10_ask_7 (fun r63 L1 f62 H locs hp hH => ?_)
  obtain ⟨rfl, s64, h65⟩ := hp
  have hJ := hI
  have hI := hI.call s64 (by decide)
  refine lv_istore_n (lv' := [(2, .int r63), (0, .ref q), (1, .int p1)]) hx hb dX10_ask_10 rfl hl (by decide) rfl (fun ls hl => ?_)
  refine lv_iload_n hx hb dX10_ask_11 rfl (lv_at hl 0 rfl) ?_
  refine lv_if_eq (tgt := 17) hx hb dX10_ask_12 (by decide) (fun c66 => ?_) (fun c66 => ?_)
  · skip
    have r67 : rg r63 0 0 := rf_eql (c_eq c66) h65.1 rl_0 (by decide)
    have r68 : rg p1 0 3 := h65.2.1 c66
    have F69 := h65.2.2 c66
    refine lv_aload_n hx hb dX10_ask_17 rfl (lv_at hl 1 rfl) ?_
    refine lv_iload_n hx hb dX10_ask_18 rfl (lv_at hl 2 rfl) ?_
    refine t_Vi C hO hl.1 hA hH hI.1 (As := [.int p1]) (rest := []) (t_X10_lawsOf l E J τ L f62 hI.1 mq tq p1 r68 (hh.S hI rfl) F69.2 (hm0.S hI rfl) (hc0.S hI rfl) F69.1) my_X10_lawsOf wd1019 mq tq td_40 rfl rfl rfl (Nat.le_of_ble_eq_true rfl) ⟨Nat.le_of_ble_eq_true rfl, Nat.le_of_ble_eq_true rfl⟩ ⟨rfl, rfl⟩ dX10_ask_19 (fun r71 L1 f70 H locs hp hH => ?_)
    obtain ⟨rfl, s72, h73⟩ := hp
    have hI := hI.call s72 (by decide)
    refine lv_istore_n (lv' := [(3, .int r71), (2, .int r63), (0, .ref q), (1, .int p1)]) hx hb dX10_ask_22 rfl hl (by decide) rfl (fun ls hl => ?_)
    refine lv_iconst (v := (-1 : Int32)) hx hb dX10_ask_23 (by decide) ?_
    refine lv_istore (lv' := [(4, .int (-1 : Int32)), (3, .int r71), (2, .int r63), (0, .ref q), (1, .int p1)]) hx hb dX10_ask_24 hl (by decide) rfl (fun ls hl => ?_)
    refine lv_iload_n hx hb dX10_ask_26 rfl (lv_at hl 1 rfl) ?_
    refine t_Si C hO hl.1 hA hH (As := [.int r71]) (rest := []) (t_X10_sizeOf l E J τ L f70 hI.1 r71 (rg_w h73 (by decide))) my_X10_sizeOf wd927 rfl rfl (Nat.le_of_ble_eq_true rfl) ⟨Nat.le_of_ble_eq_true rfl, Nat.le_of_ble_eq_true rfl⟩ ⟨rfl, rfl⟩ dX10_ask_27 (fun r75 L1 f74 H locs hp hH => ?_)
    obtain ⟨rfl, s76, h77⟩ := hp
    have hI := hI.call s76 (by decide)
    refine lv_istore (lv' := [(5, .int r75), (4, .int (-1 : Int32)), (3, .int r71), (2, .int r63), (0, .ref q), (1, .int p1)]) hx hb dX10_ask_30 hl (by decide) rfl (fun ls hl => ?_)
    refine lv_iconst (v := (0 : Int32)) hx hb dX10_ask_32 (by decide) ?_
    refine lv_istore (lv' := [(6, .int (0 : Int32)), (5, .int r75), (4, .int (-1 : Int32)), (3, .int r71), (2, .int r63), (0, .ref q), (1, .int p1)]) hx hb dX10_ask_33 hl (by decide) rfl (fun ls hl => ?_)
    exact cut35 5 _ _ _ _ r63 r71 (-1 : Int32) r75 (0 : Int32) (fu_i 5 rl_0 (by decide)) hI hH r67 h73 (rg_w rl_m1 (by decide)) (rg_w rl_0 (by decide)) r68 F69.2 (lv_sub hl [5, 6, 4, 3, 2, 1, 0] rfl)
  · skip
    have r78 : rg r63 (-6) (-1) := rf_nel (n_eq c66) h65.1 rl_0 (by decide)
    refine lv_iload_n hx hb dX10_ask_15 rfl (lv_at hl 0 rfl) ?_
    exact g_iret C hr hH (Nat.zero_le _) (Nat.zero_le _) dX10_ask_16 ⟨rfl, hI, (rg_w r78 (by decide))⟩
set_option maxHeartbeats 4000000 in
set_option maxRecDepth 100000 in
theorem t_X10_odds (l : Launch) (E : gE) (J : Nat → Nat) (τ : Nat → Nat) (L : List Nat) (f : gF) (hI : tI E L τ f) {q : Nat} (mq : q ∈ L) (tq : τ q = 40) (p1 : Int32) (p2 : Int32) (p3 : Int32) {vl vh : Nat → Int32} (hl0 : isA E L τ f 46 5 vl) (hh : isA E L τ f 47 45 vh) (hR : rowOK vl vh 0) {vm : Nat → Int32} {vc : Nat → Int64} (hm0 : isA E L τ f 42 4 vm) (hc0 : isJ E L τ f 43 240 vc) : tMi l E J yX10_odds cX10_odds 5 .int (gRm (67) 0 0) [.ref q, .int p1, .int p2, .int p3] L f (tPi E L τ [40, 52, 53, 54, 55, 63] f (fun r f1 => rg r (-2147483648) 2147483647)) := by
  refine tMi.intro (by decide) (Nat.le_of_ble_eq_true rfl) ?_
  intro p e s m below meth c A ls C hr hA hO hH hl
  have C : gC E cX10_odds 5 RX10 p s m _ meth c := C
  have hl : lv_has ls 5 [(0, .ref q), (1, .int p1), (2, .int p2), (3, .int p3)] := hl
  have hx := C.1
  have hb := C.2.1
  have hI := hI.S [40, 52, 53, 54, 55, 63]
  obtain ⟨q_38, mq_38, tq_38, kq_38⟩ := t_fldr hI.1 mq tq td_40 (k := 38) rfl
  have cut29 : ∀ (fh29 : gF) (H : Heap) (locs : List Loc) (ls : Array Slot) , tS E L τ [40, 52, 53, 54, 55, 63] f fh29 → gH E A L fh29 s.heap H locs → lv_has ls 5 [(0, .ref q), (1, .int p1), (2, .int p2), (3, .int p3)] → W p l e (gRm (67) 0 0) s m [.ref q, .int p1, .int p2, .int p3].toArray below meth c H locs 0 0 (MQ below (gQi E A (tPi E L τ [40, 52, 53, 54, 55, 63] f (fun r f1 => rg r (-2147483648) 2147483647))) [.ref q, .int p1, .int p2, .int p3].toArray s (gRm (67) 0 0).cells (gRm (67) 0 0).slots A) (F0 m 29 ls []) := by
    intro fh29 H locs ls hI hH hl
    refine lv_bipush (v := (-2 : Int32)) hx hb dX10_odds_29 (by decide) ?_
    refine lv_istore (lv' := [(4, .int (-2 : Int32)), (0, .ref q), (1, .int p1), (2, .int p2), (3, .int p3)]) hx hb dX10_odds_31 hl (by decide) rfl (fun ls hl => ?_)
    refine lv_iload hx hb dX10_odds_33 (lv_at hl 0 rfl) ?_
    refine lv_if_eq (tgt := 41) hx hb dX10_odds_35 (by decide) (fun h => absurd h (by decide)) (fun _ => ?_)
    refine lv_iload hx hb dX10_odds_38 (lv_at hl 0 rfl) ?_
    exact g_iret C hr hH (Nat.zero_le _) (Nat.zero_le _) dX10_odds_40 ⟨rfl, hI, (rg_w rl_m2 (by decide))⟩
  refine lv_aload_n hx hb dX10_odds_0 rfl (lv_at hl 0 rfl) ?_
  refine lv_iconst (v := (0 : Int32)) hx hb dX10_odds_1 (by decide) ?_
  refine t_put C hH hI mq tq (by decide) td_40 iX10 tyX10 tyX10_ok nmX10 rfl 0 (by decide) wd855 rfl rfl (v := .int (0 : Int32)) rfl rfl rfl ⟨_, rfl, (rg_w rl_0 (by decide))⟩ (fun _ h => nomatch h) dX10_odds_2 (fun f1 H locs hH hI nf1 of1 bf1 => ?_)
  refine lv_aload_n hx hb dX10_odds_5 rfl (lv_at hl 0 rfl) ?_
  refine lv_iload_n hx hb dX10_odds_6 rfl (lv_at hl 2 rfl) ?_
  refine lv_i2l (v := (p2).toInt64) hx hb dX10_odds_7 rfl ?_
  refine t_Vi C hO hl.1 hA hH hI.1 (As := [.long (p2).toInt64]) (rest := []) (t_X10_isMember l E J τ L f1 hI.1 mq tq ((p2).toInt64)) my_X10_isMember wd764 mq tq td_40 rfl rfl rfl (Nat.le_of_ble_eq_true rfl) ⟨Nat.le_of_ble_eq_true rfl, Nat.le_of_ble_eq_true rfl⟩ ⟨rfl, rfl⟩ dX10_odds_8 (fun r3 L1 f2 H locs hp hH => ?_)
  obtain ⟨rfl, s4, h5⟩ := hp
  have hJ := hI
  have hI := hI.call s4 (by decide)
  have k6 : fld f2 q 0 (.int (0 : Int32)) := fld.eq nf1 (s4.fr q mq (t_lim tq rfl))
  have w7 := h5.2.2 vl vh (hl0.S hJ rfl) (hh.S hJ rfl) hR
  refine lv_if_eq (tgt := 29) hx hb dX10_odds_11 (by decide) (fun c8 => ?_) (fun c8 => ?_)
  · skip
    have r9 : rg r3 0 0 := rf_eql (c_eq c8) h5.1 rl_0 (by decide)
    exact cut29 _ _ _ _ hI hH (lv_sub hl [0, 1, 2, 3] rfl)
  · skip
    have r10 : rg r3 1 1 := rf_nel (n_eq c8) h5.1 rl_0 (by decide)
    have r11 : rg p2 0 5 := is_rg (h5.2.1 c8) (rg_all _) (by decide)
    have F12 : 1 ≤ (vh 0).toInt := w7 c8
    refine lv_iload_n hx hb dX10_odds_14 rfl (lv_at hl 3 rfl) ?_
    refine t_Si C hO hl.1 hA hH (As := [.int p3]) (rest := []) (t_X10_isHalf l E J τ L f2 hI.1 p3) my_X10_isHalf wd910 rfl rfl (Nat.le_of_ble_eq_true rfl) ⟨Nat.le_of_ble_eq_true rfl, Nat.le_of_ble_eq_true rfl⟩ ⟨rfl, rfl⟩ dX10_odds_15 (fun r14 L1 f13 H locs hp hH => ?_)
    obtain ⟨rfl, s15, h16⟩ := hp
    have hI := hI.call s15 (by decide)
    have k17 : fld f13 q 0 (.int (0 : Int32)) := fld.eq k6 (s15.fr q mq (t_lim tq rfl))
    refine lv_if_eq (tgt := 29) hx hb dX10_odds_18 (by decide) (fun c18 => ?_) (fun c18 => ?_)
    · skip
      have r19 : rg r14 0 0 := rf_eql (c_eq c18) h16.1 rl_0 (by decide)
      exact cut29 _ _ _ _ hI hH (lv_sub hl [0, 1, 2, 3] rfl)
    · skip
      have r20 : rg r14 1 1 := rf_nel (n_eq c18) h16.1 rl_0 (by decide)
      have r21 : rg p3 0 1 := h16.2 c18
      refine lv_aload_n hx hb dX10_odds_21 rfl (lv_at hl 0 rfl) ?_
      refine lv_iload_n hx hb dX10_odds_22 rfl (lv_at hl 1 rfl) ?_
      refine t_Vi C hO hl.1 hA hH hI.1 (As := [.int p1]) (rest := []) (t_X10_whyNotBegan l E J τ L f13 hI.1 mq tq p1 (hl0.S hI rfl) (hh.S hI rfl) hR (hm0.S hI rfl) (hc0.S hI rfl)) my_X10_whyNotBegan wd1023 mq tq td_40 rfl rfl rfl (Nat.le_of_ble_eq_true rfl) ⟨Nat.le_of_ble_eq_true rfl, Nat.le_of_ble_eq_true rfl⟩ ⟨rfl, rfl⟩ dX10_odds_23 (fun r23 L1 f22 H locs hp hH => ?_)
      obtain ⟨rfl, s24, h25⟩ := hp
      have hJ := hI
      have hI := hI.call s24 (by decide)
      have k26 : fld f22 q 0 (.int (0 : Int32)) := fld.eq k17 (s24.fr q mq (t_lim tq rfl))
      refine lv_goto (tgt := 31) hx hb dX10_odds_26 (by decide) ?_
      refine lv_istore (lv' := [(4, .int r23), (0, .ref q), (1, .int p1), (2, .int p2), (3, .int p3)]) hx hb dX10_odds_31 hl (by decide) rfl (fun ls hl => ?_)
      refine lv_iload hx hb dX10_odds_33 (lv_at hl 0 rfl) ?_
      refine lv_if_eq (tgt := 41) hx hb dX10_odds_35 (by decide) (fun c27 => ?_) (fun c27 => ?_)
      · skip
        have r28 : rg r23 0 0 := rf_eql (c_eq c27) h25.1 rl_0 (by decide)
        have r29 : rg p1 0 3 := h25.2.1 c27
        have F30 := h25.2.2 c27
        refine lv_aload_n hx hb dX10_odds_41 rfl (lv_at hl 1 rfl) ?_
        refine lv_iload_n hx hb dX10_odds_42 rfl (lv_at hl 2 rfl) ?_
        refine t_Vv C hO hl.1 hA hH hI.1 (As := [.int p1]) (rest := []) (t_X10_laysBegan l E J τ L f22 hI.1 mq tq p1 r29 (hh.S hI rfl) F30.2 (hm0.S hI rfl) (hc0.S hI rfl) F30.1) my_X10_laysBegan wd1011 mq tq td_40 rfl rfl rfl (Nat.le_of_ble_eq_true rfl) ⟨Nat.le_of_ble_eq_true rfl, Nat.le_of_ble_eq_true rfl⟩ ⟨rfl, rfl⟩ dX10_odds_43 (fun L1 f31 H locs hp hH => ?_)
        obtain ⟨rfl, s33, h34⟩ := hp
        have hI := hI.call s33 (by decide)
        refine lv_aload_n hx hb dX10_odds_46 rfl (lv_at hl 1 rfl) ?_
        obtain ⟨z35, rz35, kz35⟩ := t_fldi hI.1 mq tq td_40 (k := 36) rfl
        refine t_getX C hH hI.1 mq tq td_40 iX10 rfl 36 (by decide) wd1004 rfl kz35 dX10_odds_47 ?_
        refine lv_if_ne (tgt := 57) hx hb dX10_odds_50 (by decide) (fun c36 => ?_) (fun c36 => ?_)
        · skip
          refine lv_aload_n hx hb dX10_odds_57 rfl (lv_at hl 1 rfl) ?_
          refine t_getX C hH hI.1 mq tq td_40 iX10 rfl 38 (by decide) wd999 rfl (hI.rf kq_38) dX10_odds_58 ?_
          refine lv_iload_n hx hb dX10_odds_61 rfl (lv_at hl 3 rfl) ?_
          refine t_ald C hH hI.1 mq_38 tq_38 td_63 (rg_in r11 (by decide)) dX10_odds_62 (fun z37v az37 _ => ?_)
          refine lv_topi (fun z37 ez37 => ?_)
          refine lv_aload_n hx hb dX10_odds_63 rfl (lv_at hl 1 rfl) ?_
          refine t_getX C hH hI.1 mq tq td_40 iX10 rfl 36 (by decide) wd1004 rfl kz35 dX10_odds_64 ?_
          refine lv_iload_n hx hb dX10_odds_67 rfl (lv_at hl 4 rfl) ?_
          refine t_Si C hO hl.1 hA hH (As := [.int z37, .int z35, .int p3]) (rest := []) (t_X10_part l E J τ L f31 hI.1 z37 z35 p3 c36) my_X10_part wd956 rfl rfl (Nat.le_of_ble_eq_true rfl) ⟨Nat.le_of_ble_eq_true rfl, Nat.le_of_ble_eq_true rfl⟩ ⟨rfl, rfl⟩ dX10_odds_68 (fun r39 L1 f38 H locs hp hH => ?_)
          obtain ⟨rfl, s40, h41⟩ := hp
          have hI := hI.call s40 (by decide)
          have k42 : fld f38 q 36 (.int z35) := fld.eq kz35 (s40.fr q mq (t_lim tq rfl))
          exact g_iret C hr hH (Nat.zero_le _) (Nat.zero_le _) dX10_odds_71 ⟨rfl, hI, h41⟩
        · skip
          have r43 : rg z35 0 0 := rf_eql (c_eq c36) rz35 rl_0 (by decide)
          refine lv_iconst (v := (-1 : Int32)) hx hb dX10_odds_53 (by decide) ?_
          refine lv_goto (tgt := 71) hx hb dX10_odds_54 (by decide) ?_
          exact g_iret C hr hH (Nat.zero_le _) (Nat.zero_le _) dX10_odds_71 ⟨rfl, hI, (rg_w rl_m1 (by decide))⟩
      · skip
        have r44 : rg r23 (-6) (-1) := rf_nel (n_eq c27) h25.1 rl_0 (by decide)
        refine lv_iload hx hb dX10_odds_38 (lv_at hl 0 rfl) ?_
        exact g_iret C hr hH (Nat.zero_le _) (Nat.zero_le _) dX10_odds_40 ⟨rfl, hI, (rg_w r44 (by decide))⟩
