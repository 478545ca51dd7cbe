theorem arr_inj {f : gF} {a n n2 : Nat} {cA cB : ClassId} {v u : Nat → Int32} (h : f a = .inl (cA, n, .inl v)) (h2 : f a = .inl (cB, n2, .inl u)) : v = u := by
  rw [h] at h2
  cases h2
  rfl
theorem arr_injJ {f : gF} {a n n2 : Nat} {cA cB : ClassId} {v u : Nat → Int64} (h : f a = .inl (cA, n, .inr (.inl v))) (h2 : f a = .inl (cB, n2, .inr (.inl u))) : v = u := by
  rw [h] at h2
  cases h2
  rfl
theorem arr_injQ {f : gF} {a n n2 : Nat} {cA cB : ClassId} {v u : Nat → Option Nat} (h : f a = .inl (cA, n, .inr (.inr (.inr (.inr v))))) (h2 : f a = .inl (cB, n2, .inr (.inr (.inr (.inr u))))) : v = u := by
  rw [h] at h2
  cases h2
  rfl
theorem fld_injR {f : gF} {a k : Nat} {v u : Nat} (h : fld f a k (.ref v)) (h2 : fld f a k (.ref u)) : v = u := by
  obtain ⟨c1, f1, h1, h3⟩ := h
  obtain ⟨c2, f2, g1, g3⟩ := h2
  rw [h1] at g1
  cases g1
  rw [h3] at g3
  cases g3
  rfl
theorem t_fldr {E : gE} {L : List Nat} {τ : Nat → Nat} {f : gF} {a t ci k u : Nat} {ds : List gFd} (hI : tI E L τ f) (ha : a ∈ L) (ht : τ a = t) (hd : tTab[t]? = some (.inl (ci, ds))) (hr : ds[k]? = some (.inr (.inl u))) : ∃ b : Nat, b ∈ L ∧ τ b = u ∧ fld f a k (.ref b) := by
  obtain ⟨fs, hf, ho⟩ := t_obj hI ha ht hd
  obtain ⟨v, hv, b, rfl, hb, hu⟩ := ho.2 k _ hr
  exact ⟨b, hb, hu, ci, fs, hf, hv⟩
/-- all arrays of a type have these contents -/
def isA (E : gE) (L : List Nat) (τ : Nat → Nat) (f : gF) (t n : Nat) (v : Nat → Int32) : Prop := ∀ a ∈ L, τ a = t → f a = .inl (E.2.2 1, n, .inl v)
def isJ (E : gE) (L : List Nat) (τ : Nat → Nat) (f : gF) (t n : Nat) (v : Nat → Int64) : Prop := ∀ a ∈ L, τ a = t → f a = .inl (E.2.2 2, n, .inr (.inl v))
def isZ (E : gE) (L : List Nat) (τ : Nat → Nat) (f : gF) (t n : Nat) (v : Nat → Int32) : Prop := ∀ a ∈ L, τ a = t → f a = .inl (E.2.2 3, n, .inl v)
theorem isA.S {E : gE} {L : List Nat} {τ : Nat → Nat} {ws : List Nat} {f0 f : gF} {t n : Nat} {v : Nat → Int32} (h : isA E L τ f0 t n v) (hS : tS E L τ ws f0 f) (s : ws.contains t = false) : isA E L τ f t n v := fun a ha ht => (hS.fr a ha (t_lim ht s)).trans (h a ha ht)
theorem isJ.S {E : gE} {L : List Nat} {τ : Nat → Nat} {ws : List Nat} {f0 f : gF} {t n : Nat} {v : Nat → Int64} (h : isJ E L τ f0 t n v) (hS : tS E L τ ws f0 f) (s : ws.contains t = false) : isJ E L τ f t n v := fun a ha ht => (hS.fr a ha (t_lim ht s)).trans (h a ha ht)
theorem isZ.S {E : gE} {L : List Nat} {τ : Nat → Nat} {ws : List Nat} {f0 f : gF} {t n : Nat} {v : Nat → Int32} (h : isZ E L τ f0 t n v) (hS : tS E L τ ws f0 f) (s : ws.contains t = false) : isZ E L τ f t n v := fun a ha ht => (hS.fr a ha (t_lim ht s)).trans (h a ha ht)
theorem fld.S {E : gE} {L : List Nat} {τ : Nat → Nat} {ws : List Nat} {f0 f : gF} {a k t : Nat} {v : Value} (h : fld f0 a k v) (hS : tS E L τ ws f0 f) (ha : a ∈ L) (ht : τ a = t) (s : ws.contains t = false) : fld f a k v := h.eq (hS.fr a ha (t_lim ht s))
/-! small facts for single methods of the class -/
theorem div_eq {x y z : Int32} (e : z = x / y) (h0 : 0 ≤ x.toInt) (hy : 1 ≤ y.toInt) : z.toInt = x.toInt / y.toInt := by
  have h1 := x.toInt_lt
  have h3 : 0 ≤ x.toInt / y.toInt := Int.ediv_nonneg h0 (by omega)
  have h4 : x.toInt / y.toInt ≤ x.toInt := Int.ediv_le_self _ h0
  rw [e, Int32.toInt_div, Int.tdiv_eq_ediv_of_nonneg h0, bmI (by omega) (by omega)]
theorem mul_eq {x y z : Int32} {a b c d : Int} (e : z = x * y) (hx : rg x a b) (hy : rg y c d) (s : (decide (0 ≤ a) && decide (0 ≤ c) && decide (b * d ≤ 2147483647)) = true) : z.toInt = x.toInt * y.toInt := by
  simp only [Bool.and_eq_true, decide_eq_true_eq] at s
  unfold rg at *
  obtain ⟨⟨s1, s2⟩, s5⟩ := s
  have h2 : x.toInt * y.toInt ≤ b * d := Int.mul_le_mul hx.2 hy.2 (Int.le_trans s2 hy.1) (Int.le_trans s1 (Int.le_trans hx.1 hx.2))
  have h3 : 0 ≤ x.toInt * y.toInt := Int.mul_nonneg (by omega) (by omega)
  rw [e, Int32.toInt_mul, bmI (by omega) (by omega)]
theorem cw_lt {v r w h : Int32} (p : v.toInt < r.toInt) (e : r = w * h) (hw : rg w 0 5) (hh : rg h 0 4) : v.toInt < w.toInt * h.toInt := by
  rw [mul_eq e hw hh (by decide)] at p
  exact p
theorem nb_pos {c : Int} {w h : Int32} (hc : 0 ≤ c) (hcw : c < w.toInt * h.toInt) (hw : rg w 0 5) : 1 ≤ w.toInt := by
  unfold rg at hw
  rcases Int.lt_or_le w.toInt 1 with q | q
  · have e : w.toInt = 0 := by omega
    rw [e, Int.zero_mul] at hcw
    omega
  · exact q
theorem nb_lin {c W H q : Int} (hq : q = c / W) (h0 : 0 ≤ c) (hW1 : 1 ≤ W) (hW5 : W ≤ 5) (hH0 : 0 ≤ H) (hH4 : H ≤ 4) (hcw : c < W * H) : (0 < q → W ≤ c) ∧ (c - q * W < W - 1 → c + 1 ≤ 19) ∧ (q < H - 1 → c + W ≤ 19) ∧ (0 < c - q * W → 1 ≤ c) := by
  rcases (show W = 1 ∨ W = 2 ∨ W = 3 ∨ W = 4 ∨ W = 5 by omega) with rfl | rfl | rfl | rfl | rfl <;> refine ⟨fun _ => ?_, fun _ => ?_, fun _ => ?_, fun _ => ?_⟩ <;> omega
theorem nb_col {c row w z3 col : Int32} {q : Int} (hc : rg c 0 19) (hw : rg w 0 5) (hw1 : 1 ≤ w.toInt) (er : row.toInt = c.toInt / w.toInt) (e3 : z3 = row * w) (ec : col = c - z3) : col.toInt = c.toInt - row.toInt * w.toInt := by
  have h0 : 0 ≤ c.toInt := hc.1
  have h3 : 0 ≤ c.toInt / w.toInt := Int.ediv_nonneg h0 (by omega)
  have h4 : c.toInt / w.toInt ≤ c.toInt := Int.ediv_le_self _ h0
  have hr : rg row 0 19 := ⟨by omega, by have := hc.2; omega⟩
  have e3' := mul_eq e3 hr hw (by decide)
  have h5 : c.toInt / w.toInt * w.toInt ≤ c.toInt := Int.ediv_mul_le _ (by omega)
  have h6 : 0 ≤ c.toInt / w.toInt * w.toInt := Int.mul_nonneg h3 (by omega)
  have h7 := hc.2
  rw [ec, Int32.toInt_sub, e3', er, bmI (by omega) (by omega)]
def actOK (f : gF) (q : Nat) : Prop := ∃ a : Int32, fld f q 9 (.int a) ∧ rg a 0 39
/-- bits -/
def bcE (x : Int32) : Int32 :=
  let us := fun (a b : Int32) => (a.toUInt32 >>> (b.toUInt32 &&& Int32.toUInt32 31)).toInt32
  let a := x - (us x 1 &&& 1431655765)
  let b := (a &&& 858993459) + (us a 2 &&& 858993459)
  let c := (b + us b 4) &&& 252645135
  let d := c + us c 8
  let e := d + us d 16
  e &&& 63
def pcN (n : Nat) : Nat := n % 2 + n / 2 % 2 + n / 4 % 2 + n / 8 % 2 + n / 16 % 2 + n / 32 % 2
theorem bc_all : ∀ n : Fin 64, bcE (Int32.ofNat n.val) = Int32.ofNat (pcN n.val) := by decide +kernel
theorem rg_nat {x : Int32} {b : Int} (h : rg x 0 b) : ∃ n : Nat, x = Int32.ofNat n ∧ (n : Int) = x.toInt ∧ n < 2 ^ 31 := by
  unfold rg at h
  have h2 := x.toInt_lt
  refine ⟨x.toInt.toNat, ?_, by omega, by omega⟩
  exact Int32.toInt_inj.mp (by rw [Int32.toInt_ofNat_of_lt (by omega)]; omega)
theorem pc_6 : ∀ n : Fin 64, pcN n.val ≤ 6 := by decide +kernel
theorem pc_5 : ∀ n : Fin 63, pcN n.val ≤ 5 := by decide +kernel
theorem bc_6 {x r : Int32} (h : rg x 0 63) (e : r = bcE x) : rg r 0 6 := by
  obtain ⟨n, hx, hn, -⟩ := rg_nat h
  have h63 : n < 64 := by have := h.2; omega
  have h1 := bc_all ⟨n, h63⟩
  have h2 := pc_6 ⟨n, h63⟩
  simp only at h1 h2
  rw [e, hx, h1]
  unfold rg
  rw [Int32.toInt_ofNat_of_lt (by omega)]
  omega
theorem bc_5 {x r : Int32} (h : rg x 0 62) (e : r = bcE x) : rg r 0 5 := by
  obtain ⟨n, hx, hn, -⟩ := rg_nat h
  have h63 : n < 63 := by have := h.2; omega
  have h1 := bc_all ⟨n, by omega⟩
  have h2 := pc_5 ⟨n, h63⟩
  simp only at h1 h2
  rw [e, hx, h1]
  unfold rg
  rw [Int32.toInt_ofNat_of_lt (by omega)]
  omega
theorem hb_all : ∀ i : Fin 6, ((63 : Int32) >>> (Int32.ofNat i.val &&& 31)) &&& 1 = 1 := by decide +kernel
theorem hb_62 {x i z1 z2 : Int32} (hx : rg x 0 63) (hi : rg i 0 5) (e1 : z1 = x >>> (i &&& 31)) (e2 : z2 = z1 &&& 1) (h : z2 = 0) : rg x 0 62 := by
  obtain ⟨n, hn, hn2, -⟩ := rg_nat hi
  have h6 : n < 6 := by have := hi.2; omega
  unfold rg at *
  rcases Int.lt_or_le x.toInt 63 with q | q
  · omega
  · have e : x = 63 := Int32.toInt_inj.mp (by rw [show (63 : Int32).toInt = 63 from by decide]; omega)
    have h2 := hb_all ⟨n, h6⟩
    simp only at h2
    rw [e2, e1, e, hn, h2] at h
    exact absurd h (by decide)
theorem nbr0 {c w z : Int32} (hc : rg c 0 19) (hw : rg w 0 5) (h : w.toInt ≤ c.toInt) (ez : z = c - w) : rg z (-1) 19 := by
  unfold rg at *
  rw [ez, Int32.toInt_sub, bmI (by omega) (by omega)]
  omega
theorem nbr1 {c z : Int32} (hc : rg c 0 19) (h : c.toInt + 1 ≤ 19) (ez : z = c + 1) : rg z (-1) 19 := by
  have t1 : (1 : Int32).toInt = 1 := by decide
  unfold rg at *
  rw [ez, Int32.toInt_add, t1, bmI (by omega) (by omega)]
  omega
theorem nbr2 {c w z : Int32} (hc : rg c 0 19) (hw : rg w 0 5) (h : c.toInt + w.toInt ≤ 19) (ez : z = c + w) : rg z (-1) 19 := by
  unfold rg at *
  rw [ez, Int32.toInt_add, bmI (by omega) (by omega)]
  omega
theorem nbr3 {c z : Int32} (hc : rg c 0 19) (h : 1 ≤ c.toInt) (ez : z = c - 1) : rg z (-1) 19 := by
  have t1 : (1 : Int32).toInt = 1 := by decide
  unfold rg at *
  rw [ez, Int32.toInt_sub, t1, bmI (by omega) (by omega)]
  omega
theorem nb_s1 {w z : Int32} {h : Int} (hw : rg w 0 h) (s : decide (h ≤ 5) = true) (e : z = w - 1) : z.toInt = w.toInt - 1 := by
  have t1 : (1 : Int32).toInt = 1 := by decide
  simp only [decide_eq_true_eq] at s
  unfold rg at *
  rw [e, Int32.toInt_sub, t1, bmI (by omega) (by omega)]
theorem ai_bk {x z : Int32} {d a b c e lo hi : Int} (h : z.toInt = x.toInt + d) (hz : rg z a b) (hx : rg x c e) (s : ((decide (lo ≤ c) || decide (lo ≤ a - d)) && (decide (e ≤ hi) || decide (b - d ≤ hi))) = true) : rg x lo hi := by
  simp only [Bool.and_eq_true, Bool.or_eq_true, decide_eq_true_eq] at s
  unfold rg at *
  omega
