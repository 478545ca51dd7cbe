/-! RANGES of ints -/
def rg (x : Int32) (a b : Int) : Prop := a ≤ x.toInt ∧ x.toInt ≤ b
theorem bmI {z : Int} (h1 : -2147483648 ≤ z) (h2 : z ≤ 2147483647) : z.bmod (2 ^ 32) = z := Int.bmod_eq_of_le (by omega) (by omega)
theorem rg_all (x : Int32) : rg x (-2147483648) 2147483647 := by
  have h1 := x.le_toInt
  have h2 := x.toInt_lt
  exact ⟨by omega, by omega⟩
theorem rg_w {x : Int32} {a b a' b' : Int} (h : rg x a b) (s : (decide (a' ≤ a) && decide (b ≤ b')) = true) : rg x a' b' := by
  simp only [Bool.and_eq_true, decide_eq_true_eq] at s
  unfold rg at *
  omega
theorem rg_no {x : Int32} {a b : Int} (h : rg x a b) (s : decide (b < a) = true) : False := by
  simp only [decide_eq_true_eq] at s
  unfold rg at h
  omega
theorem rg_in {x : Int32} {a b : Int} {n : Nat} (h : rg x a b) (s : (decide (0 ≤ a) && decide (b < (n : Int))) = true) : vp_in x n := by
  simp only [Bool.and_eq_true, decide_eq_true_eq] at s
  unfold rg at h
  exact vp_in_iff.mpr ⟨by omega, by omega⟩
theorem rg_ne0 {x : Int32} {a b : Int} (h : rg x a b) (s : (decide (0 < a) || decide (b < 0)) = true) : ¬ x = 0 := by
  simp only [Bool.or_eq_true, decide_eq_true_eq] at s
  unfold rg at h
  intro e
  have e0 : (0 : Int32).toInt = 0 := by decide
  rw [e, e0] at h
  omega
theorem rg_add {x y z : Int32} {a b c d lo hi : Int} (e : z = x + y) (hx : rg x a b) (hy : rg y c d) (s : (decide (lo ≤ a + c) && decide (b + d ≤ hi) && decide (-2147483648 ≤ a + c) && decide (b + d ≤ 2147483647)) = true) : rg z lo hi := by
  simp only [Bool.and_eq_true, decide_eq_true_eq] at s
  unfold rg at *
  rw [e, Int32.toInt_add, bmI (by omega) (by omega)]
  omega
theorem rg_sub {x y z : Int32} {a b c d lo hi : Int} (e : z = x - y) (hx : rg x a b) (hy : rg y c d) (s : (decide (lo ≤ a - d) && decide (b - c ≤ hi) && decide (-2147483648 ≤ a - d) && decide (b - c ≤ 2147483647)) = true) : rg z lo hi := by
  simp only [Bool.and_eq_true, decide_eq_true_eq] at s
  unfold rg at *
  rw [e, Int32.toInt_sub, bmI (by omega) (by omega)]
  omega
theorem rg_mul {x y z : Int32} {a b c d lo hi : Int} (e : z = x * y) (hx : rg x a b) (hy : rg y c d) (s : (decide (0 ≤ a) && decide (0 ≤ c) && decide (lo ≤ a * c) && decide (b * d ≤ hi) && decide (b * d ≤ 2147483647)) = true) : rg z lo hi := by
  simp only [Bool.and_eq_true, decide_eq_true_eq] at s
  unfold rg at *
  obtain ⟨⟨⟨⟨s1, s2⟩, s3⟩, s4⟩, s5⟩ := s
  have h1 : a * c ≤ x.toInt * y.toInt := Int.mul_le_mul hx.1 hy.1 s2 (Int.le_trans s1 hx.1)
  have h2 : x.toInt * y.toInt ≤ b * d := Int.mul_le_mul hx.2 hy.2 (Int.le_trans s2 hy.1) (Int.le_trans s1 (Int.le_trans hx.1 hx.2))
  have h3 : 0 ≤ a * c := Int.mul_nonneg s1 s2
  rw [e, Int32.toInt_mul, bmI (by omega) (by omega)]
  omega
/-- the exact sum -/
theorem ai_add {x k z : Int32} {a b n : Int} (e : z = x + k) (hx : rg x a b) (hk : k.toInt = n) (s : (decide (-2147483648 ≤ a + n) && decide (b + n ≤ 2147483647)) = true) : z.toInt = x.toInt + n := by
  simp only [Bool.and_eq_true, decide_eq_true_eq] at s
  unfold rg at *
  rw [e, Int32.toInt_add, hk, bmI (by omega) (by omega)]
theorem ai_tr {u v n m : Int} {w : Int} (h1 : v = u + n) (h2 : w = v + m) {k : Int} (s : n + m = k) : w = u + k := by omega
theorem nb {x : Int32} (h : 0 ≤ x.toInt) : (x.toBitVec.toNat : Int) = x.toInt ∧ x.toBitVec.toNat < 2 ^ 31 := by
  have h1 : x.toInt = x.toBitVec.toInt := rfl
  rw [BitVec.toInt_eq_toNat_cond] at h1
  have h2 := x.toBitVec.isLt
  split at h1
  · exact ⟨by omega, by omega⟩
  · omega
theorem bn {x : Int32} (h : x.toBitVec.toNat < 2 ^ 31) : x.toInt = x.toBitVec.toNat := by
  have h1 : x.toInt = x.toBitVec.toInt := rfl
  rw [BitVec.toInt_eq_toNat_cond] at h1
  rw [h1, if_pos (by omega)]
theorem rg_andr {x y z : Int32} {c d lo hi : Int} (e : z = x &&& y) (hy : rg y c d) (s : (decide (0 ≤ c) && decide (lo ≤ 0) && decide (d ≤ hi)) = true) : rg z lo hi := by
  simp only [Bool.and_eq_true, decide_eq_true_eq] at s
  unfold rg at *
  obtain ⟨h1, h2⟩ := nb (x := y) (by omega)
  have h3 : z.toBitVec.toNat = x.toBitVec.toNat &&& y.toBitVec.toNat := by rw [e]; rfl
  have h4 : z.toBitVec.toNat ≤ y.toBitVec.toNat := by rw [h3]; exact Nat.and_le_right
  rw [bn (x := z) (by omega)]
  omega
theorem rg_andl {x y z : Int32} {c d lo hi : Int} (e : z = x &&& y) (hx : rg x c d) (s : (decide (0 ≤ c) && decide (lo ≤ 0) && decide (d ≤ hi)) = true) : rg z lo hi := by
  simp only [Bool.and_eq_true, decide_eq_true_eq] at s
  unfold rg at *
  obtain ⟨h1, h2⟩ := nb (x := x) (by omega)
  have h3 : z.toBitVec.toNat = x.toBitVec.toNat &&& y.toBitVec.toNat := by rw [e]; rfl
  have h4 : z.toBitVec.toNat ≤ x.toBitVec.toNat := by rw [h3]; exact Nat.and_le_left
  rw [bn (x := z) (by omega)]
  omega
theorem rg_or {x y z : Int32} {a b c d lo hi : Int} (k : Nat) (e : z = x ||| y) (hx : rg x a b) (hy : rg y c d) (s : (decide (0 ≤ a) && decide (0 ≤ c) && decide (b < ((2 ^ k : Nat) : Int)) && decide (d < ((2 ^ k : Nat) : Int)) && decide (k ≤ 31) && decide (lo ≤ 0) && decide (((2 ^ k : Nat) : Int) ≤ hi + 1)) = true) : rg z lo hi := by
  simp only [Bool.and_eq_true, decide_eq_true_eq] at s
  unfold rg at *
  obtain ⟨h1, h2⟩ := nb (x := x) (by omega)
  obtain ⟨g1, g2⟩ := nb (x := y) (by omega)
  have h3 : z.toBitVec.toNat = x.toBitVec.toNat ||| y.toBitVec.toNat := by rw [e]; rfl
  have h4 : z.toBitVec.toNat < 2 ^ k := by rw [h3]; exact Nat.or_lt_two_pow (by omega) (by omega)
  have h5 : 2 ^ k ≤ 2 ^ 31 := Nat.pow_le_pow_right (by decide) s.1.1.2
  rw [bn (x := z) (by omega)]
  omega
theorem shl1_all : ∀ j : Fin 31, ((1 : Int32) <<< (Int32.ofNat j.val &&& 31)).toInt = ((2 ^ j.val : Nat) : Int) := by decide +kernel
theorem rg_shl {y z : Int32} {lo hi : Int} (c d : Nat) {c' d' : Int} (e : z = (1 : Int32) <<< (y &&& 31)) (hy : rg y c' d') (s : (decide ((c : Int) ≤ c') && decide (d' ≤ (d : Int)) && decide (d ≤ 30) && decide (lo ≤ ((2 ^ c : Nat) : Int)) && decide (((2 ^ d : Nat) : Int) ≤ hi)) = true) : rg z lo hi := by
  simp only [Bool.and_eq_true, decide_eq_true_eq] at s
  unfold rg at *
  obtain ⟨j, hj⟩ : ∃ j : Nat, y.toInt = (j : Int) := ⟨y.toInt.toNat, by omega⟩
  have hy2 : y = Int32.ofNat j := Int32.toInt_inj.mp (by rw [hj, Int32.toInt_ofNat_of_lt (by omega)])
  have h := shl1_all ⟨j, by omega⟩
  simp only at h
  rw [e, hy2, h]
  have h1 : 2 ^ c ≤ 2 ^ j := Nat.pow_le_pow_right (by decide) (by omega)
  have h2 : 2 ^ j ≤ 2 ^ d := Nat.pow_le_pow_right (by decide) (by omega)
  omega
theorem rg_div {x y z : Int32} {a b n lo hi : Int} (e : z = x / y) (hx : rg x a b) (hy : y.toInt = n) (s : (decide (0 ≤ a) && decide (0 < n) && decide (lo ≤ a / n) && decide (b / n ≤ hi) && decide (b ≤ 2147483647)) = true) : rg z lo hi := by
  simp only [Bool.and_eq_true, decide_eq_true_eq] at s
  unfold rg at *
  obtain ⟨⟨⟨⟨s1, s2⟩, s3⟩, s4⟩, s5⟩ := s
  have h0 : 0 ≤ x.toInt := Int.le_trans s1 hx.1
  have h1 : a / n ≤ x.toInt / n := Int.ediv_le_ediv s2 hx.1
  have h2 : x.toInt / n ≤ b / n := Int.ediv_le_ediv s2 hx.2
  have h3 : 0 ≤ x.toInt / n := Int.ediv_nonneg h0 (by omega)
  have h4 : x.toInt / n ≤ x.toInt := Int.ediv_le_self n h0
  rw [e, Int32.toInt_div, hy, Int.tdiv_eq_ediv_of_nonneg h0, bmI (by omega) (by omega)]
  omega
theorem rem_eq {x y z : Int32} {a b n : Int} (e : z = x - x / y * y) (hx : rg x a b) (hy : y.toInt = n) (s : (decide (0 ≤ a) && decide (0 < n) && decide (b ≤ 2147483647)) = true) : z.toInt = x.toInt % n := by
  simp only [Bool.and_eq_true, decide_eq_true_eq] at s
  unfold rg at *
  obtain ⟨⟨s1, s2⟩, s5⟩ := s
  have h0 : 0 ≤ x.toInt := Int.le_trans s1 hx.1
  have h3 : 0 ≤ x.toInt / n := Int.ediv_nonneg h0 (by omega)
  have h4 : x.toInt / n ≤ x.toInt := Int.ediv_le_self n h0
  have e1 : (x / y).toInt = x.toInt / n := by rw [Int32.toInt_div, hy, Int.tdiv_eq_ediv_of_nonneg h0, bmI (by omega) (by omega)]
  have h5 : n * (x.toInt / n) + x.toInt % n = x.toInt := Int.mul_ediv_add_emod x.toInt n
  have h6 : 0 ≤ x.toInt % n := Int.emod_nonneg _ (by omega)
  have h7 : 0 ≤ n * (x.toInt / n) := Int.mul_nonneg (by omega) h3
  have e2 : (x / y * y).toInt = n * (x.toInt / n) := by rw [Int32.toInt_mul, e1, hy, Int.mul_comm, bmI (by omega) (by omega)]
  rw [e, Int32.toInt_sub, e2, bmI (by omega) (by omega)]
  omega
theorem rg_rem {x y z : Int32} {a b n lo hi : Int} (e : z = x - x / y * y) (hx : rg x a b) (hy : y.toInt = n) (s : (decide (0 ≤ a) && decide (0 < n) && decide (b ≤ 2147483647) && decide (lo ≤ 0) && decide (n ≤ hi + 1)) = true) : rg z lo hi := by
  simp only [Bool.and_eq_true, decide_eq_true_eq] at s
  have h := rem_eq e hx hy (by simp only [Bool.and_eq_true, decide_eq_true_eq]; exact s.1.1)
  have h6 : 0 ≤ x.toInt % n := Int.emod_nonneg _ (by omega)
  have h7 : x.toInt % n < n := Int.emod_lt_of_pos _ (by omega)
  unfold rg
  omega
theorem rg_max {x y z : Int32} {a b c d lo hi : Int} (e : z = if x < y then y else x) (hx : rg x a b) (hy : rg y c d) (s : ((decide (lo ≤ a) || decide (lo ≤ c)) && decide (b ≤ hi) && decide (d ≤ hi)) = true) : rg z lo hi := by
  simp only [Bool.and_eq_true, Bool.or_eq_true, decide_eq_true_eq] at s
  unfold rg at *
  split at e
  · next h => rw [fa_lt] at h; subst e; omega
  · next h => rw [fa_lt] at h; subst e; omega
theorem rg_min {x y z : Int32} {a b c d lo hi : Int} (e : z = if y < x then y else x) (hx : rg x a b) (hy : rg y c d) (s : (decide (lo ≤ a) && decide (lo ≤ c) && (decide (b ≤ hi) || decide (d ≤ hi))) = true) : rg z lo hi := by
  simp only [Bool.and_eq_true, Bool.or_eq_true, decide_eq_true_eq] at s
  unfold rg at *
  split at e
  · next h => rw [fa_lt] at h; subst e; omega
  · next h => rw [fa_lt] at h; subst e; omega
theorem c_lt {x y : Int32} (h : x < y) : x.toInt < y.toInt := (fa_lt x y).mp h
theorem n_lt {x y : Int32} (h : ¬ x < y) : y.toInt ≤ x.toInt := by rw [fa_lt] at h; omega
theorem c_le {x y : Int32} (h : x ≤ y) : x.toInt ≤ y.toInt := (fa_le x y).mp h
theorem n_le {x y : Int32} (h : ¬ x ≤ y) : y.toInt < x.toInt := by rw [fa_le] at h; omega
theorem c_eq {x y : Int32} (h : x = y) : x.toInt = y.toInt := by rw [h]
theorem n_eq {x y : Int32} (h : ¬ x = y) : ¬ x.toInt = y.toInt := fun e => h (Int32.toInt_inj.mp e)
theorem rf_ltl {x y : Int32} {a b c d a' b' : Int} (p : x.toInt < y.toInt) (hx : rg x a b) (hy : rg y c d) (s : (decide (a' ≤ a) && (decide (b ≤ b') || decide (d ≤ b' + 1))) = true) : rg x a' b' := by
  simp only [Bool.and_eq_true, Bool.or_eq_true, decide_eq_true_eq] at s
  unfold rg at *
  omega
theorem rf_ltr {x y : Int32} {a b c d a' b' : Int} (p : x.toInt < y.toInt) (hx : rg x a b) (hy : rg y c d) (s : ((decide (a' ≤ c) || decide (a' ≤ a + 1)) && decide (d ≤ b')) = true) : rg y a' b' := by
  simp only [Bool.and_eq_true, Bool.or_eq_true, decide_eq_true_eq] at s
  unfold rg at *
  omega
theorem rf_lel {x y : Int32} {a b c d a' b' : Int} (p : x.toInt ≤ y.toInt) (hx : rg x a b) (hy : rg y c d) (s : (decide (a' ≤ a) && (decide (b ≤ b') || decide (d ≤ b'))) = true) : rg x a' b' := by
  simp only [Bool.and_eq_true, Bool.or_eq_true, decide_eq_true_eq] at s
  unfold rg at *
  omega
theorem rf_ler {x y : Int32} {a b c d a' b' : Int} (p : x.toInt ≤ y.toInt) (hx : rg x a b) (hy : rg y c d) (s : ((decide (a' ≤ c) || decide (a' ≤ a)) && decide (d ≤ b')) = true) : rg y a' b' := by
  simp only [Bool.and_eq_true, Bool.or_eq_true, decide_eq_true_eq] at s
  unfold rg at *
  omega
theorem rf_eql {x y : Int32} {a b c d a' b' : Int} (p : x.toInt = y.toInt) (hx : rg x a b) (hy : rg y c d) (s : ((decide (a' ≤ a) || decide (a' ≤ c)) && (decide (b ≤ b') || decide (d ≤ b'))) = true) : rg x a' b' := by
  simp only [Bool.and_eq_true, Bool.or_eq_true, decide_eq_true_eq] at s
  unfold rg at *
  omega
theorem rf_eqr {x y : Int32} {a b c d a' b' : Int} (p : x.toInt = y.toInt) (hx : rg x a b) (hy : rg y c d) (s : ((decide (a' ≤ a) || decide (a' ≤ c)) && (decide (b ≤ b') || decide (d ≤ b'))) = true) : rg y a' b' := by
  simp only [Bool.and_eq_true, Bool.or_eq_true, decide_eq_true_eq] at s
  unfold rg at *
  omega
theorem rf_nel {x y : Int32} {a b n a' b' : Int} (p : ¬ x.toInt = y.toInt) (hx : rg x a b) (hy : rg y n n) (s : ((decide (a' ≤ a) || (decide (a = n) && decide (a' ≤ a + 1))) && (decide (b ≤ b') || (decide (b = n) && decide (b ≤ b' + 1)))) = true) : rg x a' b' := by
  simp only [Bool.and_eq_true, Bool.or_eq_true, decide_eq_true_eq] at s
  unfold rg at *
  omega
theorem rf_ner {x y : Int32} {a b n a' b' : Int} (p : ¬ x.toInt = y.toInt) (hx : rg x n n) (hy : rg y a b) (s : ((decide (a' ≤ a) || (decide (a = n) && decide (a' ≤ a + 1))) && (decide (b ≤ b') || (decide (b = n) && decide (b ≤ b' + 1)))) = true) : rg y a' b' := by
  simp only [Bool.and_eq_true, Bool.or_eq_true, decide_eq_true_eq] at s
  unfold rg at *
  omega
theorem rg_z {r : Int32} (h : rg r 0 1) : narrow .boolean (.int r) = .int r := by
  unfold rg at h
  rcases (show r.toInt = 0 ∨ r.toInt = 1 by omega) with e | e
  · obtain rfl : r = 0 := Int32.toInt_inj.mp (e.trans (by decide))
    rfl
  · obtain rfl : r = 1 := Int32.toInt_inj.mp (e.trans (by decide))
    rfl
/-- fuel: up and down -/
theorem fu_0 {x : Int32} {a b : Int} (h : b - x.toInt < ((0 : Nat) : Int)) (hx : rg x a b) : False := by
  unfold rg at hx
  omega
theorem fd_0 {x : Int32} {a b : Int} (h : x.toInt - a < ((0 : Nat) : Int)) (hx : rg x a b) : False := by
  unfold rg at hx
  omega
theorem fu_s {x z : Int32} {b d : Int} {n : Nat} (h : b - x.toInt < ((n + 1 : Nat) : Int)) (e : z.toInt = x.toInt + d) (s : decide (0 < d) = true) : b - z.toInt < (n : Int) := by
  simp only [decide_eq_true_eq] at s
  omega
theorem fd_s {x z : Int32} {a d : Int} {n : Nat} (h : x.toInt - a < ((n + 1 : Nat) : Int)) (e : z.toInt = x.toInt + d) (s : decide (d < 0) = true) : z.toInt - a < (n : Int) := by
  simp only [decide_eq_true_eq] at s
  omega
theorem fu_i {x : Int32} {a b c : Int} (n : Nat) (hx : rg x a b) (s : decide (c - a < (n : Int)) = true) : c - x.toInt < (n : Int) := by
  simp only [decide_eq_true_eq] at s
  unfold rg at hx
  omega
theorem fd_i {x : Int32} {a b c : Int} (n : Nat) (hx : rg x a b) (s : decide (b - c < (n : Int)) = true) : x.toInt - c < (n : Int) := by
  simp only [decide_eq_true_eq] at s
  unfold rg at hx
  omega
theorem vp_lt {i : Int32} {n : Nat} (h : vp_in i n) : i.toNatClampNeg < n := Nat.not_le.mp fun q => h (Or.inr q)
