/-! TYPED HEAPS: every address of the pool has a type by its number (τ), every type says what a cell of it may hold -/
abbrev gFd : Type := (Int × Int) ⊕ (Nat ⊕ Unit)
abbrev gTd : Type := (Nat × List gFd) ⊕ ((Nat × Nat × ((Nat → Int32) → Prop)) ⊕ (Nat ⊕ (Nat × Nat × Nat)))
def tF (L : List Nat) (τ : Nat → Nat) (d : gFd) (v : Value) : Prop := match d with
  | .inl r => ∃ x : Int32, v = .int x ∧ rg x r.1 r.2
  | .inr (.inl t) => ∃ b : Nat, v = .ref b ∧ b ∈ L ∧ τ b = t
  | .inr (.inr _) => ∃ x : Int64, v = .long x
def tO (L : List Nat) (τ : Nat → Nat) (ds : List gFd) (fs : List Value) : Prop := fs.length = ds.length ∧ ∀ (k : Nat) (d : gFd), ds[k]? = some d → ∃ v, fs[k]? = some v ∧ tF L τ d v
def tD (E : gE) (L : List Nat) (τ : Nat → Nat) (d : gTd) (e : va_E) : Prop := match d with
  | .inl o => ∃ fs : List Value, e = .inr (o.1, fs) ∧ tO L τ o.2 fs
  | .inr (.inl a) => ∃ v : Nat → Int32, e = .inl (E.2.2 a.1, a.2.1, .inl v) ∧ a.2.2 v
  | .inr (.inr (.inl n)) => ∃ v : Nat → Int64, e = .inl (E.2.2 2, n, .inr (.inl v))
  | .inr (.inr (.inr a)) => ∃ v : Nat → Option Nat, e = .inl (E.2.2 a.1, a.2.1, .inr (.inr (.inr (.inr v)))) ∧ ∀ i, i < a.2.1 → ∃ b, v i = some b ∧ b ∈ L ∧ τ b = a.2.2
/-- an array's elements in bounds -/
def tR (n : Nat) (a b : Int) (v : Nat → Int32) : Prop := ∀ i, i < n → rg (v i) a b
def hasR (c : Nat) : Int × Int := [(0, 5), (0, 4), (-2147483648, 2147483647), (-2147483648, 2147483647), (-2147483648, 2147483647), (0, 4), (0, 6), (0, 40)].getD c (-2147483648, 2147483647)
def hasP (v : Nat → Int32) : Prop := ∀ i, i < 45 → rg (v i) (hasR (i % 9)).1 (hasR (i % 9)).2
def memP (v : Nat → Int32) : Prop := ∀ i, i < 90 → rg (v i) 0 (if i % 3 = 0 then 19 else 99)
def actP (v : Nat → Int32) : Prop := ∀ k, k < 200 → v (3 * k) = 1 → rg (v (3 * k + 1)) 0 3
def tTab : List gTd := [.inl (9, [.inr (.inl 1), .inr (.inl 3), .inr (.inl 14), .inr (.inl 15), .inr (.inl 16), .inr (.inl 19), .inr (.inl 24), .inr (.inl 27), .inr (.inl 30), .inr (.inl 33), .inr (.inl 34)]), .inl (8, [.inr (.inl 2), .inl (0, 800)]), .inr (.inl (0, 800, fun _ => True)), .inl (3, [.inl ((-2147483648), 2147483647), .inl (0, 5), .inl (0, 4), .inl (0, 3), .inl ((-2147483648), 2147483647), .inl ((-2147483648), 2147483647), .inl (0, 4), .inl (0, 6), .inl ((-2147483648), 2147483647), .inl (0, 40), .inr (.inl 4), .inr (.inl 5), .inr (.inl 6), .inr (.inl 7), .inr (.inl 8), .inr (.inl 9), .inr (.inl 10), .inr (.inl 11), .inr (.inl 12), .inr (.inl 13)]), .inr (.inl (1, 4, tR 4 0 19)), .inr (.inl (1, 4, tR 4 0 3)), .inr (.inl (1, 4, fun _ => True)), .inr (.inl (1, 6, tR 6 0 19)), .inr (.inl (1, 6, fun _ => True)), .inr (.inl (1, 6, fun _ => True)), .inr (.inl (1, 40, tR 40 0 23)), .inr (.inl (1, 40, tR 40 0 3)), .inr (.inl (1, 20, fun _ => True)), .inr (.inl (1, 80, tR 80 (-1) 19)), .inl (5, [.inr (.inl 1), .inr (.inl 35), .inl ((-2147483648), 2147483647), .inl (0, 800), .inl (0, 800), .inl ((-2147483648), 2147483647), .inl ((-2147483648), 2147483647)]), .inr (.inr (.inr (4, 3, 35))), .inr (.inr (.inr (5, 4, 17))), .inl (6, [.inr (.inl 18), .inl ((-1), 3), .inl (0, 60)]), .inr (.inr (.inl 60)), .inl (7, [.inr (.inl 3), .inr (.inl 20), .inr (.inl 21), .inr (.inl 22), .inr (.inl 23), .inl ((-2147483648), 2147483647), .inl ((-2147483648), 2147483647), .inl (0, 41), .inl ((-2147483648), 2147483647), .inl ((-2147483648), 2147483647)]), .inr (.inl (1, 41, tR 41 0 19)), .inr (.inl (1, 41, fun _ => True)), .inr (.inl (1, 41, fun _ => True)), .inr (.inl (1, 20, fun _ => True)), .inl (4, [.inr (.inl 3), .inr (.inl 19), .inr (.inl 25), .inr (.inl 26), .inl (0, 1)]), .inr (.inl (1, 64, fun _ => True)), .inr (.inl (1, 64, fun _ => True)), .inl (0, [.inr (.inl 3), .inr (.inl 19), .inr (.inl 28), .inr (.inl 29)]), .inr (.inl (1, 80, fun _ => True)), .inr (.inl (1, 4, fun _ => True)), .inl (2, [.inr (.inl 3), .inr (.inl 19), .inr (.inl 31), .inr (.inl 32)]), .inr (.inl (1, 6, fun _ => True)), .inr (.inl (1, 64, fun _ => True)), .inl (1, [.inr (.inl 3), .inr (.inl 19)]), .inr (.inl (3, 3, fun _ => True)), .inl (3, [.inl ((-2147483648), 2147483647), .inl (0, 5), .inl (0, 4), .inl (0, 3), .inl ((-2147483648), 2147483647), .inl ((-2147483648), 2147483647), .inl (0, 4), .inl (0, 6), .inl ((-2147483648), 2147483647), .inl (0, 40), .inr (.inl 4), .inr (.inl 5), .inr (.inl 6), .inr (.inl 7), .inr (.inl 8), .inr (.inl 9), .inr (.inl 10), .inr (.inl 11), .inr (.inl 12), .inr (.inl 13)]), .inr (.inr (.inl 0)), .inr (.inr (.inl 0)), .inr (.inr (.inl 0)), .inr (.inr (.inl 0)), .inl (10, [.inl ((-2147483648), 2147483647), .inr (.inl 41), .inr (.inl 42), .inr (.inl 43), .inr (.inl 44), .inr (.inl 45), .inl (0, 800), .inl (0, 800), .inl ((-2147483648), 2147483647), .inl ((-2147483648), 2147483647), .inl ((-2147483648), 2147483647), .inr (.inr ()), .inl ((-2147483648), 2147483647), .inl ((-2147483648), 2147483647), .inl ((-2147483648), 2147483647), .inl ((-2147483648), 2147483647), .inr (.inl 46), .inr (.inl 47), .inr (.inl 48), .inr (.inl 49), .inr (.inl 50), .inr (.inl 51), .inl ((-2147483648), 2147483647), .inl ((-2147483648), 2147483647), .inl ((-2147483648), 2147483647), .inr (.inl 52), .inr (.inl 53), .inr (.inl 54), .inr (.inl 55), .inr (.inl 56), .inr (.inl 57), .inr (.inl 58), .inr (.inl 59), .inr (.inl 60), .inr (.inl 61), .inr (.inl 62), .inl ((-2147483648), 2147483647), .inl ((-2147483648), 2147483647), .inr (.inl 63), .inl ((-2147483648), 2147483647), .inl ((-2147483648), 2147483647), .inr (.inl 64), .inr (.inl 65), .inl ((-2147483648), 2147483647), .inl ((-2147483648), 2147483647), .inl ((-2147483648), 2147483647), .inl ((-2147483648), 2147483647), .inl ((-2147483648), 2147483647)]), .inr (.inl (1, 4, fun _ => True)), .inr (.inl (1, 4, tR 4 0 60)), .inr (.inr (.inl 240)), .inr (.inr (.inl 60)), .inr (.inl (0, 800, fun _ => True)), .inr (.inl (1, 5, fun _ => True)), .inr (.inl (1, 45, hasP)), .inr (.inl (1, 60, fun _ => True)), .inr (.inl (1, 90, memP)), .inr (.inl (1, 600, actP)), .inr (.inl (3, 3, fun _ => True)), .inr (.inl (1, 5, fun _ => True)), .inr (.inl (1, 205, fun _ => True)), .inr (.inl (1, 205, fun _ => True)), .inr (.inl (1, 5, fun _ => True)), .inr (.inl (1, 20, fun _ => True)), .inr (.inl (1, 64, fun _ => True)), .inr (.inl (1, 64, fun _ => True)), .inr (.inl (1, 4, fun _ => True)), .inr (.inl (1, 4, tR 4 0 1048575)), .inr (.inl (1, 4, fun _ => True)), .inr (.inl (1, 42, fun _ => True)), .inr (.inl (1, 6, fun _ => True)), .inr (.inl (1, 6, tR 6 0 19)), .inr (.inl (1, 6, fun _ => True))]
theorem td_0 : tTab[0]? = some (.inl (9, [.inr (.inl 1), .inr (.inl 3), .inr (.inl 14), .inr (.inl 15), .inr (.inl 16), .inr (.inl 19), .inr (.inl 24), .inr (.inl 27), .inr (.inl 30), .inr (.inl 33), .inr (.inl 34)])) := rfl
theorem td_1 : tTab[1]? = some (.inl (8, [.inr (.inl 2), .inl (0, 800)])) := rfl
theorem td_2 : tTab[2]? = some (.inr (.inl (0, 800, fun _ => True))) := rfl
theorem td_3 : tTab[3]? = some (.inl (3, [.inl ((-2147483648), 2147483647), .inl (0, 5), .inl (0, 4), .inl (0, 3), .inl ((-2147483648), 2147483647), .inl ((-2147483648), 2147483647), .inl (0, 4), .inl (0, 6), .inl ((-2147483648), 2147483647), .inl (0, 40), .inr (.inl 4), .inr (.inl 5), .inr (.inl 6), .inr (.inl 7), .inr (.inl 8), .inr (.inl 9), .inr (.inl 10), .inr (.inl 11), .inr (.inl 12), .inr (.inl 13)])) := rfl
theorem td_4 : tTab[4]? = some (.inr (.inl (1, 4, tR 4 0 19))) := rfl
theorem td_5 : tTab[5]? = some (.inr (.inl (1, 4, tR 4 0 3))) := rfl
theorem td_6 : tTab[6]? = some (.inr (.inl (1, 4, fun _ => True))) := rfl
theorem td_7 : tTab[7]? = some (.inr (.inl (1, 6, tR 6 0 19))) := rfl
theorem td_8 : tTab[8]? = some (.inr (.inl (1, 6, fun _ => True))) := rfl
theorem td_9 : tTab[9]? = some (.inr (.inl (1, 6, fun _ => True))) := rfl
theorem td_10 : tTab[10]? = some (.inr (.inl (1, 40, tR 40 0 23))) := rfl
theorem td_11 : tTab[11]? = some (.inr (.inl (1, 40, tR 40 0 3))) := rfl
theorem td_12 : tTab[12]? = some (.inr (.inl (1, 20, fun _ => True))) := rfl
theorem td_13 : tTab[13]? = some (.inr (.inl (1, 80, tR 80 (-1) 19))) := rfl
theorem td_14 : tTab[14]? = some (.inl (5, [.inr (.inl 1), .inr (.inl 35), .inl ((-2147483648), 2147483647), .inl (0, 800), .inl (0, 800), .inl ((-2147483648), 2147483647), .inl ((-2147483648), 2147483647)])) := rfl
theorem td_15 : tTab[15]? = some (.inr (.inr (.inr (4, 3, 35)))) := rfl
theorem td_16 : tTab[16]? = some (.inr (.inr (.inr (5, 4, 17)))) := rfl
theorem td_17 : tTab[17]? = some (.inl (6, [.inr (.inl 18), .inl ((-1), 3), .inl (0, 60)])) := rfl
theorem td_18 : tTab[18]? = some (.inr (.inr (.inl 60))) := rfl
theorem td_19 : tTab[19]? = some (.inl (7, [.inr (.inl 3), .inr (.inl 20), .inr (.inl 21), .inr (.inl 22), .inr (.inl 23), .inl ((-2147483648), 2147483647), .inl ((-2147483648), 2147483647), .inl (0, 41), .inl ((-2147483648), 2147483647), .inl ((-2147483648), 2147483647)])) := rfl
theorem td_20 : tTab[20]? = some (.inr (.inl (1, 41, tR 41 0 19))) := rfl
theorem td_21 : tTab[21]? = some (.inr (.inl (1, 41, fun _ => True))) := rfl
theorem td_22 : tTab[22]? = some (.inr (.inl (1, 41, fun _ => True))) := rfl
theorem td_23 : tTab[23]? = some (.inr (.inl (1, 20, fun _ => True))) := rfl
theorem td_24 : tTab[24]? = some (.inl (4, [.inr (.inl 3), .inr (.inl 19), .inr (.inl 25), .inr (.inl 26), .inl (0, 1)])) := rfl
theorem td_25 : tTab[25]? = some (.inr (.inl (1, 64, fun _ => True))) := rfl
theorem td_26 : tTab[26]? = some (.inr (.inl (1, 64, fun _ => True))) := rfl
theorem td_27 : tTab[27]? = some (.inl (0, [.inr (.inl 3), .inr (.inl 19), .inr (.inl 28), .inr (.inl 29)])) := rfl
theorem td_28 : tTab[28]? = some (.inr (.inl (1, 80, fun _ => True))) := rfl
theorem td_29 : tTab[29]? = some (.inr (.inl (1, 4, fun _ => True))) := rfl
theorem td_30 : tTab[30]? = some (.inl (2, [.inr (.inl 3), .inr (.inl 19), .inr (.inl 31), .inr (.inl 32)])) := rfl
theorem td_31 : tTab[31]? = some (.inr (.inl (1, 6, fun _ => True))) := rfl
theorem td_32 : tTab[32]? = some (.inr (.inl (1, 64, fun _ => True))) := rfl
theorem td_33 : tTab[33]? = some (.inl (1, [.inr (.inl 3), .inr (.inl 19)])) := rfl
theorem td_34 : tTab[34]? = some (.inr (.inl (3, 3, fun _ => True))) := rfl
theorem td_35 : tTab[35]? = some (.inl (3, [.inl ((-2147483648), 2147483647), .inl (0, 5), .inl (0, 4), .inl (0, 3), .inl ((-2147483648), 2147483647), .inl ((-2147483648), 2147483647), .inl (0, 4), .inl (0, 6), .inl ((-2147483648), 2147483647), .inl (0, 40), .inr (.inl 4), .inr (.inl 5), .inr (.inl 6), .inr (.inl 7), .inr (.inl 8), .inr (.inl 9), .inr (.inl 10), .inr (.inl 11), .inr (.inl 12), .inr (.inl 13)])) := rfl
theorem td_40 : tTab[40]? = some (.inl (10, [.inl ((-2147483648), 2147483647), .inr (.inl 41), .inr (.inl 42), .inr (.inl 43), .inr (.inl 44), .inr (.inl 45), .inl (0, 800), .inl (0, 800), .inl ((-2147483648), 2147483647), .inl ((-2147483648), 2147483647), .inl ((-2147483648), 2147483647), .inr (.inr ()), .inl ((-2147483648), 2147483647), .inl ((-2147483648), 2147483647), .inl ((-2147483648), 2147483647), .inl ((-2147483648), 2147483647), .inr (.inl 46), .inr (.inl 47), .inr (.inl 48), .inr (.inl 49), .inr (.inl 50), .inr (.inl 51), .inl ((-2147483648), 2147483647), .inl ((-2147483648), 2147483647), .inl ((-2147483648), 2147483647), .inr (.inl 52), .inr (.inl 53), .inr (.inl 54), .inr (.inl 55), .inr (.inl 56), .inr (.inl 57), .inr (.inl 58), .inr (.inl 59), .inr (.inl 60), .inr (.inl 61), .inr (.inl 62), .inl ((-2147483648), 2147483647), .inl ((-2147483648), 2147483647), .inr (.inl 63), .inl ((-2147483648), 2147483647), .inl ((-2147483648), 2147483647), .inr (.inl 64), .inr (.inl 65), .inl ((-2147483648), 2147483647), .inl ((-2147483648), 2147483647), .inl ((-2147483648), 2147483647), .inl ((-2147483648), 2147483647), .inl ((-2147483648), 2147483647)])) := rfl
theorem td_41 : tTab[41]? = some (.inr (.inl (1, 4, fun _ => True))) := rfl
theorem td_42 : tTab[42]? = some (.inr (.inl (1, 4, tR 4 0 60))) := rfl
theorem td_43 : tTab[43]? = some (.inr (.inr (.inl 240))) := rfl
theorem td_44 : tTab[44]? = some (.inr (.inr (.inl 60))) := rfl
theorem td_45 : tTab[45]? = some (.inr (.inl (0, 800, fun _ => True))) := rfl
theorem td_46 : tTab[46]? = some (.inr (.inl (1, 5, fun _ => True))) := rfl
theorem td_47 : tTab[47]? = some (.inr (.inl (1, 45, hasP))) := rfl
theorem td_48 : tTab[48]? = some (.inr (.inl (1, 60, fun _ => True))) := rfl
theorem td_49 : tTab[49]? = some (.inr (.inl (1, 90, memP))) := rfl
theorem td_50 : tTab[50]? = some (.inr (.inl (1, 600, actP))) := rfl
theorem td_51 : tTab[51]? = some (.inr (.inl (3, 3, fun _ => True))) := rfl
theorem td_52 : tTab[52]? = some (.inr (.inl (1, 5, fun _ => True))) := rfl
theorem td_53 : tTab[53]? = some (.inr (.inl (1, 205, fun _ => True))) := rfl
theorem td_54 : tTab[54]? = some (.inr (.inl (1, 205, fun _ => True))) := rfl
theorem td_55 : tTab[55]? = some (.inr (.inl (1, 5, fun _ => True))) := rfl
theorem td_56 : tTab[56]? = some (.inr (.inl (1, 20, fun _ => True))) := rfl
theorem td_57 : tTab[57]? = some (.inr (.inl (1, 64, fun _ => True))) := rfl
theorem td_58 : tTab[58]? = some (.inr (.inl (1, 64, fun _ => True))) := rfl
theorem td_59 : tTab[59]? = some (.inr (.inl (1, 4, fun _ => True))) := rfl
theorem td_60 : tTab[60]? = some (.inr (.inl (1, 4, tR 4 0 1048575))) := rfl
theorem td_61 : tTab[61]? = some (.inr (.inl (1, 4, fun _ => True))) := rfl
theorem td_62 : tTab[62]? = some (.inr (.inl (1, 42, fun _ => True))) := rfl
theorem td_63 : tTab[63]? = some (.inr (.inl (1, 6, fun _ => True))) := rfl
theorem td_64 : tTab[64]? = some (.inr (.inl (1, 6, tR 6 0 19))) := rfl
theorem td_65 : tTab[65]? = some (.inr (.inl (1, 6, fun _ => True))) := rfl
def tI (E : gE) (L : List Nat) (τ : Nat → Nat) (f : gF) : Prop := ∀ a ∈ L, ∃ d, tTab[τ a]? = some d ∧ tD E L τ d (f a)
/-- one field's value -/
def fld (f : gF) (a k : Nat) (v : Value) : Prop := ∃ (ci : Nat) (fs : List Value), f a = .inr (ci, fs) ∧ fs[k]? = some v
theorem fld.up {f : gF} {a k b : Nat} {v : Value} {e : va_E} (h : fld f a k v) (hn : a ≠ b) : fld (va_up f b e) a k v := by
  obtain ⟨ci, fs, h1, h2⟩ := h
  exact ⟨ci, fs, by rw [va_up_ne _ _ hn]; exact h1, h2⟩
theorem fld.eq {f f1 : gF} {a k : Nat} {v : Value} (h : fld f a k v) (e : f1 a = f a) : fld f1 a k v := by
  obtain ⟨ci, fs, h1, h2⟩ := h
  exact ⟨ci, fs, by rw [e]; exact h1, h2⟩
theorem fld_noA {f : gF} {a k : Nat} {v : Value} {z : ClassId × vp_A} (h : f a = .inl z) : ¬ fld f a k v := by
  rintro ⟨ci, fs, h1, -⟩
  rw [h] at h1
  cases h1
/-- typed, and since f0 only cells of the types ws have changed, and no field that held a reference -/
def tS (E : gE) (L : List Nat) (τ : Nat → Nat) (ws : List Nat) (f0 f : gF) : Prop := tI E L τ f ∧ (∀ a ∈ L, τ a ∉ ws → f a = f0 a) ∧ ∀ a k b : Nat, fld f0 a k (.ref b) → fld f a k (.ref b)
theorem tS.fr {E : gE} {L : List Nat} {τ : Nat → Nat} {ws : List Nat} {f0 f : gF} (h : tS E L τ ws f0 f) : ∀ a ∈ L, τ a ∉ ws → f a = f0 a := h.2.1
theorem tS.rf {E : gE} {L : List Nat} {τ : Nat → Nat} {ws : List Nat} {f0 f : gF} (h : tS E L τ ws f0 f) {a k b : Nat} (h2 : fld f0 a k (.ref b)) : fld f a k (.ref b) := h.2.2 a k b h2
theorem tI.S {E : gE} {L : List Nat} {τ : Nat → Nat} {f : gF} (ws : List Nat) (h : tI E L τ f) : tS E L τ ws f f := ⟨h, fun _ _ _ => rfl, fun _ _ _ h => h⟩
theorem t_sub {us ws : List Nat} (h : (us.all (fun t => ws.contains t)) = true) : ∀ t ∈ us, t ∈ ws := fun t ht => by
  have h1 := List.all_eq_true.mp h t ht
  exact List.contains_iff_mem.mp h1
theorem tS.call {E : gE} {L : List Nat} {τ : Nat → Nat} {ws us : List Nat} {f0 f f1 : gF} (h : tS E L τ ws f0 f) (h1 : tS E L τ us f f1) (s : (us.all (fun t => ws.contains t)) = true) : tS E L τ ws f0 f1 := ⟨h1.1, fun a ha hn => (h1.fr a ha (fun q => hn (t_sub s _ q))).trans (h.fr a ha hn), fun _ _ _ q => h1.rf (h.rf q)⟩
theorem tS.wide {E : gE} {L : List Nat} {τ : Nat → Nat} {ws us : List Nat} {f0 f : gF} (h : tS E L τ us f0 f) (s : (us.all (fun t => ws.contains t)) = true) : tS E L τ ws f0 f := ⟨h.1, fun a ha hn => h.fr a ha (fun q => hn (t_sub s _ q)), h.2.2⟩
theorem t_desc {E : gE} {L : List Nat} {τ : Nat → Nat} {f : gF} {a t : Nat} {d : gTd} (hI : tI E L τ f) (ha : a ∈ L) (ht : τ a = t) (hd : tTab[t]? = some d) : tD E L τ d (f a) := by
  obtain ⟨d1, h1, h2⟩ := hI a ha
  rw [ht, hd] at h1
  cases h1
  exact h2
theorem t_obj {E : gE} {L : List Nat} {τ : Nat → Nat} {f : gF} {a t ci : Nat} {ds : List gFd} (hI : tI E L τ f) (ha : a ∈ L) (ht : τ a = t) (hd : tTab[t]? = some (.inl (ci, ds))) : ∃ fs, f a = .inr (ci, fs) ∧ tO L τ ds fs := t_desc hI ha ht hd
theorem t_arr {E : gE} {L : List Nat} {τ : Nat → Nat} {f : gF} {a t tg n : Nat} {P : (Nat → Int32) → Prop} (hI : tI E L τ f) (ha : a ∈ L) (ht : τ a = t) (hd : tTab[t]? = some (.inr (.inl (tg, n, P)))) : ∃ v : Nat → Int32, f a = .inl (E.2.2 tg, n, .inl v) ∧ P v := t_desc hI ha ht hd
theorem t_arrJ {E : gE} {L : List Nat} {τ : Nat → Nat} {f : gF} {a t n : Nat} (hI : tI E L τ f) (ha : a ∈ L) (ht : τ a = t) (hd : tTab[t]? = some (.inr (.inr (.inl n)))) : ∃ v : Nat → Int64, f a = .inl (E.2.2 2, n, .inr (.inl v)) := t_desc hI ha ht hd
theorem t_arrQ {E : gE} {L : List Nat} {τ : Nat → Nat} {f : gF} {a t tg n t' : Nat} (hI : tI E L τ f) (ha : a ∈ L) (ht : τ a = t) (hd : tTab[t]? = some (.inr (.inr (.inr (tg, n, t'))))) : ∃ v : Nat → Option Nat, f a = .inl (E.2.2 tg, n, .inr (.inr (.inr (.inr v)))) ∧ ∀ i, i < n → ∃ b, v i = some b ∧ b ∈ L ∧ τ b = t' := t_desc hI ha ht hd
/-- a typed write -/
theorem tS.up {E : gE} {L : List Nat} {τ : Nat → Nat} {ws : List Nat} {f0 f : gF} {a t : Nat} {d : gTd} {e : va_E} (h : tS E L τ ws f0 f) (ht : τ a = t) (hw : ws.contains t = true) (hd : tTab[t]? = some d) (he : tD E L τ d e) (hr : ∀ k c : Nat, fld f a k (.ref c) → fld (va_up f a e) a k (.ref c)) : tS E L τ ws f0 (va_up f a e) := by
  refine ⟨fun b hb => ?_, fun b hb hn => ?_, fun b k c h1 => ?_⟩
  · by_cases q : b = a
    · subst q
      rw [va_up_self]
      exact ⟨d, by rw [ht]; exact hd, he⟩
    · rw [va_up_ne _ _ q]
      exact h.1 b hb
  · have q : b ≠ a := fun q => hn (by rw [q, ht]; exact List.contains_iff_mem.mp hw)
    rw [va_up_ne _ _ q]
    exact h.fr b hb hn
  · have h2 := h.rf h1
    by_cases q : b = a
    · subst q
      exact hr k c h2
    · exact h2.up q
theorem tO.set {L : List Nat} {τ : Nat → Nat} {ds : List gFd} {fs : List Value} {k : Nat} {d : gFd} {v : Value} (h : tO L τ ds fs) (hk : ds[k]? = some d) (hv : tF L τ d v) : tO L τ ds (fs.set k v) := by
  refine ⟨by rw [List.length_set]; exact h.1, fun j dj hj => ?_⟩
  by_cases q : k = j
  · subst q
    rw [hk] at hj
    cases hj
    have hl : k < fs.length := by rw [h.1]; exact (List.getElem?_eq_some_iff.mp hk).1
    exact ⟨v, by rw [List.getElem?_set_self hl], hv⟩
  · obtain ⟨w, hw, hF⟩ := h.2 j dj hj
    exact ⟨w, by rw [List.getElem?_set_ne q]; exact hw, hF⟩
theorem tR_upd {n k : Nat} {a b : Int} {v : Nat → Int32} {x : Int32} (h : tR n a b v) (hx : rg x a b) : tR n a b (upd v k x) := fun i hi => by
  by_cases e : i = k
  · rw [e, pk_us]; exact hx
  · rw [pk_un e]; exact h i hi
theorem ty_ne {τ : Nat → Nat} {a b t u : Nat} (ha : τ a = t) (hb : τ b = u) (h : (t == u) = false) : a ≠ b := fun e => by
  subst e
  rw [ha] at hb
  subst hb
  simp at h
theorem t_lim {τ : Nat → Nat} {a t : Nat} {ws : List Nat} (ha : τ a = t) (h : ws.contains t = false) : τ a ∉ ws := fun q => by
  rw [ha] at q
  rw [List.contains_iff_mem.mpr q] at h
  cases h
/-! WHAT LIES OUTSIDE: static tables and texts, which nobody writes; J says where -/
def gStr : List (Nat × String × Nat) := [(52, "flight", 6), (61, "member", 6), (66, "lamp", 4), (71, "at", 2), (85, "land", 4), (87, "wide", 4), (91, "high", 4), (95, "law", 3), (99, "ear", 3), (103, "odds", 4), (117, "heads", 5), (122, "geese", 5), (133, "wants", 5), (137, "pays", 4)]
def oS (q v n : Nat) (A : Nat → Prop) (U : State) (H : Heap) : Prop := va_O "java/lang/String" q A U H ∧ va_OF "java/lang/String" "coder" "B" (.int 0) q A U H ∧ va_OF "java/lang/String" "value" "[B" (.ref v) q A U H ∧ ∃ bs : Nat → Int32, va_T .byte v n (fun j => .int (bs j)) A U H
def oW (J : Nat → Nat) (A : Nat → Prop) (U : State) (H : Heap) : Prop := (va_Z "GooseShares$Lanterns" "FACTORIALS" "[I" (.ref (J 0)) A U H ∧ va_T .int (J 0) 7 (fun j => .int ([1, 1, 2, 6, 24, 120, 720].getD j 0)) A U H) ∧ va_Z "java/lang/String" "COMPACT_STRINGS" "Z" (.int 1) A U H ∧ va_Zq "jdk/internal/util/Preconditions" "SIOOBE_FORMATTER" "Ljava/util/function/BiFunction;" A U H ∧ ∀ q ∈ gStr, vk_R "GooseShares$Reader" q.1 q.2.1 (J (2 * q.1)) U ∧ oS (J (2 * q.1)) (J (2 * q.1 + 1)) q.2.2 A U H
theorem oS.moved {q v n : Nat} {A : Nat → Prop} {u U : State} {H : Heap} (hvm : u.vm.Alike U.vm) (h : oS q v n A u H) : oS q v n A U H := by
  obtain ⟨h1, h2, h3, bs, h4⟩ := h
  exact ⟨va_O.moved hvm h1, va_OF.moved hvm h2, va_OF.moved hvm h3, bs, va_T.moved hvm h4⟩
theorem oS.kept {q v n : Nat} {A : Nat → Prop} {U : State} {H H1 : Heap} (h : oS q v n A U H) (hq : ∀ a : Nat, a < H.size → ¬ A a → H1[a]? = H[a]?) : oS q v n A U H1 := by
  obtain ⟨h1, h2, h3, bs, h4⟩ := h
  exact ⟨h1.kept hq, h2.kept hq, h3.kept hq, bs, h4.kept hq⟩
theorem oS.narrow {q v n : Nat} {A B : Nat → Prop} {U : State} {H : Heap} (h : oS q v n A U H) (hAB : ∀ q, B q → A q) : oS q v n B U H := by
  obtain ⟨h1, h2, h3, bs, h4⟩ := h
  exact ⟨h1.narrow hAB, h2.narrow hAB, h3.narrow hAB, bs, h4.narrow hAB⟩
theorem oW.warm {J : Nat → Nat} {A : Nat → Prop} {s U : State} {H : Heap} (hW : s.WarmedH U.vm) (h : oW J A s H) : oW J A U H := ⟨⟨va_Z.moved hW.alike h.1.1, va_T.moved hW.alike h.1.2⟩, va_Z.moved hW.alike h.2.1, va_Zq.moved hW.alike h.2.2.1, fun q hq => ⟨vk_R.warm hW (h.2.2.2 q hq).1, (h.2.2.2 q hq).2.moved hW.alike⟩⟩
theorem oW.blind {J : Nat → Nat} {A : Nat → Prop} {U U1 : State} {H : Heap} (hv : U.vm = U1.vm) (h : oW J A U H) : oW J A U1 H := ⟨⟨va_Z.moved (hv ▸ Vm.Alike.refl U.vm) h.1.1, va_T.moved (hv ▸ Vm.Alike.refl U.vm) h.1.2⟩, va_Z.moved (hv ▸ Vm.Alike.refl U.vm) h.2.1, va_Zq.moved (hv ▸ Vm.Alike.refl U.vm) h.2.2.1, fun q hq => ⟨vk_R.same hv.symm (h.2.2.2 q hq).1, (h.2.2.2 q hq).2.moved (hv ▸ Vm.Alike.refl U.vm)⟩⟩
theorem oW.kept {J : Nat → Nat} {A : Nat → Prop} {U : State} {H H1 : Heap} (h : oW J A U H) (hq : ∀ a : Nat, a < H.size → ¬ A a → H1[a]? = H[a]?) : oW J A U H1 := ⟨⟨h.1.1.kept hq, h.1.2.kept hq⟩, h.2.1.kept hq, h.2.2.1.kept hq, fun q hq2 => ⟨(h.2.2.2 q hq2).1, (h.2.2.2 q hq2).2.kept hq⟩⟩
theorem oW.narrow {J : Nat → Nat} {A B : Nat → Prop} {U : State} {H : Heap} (h : oW J A U H) (hAB : ∀ q, B q → A q) : oW J B U H := ⟨⟨h.1.1.narrow hAB, h.1.2.narrow hAB⟩, h.2.1.narrow hAB, h.2.2.1.narrow hAB, fun q hq => ⟨(h.2.2.2 q hq).1, (h.2.2.2 q hq).2.narrow hAB⟩⟩
/-! CONTRACTS -/
def tPre (E : gE) (J : Nat → Nat) (L : List Nat) (f : gF) (sz : Nat) (U : State) : Prop := gPre E L f sz U ∧ oW J (gA L f sz) U U.heap
def tMi (l : Launch) (E : gE) (J : Nat → Nat) (y : MethodName) (cc : ByteArray) (nl : Nat) (ret : FieldType) (rm : Room) (av : List Value) (L : List Nat) (f : gF) (post : Int32 → List Nat → gF → Prop) : Prop :=
  ∀ sz : Nat, Met l y (.code y cc nl (some ret) :: gW) rm (va_Pc av (tPre E J L f sz)) (gQi E (gA L f sz) post) rm.cells rm.slots (gA L f sz)
def tMv (l : Launch) (E : gE) (J : Nat → Nat) (y : MethodName) (cc : ByteArray) (nl : Nat) (rm : Room) (av : List Value) (L : List Nat) (f : gF) (post : List Nat → gF → Prop) : Prop :=
  ∀ sz : Nat, Met l y (.code y cc nl none :: gW) rm (va_Pc av (tPre E J L f sz)) (gQv E (gA L f sz) post) rm.cells rm.slots (gA L f sz)
abbrev gQl (E : gE) (A : Nat → Prop) (post : Int64 → List Nat → gF → Prop) : Array Value → State → Outcome → State → Prop := va_Ql (fun r (u : List Nat × gF) => post r u.1 u.2) (gPost E A) A
def tMl (l : Launch) (E : gE) (J : Nat → Nat) (y : MethodName) (cc : ByteArray) (nl : Nat) (rm : Room) (av : List Value) (L : List Nat) (f : gF) (post : Int64 → List Nat → gF → Prop) : Prop :=
  ∀ sz : Nat, Met l y (.code y cc nl (some .long) :: gW) rm (va_Pc av (tPre E J L f sz)) (gQl E (gA L f sz) post) rm.cells rm.slots (gA L f sz)
/-- what a typed method leaves: the pool's addresses as they were, typed, no cell changed but of the types ws -/
def tPi (E : gE) (L : List Nat) (τ : Nat → Nat) (ws : List Nat) (f : gF) (P : Int32 → gF → Prop) : Int32 → List Nat → gF → Prop := fun r L1 f1 => L = L1 ∧ tS E L τ ws f f1 ∧ P r f1
def tPl (E : gE) (L : List Nat) (τ : Nat → Nat) (ws : List Nat) (f : gF) (P : Int64 → gF → Prop) : Int64 → List Nat → gF → Prop := fun r L1 f1 => L = L1 ∧ tS E L τ ws f f1 ∧ P r f1
def tPv (E : gE) (L : List Nat) (τ : Nat → Nat) (ws : List Nat) (f : gF) (P : gF → Prop) : List Nat → gF → Prop := fun L1 f1 => L = L1 ∧ tS E L τ ws f f1 ∧ P f1
theorem tMi.intro {l : Launch} {E : gE} {J : Nat → Nat} {y : MethodName} {cc : ByteArray} {nl : Nat} {ret : FieldType} {rm : Room} {av : List Value} {L : List Nat} {f : gF} {post : Int32 → List Nat → gF → Prop} (hy : plainName y.cls = true) (hn : (lg_sl av).length ≤ nl)
    (body : ∀ (p : Program) (e : Env) (s : State) (m : MethodId) (below : List Frame) (meth : Method) (c : Code) (A : Nat → Prop) (ls : Array Slot), gC E cc nl y.cls p s m av.toArray meth c → meth.sig.returnType = some ret → (∀ q, s.heap.size ≤ q → A q) → oW J A s s.heap → gH E A L f s.heap s.heap [] → lv_has ls nl (lv_args 0 av) → W p l e rm s m av.toArray below meth c s.heap [] 0 0 (MQ below (gQi E A post) av.toArray s rm.cells rm.slots A) (F0 m 0 ls [])) : tMi l E J y cc nl ret rm av L f post := by
  intro sz
  refine Met.ofW (cc := cc) (maxL := nl) (ret := some ret) hy rfl ?_
  intro p e s m args below meth c s₁ B hml hv
  obtain ⟨rfl, ⟨hsz, hP, hK, hD0⟩, hO⟩ := hv
  have hts := atoms_spec (ws := .code y cc nl (some ret) :: gW) B.pre
  subst hsz
  have hl := lv_entry av hn
  rw [lg_entry_eq]
  exact body p e s m below meth c _ _ ⟨B.exec, B.bytes, hml, findClass_of_methodNamed B.named, fun w h => hts w (List.mem_cons_of_mem _ h), hK, B.notSynchronized⟩ B.returns (fun q h => Or.inr h) hO ⟨hP, hD0.self, va_S.rf⟩ hl
theorem tMv.intro {l : Launch} {E : gE} {J : Nat → Nat} {y : MethodName} {cc : ByteArray} {nl : Nat} {rm : Room} {av : List Value} {L : List Nat} {f : gF} {post : List Nat → gF → Prop} (hy : plainName y.cls = true) (hn : (lg_sl av).length ≤ nl)
    (body : ∀ (p : Program) (e : Env) (s : State) (m : MethodId) (below : List Frame) (meth : Method) (c : Code) (A : Nat → Prop) (ls : Array Slot), gC E cc nl y.cls p s m av.toArray meth c → meth.sig.returnType = none → (∀ q, s.heap.size ≤ q → A q) → oW J A s s.heap → gH E A L f s.heap s.heap [] → lv_has ls nl (lv_args 0 av) → W p l e rm s m av.toArray below meth c s.heap [] 0 0 (MQ below (gQv E A post) av.toArray s rm.cells rm.slots A) (F0 m 0 ls [])) : tMv l E J y cc nl rm av L f post := by
  intro sz
  refine Met.ofW (cc := cc) (maxL := nl) (ret := none) hy rfl ?_
  intro p e s m args below meth c s₁ B hml hv
  obtain ⟨rfl, ⟨hsz, hP, hK, hD0⟩, hO⟩ := hv
  have hts := atoms_spec (ws := .code y cc nl none :: gW) B.pre
  subst hsz
  have hl := lv_entry av hn
  rw [lg_entry_eq]
  exact body p e s m below meth c _ _ ⟨B.exec, B.bytes, hml, findClass_of_methodNamed B.named, fun w h => hts w (List.mem_cons_of_mem _ h), hK, B.notSynchronized⟩ B.returns (fun q h => Or.inr h) hO ⟨hP, hD0.self, va_S.rf⟩ hl
theorem tMl.intro {l : Launch} {E : gE} {J : Nat → Nat} {y : MethodName} {cc : ByteArray} {nl : Nat} {rm : Room} {av : List Value} {L : List Nat} {f : gF} {post : Int64 → List Nat → gF → Prop} (hy : plainName y.cls = true) (hn : (lg_sl av).length ≤ nl)
    (body : ∀ (p : Program) (e : Env) (s : State) (m : MethodId) (below : List Frame) (meth : Method) (c : Code) (A : Nat → Prop) (ls : Array Slot), gC E cc nl y.cls p s m av.toArray meth c → meth.sig.returnType = some .long → (∀ q, s.heap.size ≤ q → A q) → oW J A s s.heap → gH E A L f s.heap s.heap [] → lv_has ls nl (lv_args 0 av) → W p l e rm s m av.toArray below meth c s.heap [] 0 0 (MQ below (gQl E A post) av.toArray s rm.cells rm.slots A) (F0 m 0 ls [])) : tMl l E J y cc nl rm av L f post := by
  intro sz
  refine Met.ofW (cc := cc) (maxL := nl) (ret := some .long) hy rfl ?_
  intro p e s m args below meth c s₁ B hml hv
  obtain ⟨rfl, ⟨hsz, hP, hK, hD0⟩, hO⟩ := hv
  have hts := atoms_spec (ws := .code y cc nl (some .long) :: gW) B.pre
  subst hsz
  have hl := lv_entry av hn
  rw [lg_entry_eq]
  exact body p e s m below meth c _ _ ⟨B.exec, B.bytes, hml, findClass_of_methodNamed B.named, fun w h => hts w (List.mem_cons_of_mem _ h), hK, B.notSynchronized⟩ B.returns (fun q h => Or.inr h) hO ⟨hP, hD0.self, va_S.rf⟩ hl
section TW
variable {p : Program} {l : Launch} {e : Env} {R : Room} {s : State} {m : MethodId} {args : Array Value} {below : List Frame} {meth : Method} {c : Code} {H H0 : Heap} {locs : List Loc} {Q : State → Prop}
variable {E : gE} {J : Nat → Nat} {cc : ByteArray} {nl : Nat} {own : String} {A : Nat → Prop} {L : List Nat} {τ : Nat → Nat} {ws : List Nat} {f0 f : gF} {pc : Nat} {ls : Array Slot} {rest : List Value} {a t : Nat}
theorem t_geti (C : gC E cc nl own p s m args meth c) (hH : gH E A L f H0 H locs) (hI : tI E L τ f) (ha : a ∈ L) (ht : τ a = t) {ci : Nat} {ds : List gFd} (hd : tTab[t]? = some (.inl (ci, ds))) {Cn ref : String} {T : u_T} {N index : Nat} (hin : ∀ w ∈ u_ws Cn T N, w ∈ gW) (hc : vwCl[ci]? = some (Cn, T, N)) (k : Nat) (hk : k < N) (hlink : Cond.fieldLink own index ref (T k).2.1 (T k).2.2.1 ∈ gW) (hsame : (T k).1 = ref) {lo hi : Int} (hr : ds[k]? = some (.inl (lo, hi))) (hdg : decode cc pc = .ok (.getfield index, 3))
    (kk : ∀ v : Int32, rg v lo hi → W p l e R s m args below meth c H locs 0 0 Q (F0 m (pc + 3) ls (.int v :: rest))) : W p l e R s m args below meth c H locs 0 0 Q (F0 m pc ls (.ref a :: rest)) := by
  obtain ⟨fs, hf, ho⟩ := t_obj hI ha ht hd
  obtain ⟨v, hv, x, rfl, hx⟩ := ho.2 k _ hr
  exact g_get C hH ha hf hin hc k hk hlink hsame hv hdg (kk x hx)
theorem t_getr (C : gC E cc nl own p s m args meth c) (hH : gH E A L f H0 H locs) (hI : tI E L τ f) (ha : a ∈ L) (ht : τ a = t) {ci : Nat} {ds : List gFd} (hd : tTab[t]? = some (.inl (ci, ds))) {Cn ref : String} {T : u_T} {N index : Nat} (hin : ∀ w ∈ u_ws Cn T N, w ∈ gW) (hc : vwCl[ci]? = some (Cn, T, N)) (k : Nat) (hk : k < N) (hlink : Cond.fieldLink own index ref (T k).2.1 (T k).2.2.1 ∈ gW) (hsame : (T k).1 = ref) {u : Nat} (hr : ds[k]? = some (.inr (.inl u))) (hdg : decode cc pc = .ok (.getfield index, 3))
    (kk : ∀ b : Nat, b ∈ L → τ b = u → W p l e R s m args below meth c H locs 0 0 Q (F0 m (pc + 3) ls (.ref b :: rest))) : W p l e R s m args below meth c H locs 0 0 Q (F0 m pc ls (.ref a :: rest)) := by
  obtain ⟨fs, hf, ho⟩ := t_obj hI ha ht hd
  obtain ⟨v, hv, b, rfl, hb, hu⟩ := ho.2 k _ hr
  exact g_get C hH ha hf hin hc k hk hlink hsame hv hdg (kk b hb hu)
theorem t_getl (C : gC E cc nl own p s m args meth c) (hH : gH E A L f H0 H locs) (hI : tI E L τ f) (ha : a ∈ L) (ht : τ a = t) {ci : Nat} {ds : List gFd} (hd : tTab[t]? = some (.inl (ci, ds))) {Cn ref : String} {T : u_T} {N index : Nat} (hin : ∀ w ∈ u_ws Cn T N, w ∈ gW) (hc : vwCl[ci]? = some (Cn, T, N)) (k : Nat) (hk : k < N) (hlink : Cond.fieldLink own index ref (T k).2.1 (T k).2.2.1 ∈ gW) (hsame : (T k).1 = ref) (hr : ds[k]? = some (.inr (.inr ()))) (hdg : decode cc pc = .ok (.getfield index, 3))
    (kk : ∀ v : Int64, W p l e R s m args below meth c H locs 0 0 Q (F0 m (pc + 3) ls (.long v :: rest))) : W p l e R s m args below meth c H locs 0 0 Q (F0 m pc ls (.ref a :: rest)) := by
  obtain ⟨fs, hf, ho⟩ := t_obj hI ha ht hd
  obtain ⟨v, hv, x, rfl⟩ := ho.2 k _ hr
  exact g_get C hH ha hf hin hc k hk hlink hsame hv hdg (kk x)
/-- a field whose value is known -/
theorem t_getX (C : gC E cc nl own p s m args meth c) (hH : gH E A L f H0 H locs) (hI : tI E L τ f) (ha : a ∈ L) (ht : τ a = t) {ci : Nat} {ds : List gFd} (hd : tTab[t]? = some (.inl (ci, ds))) {Cn ref : String} {T : u_T} {N index : Nat} (hin : ∀ w ∈ u_ws Cn T N, w ∈ gW) (hc : vwCl[ci]? = some (Cn, T, N)) (k : Nat) (hk : k < N) (hlink : Cond.fieldLink own index ref (T k).2.1 (T k).2.2.1 ∈ gW) (hsame : (T k).1 = ref) {v : Value} (hv : fld f a k v) (hdg : decode cc pc = .ok (.getfield index, 3))
    (kk : W p l e R s m args below meth c H locs 0 0 Q (F0 m (pc + 3) ls (v :: rest))) : W p l e R s m args below meth c H locs 0 0 Q (F0 m pc ls (.ref a :: rest)) := by
  obtain ⟨fs, hf, ho⟩ := t_obj hI ha ht hd
  obtain ⟨cj, fs2, h1, h2⟩ := hv
  rw [hf] at h1
  cases h1
  exact g_get C hH ha hf hin hc k hk hlink hsame h2 hdg kk
/-- a field written: kk also gets the field's value -/
theorem t_put (C : gC E cc nl own p s m args meth c) (hH : gH E A L f H0 H locs) (hI : tS E L τ ws f0 f) (ha : a ∈ L) (ht : τ a = t) (hw : ws.contains t = true) {ci : Nat} {ds : List gFd} (hd : tTab[t]? = some (.inl (ci, ds))) {Cn ref : String} {T : u_T} {N index : Nat} (hin : ∀ w ∈ u_ws Cn T N, w ∈ gW) (ty0 : Nat → FieldType) (hty : ∀ k, k < N → parseFieldDescriptor (T k).2.2.1 = some (ty0 k)) (hnm : ∀ a, a < N → ∀ b, b < N → a ≠ b → (T a).2.1 ≠ (T b).2.1) (hc : vwCl[ci]? = some (Cn, T, N)) (k : Nat) (hk : k < N) (hlink : Cond.fieldLink own index ref (T k).2.1 (T k).2.2.1 ∈ gW) (hsame : (T k).1 = ref) (hfin : (T k).2.2.2 = false) {v : Value} (hn : narrow (ty0 k) v = v) (hfit : fits (ty0 k) v = true) {d : gFd} (hr : ds[k]? = some d) (hv : tF L τ d v) (hnr : ∀ u, d ≠ .inr (.inl u)) (hdg : decode cc pc = .ok (.putfield index, 3))
    (kk : ∀ (f1 : gF) (H1 : Heap) (locs1 : List Loc), gH E A L f1 H0 H1 locs1 → tS E L τ ws f0 f1 → fld f1 a k v → (∀ j w, j ≠ k → fld f a j w → fld f1 a j w) → (∀ b, b ≠ a → f1 b = f b) → W p l e R s m args below meth c H1 locs1 0 0 Q (F0 m (pc + 3) ls rest)) : W p l e R s m args below meth c H locs 0 0 Q (F0 m pc ls (v :: .ref a :: rest)) := by
  obtain ⟨fs, hf, ho⟩ := t_obj hI.1 ha ht hd
  have hl : k < fs.length := by rw [ho.1]; exact (List.getElem?_eq_some_iff.mp hr).1
  refine g_put C hH ha hf hin ty0 hty hnm hc k hk hlink hsame hfin hn hfit hl rfl hdg (fun H1 locs1 hH1 => ?_)
  have keep : ∀ j w, j ≠ k → fld f a j w → fld (va_up f a (.inr (ci, fs.set k v))) a j w := fun j w hj hw2 => by
    obtain ⟨cj, fs2, h1, h2⟩ := hw2
    rw [hf] at h1
    cases h1
    exact ⟨ci, _, va_up_self _ _ _, by rw [List.getElem?_set_ne (Ne.symm hj)]; exact h2⟩
  refine kk _ H1 locs1 hH1 (hI.up ht hw hd ⟨_, rfl, ho.set hr hv⟩ (fun j b hj => ?_)) ⟨ci, _, va_up_self _ _ _, by rw [List.getElem?_set_self hl]⟩ keep (fun b hb => va_up_ne _ _ hb)
  by_cases q : j = k
  · subst q
    exfalso
    obtain ⟨cj, fs2, h1, h2⟩ := hj
    rw [hf] at h1
    cases h1
    obtain ⟨w, hw3, hF⟩ := ho.2 j _ hr
    rw [h2] at hw3
    cases hw3
    match d, hF with
    | .inl r, hF => obtain ⟨x, hx, -⟩ := hF; cases hx
    | .inr (.inl u), _ => exact hnr u rfl
    | .inr (.inr _), hF => obtain ⟨x, hx⟩ := hF; cases hx
  · exact keep j _ q hj
theorem t_ald (C : gC E cc nl own p s m args meth c) (hH : gH E A L f H0 H locs) (hI : tI E L τ f) (ha : a ∈ L) (ht : τ a = t) {n : Nat} {P : (Nat → Int32) → Prop} (hd : tTab[t]? = some (.inr (.inl (1, n, P)))) {i : Int32} (hin : vp_in i n) (hdg : decode cc pc = .ok (.iaload, 1))
    (kk : ∀ v : Nat → Int32, f a = .inl (E.2.2 1, n, .inl v) → P v → W p l e R s m args below meth c H locs 0 0 Q (F0 m (pc + 1) ls (.int (v i.toNatClampNeg) :: rest))) : W p l e R s m args below meth c H locs 0 0 Q (F0 m pc ls (.int i :: .ref a :: rest)) := by
  obtain ⟨v, hf, hP⟩ := t_arr hI ha ht hd
  exact g_iald C hH ha hf hin hdg (kk v hf hP)
theorem t_aldR (C : gC E cc nl own p s m args meth c) (hH : gH E A L f H0 H locs) (hI : tI E L τ f) (ha : a ∈ L) (ht : τ a = t) {n : Nat} {lo hi : Int} (hd : tTab[t]? = some (.inr (.inl (1, n, tR n lo hi)))) {i : Int32} (hin : vp_in i n) (hdg : decode cc pc = .ok (.iaload, 1))
    (kk : ∀ x : Int32, rg x lo hi → W p l e R s m args below meth c H locs 0 0 Q (F0 m (pc + 1) ls (.int x :: rest))) : W p l e R s m args below meth c H locs 0 0 Q (F0 m pc ls (.int i :: .ref a :: rest)) := t_ald C hH hI ha ht hd hin hdg (fun v hf hP => kk _ (hP _ (vp_lt hin)))
theorem t_bald (C : gC E cc nl own p s m args meth c) (hH : gH E A L f H0 H locs) (hI : tI E L τ f) (ha : a ∈ L) (ht : τ a = t) {n : Nat} {P : (Nat → Int32) → Prop} (hd : tTab[t]? = some (.inr (.inl (0, n, P)))) {i : Int32} (hin : vp_in i n) (hdg : decode cc pc = .ok (.baload, 1))
    (kk : ∀ x : Int32, W p l e R s m args below meth c H locs 0 0 Q (F0 m (pc + 1) ls (.int x :: rest))) : W p l e R s m args below meth c H locs 0 0 Q (F0 m pc ls (.int i :: .ref a :: rest)) := by
  obtain ⟨v, hf, hP⟩ := t_arr hI ha ht hd
  exact g_bald C hH ha hf hin hdg (kk _)
theorem t_zald (C : gC E cc nl own p s m args meth c) (hH : gH E A L f H0 H locs) (hI : tI E L τ f) (ha : a ∈ L) (ht : τ a = t) {n : Nat} {P : (Nat → Int32) → Prop} (hd : tTab[t]? = some (.inr (.inl (3, n, P)))) {i : Int32} (hin : vp_in i n) (hdg : decode cc pc = .ok (.baload, 1))
    (kk : ∀ v : Nat → Int32, f a = .inl (E.2.2 3, n, .inl v) → W p l e R s m args below meth c H locs 0 0 Q (F0 m (pc + 1) ls (.int (v i.toNatClampNeg) :: rest))) : W p l e R s m args below meth c H locs 0 0 Q (F0 m pc ls (.int i :: .ref a :: rest)) := by
  obtain ⟨v, hf, hP⟩ := t_arr hI ha ht hd
  exact g_zald C hH ha hf hin hdg (kk v hf)
theorem t_lald (C : gC E cc nl own p s m args meth c) (hH : gH E A L f H0 H locs) (hI : tI E L τ f) (ha : a ∈ L) (ht : τ a = t) {n : Nat} (hd : tTab[t]? = some (.inr (.inr (.inl n)))) {i : Int32} (hin : vp_in i n) (hdg : decode cc pc = .ok (.laload, 1))
    (kk : ∀ v : Nat → Int64, f a = .inl (E.2.2 2, n, .inr (.inl v)) → W p l e R s m args below meth c H locs 0 0 Q (F0 m (pc + 1) ls (.long (v i.toNatClampNeg) :: rest))) : W p l e R s m args below meth c H locs 0 0 Q (F0 m pc ls (.int i :: .ref a :: rest)) := by
  obtain ⟨v, hf⟩ := t_arrJ hI ha ht hd
  exact g_lald C hH ha hf hin hdg (kk v hf)
theorem t_aald (C : gC E cc nl own p s m args meth c) (hH : gH E A L f H0 H locs) (hI : tI E L τ f) (ha : a ∈ L) (ht : τ a = t) {n tg u : Nat} (hd : tTab[t]? = some (.inr (.inr (.inr (tg, n, u))))) {Cn : String} (hcA : (gTy E)[tg]? = some (E.2.2 tg, .object Cn)) {i : Int32} (hin : vp_in i n) (hdg : decode cc pc = .ok (.aaload, 1))
    (kk : ∀ b : Nat, b ∈ L → τ b = u → W p l e R s m args below meth c H locs 0 0 Q (F0 m (pc + 1) ls (.ref b :: rest))) : W p l e R s m args below meth c H locs 0 0 Q (F0 m pc ls (.int i :: .ref a :: rest)) := by
  obtain ⟨v, hf, hP⟩ := t_arrQ hI ha ht hd
  obtain ⟨b, hv, hb, hu⟩ := hP _ (vp_lt hin)
  exact g_aald C hH ha tg hcA hf hin hv hdg (kk b hb hu)
theorem t_ast (C : gC E cc nl own p s m args meth c) (hH : gH E A L f H0 H locs) (hI : tS E L τ ws f0 f) (ha : a ∈ L) (ht : τ a = t) (hw : ws.contains t = true) {n : Nat} {P : (Nat → Int32) → Prop} (hd : tTab[t]? = some (.inr (.inl (1, n, P)))) {i x : Int32} (hin : vp_in i n) (hP : ∀ v, f a = .inl (E.2.2 1, n, .inl v) → P v → P (upd v i.toNatClampNeg x)) (hdg : decode cc pc = .ok (.iastore, 1))
    (kk : ∀ (f1 : gF) (H1 : Heap) (locs1 : List Loc), gH E A L f1 H0 H1 locs1 → tS E L τ ws f0 f1 → (∀ b, b ≠ a → f1 b = f b) → (∀ v, f a = .inl (E.2.2 1, n, .inl v) → f1 a = .inl (E.2.2 1, n, .inl (upd v i.toNatClampNeg x))) → W p l e R s m args below meth c H1 locs1 0 0 Q (F0 m (pc + 1) ls rest)) : W p l e R s m args below meth c H locs 0 0 Q (F0 m pc ls (.int x :: .int i :: .ref a :: rest)) := by
  obtain ⟨v, hf, hv⟩ := t_arr hI.1 ha ht hd
  refine g_iast C hH ha hf hin hdg (fun H1 locs1 hH1 => kk _ H1 locs1 hH1 (hI.up ht hw hd ⟨_, rfl, hP v hf hv⟩ (fun _ _ h => absurd h (fld_noA hf))) (fun b hb => va_up_ne _ _ hb) (fun v2 h2 => ?_))
  rw [hf] at h2
  cases h2
  exact va_up_self _ _ _
theorem t_bast (C : gC E cc nl own p s m args meth c) (hH : gH E A L f H0 H locs) (hI : tS E L τ ws f0 f) (ha : a ∈ L) (ht : τ a = t) (hw : ws.contains t = true) {n : Nat} (hd : tTab[t]? = some (.inr (.inl (0, n, fun _ => True)))) {i x : Int32} (hin : vp_in i n) (hdg : decode cc pc = .ok (.bastore, 1))
    (kk : ∀ (f1 : gF) (H1 : Heap) (locs1 : List Loc), gH E A L f1 H0 H1 locs1 → tS E L τ ws f0 f1 → (∀ b, b ≠ a → f1 b = f b) → W p l e R s m args below meth c H1 locs1 0 0 Q (F0 m (pc + 1) ls rest)) : W p l e R s m args below meth c H locs 0 0 Q (F0 m pc ls (.int x :: .int i :: .ref a :: rest)) := by
  obtain ⟨v, hf, hv⟩ := t_arr hI.1 ha ht hd
  exact g_bast C hH ha hf hin hdg (fun H1 locs1 hH1 => kk _ H1 locs1 hH1 (hI.up ht hw hd ⟨_, rfl, trivial⟩ (fun _ _ h => absurd h (fld_noA hf))) (fun b hb => va_up_ne _ _ hb))
theorem t_zast (C : gC E cc nl own p s m args meth c) (hH : gH E A L f H0 H locs) (hI : tS E L τ ws f0 f) (ha : a ∈ L) (ht : τ a = t) (hw : ws.contains t = true) {n : Nat} (hd : tTab[t]? = some (.inr (.inl (3, n, fun _ => True)))) {i x : Int32} (hin : vp_in i n) (hdg : decode cc pc = .ok (.bastore, 1))
    (kk : ∀ (f1 : gF) (H1 : Heap) (locs1 : List Loc), gH E A L f1 H0 H1 locs1 → tS E L τ ws f0 f1 → (∀ b, b ≠ a → f1 b = f b) → (∀ v, f a = .inl (E.2.2 3, n, .inl v) → f1 a = .inl (E.2.2 3, n, .inl (upd v i.toNatClampNeg (vp_nar .boolean x)))) → W p l e R s m args below meth c H1 locs1 0 0 Q (F0 m (pc + 1) ls rest)) : W p l e R s m args below meth c H locs 0 0 Q (F0 m pc ls (.int x :: .int i :: .ref a :: rest)) := by
  obtain ⟨v, hf, hv⟩ := t_arr hI.1 ha ht hd
  refine g_zast C hH ha hf hin hdg (fun H1 locs1 hH1 => kk _ H1 locs1 hH1 (hI.up ht hw hd ⟨_, rfl, trivial⟩ (fun _ _ h => absurd h (fld_noA hf))) (fun b hb => va_up_ne _ _ hb) (fun v2 h2 => ?_))
  rw [hf] at h2
  cases h2
  exact va_up_self _ _ _
theorem t_last (C : gC E cc nl own p s m args meth c) (hH : gH E A L f H0 H locs) (hI : tS E L τ ws f0 f) (ha : a ∈ L) (ht : τ a = t) (hw : ws.contains t = true) {n : Nat} (hd : tTab[t]? = some (.inr (.inr (.inl n)))) {i : Int32} {x : Int64} (hin : vp_in i n) (hdg : decode cc pc = .ok (.lastore, 1))
    (kk : ∀ (f1 : gF) (H1 : Heap) (locs1 : List Loc), gH E A L f1 H0 H1 locs1 → tS E L τ ws f0 f1 → (∀ b, b ≠ a → f1 b = f b) → W p l e R s m args below meth c H1 locs1 0 0 Q (F0 m (pc + 1) ls rest)) : W p l e R s m args below meth c H locs 0 0 Q (F0 m pc ls (.long x :: .int i :: .ref a :: rest)) := by
  obtain ⟨v, hf⟩ := t_arrJ hI.1 ha ht hd
  exact g_last C hH ha hf hin hdg (fun H1 locs1 hH1 => kk _ H1 locs1 hH1 (hI.up ht hw hd ⟨_, rfl⟩ (fun _ _ h => absurd h (fld_noA hf))) (fun b hb => va_up_ne _ _ hb))
theorem t_alen (C : gC E cc nl own p s m args meth c) (hH : gH E A L f H0 H locs) (hI : tI E L τ f) (ha : a ∈ L) (ht : τ a = t) {n tg : Nat} {P : (Nat → Int32) → Prop} (hd : tTab[t]? = some (.inr (.inl (tg, n, P)))) {ty : FieldType} (hcA : (gTy E)[tg]? = some (E.2.2 tg, ty)) {v : Int32} (hv : nI n = v) (hdg : decode cc pc = .ok (.arraylength, 1))
    (kk : W p l e R s m args below meth c H locs 0 0 Q (F0 m (pc + 1) ls (.int v :: rest))) : W p l e R s m args below meth c H locs 0 0 Q (F0 m pc ls (.ref a :: rest)) := by
  obtain ⟨w, hf, hP⟩ := t_arr hI ha ht hd
  exact g_alen C hH ha tg hcA hf hv hdg kk
/-! calls -/
theorem t_pre (C : gC E cc nl own p s m args meth c) (hO : oW J A s s.heap) (hA : ∀ q, s.heap.size ≤ q → A q) (hH : gH E A L f s.heap H locs) (av : List Value) : ∀ U : State, U.heap = H → s.WarmedH U.vm → va_Pc av (tPre E J L f H.size) av.toArray U := fun U hU hW => ⟨rfl, ⟨by rw [hU], by rw [hU]; exact hH.1, gK.warm hW C.2.2.2.2.2.1, hH.2.1.weaken (fun _ _ _ _ => trivial)⟩, by rw [hU]; exact ((hO.kept hH.2.2.2.1).narrow (g_free hH hA)).warm hW⟩
theorem t_blind {av : List Value} {sz : Nat} : FrameBlind (va_Pc av (tPre E J L f sz)) := fun a U g mk q => ⟨q.1, ⟨q.2.1.1, q.2.1.2.1, gK.blind rfl q.2.1.2.2.1, q.2.1.2.2.2⟩, q.2.2.blind rfl⟩
theorem t_callL {mc ms : Nat} {st0 : List Value} {av : Array Value} {post : Int64 → List Nat → gF → Prop} (hz : mc = 0 ∧ ms = 0) (hH : gH E A L f H0 H locs) (hA : ∀ q, H0.size ≤ q → A q) (hr : va_Run p l e R s m args below meth c H locs 0 0 mc ms (F0 m pc ls st0) rest (gQl E (gA L f H.size) post av) (gA L f H.size))
    (kk : ∀ (r : Int64) (L1 : List Nat) (f1 : gF) (H1 : Heap) (locs1 : List Loc), post r L1 f1 → gH E A L1 f1 H0 H1 locs1 → W p l e R s m args below meth c H1 locs1 0 0 Q (F0 m (pc + 3) ls (.long r :: rest))) : W p l e R s m args below meth c H locs 0 0 Q (F0 m pc ls st0) := by
  have hF := g_free hH hA
  refine va_calll hr hH.2.2 (fun q _ h => hF q h) hF (fun r u t H1 locs1 ht hvm hw hB hz1 hk1 hS => ?_)
  obtain ⟨hP1, hD1⟩ := hB
  rw [ht] at hP1
  obtain ⟨rfl, rfl⟩ := hz
  exact kk r u.1 u.2 H1 locs1 hw ⟨hP1, hD1.weaken (fun _ _ _ h => hF _ h), hS⟩
theorem t_callI {mc ms : Nat} {st0 : List Value} {av : Array Value} {post : Int32 → List Nat → gF → Prop} (hz : mc = 0 ∧ ms = 0) (hH : gH E A L f H0 H locs) (hA : ∀ q, H0.size ≤ q → A q) (hr : va_Run p l e R s m args below meth c H locs 0 0 mc ms (F0 m pc ls st0) rest (gQi E (gA L f H.size) post av) (gA L f H.size))
    (kk : ∀ (r : Int32) (L1 : List Nat) (f1 : gF) (H1 : Heap) (locs1 : List Loc), post r L1 f1 → gH E A L1 f1 H0 H1 locs1 → W p l e R s m args below meth c H1 locs1 0 0 Q (F0 m (pc + 3) ls (.int r :: rest))) : W p l e R s m args below meth c H locs 0 0 Q (F0 m pc ls st0) := by
  refine g_calli hH hA hr (fun r L1 f1 H1 locs1 h1 h2 => ?_)
  obtain ⟨rfl, rfl⟩ := hz
  exact kk r L1 f1 H1 locs1 h1 h2
theorem t_callV {mc ms : Nat} {st0 : List Value} {av : Array Value} {post : List Nat → gF → Prop} (hz : mc = 0 ∧ ms = 0) (hH : gH E A L f H0 H locs) (hA : ∀ q, H0.size ≤ q → A q) (hr : va_Run p l e R s m args below meth c H locs 0 0 mc ms (F0 m pc ls st0) rest (gQv E (gA L f H.size) post av) (gA L f H.size))
    (kk : ∀ (L1 : List Nat) (f1 : gF) (H1 : Heap) (locs1 : List Loc), post L1 f1 → gH E A L1 f1 H0 H1 locs1 → W p l e R s m args below meth c H1 locs1 0 0 Q (F0 m (pc + 3) ls rest)) : W p l e R s m args below meth c H locs 0 0 Q (F0 m pc ls st0) := by
  refine g_callv hH hA hr (fun L1 f1 H1 locs1 h1 h2 => ?_)
  obtain ⟨rfl, rfl⟩ := hz
  exact kk L1 f1 H1 locs1 h1 h2
theorem t_recv (C : gC E cc nl own p s m args meth c) (hH : gH E A L f H0 H locs) (hI : tI E L τ f) (ha : a ∈ L) (ht : τ a = t) {ci : Nat} {ds : List gFd} (hd : tTab[t]? = some (.inl (ci, ds))) {Cn : String} {T : u_T} {N : Nat} (hc : vwCl[ci]? = some (Cn, T, N)) : ∃ cellB : Cell, H[a]? = some cellB ∧ cellB.vm.isStatics = false ∧ s.vm.findClass Cn = some cellB.cls := by
  obtain ⟨fs, hf, ho⟩ := t_obj hI ha ht hd
  exact g_recv C hH ha hf hc
theorem t_Vi (C : gC E cc nl own p s m args meth c) (hO : oW J A s s.heap) (hls : ls.size = nl) (hA : ∀ q, s.heap.size ≤ q → A q) (hH : gH E A L f s.heap H locs) (hI : tI E L τ f) {Cn : String} {y : MethodName} {bytes : ByteArray} {maxL n index ci N : Nat} {ds : List gFd} {ret : FieldType} {rm : Room} {b : Nat} {As st0 : List Value} {T : u_T} {post : Int32 → List Nat → gF → Prop} (M : tMi l E J y bytes maxL ret rm (.ref b :: As) L f post) (wy : gWV Cn y bytes maxL (some ret) n) (hl : Cond.methodLink own index y ∈ gW) (hb : b ∈ L) (htb : τ b = t) (hd : tTab[t]? = some (.inl (ci, ds))) (hc : vwCl[ci]? = some (Cn, T, N)) (hn : As.length = n) (hst : st0 = As.reverse ++ .ref b :: rest) (hw : (rest.map fun v => v.category).sum ≤ 8) (hR : rm.frames + 1 ≤ R.frames ∧ 8 + (maxL + 11) + rm.locals ≤ R.locals) (hz : rm.cells = 0 ∧ rm.slots = 0) (hdg : decode cc pc = .ok (.invokevirtual index, 3))
    (kk : ∀ (r : Int32) (L1 : List Nat) (f1 : gF) (H1 : Heap) (locs1 : List Loc), post r L1 f1 → gH E A L1 f1 s.heap H1 locs1 → W p l e R s m args below meth c H1 locs1 0 0 Q (F0 m (pc + 3) ls (.int r :: rest))) : W p l e R s m args below meth c H locs 0 0 Q (F0 m pc ls st0) :=
  t_callI hz hH hA (va_runV (As := As) (b := b) (rest := rest) ⟨C.1, C.2.1, C.2.2.1, C.2.2.2.1, C.2.2.2.2.1⟩ (M H.size) (g_cwV C.2.2.2.2.1 wy hl hR) ⟨t_blind, t_recv C hH hI hb htb hd hc, t_pre C hO hA hH _⟩ rfl hn hls hst (lv_room hw) hdg ⟨by rw [hz.1]; exact Nat.zero_le _, by rw [hz.2]; exact Nat.zero_le _⟩) kk
theorem t_Vv (C : gC E cc nl own p s m args meth c) (hO : oW J A s s.heap) (hls : ls.size = nl) (hA : ∀ q, s.heap.size ≤ q → A q) (hH : gH E A L f s.heap H locs) (hI : tI E L τ f) {Cn : String} {y : MethodName} {bytes : ByteArray} {maxL n index ci N : Nat} {ds : List gFd} {rm : Room} {b : Nat} {As st0 : List Value} {T : u_T} {post : List Nat → gF → Prop} (M : tMv l E J y bytes maxL rm (.ref b :: As) L f post) (wy : gWV Cn y bytes maxL none n) (hl : Cond.methodLink own index y ∈ gW) (hb : b ∈ L) (htb : τ b = t) (hd : tTab[t]? = some (.inl (ci, ds))) (hc : vwCl[ci]? = some (Cn, T, N)) (hn : As.length = n) (hst : st0 = As.reverse ++ .ref b :: rest) (hw : (rest.map fun v => v.category).sum ≤ 8) (hR : rm.frames + 1 ≤ R.frames ∧ 8 + (maxL + 11) + rm.locals ≤ R.locals) (hz : rm.cells = 0 ∧ rm.slots = 0) (hdg : decode cc pc = .ok (.invokevirtual index, 3))
    (kk : ∀ (L1 : List Nat) (f1 : gF) (H1 : Heap) (locs1 : List Loc), post L1 f1 → gH E A L1 f1 s.heap H1 locs1 → W p l e R s m args below meth c H1 locs1 0 0 Q (F0 m (pc + 3) ls rest)) : W p l e R s m args below meth c H locs 0 0 Q (F0 m pc ls st0) :=
  t_callV hz hH hA (va_runV (As := As) (b := b) (rest := rest) ⟨C.1, C.2.1, C.2.2.1, C.2.2.2.1, C.2.2.2.2.1⟩ (M H.size) (g_cwV C.2.2.2.2.1 wy hl hR) ⟨t_blind, t_recv C hH hI hb htb hd hc, t_pre C hO hA hH _⟩ rfl hn hls hst (lv_room hw) hdg ⟨by rw [hz.1]; exact Nat.zero_le _, by rw [hz.2]; exact Nat.zero_le _⟩) kk
theorem t_Si (C : gC E cc nl own p s m args meth c) (hO : oW J A s s.heap) (hls : ls.size = nl) (hA : ∀ q, s.heap.size ≤ q → A q) (hH : gH E A L f s.heap H locs) {Cn : String} {y : MethodName} {bytes : ByteArray} {maxL n index : Nat} {ret : FieldType} {rm : Room} {As st0 : List Value} {post : Int32 → List Nat → gF → Prop} (M : tMi l E J y bytes maxL ret rm As L f post) (wy : gWS Cn y bytes maxL (some ret) n) (hl : Cond.methodLink own index y ∈ gW) (hn : As.length = n) (hst : st0 = As.reverse ++ rest) (hw : (rest.map fun v => v.category).sum ≤ 8) (hR : rm.frames + 1 ≤ R.frames ∧ 8 + (maxL + 11) + rm.locals ≤ R.locals) (hz : rm.cells = 0 ∧ rm.slots = 0) (hdg : decode cc pc = .ok (.invokestatic index, 3))
    (kk : ∀ (r : Int32) (L1 : List Nat) (f1 : gF) (H1 : Heap) (locs1 : List Loc), post r L1 f1 → gH E A L1 f1 s.heap H1 locs1 → W p l e R s m args below meth c H1 locs1 0 0 Q (F0 m (pc + 3) ls (.int r :: rest))) : W p l e R s m args below meth c H locs 0 0 Q (F0 m pc ls st0) :=
  t_callI hz hH hA (va_runS (As := As) (rest := rest) ⟨C.1, C.2.1, C.2.2.1, C.2.2.2.1, C.2.2.2.2.1⟩ (M H.size) (g_cwS C.2.2.2.2.1 wy hl hR) ⟨t_blind, t_pre C hO hA hH _⟩ rfl hn hls hst (lv_room hw) hdg ⟨by rw [hz.1]; exact Nat.zero_le _, by rw [hz.2]; exact Nat.zero_le _⟩) kk
theorem t_Sl (C : gC E cc nl own p s m args meth c) (hO : oW J A s s.heap) (hls : ls.size = nl) (hA : ∀ q, s.heap.size ≤ q → A q) (hH : gH E A L f s.heap H locs) {Cn : String} {y : MethodName} {bytes : ByteArray} {maxL n index : Nat} {rm : Room} {As st0 : List Value} {post : Int64 → List Nat → gF → Prop} (M : tMl l E J y bytes maxL rm As L f post) (wy : gWS Cn y bytes maxL (some .long) n) (hl : Cond.methodLink own index y ∈ gW) (hn : As.length = n) (hst : st0 = As.reverse ++ rest) (hw : (rest.map fun v => v.category).sum ≤ 8) (hR : rm.frames + 1 ≤ R.frames ∧ 8 + (maxL + 11) + rm.locals ≤ R.locals) (hz : rm.cells = 0 ∧ rm.slots = 0) (hdg : decode cc pc = .ok (.invokestatic index, 3))
    (kk : ∀ (r : Int64) (L1 : List Nat) (f1 : gF) (H1 : Heap) (locs1 : List Loc), post r L1 f1 → gH E A L1 f1 s.heap H1 locs1 → W p l e R s m args below meth c H1 locs1 0 0 Q (F0 m (pc + 3) ls (.long r :: rest))) : W p l e R s m args below meth c H locs 0 0 Q (F0 m pc ls st0) :=
  t_callL hz hH hA (va_runS (As := As) (rest := rest) ⟨C.1, C.2.1, C.2.2.1, C.2.2.2.1, C.2.2.2.2.1⟩ (M H.size) (g_cwS C.2.2.2.2.1 wy hl hR) ⟨t_blind, t_pre C hO hA hH _⟩ rfl hn hls hst (lv_room hw) hdg ⟨by rw [hz.1]; exact Nat.zero_le _, by rw [hz.2]; exact Nat.zero_le _⟩) kk
theorem t_Sv (C : gC E cc nl own p s m args meth c) (hO : oW J A s s.heap) (hls : ls.size = nl) (hA : ∀ q, s.heap.size ≤ q → A q) (hH : gH E A L f s.heap H locs) {Cn : String} {y : MethodName} {bytes : ByteArray} {maxL n index : Nat} {rm : Room} {As st0 : List Value} {post : List Nat → gF → Prop} (M : tMv l E J y bytes maxL rm As L f post) (wy : gWS Cn y bytes maxL none n) (hl : Cond.methodLink own index y ∈ gW) (hn : As.length = n) (hst : st0 = As.reverse ++ rest) (hw : (rest.map fun v => v.category).sum ≤ 8) (hR : rm.frames + 1 ≤ R.frames ∧ 8 + (maxL + 11) + rm.locals ≤ R.locals) (hz : rm.cells = 0 ∧ rm.slots = 0) (hdg : decode cc pc = .ok (.invokestatic index, 3))
    (kk : ∀ (L1 : List Nat) (f1 : gF) (H1 : Heap) (locs1 : List Loc), post L1 f1 → gH E A L1 f1 s.heap H1 locs1 → W p l e R s m args below meth c H1 locs1 0 0 Q (F0 m (pc + 3) ls rest)) : W p l e R s m args below meth c H locs 0 0 Q (F0 m pc ls st0) :=
  t_callV hz hH hA (va_runS (As := As) (rest := rest) ⟨C.1, C.2.1, C.2.2.1, C.2.2.2.1, C.2.2.2.2.1⟩ (M H.size) (g_cwS C.2.2.2.2.1 wy hl hR) ⟨t_blind, t_pre C hO hA hH _⟩ rfl hn hls hst (lv_room hw) hdg ⟨by rw [hz.1]; exact Nat.zero_le _, by rw [hz.2]; exact Nat.zero_le _⟩) kk
theorem t_SNi (C : gC E cc nl own p s m args meth c) (hO : oW J A s s.heap) (hls : ls.size = nl) (hA : ∀ q, s.heap.size ≤ q → A q) (hH : gH E A L f s.heap H locs) {Cn host : String} {y : MethodName} {bytes : ByteArray} {maxL n index : Nat} {ret : FieldType} {rm : Room} {As st0 : List Value} {post : Int32 → List Nat → gF → Prop} (M : tMi l E J y bytes maxL ret rm As L f post) (wy : gWS Cn y bytes maxL (some ret) n) (hl : (own, index, y, host) ∈ gNest) (hn : As.length = n) (hst : st0 = As.reverse ++ rest) (hw : (rest.map fun v => v.category).sum ≤ 8) (hR : rm.frames + 1 ≤ R.frames ∧ 8 + (maxL + 11) + rm.locals ≤ R.locals) (hz : rm.cells = 0 ∧ rm.slots = 0) (hdg : decode cc pc = .ok (.invokestatic index, 3))
    (kk : ∀ (r : Int32) (L1 : List Nat) (f1 : gF) (H1 : Heap) (locs1 : List Loc), post r L1 f1 → gH E A L1 f1 s.heap H1 locs1 → W p l e R s m args below meth c H1 locs1 0 0 Q (F0 m (pc + 3) ls (.int r :: rest))) : W p l e R s m args below meth c H locs 0 0 Q (F0 m pc ls st0) :=
  t_callI hz hH hA (va_runSN (As := As) (rest := rest) ⟨C.1, C.2.1, C.2.2.1, C.2.2.2.1, C.2.2.2.2.1⟩ (M H.size) ⟨va_cnB n C.2.2.2.2.1 (g_goodC wy.1.2.2) rfl rfl rfl (C.2.2.2.2.2.1.2.1 _ hl) (by rw [wy.2.1]; exact C.2.2.2.2.1 _ wy.1.2.1) wy.2.2 hR, C.2.2.2.2.1 _ wy.1.1, trivial⟩ ⟨t_blind, t_pre C hO hA hH _⟩ rfl hn hls hst (lv_room hw) hdg ⟨by rw [hz.1]; exact Nat.zero_le _, by rw [hz.2]; exact Nat.zero_le _⟩) kk
theorem g_lret {mc ms : Nat} {r : Int64} {post : Int64 → List Nat → gF → Prop} (C : gC E cc nl own p s m args meth c) (hr : meth.sig.returnType = some .long) (hH : gH E A L f s.heap H locs) (hdg : decode cc pc = .ok (.lreturn, 1)) (hp : post r L f) : W p l e R s m args below meth c H locs 0 0 (MQ below (gQl E A post) args s mc ms A) (F0 m pc ls [.long r]) := by
  obtain ⟨hx, hb, hml, hown, hts, hK, hlocks⟩ := C
  refine W.widen (k := mc) (n := ms) (Nat.zero_le _) (Nat.zero_le _) ?_
  exact W.lret hx hb hr (fun t ht hW => ⟨⟨r, (L, f), rfl, hp, by rw [ht]; exact hH.1, hH.2.1⟩, hH.2.2.F ht⟩) hH.2.2.2.2 hdg
end TW
theorem t_fldi {E : gE} {L : List Nat} {τ : Nat → Nat} {f : gF} {a t ci k : Nat} {ds : List gFd} (hI : tI E L τ f) (ha : a ∈ L) (ht : τ a = t) (hd : tTab[t]? = some (.inl (ci, ds))) {lo hi : Int} (hr : ds[k]? = some (.inl (lo, hi))) : ∃ v : Int32, rg v lo hi ∧ fld f a k (.int v) := by
  obtain ⟨fs, hf, ho⟩ := t_obj hI ha ht hd
  obtain ⟨v, hv, x, rfl, hx⟩ := ho.2 k _ hr
  exact ⟨x, hx, ci, fs, hf, hv⟩
theorem fld_cast {f : gF} {a k : Nat} {v u : Int32} (h : fld f a k (.int v)) (e : v = u) : fld f a k (.int u) := by rw [← e]; exact h
theorem fld_inj {f : gF} {a k : Nat} {v u : Int32} (h : fld f a k (.int v)) (h2 : fld f a k (.int u)) : v = u := by
  obtain ⟨c1, f1, h1, h3⟩ := h
  obtain ⟨c2, f2, g1, g3⟩ := h2
  rw [h1] at g1
  cases g1
  rw [h3] at g3
  cases g3
  rfl
theorem tR_cpy {n0 n1 : Nat} {a b : Int} {u v : Nat → Int32} {sp dp n : Nat} (hu : tR n0 a b u) (hv : tR n1 a b v) (h : sp + n ≤ n0) : tR n1 a b (va_cpy u v sp dp n) := fun i hi => by
  unfold va_cpy
  split
  · exact hu _ (by omega)
  · exact hv i hi
section TX
variable {p : Program} {l : Launch} {e : Env} {R : Room} {s : State} {m : MethodId} {args : Array Value} {below : List Frame} {meth : Method} {c : Code} {H H0 : Heap} {locs : List Loc} {Q : State → Prop}
variable {E : gE} {J : Nat → Nat} {cc : ByteArray} {nl : Nat} {own : String} {A : Nat → Prop} {L : List Nat} {τ : Nat → Nat} {ws : List Nat} {f0 f : gF} {pc : Nat} {ls : Array Slot} {rest : List Value} {a b t u : Nat}
/-- a whole copy between arrays of ints, at known places -/
theorem t_copy (C : gC E cc nl own p s m args meth c) (hls : nl = ls.size) (hH : gH E A L f H0 H locs) (hI : tS E L τ ws f0 f) {index : Nat} (hlink : Cond.methodLink own index arraycopyName ∈ gW) (hnat : Cond.native arraycopyName ∈ gW) (hstat : Cond.static arraycopyName ∈ gW) (hini : Cond.initialized "java/lang/System" ∈ gW) {n0 n1 : Nat} {P0 P1 : (Nat → Int32) → Prop} (hb : b ∈ L) (hu : τ b = u) (hd0 : tTab[u]? = some (.inr (.inl (1, n0, P0)))) (ha : a ∈ L) (ht : τ a = t) (hw : ws.contains t = true) (hd : tTab[t]? = some (.inr (.inl (1, n1, P1)))) {sp dp n : Int32} (h1 : ¬ sp < 0) (h2 : ¬ dp < 0) (h3 : ¬ n < 0) (h4 : sp.toNatClampNeg + n.toNatClampNeg ≤ n0) (h5 : dp.toNatClampNeg + n.toNatClampNeg ≤ n1) (hP : ∀ u v : Nat → Int32, P0 u → P1 v → P1 (va_cpy u v sp.toNatClampNeg dp.toNatClampNeg n.toNatClampNeg)) (hframes : 1 ≤ R.frames) (hlocals : (rest.map fun v => v.category).sum + (nativeFrameWords "java/lang/System" "arraycopy" 5 + 11) ≤ R.locals) (hdg : decode cc pc = .ok (.invokestatic index, 3))
    (kk : ∀ (f1 : gF) (H1 : Heap) (locs1 : List Loc), gH E A L f1 H0 H1 locs1 → tS E L τ ws f0 f1 → (∀ b, b ≠ a → f1 b = f b) → W p l e R s m args below meth c H1 locs1 0 0 Q (F0 m (pc + 3) ls rest)) : W p l e R s m args below meth c H locs 0 0 Q (F0 m pc ls (.int n :: .int dp :: .ref a :: .int sp :: .ref b :: rest)) := by
  obtain ⟨v0, hf0, hv0⟩ := t_arr hI.1 hb hu hd0
  obtain ⟨v1, hf1, hv1⟩ := t_arr hI.1 ha ht hd
  exact g_copyi C hls hH hlink hnat hstat hini hb hf0 ha hf1 h1 h2 h3 h4 h5 hframes hlocals hdg (fun H1 locs1 hH1 => kk _ H1 locs1 hH1 (hI.up ht hw hd ⟨_, rfl, hP _ _ hv0 hv1⟩ (fun _ _ h => absurd h (fld_noA hf1))) (fun b hb => va_up_ne _ _ hb))
theorem t_copyJ (C : gC E cc nl own p s m args meth c) (hls : nl = ls.size) (hH : gH E A L f H0 H locs) (hI : tS E L τ ws f0 f) {index : Nat} (hlink : Cond.methodLink own index arraycopyName ∈ gW) (hnat : Cond.native arraycopyName ∈ gW) (hstat : Cond.static arraycopyName ∈ gW) (hini : Cond.initialized "java/lang/System" ∈ gW) {n0 n1 : Nat} (hb : b ∈ L) (hu : τ b = u) (hd0 : tTab[u]? = some (.inr (.inr (.inl n0)))) (ha : a ∈ L) (ht : τ a = t) (hw : ws.contains t = true) (hd : tTab[t]? = some (.inr (.inr (.inl n1)))) {sp dp n : Int32} (h1 : ¬ sp < 0) (h2 : ¬ dp < 0) (h3 : ¬ n < 0) (h4 : sp.toNatClampNeg + n.toNatClampNeg ≤ n0) (h5 : dp.toNatClampNeg + n.toNatClampNeg ≤ n1) (hframes : 1 ≤ R.frames) (hlocals : (rest.map fun v => v.category).sum + (nativeFrameWords "java/lang/System" "arraycopy" 5 + 11) ≤ R.locals) (hdg : decode cc pc = .ok (.invokestatic index, 3))
    (kk : ∀ (f1 : gF) (H1 : Heap) (locs1 : List Loc), gH E A L f1 H0 H1 locs1 → tS E L τ ws f0 f1 → (∀ b, b ≠ a → f1 b = f b) → W p l e R s m args below meth c H1 locs1 0 0 Q (F0 m (pc + 3) ls rest)) : W p l e R s m args below meth c H locs 0 0 Q (F0 m pc ls (.int n :: .int dp :: .ref a :: .int sp :: .ref b :: rest)) := by
  obtain ⟨v0, hf0⟩ := t_arrJ hI.1 hb hu hd0
  obtain ⟨v1, hf1⟩ := t_arrJ hI.1 ha ht hd
  exact g_copyl C hls hH hlink hnat hstat hini hb hf0 ha hf1 h1 h2 h3 h4 h5 hframes hlocals hdg (fun H1 locs1 hH1 => kk _ H1 locs1 hH1 (hI.up ht hw hd ⟨_, rfl⟩ (fun _ _ h => absurd h (fld_noA hf1))) (fun b hb => va_up_ne _ _ hb))
end TX
