/-! A POOL THAT GROWS: what is under construction (X) is not typed yet -/
def tX (E : gE) (X L : List Nat) (τ : Nat → Nat) (f : gF) : Prop := ∀ a ∈ L, a ∉ X → ∃ d, tTab[τ a]? = some d ∧ tD E L τ d (f a)
/-- what was there is there, with its type, and its contents but for Y; what is new has a type of ts -/
def xG (Y L : List Nat) (τ : Nat → Nat) (f : gF) (L2 : List Nat) (τ2 : Nat → Nat) (f2 : gF) (ts : List Nat) : Prop := (∀ b ∈ L, b ∈ L2 ∧ τ2 b = τ b ∧ (b ∉ Y → f2 b = f b)) ∧ ∀ b ∈ L2, b ∈ L ∨ τ2 b ∈ ts
theorem tF.grow {L L2 : List Nat} {τ τ2 : Nat → Nat} {d : gFd} {v : Value} (g : ∀ b ∈ L, b ∈ L2 ∧ τ2 b = τ b) (h : tF L τ d v) : tF L2 τ2 d v := by
  match d, h with
  | .inl r, h => exact h
  | .inr (.inl t), h =>
    obtain ⟨b, hv, hb, ht⟩ := h
    exact ⟨b, hv, (g b hb).1, (g b hb).2.trans ht⟩
  | .inr (.inr _), h => exact h
theorem tD.grow {E : gE} {L L2 : List Nat} {τ τ2 : Nat → Nat} {d : gTd} {e : va_E} (g : ∀ b ∈ L, b ∈ L2 ∧ τ2 b = τ b) (h : tD E L τ d e) : tD E L2 τ2 d e := by
  match d, h with
  | .inl o, h =>
    obtain ⟨fs, he, hl, hF⟩ := h
    refine ⟨fs, he, hl, fun k d hk => ?_⟩
    obtain ⟨v, hv, hf⟩ := hF k d hk
    exact ⟨v, hv, tF.grow g hf⟩
  | .inr (.inl a), h => exact h
  | .inr (.inr (.inl n)), h => exact h
  | .inr (.inr (.inr a)), h =>
    obtain ⟨v, he, hq⟩ := h
    refine ⟨v, he, fun i hi => ?_⟩
    obtain ⟨b, hb, hL, ht⟩ := hq i hi
    exact ⟨b, hb, (g b hL).1, (g b hL).2.trans ht⟩
section XG
variable {E : gE} {A : Nat → Prop} {X Y L L2 L3 : List Nat} {τ τ2 τ3 : Nat → Nat} {f f2 f3 : gF} {ts us : List Nat} {H0 H : Heap} {locs : List Loc} {a b n t u : Nat} {e : va_E}
theorem xG.g (h : xG Y L τ f L2 τ2 f2 ts) : ∀ b ∈ L, b ∈ L2 ∧ τ2 b = τ b := fun b hb => ⟨(h.1 b hb).1, (h.1 b hb).2.1⟩
theorem xG.m (h : xG Y L τ f L2 τ2 f2 ts) (hb : b ∈ L) : b ∈ L2 := (h.1 b hb).1
theorem xG.ty (h : xG Y L τ f L2 τ2 f2 ts) (hb : b ∈ L) (ht : τ b = t) : τ2 b = t := (h.1 b hb).2.1.trans ht
theorem xG.k (h : xG Y L τ f L2 τ2 f2 ts) (hb : b ∈ L) (hY : b ∉ Y) : f2 b = f b := (h.1 b hb).2.2 hY
theorem xG.rf (Y L : List Nat) (τ : Nat → Nat) (f : gF) : xG Y L τ f L τ f [] := ⟨fun b hb => ⟨hb, rfl, fun _ => rfl⟩, fun b hb => .inl hb⟩
theorem xG.tr (h : xG Y L τ f L2 τ2 f2 ts) (h2 : xG Y L2 τ2 f2 L3 τ3 f3 us) : xG Y L τ f L3 τ3 f3 (us ++ ts) := by
  refine ⟨fun b hb => ?_, fun b hb => ?_⟩
  · obtain ⟨m, t, k⟩ := h.1 b hb
    obtain ⟨m2, t2, k2⟩ := h2.1 b m
    exact ⟨m2, t2.trans t, fun hY => (k2 hY).trans (k hY)⟩
  · rcases h2.2 b hb with h3 | h3
    · rcases h.2 b h3 with h4 | h4
      · exact .inl h4
      · exact .inr (List.mem_append_right _ (by rw [(h2.1 b h3).2.1]; exact h4))
    · exact .inr (List.mem_append_left _ h3)
theorem nm_0 : a ∉ ([] : List Nat) := List.not_mem_nil
theorem nm_c (h : a ≠ b) (hX : a ∉ X) : a ∉ b :: X := fun m => (List.mem_cons.mp m).elim h hX
theorem nm_1 (h : a ≠ b) : a ∉ [b] := nm_c h nm_0
theorem tX.nil (h : tX E [] L τ f) : tI E L τ f := fun a ha => h a ha List.not_mem_nil
theorem tX.fin {d : gTd} (h : tX E (a :: X) L τ f) (hd : tTab[τ a]? = some d) (he : tD E L τ d (f a)) : tX E X L τ f := fun b hb hX => by
  by_cases q : b = a
  · rw [q]
    exact ⟨d, hd, he⟩
  · exact h b hb (nm_c q hX)
theorem tX.obj {ci : Nat} {ds : List gFd} (h : tX E X L τ f) (ma : a ∈ L) (ht : τ a = t) (hX : a ∉ X) (hd : tTab[t]? = some (.inl (ci, ds))) : ∃ fs, f a = .inr (ci, fs) := by
  obtain ⟨d, h1, h2⟩ := h a ma hX
  rw [ht, hd] at h1
  cases h1
  obtain ⟨fs, hf, -⟩ := h2
  exact ⟨fs, hf⟩
theorem tX.arr {tg : Nat} {P : (Nat → Int32) → Prop} (h : tX E X L τ f) (ma : a ∈ L) (ht : τ a = t) (hX : a ∉ X) (hd : tTab[t]? = some (.inr (.inl (tg, n, P)))) : ∃ v : Nat → Int32, f a = .inl (E.2.2 tg, n, .inl v) := by
  obtain ⟨d, h1, h2⟩ := h a ma hX
  rw [ht, hd] at h1
  cases h1
  obtain ⟨v, hf, -⟩ := h2
  exact ⟨v, hf⟩
theorem x_new (hH : gH E A (L ++ [n]) (va_up f n e) H0 H locs) (hT : tX E X L τ f) (hn : n ∉ L) (t : Nat) : ∃ (L2 : List Nat) (τ2 : Nat → Nat) (f2 : gF), gH E A L2 f2 H0 H locs ∧ tX E (n :: X) L2 τ2 f2 ∧ (∀ Y, xG Y L τ f L2 τ2 f2 [t]) ∧ n ∈ L2 ∧ τ2 n = t ∧ f2 n = e ∧ ∀ b ∈ L2, b ∈ L ∨ b = n := by
  have g : ∀ b ∈ L, b ∈ L ++ [n] ∧ va_up τ n t b = τ b := fun b hb => ⟨List.mem_append_left _ hb, va_up_ne _ _ (g_neL hb hn)⟩
  have o : ∀ b ∈ L ++ [n], b ∈ L ∨ b = n := fun b hb => by
    rcases List.mem_append.mp hb with h | h
    · exact .inl h
    · exact .inr (List.mem_singleton.mp h)
  refine ⟨L ++ [n], va_up τ n t, va_up f n e, hH, fun b hb hX => ?_, fun Y => ⟨fun b hb => ⟨(g b hb).1, (g b hb).2, fun _ => va_up_ne _ _ (g_neL hb hn)⟩, fun b hb => ?_⟩, List.mem_append_right _ List.mem_cons_self, va_up_self _ _ _, va_up_self _ _ _, o⟩
  · rcases o b hb with h | h
    · obtain ⟨d, h1, h2⟩ := hT b h (fun q => hX (List.mem_cons_of_mem _ q))
      refine ⟨d, by rw [(g b h).2]; exact h1, ?_⟩
      rw [show va_up f n e b = f b from va_up_ne _ _ (g_neL h hn)]
      exact tD.grow g h2
    · exact absurd (by rw [h]; exact List.mem_cons_self) hX
  · rcases o b hb with h | h
    · exact .inl h
    · exact .inr (by rw [h, va_up_self]; exact List.mem_cons_self)
theorem x_newa (hH : gH E A (L ++ [n]) (va_up f n e) H0 H locs) (hT : tX E X L τ f) (hn : n ∉ L) (t : Nat) {d : gTd} (hd : tTab[t]? = some d) (he : ∀ (L : List Nat) (τ : Nat → Nat), tD E L τ d e) : ∃ (L2 : List Nat) (τ2 : Nat → Nat) (f2 : gF), gH E A L2 f2 H0 H locs ∧ tX E X L2 τ2 f2 ∧ (∀ Y, xG Y L τ f L2 τ2 f2 [t]) ∧ n ∈ L2 ∧ τ2 n = t ∧ f2 n = e ∧ ∀ b ∈ L2, b ∈ L ∨ b = n := by
  obtain ⟨L2, τ2, f2, h1, h2, h3, h4, h5, h6, h7⟩ := x_new hH hT hn t
  exact ⟨L2, τ2, f2, h1, h2.fin (d := d) (by rw [h5]; exact hd) (by rw [h6]; exact he _ _), h3, h4, h5, h6, h7⟩
theorem x_put (hH : gH E A L (va_up f a e) H0 H locs) (hT : tX E X L τ f) (ha : a ∈ X) : ∃ f2 : gF, gH E A L f2 H0 H locs ∧ tX E X L τ f2 ∧ xG [a] L τ f L τ f2 [] ∧ f2 a = e := by
  refine ⟨va_up f a e, hH, fun b hb hX => ?_, ⟨fun b hb => ⟨hb, rfl, fun hY => va_up_ne _ _ (fun q => hY (by rw [q]; exact List.mem_cons_self))⟩, fun b hb => .inl hb⟩, va_up_self _ _ _⟩
  have q : b ≠ a := fun q => hX (by rw [q]; exact ha)
  obtain ⟨d, h1, h2⟩ := hT b hb hX
  exact ⟨d, h1, by rw [show va_up f a e b = f b from va_up_ne _ _ q]; exact h2⟩
theorem x_ast {w : Nat → Int32} (hH : gH E A L (va_up f a (.inl (E.2.2 1, n, .inl w))) H0 H locs) (hT : tX E X L τ f) (ht : τ a = t) (hd : tTab[t]? = some (.inr (.inl (1, n, fun _ => True)))) : ∃ f2 : gF, gH E A L f2 H0 H locs ∧ tX E X L τ f2 ∧ xG [a] L τ f L τ f2 [] := by
  refine ⟨_, hH, fun b hb hX => ?_, ⟨fun b hb => ⟨hb, rfl, fun hY => va_up_ne _ _ (fun q => hY (by rw [q]; exact List.mem_cons_self))⟩, fun b hb => .inl hb⟩⟩
  by_cases q : b = a
  · rw [q, va_up_self, ht]
    exact ⟨_, hd, w, rfl, trivial⟩
  · obtain ⟨d, h1, h2⟩ := hT b hb hX
    exact ⟨d, h1, by rw [va_up_ne _ _ q]; exact h2⟩
/-- an object under construction: the fields dn are as its type says -/
def tQ (L : List Nat) (τ : Nat → Nat) (f : gF) (a ci : Nat) (ds : List gFd) (dn : List Nat) : Prop := ∃ fs : List Value, f a = .inr (ci, fs) ∧ fs.length = ds.length ∧ ∀ (k : Nat) (d : gFd), ds[k]? = some d → k ∈ dn → ∃ v, fs[k]? = some v ∧ tF L τ d v
theorem tQ_new {ci : Nat} {ds : List gFd} {fs : List Value} (dn : List Nat) (hd : tTab[t]? = some (.inl (ci, ds))) (hf : f a = .inr (ci, fs)) (hl : fs.length = ds.length) (h : ∀ (k : Nat) (d : gFd), ds[k]? = some d → k ∈ dn → ∃ v, fs[k]? = some v ∧ tF L τ d v) : tQ L τ f a ci ds dn := ⟨fs, hf, hl, h⟩
theorem tQ.x {ci : Nat} {ds : List gFd} {dn : List Nat} (h : tQ L τ f a ci ds dn) (g : xG Y L τ f L2 τ2 f2 ts) (ha : a ∈ L) (hY : a ∉ Y) : tQ L2 τ2 f2 a ci ds dn := by
  obtain ⟨fs, hf, hl, hq⟩ := h
  refine ⟨fs, (g.k ha hY).trans hf, hl, fun k d hd hk => ?_⟩
  obtain ⟨v, hv, ht⟩ := hq k d hd hk
  exact ⟨v, hv, tF.grow g.g ht⟩
theorem tQ.put {ci k : Nat} {ds : List gFd} {dn : List Nat} {fs : List Value} {d : gFd} {v : Value} (hl : fs.length = ds.length) (hq : ∀ (k : Nat) (d : gFd), ds[k]? = some d → k ∈ dn → ∃ v, fs[k]? = some v ∧ tF L τ d v) (he : f2 a = .inr (ci, fs.set k v)) (hd : ds[k]? = some d) (hv : tF L τ d v) : tQ L τ f2 a ci ds (k :: dn) := by
  refine ⟨_, he, by rw [List.length_set]; exact hl, fun j dj hj hm => ?_⟩
  by_cases q : k = j
  · subst q
    rw [hd] at hj
    cases hj
    exact ⟨v, by rw [List.getElem?_set_self (by rw [hl]; exact (List.getElem?_eq_some_iff.mp hd).1)], hv⟩
  · obtain ⟨w, hw, hF⟩ := hq j dj hj ((List.mem_cons.mp hm).resolve_left (fun e => q e.symm))
    exact ⟨w, by rw [List.getElem?_set_ne q]; exact hw, hF⟩
theorem tQ.fin {ci : Nat} {ds : List gFd} {dn : List Nat} (h : tQ L τ f a ci ds dn) (hT : tX E (a :: X) L τ f) (ht : τ a = t) (hd : tTab[t]? = some (.inl (ci, ds))) (s : ((List.range ds.length).all fun k => dn.contains k) = true) : tX E X L τ f := by
  obtain ⟨fs, hf, hl, hq⟩ := h
  refine hT.fin (d := .inl (ci, ds)) (by rw [ht]; exact hd) ?_
  rw [hf]
  refine ⟨fs, rfl, hl, fun k d hk => hq k d hk ?_⟩
  exact List.contains_iff_mem.mp (List.all_eq_true.mp s k (List.mem_range.mpr (List.getElem?_eq_some_iff.mp hk).1))
def tQA (E : gE) (L : List Nat) (τ : Nat → Nat) (f : gF) (a tg n t m : Nat) : Prop := ∃ v : Nat → Option Nat, f a = .inl (E.2.2 tg, n, .inr (.inr (.inr (.inr v)))) ∧ ∀ i, i < m → ∃ b, v i = some b ∧ b ∈ L ∧ τ b = t
theorem tQA.x {tg m : Nat} (h : tQA E L τ f a tg n t m) (g : xG Y L τ f L2 τ2 f2 ts) (ha : a ∈ L) (hY : a ∉ Y) : tQA E L2 τ2 f2 a tg n t m := by
  obtain ⟨v, hf, hq⟩ := h
  refine ⟨v, (g.k ha hY).trans hf, fun i hi => ?_⟩
  obtain ⟨b, h1, h2, h3⟩ := hq i hi
  exact ⟨b, h1, g.m h2, g.ty h2 h3⟩
theorem tQA.put {tg m j : Nat} {v : Nat → Option Nat} (hq : ∀ i, i < m → ∃ b, v i = some b ∧ b ∈ L ∧ τ b = t) (he : f2 a = .inl (E.2.2 tg, n, .inr (.inr (.inr (.inr (va_up v j (some b))))))) (hj : j = m) (hb : b ∈ L) (ht : τ b = t) : tQA E L τ f2 a tg n t (m + 1) := by
  refine ⟨_, he, fun i hi => ?_⟩
  by_cases q : i = j
  · exact ⟨b, by rw [q]; exact va_up_self _ _ _, hb, ht⟩
  · obtain ⟨c, h1, h2⟩ := hq i (by omega)
    exact ⟨c, by rw [va_up_ne _ _ q]; exact h1, h2⟩
theorem tQA.fin {tg : Nat} (h : tQA E L τ f a tg n t n) (hT : tX E (a :: X) L τ f) (hu : τ a = u) (hd : tTab[u]? = some (.inr (.inr (.inr (tg, n, t))))) : tX E X L τ f := by
  obtain ⟨v, hf, hq⟩ := h
  refine hT.fin (d := .inr (.inr (.inr (tg, n, t)))) (by rw [hu]; exact hd) ?_
  rw [hf]
  exact ⟨v, rfl, hq⟩
/-! which types there are -/
theorem n_x (h : ∀ b ∈ L, τ b ≠ t) (g : xG Y L τ f L2 τ2 f2 ts) (s : t ∉ ts) : ∀ b ∈ L2, τ2 b ≠ t := fun b hb q => by
  rcases g.2 b hb with h1 | h1
  · exact h b h1 ((g.1 b h1).2.1.symm.trans q)
  · rw [q] at h1
    exact s h1
theorem u_x (h : ∀ b ∈ L, τ b = t → b = a) (g : xG Y L τ f L2 τ2 f2 ts) (s : t ∉ ts) : ∀ b ∈ L2, τ2 b = t → b = a := fun b hb q => by
  rcases g.2 b hb with h1 | h1
  · exact h b h1 ((g.1 b h1).2.1.symm.trans q)
  · rw [q] at h1
    exact absurd h1 s
theorem u_new (h : ∀ b ∈ L, τ b ≠ t) (g : xG Y L τ f L2 τ2 f2 ts) (o : ∀ b ∈ L2, b ∈ L ∨ b = n) : ∀ b ∈ L2, τ2 b = t → b = n := fun b hb q => by
  rcases o b hb with h1 | h1
  · exact absurd ((g.1 b h1).2.1.symm.trans q) (h b h1)
  · exact h1
def tB (L : List Nat) (τ : Nat → Nat) (t : Nat) : Prop := (∀ a ∈ L, τ a < t) ∧ ∀ a ∈ L, ∀ b ∈ L, τ a = τ b → a = b
theorem tB.new (h : tB L τ t) (g : xG Y L τ f L2 τ2 f2 ts) (o : ∀ b ∈ L2, b ∈ L ∨ b = n) (hn : τ2 n = t) : tB L2 τ2 (t + 1) := by
  have h1 : ∀ a ∈ L, τ2 a < t := fun a ha => by rw [(g.1 a ha).2.1]; exact h.1 a ha
  refine ⟨fun a ha => ?_, fun a ha b hb q => ?_⟩
  · rcases o a ha with h2 | h2
    · have := h1 a h2
      omega
    · rw [h2, hn]
      omega
  · rcases o a ha with h2 | h2
    · rcases o b hb with h3 | h3
      · exact h.2 a h2 b h3 (by rw [← (g.1 a h2).2.1, ← (g.1 b h3).2.1]; exact q)
      · have := h1 a h2
        rw [q, h3, hn] at this
        omega
    · rcases o b hb with h3 | h3
      · have := h1 b h3
        rw [← q, h2, hn] at this
        omega
      · rw [h2, h3]
theorem isA_x {v : Nat → Int32} {m : Nat} (h : isA E L τ f t m v) (g : xG Y L τ f L2 τ2 f2 ts) (s : t ∉ ts) (hY : ∀ y ∈ Y, τ y ≠ t) : isA E L2 τ2 f2 t m v := fun b hb q => by
  rcases g.2 b hb with h1 | h1
  · have h2 := (g.1 b h1).2.1.symm.trans q
    exact (g.k h1 (fun hy => hY b hy h2)).trans (h b h1 h2)
  · rw [q] at h1
    exact absurd h1 s
theorem isA_nw {v : Nat → Int32} {m : Nat} (h : tB L τ t) (g : xG Y L τ f L2 τ2 f2 ts) (o : ∀ b ∈ L2, b ∈ L ∨ b = n) (he : f2 n = .inl (E.2.2 1, m, .inl v)) : isA E L2 τ2 f2 t m v := fun b hb q => by
  rcases o b hb with h1 | h1
  · have h2 := h.1 b h1
    rw [(g.1 b h1).2.1.symm.trans q] at h2
    omega
  · rw [h1]
    exact he
theorem ty_Y (ht : τ a = u) (h : (u == t) = false) : ∀ y ∈ [a], τ y ≠ t := fun y hy q => by
  rw [List.mem_singleton.mp hy, ht] at q
  subst q
  simp at h
end XG
theorem tR_z {n : Nat} {lo hi : Int} (s : (decide (lo ≤ 0) && decide (0 ≤ hi)) = true) : tR n lo hi (fun _ => 0) := fun i _ => by
  simp only [Bool.and_eq_true, decide_eq_true_eq] at s
  have t0 : (0 : Int32).toInt = 0 := by decide
  exact ⟨by rw [t0]; exact s.1, by rw [t0]; exact s.2⟩
theorem hasP_z : hasP (fun _ => 0) := fun i hi => by
  have h : ∀ j : Fin 9, (hasR j.val).1 ≤ (0 : Int32).toInt ∧ (0 : Int32).toInt ≤ (hasR j.val).2 := by decide +kernel
  exact h ⟨i % 9, Nat.mod_lt _ (by decide)⟩
theorem memP_z : memP (fun _ => 0) := fun i hi => by
  have t0 : (0 : Int32).toInt = 0 := by decide
  refine ⟨by rw [t0]; exact Int.le_refl _, ?_⟩
  rw [t0]
  split <;> decide
theorem actP_z : actP (fun _ => 0) := fun k _ h => absurd (show (0 : Int32) = 1 from h) (by decide)
theorem rowsR_z : rowsR (fun _ => 0) (fun _ => 0) := fun r _ => .inr (show (0 : Int32).toInt ≤ 0 ∧ (0 : Int32).toInt ≤ 0 ∧ (0 : Int32).toInt ≤ 0 from ⟨by decide, by decide, by decide⟩)
/-! what arrays of one type hold, as the pool grows -/
theorem isA_nn {E : gE} {Y L L2 : List Nat} {τ τ2 : Nat → Nat} {f f2 : gF} {ts : List Nat} {n t m : Nat} {v : Nat → Int32} (h : ∀ b ∈ L, τ b ≠ t) (g : xG Y L τ f L2 τ2 f2 ts) (o : ∀ b ∈ L2, b ∈ L ∨ b = n) (he : f2 n = .inl (E.2.2 1, m, .inl v)) : isA E L2 τ2 f2 t m v := fun b hb q => by
  rcases o b hb with h1 | h1
  · exact absurd ((g.1 b h1).2.1.symm.trans q) (h b h1)
  · rw [h1]
    exact he
theorem isZ_nn {E : gE} {Y L L2 : List Nat} {τ τ2 : Nat → Nat} {f f2 : gF} {ts : List Nat} {n t m : Nat} {v : Nat → Int32} (h : ∀ b ∈ L, τ b ≠ t) (g : xG Y L τ f L2 τ2 f2 ts) (o : ∀ b ∈ L2, b ∈ L ∨ b = n) (he : f2 n = .inl (E.2.2 3, m, .inl v)) : isZ E L2 τ2 f2 t m v := fun b hb q => by
  rcases o b hb with h1 | h1
  · exact absurd ((g.1 b h1).2.1.symm.trans q) (h b h1)
  · rw [h1]
    exact he
theorem isZ_x {E : gE} {Y L L2 : List Nat} {τ τ2 : Nat → Nat} {f f2 : gF} {ts : List Nat} {t m : Nat} {v : Nat → Int32} (h : isZ E L τ f t m v) (g : xG Y L τ f L2 τ2 f2 ts) (s : t ∉ ts) (hY : ∀ y ∈ Y, τ y ≠ t) : isZ E L2 τ2 f2 t m v := fun b hb q => by
  rcases g.2 b hb with h1 | h1
  · have h2 := (g.1 b h1).2.1.symm.trans q
    exact (g.k h1 (fun hy => hY b hy h2)).trans (h b h1 h2)
  · rw [q] at h1
    exact absurd h1 s
theorem fld_new {f2 : gF} {a ci k : Nat} {fs : List Value} {ds : List gFd} {v : Value} (hl : fs.length = ds.length) (hk : k < ds.length) (he : f2 a = .inr (ci, fs.set k v)) : fld f2 a k v := ⟨ci, _, he, by rw [List.getElem?_set_self (by rw [hl]; exact hk)]⟩
theorem fld_set {f f2 : gF} {a ci k j : Nat} {fs : List Value} {v u : Value} (hf : f a = .inr (ci, fs)) (he : f2 a = .inr (ci, fs.set k v)) (h : fld f a j u) (hj : k ≠ j) : fld f2 a j u := by
  obtain ⟨cj, gs, h1, h2⟩ := h
  rw [hf] at h1
  cases h1
  exact ⟨ci, _, he, by rw [List.getElem?_set_ne hj]; exact h2⟩
theorem x_ast2 {E : gE} {A : Nat → Prop} {X L : List Nat} {τ : Nat → Nat} {f : gF} {a n t : Nat} {H0 H : Heap} {locs : List Loc} {w : Nat → Int32} (hH : gH E A L (va_up f a (.inl (E.2.2 1, n, .inl w))) H0 H locs) (hT : tX E X L τ f) (ht : τ a = t) (hd : tTab[t]? = some (.inr (.inl (1, n, fun _ => True)))) : ∃ f2 : gF, gH E A L f2 H0 H locs ∧ tX E X L τ f2 ∧ xG [a] L τ f L τ f2 [] ∧ f2 a = .inl (E.2.2 1, n, .inl w) := by
  refine ⟨_, hH, fun b hb hX => ?_, ⟨fun b hb => ⟨hb, rfl, fun hY => va_up_ne _ _ (fun q => hY (by rw [q]; exact List.mem_cons_self))⟩, fun b hb => .inl hb⟩, va_up_self _ _ _⟩
  by_cases q : b = a
  · rw [q, va_up_self, ht]
    exact ⟨_, hd, w, rfl, trivial⟩
  · obtain ⟨d, h1, h2⟩ := hT b hb hX
    exact ⟨d, h1, by rw [va_up_ne _ _ q]; exact h2⟩
set_option maxHeartbeats 4000000 in
set_option maxRecDepth 100000 in
theorem kt_Land (l : Launch) (E : gE) (L : List Nat) (τ : Nat → Nat) (f : gF) (X : List Nat) (t : Nat) (hd : tTab[t]? = some (.inl (3, [.inl ((-2147483648), 2147483647), .inl (0, 5), .inl (0, 4), .inl (0, 3), .inl ((-2147483648), 2147483647), .inl ((-2147483648), 2147483647), .inl (0, 4), .inl (0, 6), .inl ((-2147483648), 2147483647), .inl (0, 40), .inr (.inl 4), .inr (.inl 5), .inr (.inl 6), .inr (.inl 7), .inr (.inl 8), .inr (.inl 9), .inr (.inl 10), .inr (.inl 11), .inr (.inl 12), .inr (.inl 13)]))) {q : Nat} (m_q : q ∈ L) (t_q : τ q = t) (e_q : f q = .inr (3, [.int (0 : Int32), .int (0 : Int32), .int (0 : Int32), .int (0 : Int32), .int (0 : Int32), .int (0 : Int32), .int (0 : Int32), .int (0 : Int32), .int (0 : Int32), .int (0 : Int32), .null, .null, .null, .null, .null, .null, .null, .null, .null, .null])) (hT : tX E (q :: X) L τ f) : gMv l E yX3_init cX3_init 1 (gRm 1 10 210) [.ref q] L f (fun L1 f1 => ∃ τ1 : Nat → Nat, tX E X L1 τ1 f1 ∧ xG [q] L τ f L1 τ1 f1 [13, 12, 11, 10, 9, 8, 7, 6, 5, 4]) := by
  refine gMv.intro (by decide) (Nat.le_of_ble_eq_true rfl) ?_
  intro p e s m below meth c A ls C hr hnm hA hH hl
  have C : gC E cX3_init 1 RX3 p s m _ meth c := C
  have hl : lv_has ls 1 [(0, .ref q)] := hl
  have hx := C.1
  have hb := C.2.1
  have hQ_q := tQ_new (L := L) (τ := τ) [0, 1, 2, 3, 4, 5, 6, 7, 8, 9] hd e_q rfl (fun k d hd hk => by
      simp only [List.mem_cons, List.not_mem_nil, or_false] at hk
      rcases hk with rfl | rfl | rfl | rfl | rfl | rfl | rfl | rfl | rfl | rfl
      · cases hd; exact ⟨_, rfl, _, rfl, rg_w rl_0 (by decide)⟩
      · cases hd; exact ⟨_, rfl, _, rfl, rg_w rl_0 (by decide)⟩
      · cases hd; exact ⟨_, rfl, _, rfl, rg_w rl_0 (by decide)⟩
      · cases hd; exact ⟨_, rfl, _, rfl, rg_w rl_0 (by decide)⟩
      · cases hd; exact ⟨_, rfl, _, rfl, rg_w rl_0 (by decide)⟩
      · cases hd; exact ⟨_, rfl, _, rfl, rg_w rl_0 (by decide)⟩
      · cases hd; exact ⟨_, rfl, _, rfl, rg_w rl_0 (by decide)⟩
      · cases hd; exact ⟨_, rfl, _, rfl, rg_w rl_0 (by decide)⟩
      · cases hd; exact ⟨_, rfl, _, rfl, rg_w rl_0 (by decide)⟩
      · cases hd; exact ⟨_, rfl, _, rfl, rg_w rl_0 (by decide)⟩
      )
  have hAc := xG.rf [q] L τ f
  refine lv_aload_n hx hb dX3_init_0 rfl (lv_at hl 0 rfl) ?_
  refine g_obj C hl.1 wd1169 wd1170 wd1171 dX3_init_1 (Nat.le_of_ble_eq_true rfl) (Nat.le_of_ble_eq_true rfl) ?_
  refine lv_aload_n hx hb dX3_init_4 rfl (lv_at hl 0 rfl) ?_
  refine lv_iconst (v := (4 : Int32)) hx hb dX3_init_5 (by decide) ?_
  refine g_newa C hH hA 1 rfl (fun _ _ h => h) wd1172 rfl (N' := 4) (a0 := (4, (.inl (fun _ => 0)))) (avI 4) (by decide) (by decide) (Nat.le_of_ble_eq_true rfl) (Nat.le_of_ble_eq_true rfl) (Nat.le_of_ble_eq_true rfl) dX3_init_6 (fun q1 H n2 hH => ?_)
  obtain ⟨L3, τ4, f5, hH, hT, g6, m_q1, t_q1, e_q1, o7⟩ := x_newa hH hT n2 4 td_4 (fun _ _ => ⟨_, rfl, tR_z (by decide)⟩)
  have hQ_q := hQ_q.x (g6 []) m_q nm_0
  have t_q := xG.ty (g6 []) m_q t_q
  have m_q := xG.m (g6 []) m_q
  have hAc := hAc.tr (g6 [q])
  obtain ⟨fs8, hfs8, hls8, hqs8⟩ := hQ_q
  refine g_putF C hH m_q hfs8 iX3 tyX3 tyX3_ok nmX3 rfl 10 (by decide) wd51 rfl rfl hnm rfl rfl rfl (by rw [hls8]; decide) (fs' := fs8.set 10 (.ref q1)) rfl dX3_init_8 (fun H locs hH => ?_)
  obtain ⟨f9, hH, hT, g10, e11⟩ := x_put hH hT List.mem_cons_self
  have hQ_q := tQ.put hls8 hqs8 e11 rfl (show tF _ _ (.inr (.inl 4)) _ from ⟨_, rfl, m_q1, t_q1⟩)
  have hAc := hAc.tr g10
  refine lv_aload_n hx hb dX3_init_11 rfl (lv_at hl 0 rfl) ?_
  refine lv_iconst (v := (4 : Int32)) hx hb dX3_init_12 (by decide) ?_
  refine g_newa C hH hA 1 rfl (fun _ _ h => h) wd1172 rfl (N' := 4) (a0 := (4, (.inl (fun _ => 0)))) (avI 4) (by decide) (by decide) (Nat.le_of_ble_eq_true rfl) (Nat.le_of_ble_eq_true rfl) (Nat.le_of_ble_eq_true rfl) dX3_init_13 (fun q12 H n13 hH => ?_)
  obtain ⟨L14, τ15, f16, hH, hT, g17, m_q12, t_q12, e_q12, o18⟩ := x_newa hH hT n13 5 td_5 (fun _ _ => ⟨_, rfl, tR_z (by decide)⟩)
  have hQ_q := hQ_q.x (g17 []) m_q nm_0
  have t_q := xG.ty (g17 []) m_q t_q
  have m_q := xG.m (g17 []) m_q
  have hAc := hAc.tr (g17 [q])
  obtain ⟨fs19, hfs19, hls19, hqs19⟩ := hQ_q
  refine g_putF C hH m_q hfs19 iX3 tyX3 tyX3_ok nmX3 rfl 11 (by decide) wd45 rfl rfl hnm rfl rfl rfl (by rw [hls19]; decide) (fs' := fs19.set 11 (.ref q12)) rfl dX3_init_15 (fun H locs hH => ?_)
  obtain ⟨f20, hH, hT, g21, e22⟩ := x_put hH hT List.mem_cons_self
  have hQ_q := tQ.put hls19 hqs19 e22 rfl (show tF _ _ (.inr (.inl 5)) _ from ⟨_, rfl, m_q12, t_q12⟩)
  have hAc := hAc.tr g21
  refine lv_aload_n hx hb dX3_init_18 rfl (lv_at hl 0 rfl) ?_
  refine lv_iconst (v := (4 : Int32)) hx hb dX3_init_19 (by decide) ?_
  refine g_newa C hH hA 1 rfl (fun _ _ h => h) wd1172 rfl (N' := 4) (a0 := (4, (.inl (fun _ => 0)))) (avI 4) (by decide) (by decide) (Nat.le_of_ble_eq_true rfl) (Nat.le_of_ble_eq_true rfl) (Nat.le_of_ble_eq_true rfl) dX3_init_20 (fun q23 H n24 hH => ?_)
  obtain ⟨L25, τ26, f27, hH, hT, g28, m_q23, t_q23, e_q23, o29⟩ := x_newa hH hT n24 6 td_6 (fun _ _ => ⟨_, rfl, trivial⟩)
  have hQ_q := hQ_q.x (g28 []) m_q nm_0
  have t_q := xG.ty (g28 []) m_q t_q
  have m_q := xG.m (g28 []) m_q
  have hAc := hAc.tr (g28 [q])
  obtain ⟨fs30, hfs30, hls30, hqs30⟩ := hQ_q
  refine g_putF C hH m_q hfs30 iX3 tyX3 tyX3_ok nmX3 rfl 12 (by decide) wd56 rfl rfl hnm rfl rfl rfl (by rw [hls30]; decide) (fs' := fs30.set 12 (.ref q23)) rfl dX3_init_22 (fun H locs hH => ?_)
  obtain ⟨f31, hH, hT, g32, e33⟩ := x_put hH hT List.mem_cons_self
  have hQ_q := tQ.put hls30 hqs30 e33 rfl (show tF _ _ (.inr (.inl 6)) _ from ⟨_, rfl, m_q23, t_q23⟩)
  have hAc := hAc.tr g32
  refine lv_aload_n hx hb dX3_init_25 rfl (lv_at hl 0 rfl) ?_
  refine lv_bipush (v := (6 : Int32)) hx hb dX3_init_26 (by decide) ?_
  refine g_newa C hH hA 1 rfl (fun _ _ h => h) wd1172 rfl (N' := 6) (a0 := (6, (.inl (fun _ => 0)))) (avI 6) (by decide) (by decide) (Nat.le_of_ble_eq_true rfl) (Nat.le_of_ble_eq_true rfl) (Nat.le_of_ble_eq_true rfl) dX3_init_28 (fun q34 H n35 hH => ?_)
  obtain ⟨L36, τ37, f38, hH, hT, g39, m_q34, t_q34, e_q34, o40⟩ := x_newa hH hT n35 7 td_7 (fun _ _ => ⟨_, rfl, tR_z (by decide)⟩)
  have hQ_q := hQ_q.x (g39 []) m_q nm_0
  have t_q := xG.ty (g39 []) m_q t_q
  have m_q := xG.m (g39 []) m_q
  have hAc := hAc.tr (g39 [q])
  obtain ⟨fs41, hfs41, hls41, hqs41⟩ := hQ_q
  refine g_putF C hH m_q hfs41 iX3 tyX3 tyX3_ok nmX3 rfl 13 (by decide) wd39 rfl rfl hnm rfl rfl rfl (by rw [hls41]; decide) (fs' := fs41.set 13 (.ref q34)) rfl dX3_init_30 (fun H locs hH => ?_)
  obtain ⟨f42, hH, hT, g43, e44⟩ := x_put hH hT List.mem_cons_self
  have hQ_q := tQ.put hls41 hqs41 e44 rfl (show tF _ _ (.inr (.inl 7)) _ from ⟨_, rfl, m_q34, t_q34⟩)
  have hAc := hAc.tr g43
  refine lv_aload_n hx hb dX3_init_33 rfl (lv_at hl 0 rfl) ?_
  refine lv_bipush (v := (6 : Int32)) hx hb dX3_init_34 (by decide) ?_
  refine g_newa C hH hA 1 rfl (fun _ _ h => h) wd1172 rfl (N' := 6) (a0 := (6, (.inl (fun _ => 0)))) (avI 6) (by decide) (by decide) (Nat.le_of_ble_eq_true rfl) (Nat.le_of_ble_eq_true rfl) (Nat.le_of_ble_eq_true rfl) dX3_init_36 (fun q45 H n46 hH => ?_)
  obtain ⟨L47, τ48, f49, hH, hT, g50, m_q45, t_q45, e_q45, o51⟩ := x_newa hH hT n46 8 td_8 (fun _ _ => ⟨_, rfl, trivial⟩)
  have hQ_q := hQ_q.x (g50 []) m_q nm_0
  have t_q := xG.ty (g50 []) m_q t_q
  have m_q := xG.m (g50 []) m_q
  have hAc := hAc.tr (g50 [q])
  obtain ⟨fs52, hfs52, hls52, hqs52⟩ := hQ_q
  refine g_putF C hH m_q hfs52 iX3 tyX3 tyX3_ok nmX3 rfl 14 (by decide) wd40 rfl rfl hnm rfl rfl rfl (by rw [hls52]; decide) (fs' := fs52.set 14 (.ref q45)) rfl dX3_init_38 (fun H locs hH => ?_)
  obtain ⟨f53, hH, hT, g54, e55⟩ := x_put hH hT List.mem_cons_self
  have hQ_q := tQ.put hls52 hqs52 e55 rfl (show tF _ _ (.inr (.inl 8)) _ from ⟨_, rfl, m_q45, t_q45⟩)
  have hAc := hAc.tr g54
  refine lv_aload_n hx hb dX3_init_41 rfl (lv_at hl 0 rfl) ?_
  refine lv_bipush (v := (6 : Int32)) hx hb dX3_init_42 (by decide) ?_
  refine g_newa C hH hA 1 rfl (fun _ _ h => h) wd1172 rfl (N' := 6) (a0 := (6, (.inl (fun _ => 0)))) (avI 6) (by decide) (by decide) (Nat.le_of_ble_eq_true rfl) (Nat.le_of_ble_eq_true rfl) (Nat.le_of_ble_eq_true rfl) dX3_init_44 (fun q56 H n57 hH => ?_)
  obtain ⟨L58, τ59, f60, hH, hT, g61, m_q56, t_q56, e_q56, o62⟩ := x_newa hH hT n57 9 td_9 (fun _ _ => ⟨_, rfl, trivial⟩)
  have hQ_q := hQ_q.x (g61 []) m_q nm_0
  have t_q := xG.ty (g61 []) m_q t_q
  have m_q := xG.m (g61 []) m_q
  have hAc := hAc.tr (g61 [q])
  obtain ⟨fs63, hfs63, hls63, hqs63⟩ := hQ_q
  refine g_putF C hH m_q hfs63 iX3 tyX3 tyX3_ok nmX3 rfl 15 (by decide) wd43 rfl rfl hnm rfl rfl rfl (by rw [hls63]; decide) (fs' := fs63.set 15 (.ref q56)) rfl dX3_init_46 (fun H locs hH => ?_)
  obtain ⟨f64, hH, hT, g65, e66⟩ := x_put hH hT List.mem_cons_self
  have hQ_q := tQ.put hls63 hqs63 e66 rfl (show tF _ _ (.inr (.inl 9)) _ from ⟨_, rfl, m_q56, t_q56⟩)
  have hAc := hAc.tr g65
  refine lv_aload_n hx hb dX3_init_49 rfl (lv_at hl 0 rfl) ?_
  refine lv_bipush (v := (40 : Int32)) hx hb dX3_init_50 (by decide) ?_
  refine g_newa C hH hA 1 rfl (fun _ _ h => h) wd1172 rfl (N' := 40) (a0 := (40, (.inl (fun _ => 0)))) (avI 40) (by decide) (by decide) (Nat.le_of_ble_eq_true rfl) (Nat.le_of_ble_eq_true rfl) (Nat.le_of_ble_eq_true rfl) dX3_init_52 (fun q67 H n68 hH => ?_)
  obtain ⟨L69, τ70, f71, hH, hT, g72, m_q67, t_q67, e_q67, o73⟩ := x_newa hH hT n68 10 td_10 (fun _ _ => ⟨_, rfl, tR_z (by decide)⟩)
  have hQ_q := hQ_q.x (g72 []) m_q nm_0
  have t_q := xG.ty (g72 []) m_q t_q
  have m_q := xG.m (g72 []) m_q
  have hAc := hAc.tr (g72 [q])
  obtain ⟨fs74, hfs74, hls74, hqs74⟩ := hQ_q
  refine g_putF C hH m_q hfs74 iX3 tyX3 tyX3_ok nmX3 rfl 16 (by decide) wd44 rfl rfl hnm rfl rfl rfl (by rw [hls74]; decide) (fs' := fs74.set 16 (.ref q67)) rfl dX3_init_54 (fun H locs hH => ?_)
  obtain ⟨f75, hH, hT, g76, e77⟩ := x_put hH hT List.mem_cons_self
  have hQ_q := tQ.put hls74 hqs74 e77 rfl (show tF _ _ (.inr (.inl 10)) _ from ⟨_, rfl, m_q67, t_q67⟩)
  have hAc := hAc.tr g76
  refine lv_aload_n hx hb dX3_init_57 rfl (lv_at hl 0 rfl) ?_
  refine lv_bipush (v := (40 : Int32)) hx hb dX3_init_58 (by decide) ?_
  refine g_newa C hH hA 1 rfl (fun _ _ h => h) wd1172 rfl (N' := 40) (a0 := (40, (.inl (fun _ => 0)))) (avI 40) (by decide) (by decide) (Nat.le_of_ble_eq_true rfl) (Nat.le_of_ble_eq_true rfl) (Nat.le_of_ble_eq_true rfl) dX3_init_60 (fun q78 H n79 hH => ?_)
  obtain ⟨L80, τ81, f82, hH, hT, g83, m_q78, t_q78, e_q78, o84⟩ := x_newa hH hT n79 11 td_11 (fun _ _ => ⟨_, rfl, tR_z (by decide)⟩)
  have hQ_q := hQ_q.x (g83 []) m_q nm_0
  have t_q := xG.ty (g83 []) m_q t_q
  have m_q := xG.m (g83 []) m_q
  have hAc := hAc.tr (g83 [q])
  obtain ⟨fs85, hfs85, hls85, hqs85⟩ := hQ_q
  refine g_putF C hH m_q hfs85 iX3 tyX3 tyX3_ok nmX3 rfl 17 (by decide) wd46 rfl rfl hnm rfl rfl rfl (by rw [hls85]; decide) (fs' := fs85.set 17 (.ref q78)) rfl dX3_init_62 (fun H locs hH => ?_)
  obtain ⟨f86, hH, hT, g87, e88⟩ := x_put hH hT List.mem_cons_self
  have hQ_q := tQ.put hls85 hqs85 e88 rfl (show tF _ _ (.inr (.inl 11)) _ from ⟨_, rfl, m_q78, t_q78⟩)
  have hAc := hAc.tr g87
  refine lv_aload_n hx hb dX3_init_65 rfl (lv_at hl 0 rfl) ?_
  refine lv_bipush (v := (20 : Int32)) hx hb dX3_init_66 (by decide) ?_
  refine g_newa C hH hA 1 rfl (fun _ _ h => h) wd1172 rfl (N' := 20) (a0 := (20, (.inl (fun _ => 0)))) (avI 20) (by decide) (by decide) (Nat.le_of_ble_eq_true rfl) (Nat.le_of_ble_eq_true rfl) (Nat.le_of_ble_eq_true rfl) dX3_init_68 (fun q89 H n90 hH => ?_)
  obtain ⟨L91, τ92, f93, hH, hT, g94, m_q89, t_q89, e_q89, o95⟩ := x_newa hH hT n90 12 td_12 (fun _ _ => ⟨_, rfl, trivial⟩)
  have hQ_q := hQ_q.x (g94 []) m_q nm_0
  have t_q := xG.ty (g94 []) m_q t_q
  have m_q := xG.m (g94 []) m_q
  have hAc := hAc.tr (g94 [q])
  obtain ⟨fs96, hfs96, hls96, hqs96⟩ := hQ_q
  refine g_putF C hH m_q hfs96 iX3 tyX3 tyX3_ok nmX3 rfl 18 (by decide) wd38 rfl rfl hnm rfl rfl rfl (by rw [hls96]; decide) (fs' := fs96.set 18 (.ref q89)) rfl dX3_init_70 (fun H locs hH => ?_)
  obtain ⟨f97, hH, hT, g98, e99⟩ := x_put hH hT List.mem_cons_self
  have hQ_q := tQ.put hls96 hqs96 e99 rfl (show tF _ _ (.inr (.inl 12)) _ from ⟨_, rfl, m_q89, t_q89⟩)
  have hAc := hAc.tr g98
  refine lv_aload_n hx hb dX3_init_73 rfl (lv_at hl 0 rfl) ?_
  refine lv_bipush (v := (80 : Int32)) hx hb dX3_init_74 (by decide) ?_
  refine g_newa C hH hA 1 rfl (fun _ _ h => h) wd1172 rfl (N' := 80) (a0 := (80, (.inl (fun _ => 0)))) (avI 80) (by decide) (by decide) (Nat.le_of_ble_eq_true rfl) (Nat.le_of_ble_eq_true rfl) (Nat.le_of_ble_eq_true rfl) dX3_init_76 (fun q100 H n101 hH => ?_)
  obtain ⟨L102, τ103, f104, hH, hT, g105, m_q100, t_q100, e_q100, o106⟩ := x_newa hH hT n101 13 td_13 (fun _ _ => ⟨_, rfl, tR_z (by decide)⟩)
  have hQ_q := hQ_q.x (g105 []) m_q nm_0
  have t_q := xG.ty (g105 []) m_q t_q
  have m_q := xG.m (g105 []) m_q
  have hAc := hAc.tr (g105 [q])
  obtain ⟨fs107, hfs107, hls107, hqs107⟩ := hQ_q
  refine g_putF C hH m_q hfs107 iX3 tyX3 tyX3_ok nmX3 rfl 19 (by decide) wd57 rfl rfl hnm rfl rfl rfl (by rw [hls107]; decide) (fs' := fs107.set 19 (.ref q100)) rfl dX3_init_78 (fun H locs hH => ?_)
  obtain ⟨f108, hH, hT, g109, e110⟩ := x_put hH hT List.mem_cons_self
  have hQ_q := tQ.put hls107 hqs107 e110 rfl (show tF _ _ (.inr (.inl 13)) _ from ⟨_, rfl, m_q100, t_q100⟩)
  have hAc := hAc.tr g109
  have hT := hQ_q.fin hT t_q hd (by decide)
  exact g_vret C hr hH (Nat.le_of_ble_eq_true rfl) (Nat.le_of_ble_eq_true rfl) dX3_init_81 ⟨_, hT, hAc⟩
set_option maxHeartbeats 4000000 in
set_option maxRecDepth 100000 in
theorem kt_Tape (l : Launch) (E : gE) (L : List Nat) (τ : Nat → Nat) (f : gF) (X : List Nat) {q : Nat} (m_q : q ∈ L) (t_q : τ q = 1) (e_q : f q = .inr (8, [.null, .int (0 : Int32)])) (hT : tX E (q :: X) L τ f) : gMv l E yX8_init cX8_init 1 (gRm 1 1 800) [.ref q] L f (fun L1 f1 => ∃ τ1 : Nat → Nat, tX E X L1 τ1 f1 ∧ xG [q] L τ f L1 τ1 f1 [2]) := by
  refine gMv.intro (by decide) (Nat.le_of_ble_eq_true rfl) ?_
  intro p e s m below meth c A ls C hr hnm hA hH hl
  have C : gC E cX8_init 1 RX8 p s m _ meth c := C
  have hl : lv_has ls 1 [(0, .ref q)] := hl
  have hx := C.1
  have hb := C.2.1
  have hQ_q := tQ_new (L := L) (τ := τ) [1] td_1 e_q rfl (fun k d hd hk => by
      simp only [List.mem_cons, List.not_mem_nil, or_false] at hk
      rcases hk with rfl
      · cases hd; exact ⟨_, rfl, _, rfl, rg_w rl_0 (by decide)⟩
      )
  have hAc := xG.rf [q] L τ f
  refine lv_aload_n hx hb dX8_init_0 rfl (lv_at hl 0 rfl) ?_
  refine g_obj C hl.1 wd1173 wd1170 wd1171 dX8_init_1 (Nat.le_of_ble_eq_true rfl) (Nat.le_of_ble_eq_true rfl) ?_
  refine lv_aload_n hx hb dX8_init_4 rfl (lv_at hl 0 rfl) ?_
  refine lv_sipush (v := (800 : Int32)) hx hb dX8_init_5 (by decide) ?_
  refine g_newa C hH hA 0 rfl (fun _ _ h => h) wd1174 rfl (N' := 800) (a0 := (800, (.inl (fun _ => 0)))) (avB 800) (by decide) (by decide) (Nat.le_of_ble_eq_true rfl) (Nat.le_of_ble_eq_true rfl) (Nat.le_of_ble_eq_true rfl) dX8_init_8 (fun q1 H n2 hH => ?_)
  obtain ⟨L3, τ4, f5, hH, hT, g6, m_q1, t_q1, e_q1, o7⟩ := x_newa hH hT n2 2 td_2 (fun _ _ => ⟨_, rfl, trivial⟩)
  have hQ_q := hQ_q.x (g6 []) m_q nm_0
  have t_q := xG.ty (g6 []) m_q t_q
  have m_q := xG.m (g6 []) m_q
  have hAc := hAc.tr (g6 [q])
  obtain ⟨fs8, hfs8, hls8, hqs8⟩ := hQ_q
  refine g_putF C hH m_q hfs8 iX8 tyX8 tyX8_ok nmX8 rfl 0 (by decide) wd6 rfl rfl hnm rfl rfl rfl (by rw [hls8]; decide) (fs' := fs8.set 0 (.ref q1)) rfl dX8_init_10 (fun H locs hH => ?_)
  obtain ⟨f9, hH, hT, g10, e11⟩ := x_put hH hT List.mem_cons_self
  have hQ_q := tQ.put hls8 hqs8 e11 rfl (show tF _ _ (.inr (.inl 2)) _ from ⟨_, rfl, m_q1, t_q1⟩)
  have hAc := hAc.tr g10
  have hT := hQ_q.fin hT t_q td_1 (by decide)
  exact g_vret C hr hH (Nat.le_of_ble_eq_true rfl) (Nat.le_of_ble_eq_true rfl) dX8_init_13 ⟨_, hT, hAc⟩
set_option maxHeartbeats 4000000 in
set_option maxRecDepth 100000 in
theorem kt_Row (l : Launch) (E : gE) (L : List Nat) (τ : Nat → Nat) (f : gF) (X : List Nat) {q : Nat} (m_q : q ∈ L) (t_q : τ q = 17) (e_q : f q = .inr (6, [.null, .int (0 : Int32), .int (0 : Int32)])) (hT : tX E (q :: X) L τ f) : gMv l E yX6_init cX6_init 1 (gRm 1 1 60) [.ref q] L f (fun L1 f1 => ∃ τ1 : Nat → Nat, tX E X L1 τ1 f1 ∧ xG [q] L τ f L1 τ1 f1 [18] ∧ fld f1 q 1 (.int (-1 : Int32)) ∧ fld f1 q 2 (.int (0 : Int32))) := by
  refine gMv.intro (by decide) (Nat.le_of_ble_eq_true rfl) ?_
  intro p e s m below meth c A ls C hr hnm hA hH hl
  have C : gC E cX6_init 1 RX6 p s m _ meth c := C
  have hl : lv_has ls 1 [(0, .ref q)] := hl
  have hx := C.1
  have hb := C.2.1
  have hQ_q := tQ_new (L := L) (τ := τ) [1, 2] td_17 e_q rfl (fun k d hd hk => by
      simp only [List.mem_cons, List.not_mem_nil, or_false] at hk
      rcases hk with rfl | rfl
      · cases hd; exact ⟨_, rfl, _, rfl, rg_w rl_0 (by decide)⟩
      · cases hd; exact ⟨_, rfl, _, rfl, rg_w rl_0 (by decide)⟩
      )
  have w1_q : fld f q 1 (.int (0 : Int32)) := ⟨_, _, e_q, rfl⟩
  have w2_q : fld f q 2 (.int (0 : Int32)) := ⟨_, _, e_q, rfl⟩
  have hAc := xG.rf [q] L τ f
  refine lv_aload_n hx hb dX6_init_0 rfl (lv_at hl 0 rfl) ?_
  refine g_obj C hl.1 wd1175 wd1170 wd1171 dX6_init_1 (Nat.le_of_ble_eq_true rfl) (Nat.le_of_ble_eq_true rfl) ?_
  refine lv_aload_n hx hb dX6_init_4 rfl (lv_at hl 0 rfl) ?_
  refine lv_bipush (v := (60 : Int32)) hx hb dX6_init_5 (by decide) ?_
  refine g_newa C hH hA 2 rfl (fun _ _ h => h) wd1176 rfl (N' := 60) (a0 := (60, (.inr (.inl (fun _ => 0))))) (avJ 60) (by decide) (by decide) (Nat.le_of_ble_eq_true rfl) (Nat.le_of_ble_eq_true rfl) (Nat.le_of_ble_eq_true rfl) dX6_init_7 (fun q1 H n2 hH => ?_)
  obtain ⟨L3, τ4, f5, hH, hT, g6, m_q1, t_q1, e_q1, o7⟩ := x_newa hH hT n2 18 td_18 (fun _ _ => ⟨_, rfl⟩)
  have hQ_q := hQ_q.x (g6 []) m_q nm_0
  have w1_q := fld.eq w1_q (xG.k (g6 []) m_q nm_0)
  have w2_q := fld.eq w2_q (xG.k (g6 []) m_q nm_0)
  have t_q := xG.ty (g6 []) m_q t_q
  have m_q := xG.m (g6 []) m_q
  have hAc := hAc.tr (g6 [q])
  obtain ⟨fs8, hfs8, hls8, hqs8⟩ := hQ_q
  refine g_putF C hH m_q hfs8 iX6 tyX6 tyX6_ok nmX6 rfl 0 (by decide) wd83 rfl rfl hnm rfl rfl rfl (by rw [hls8]; decide) (fs' := fs8.set 0 (.ref q1)) rfl dX6_init_9 (fun H locs hH => ?_)
  obtain ⟨f9, hH, hT, g10, e11⟩ := x_put hH hT List.mem_cons_self
  have hQ_q := tQ.put hls8 hqs8 e11 rfl (show tF _ _ (.inr (.inl 18)) _ from ⟨_, rfl, m_q1, t_q1⟩)
  have w1_q := fld_set hfs8 e11 w1_q (by decide)
  have w2_q := fld_set hfs8 e11 w2_q (by decide)
  have hAc := hAc.tr g10
  refine lv_aload_n hx hb dX6_init_12 rfl (lv_at hl 0 rfl) ?_
  refine lv_iconst (v := (-1 : Int32)) hx hb dX6_init_13 (by decide) ?_
  obtain ⟨fs12, hfs12, hls12, hqs12⟩ := hQ_q
  refine g_put C hH m_q hfs12 iX6 tyX6 tyX6_ok nmX6 rfl 1 (by decide) wd82 rfl rfl rfl rfl (by rw [hls12]; decide) (fs' := fs12.set 1 (.int (-1 : Int32))) rfl dX6_init_14 (fun H locs hH => ?_)
  obtain ⟨f13, hH, hT, g14, e15⟩ := x_put hH hT List.mem_cons_self
  have hQ_q := tQ.put hls12 hqs12 e15 rfl (show tF _ _ (.inl ((-1), 3)) _ from ⟨_, rfl, rg_w rl_m1 (by decide)⟩)
  have w1_q := fld_new hls12 (by decide) e15
  have w2_q := fld_set hfs12 e15 w2_q (by decide)
  have hAc := hAc.tr g14
  have hT := hQ_q.fin hT t_q td_17 (by decide)
  exact g_vret C hr hH (Nat.le_of_ble_eq_true rfl) (Nat.le_of_ble_eq_true rfl) dX6_init_17 ⟨_, hT, hAc, w1_q, w2_q⟩
set_option maxHeartbeats 4000000 in
set_option maxRecDepth 100000 in
theorem kt_Reader (l : Launch) (E : gE) (L : List Nat) (τ : Nat → Nat) (f : gF) (X : List Nat) {q r0 r1 : Nat} (m_q : q ∈ L) (t_q : τ q = 14) (e_q : f q = .inr (5, [.null, .null, .int (0 : Int32), .int (0 : Int32), .int (0 : Int32), .int (0 : Int32), .int (0 : Int32)])) (m_r0 : r0 ∈ L) (t_r0 : τ r0 = 1) (m_r1 : r1 ∈ L) (t_r1 : τ r1 = 35) (hT : tX E (q :: X) L τ f) : gMv l E yX5_init cX5_init 3 (gRm 1 0 0) [.ref q, .ref r0, .ref r1] L f (fun L1 f1 => ∃ τ1 : Nat → Nat, tX E X L1 τ1 f1 ∧ xG [q] L τ f L1 τ1 f1 []) := by
  refine gMv.intro (by decide) (Nat.le_of_ble_eq_true rfl) ?_
  intro p e s m below meth c A ls C hr hnm hA hH hl
  have C : gC E cX5_init 3 RX5 p s m _ meth c := C
  have hl : lv_has ls 3 [(0, .ref q), (1, .ref r0), (2, .ref r1)] := hl
  have hx := C.1
  have hb := C.2.1
  have hQ_q := tQ_new (L := L) (τ := τ) [2, 3, 4, 5, 6] td_14 e_q rfl (fun k d hd hk => by
      simp only [List.mem_cons, List.not_mem_nil, or_false] at hk
      rcases hk with rfl | rfl | rfl | rfl | rfl
      · cases hd; exact ⟨_, rfl, _, rfl, rg_w rl_0 (by decide)⟩
      · cases hd; exact ⟨_, rfl, _, rfl, rg_w rl_0 (by decide)⟩
      · cases hd; exact ⟨_, rfl, _, rfl, rg_w rl_0 (by decide)⟩
      · cases hd; exact ⟨_, rfl, _, rfl, rg_w rl_0 (by decide)⟩
      · cases hd; exact ⟨_, rfl, _, rfl, rg_w rl_0 (by decide)⟩
      )
  have hAc := xG.rf [q] L τ f
  refine lv_aload_n hx hb dX5_init_0 rfl (lv_at hl 0 rfl) ?_
  refine g_obj C hl.1 wd1177 wd1170 wd1171 dX5_init_1 (Nat.le_of_ble_eq_true rfl) (Nat.le_of_ble_eq_true rfl) ?_
  refine lv_aload_n hx hb dX5_init_4 rfl (lv_at hl 0 rfl) ?_
  refine lv_iconst (v := (-1 : Int32)) hx hb dX5_init_5 (by decide) ?_
  obtain ⟨fs1, hfs1, hls1, hqs1⟩ := hQ_q
  refine g_put C hH m_q hfs1 iX5 tyX5 tyX5_ok nmX5 rfl 6 (by decide) wd332 rfl rfl rfl rfl (by rw [hls1]; decide) (fs' := fs1.set 6 (.int (-1 : Int32))) rfl dX5_init_6 (fun H locs hH => ?_)
  obtain ⟨f2, hH, hT, g3, e4⟩ := x_put hH hT List.mem_cons_self
  have hQ_q := tQ.put hls1 hqs1 e4 rfl (show tF _ _ (.inl ((-2147483648), 2147483647)) _ from ⟨_, rfl, rg_w rl_m1 (by decide)⟩)
  have hAc := hAc.tr g3
  refine lv_aload_n hx hb dX5_init_9 rfl (lv_at hl 0 rfl) ?_
  refine lv_aload_n hx hb dX5_init_10 rfl (lv_at hl 1 rfl) ?_
  obtain ⟨fs5, hfs5, hls5, hqs5⟩ := hQ_q
  refine g_putF C hH m_q hfs5 iX5 tyX5 tyX5_ok nmX5 rfl 0 (by decide) wd337 rfl rfl hnm rfl rfl rfl (by rw [hls5]; decide) (fs' := fs5.set 0 (.ref r0)) rfl dX5_init_11 (fun H locs hH => ?_)
  obtain ⟨f6, hH, hT, g7, e8⟩ := x_put hH hT List.mem_cons_self
  have hQ_q := tQ.put hls5 hqs5 e8 rfl (show tF _ _ (.inr (.inl 1)) _ from ⟨_, rfl, m_r0, t_r0⟩)
  have hAc := hAc.tr g7
  refine lv_aload_n hx hb dX5_init_14 rfl (lv_at hl 0 rfl) ?_
  refine lv_aload_n hx hb dX5_init_15 rfl (lv_at hl 2 rfl) ?_
  obtain ⟨fs9, hfs9, hls9, hqs9⟩ := hQ_q
  refine g_putF C hH m_q hfs9 iX5 tyX5 tyX5_ok nmX5 rfl 1 (by decide) wd369 rfl rfl hnm rfl rfl rfl (by rw [hls9]; decide) (fs' := fs9.set 1 (.ref r1)) rfl dX5_init_16 (fun H locs hH => ?_)
  obtain ⟨f10, hH, hT, g11, e12⟩ := x_put hH hT List.mem_cons_self
  have hQ_q := tQ.put hls9 hqs9 e12 rfl (show tF _ _ (.inr (.inl 35)) _ from ⟨_, rfl, m_r1, t_r1⟩)
  have hAc := hAc.tr g11
  have hT := hQ_q.fin hT t_q td_14 (by decide)
  exact g_vret C hr hH (Nat.le_of_ble_eq_true rfl) (Nat.le_of_ble_eq_true rfl) dX5_init_19 ⟨_, hT, hAc⟩
set_option maxHeartbeats 4000000 in
set_option maxRecDepth 100000 in
theorem kt_Sky (l : Launch) (E : gE) (L : List Nat) (τ : Nat → Nat) (f : gF) (X : List Nat) {q r0 : Nat} (m_q : q ∈ L) (t_q : τ q = 19) (e_q : f q = .inr (7, [.null, .null, .null, .null, .null, .int (0 : Int32), .int (0 : Int32), .int (0 : Int32), .int (0 : Int32), .int (0 : Int32)])) (m_r0 : r0 ∈ L) (t_r0 : τ r0 = 3) (hT : tX E (q :: X) L τ f) : gMv l E yX7_init cX7_init 2 (gRm 1 4 143) [.ref q, .ref r0] L f (fun L1 f1 => ∃ τ1 : Nat → Nat, tX E X L1 τ1 f1 ∧ xG [q] L τ f L1 τ1 f1 [23, 22, 21, 20]) := by
  refine gMv.intro (by decide) (Nat.le_of_ble_eq_true rfl) ?_
  intro p e s m below meth c A ls C hr hnm hA hH hl
  have C : gC E cX7_init 2 RX7 p s m _ meth c := C
  have hl : lv_has ls 2 [(0, .ref q), (1, .ref r0)] := hl
  have hx := C.1
  have hb := C.2.1
  have hQ_q := tQ_new (L := L) (τ := τ) [5, 6, 7, 8, 9] td_19 e_q rfl (fun k d hd hk => by
      simp only [List.mem_cons, List.not_mem_nil, or_false] at hk
      rcases hk with rfl | rfl | rfl | rfl | rfl
      · cases hd; exact ⟨_, rfl, _, rfl, rg_w rl_0 (by decide)⟩
      · cases hd; exact ⟨_, rfl, _, rfl, rg_w rl_0 (by decide)⟩
      · cases hd; exact ⟨_, rfl, _, rfl, rg_w rl_0 (by decide)⟩
      · cases hd; exact ⟨_, rfl, _, rfl, rg_w rl_0 (by decide)⟩
      · cases hd; exact ⟨_, rfl, _, rfl, rg_w rl_0 (by decide)⟩
      )
  have hAc := xG.rf [q] L τ f
  refine lv_aload_n hx hb dX7_init_0 rfl (lv_at hl 0 rfl) ?_
  refine g_obj C hl.1 wd1178 wd1170 wd1171 dX7_init_1 (Nat.le_of_ble_eq_true rfl) (Nat.le_of_ble_eq_true rfl) ?_
  refine lv_aload_n hx hb dX7_init_4 rfl (lv_at hl 0 rfl) ?_
  refine lv_bipush (v := (41 : Int32)) hx hb dX7_init_5 (by decide) ?_
  refine g_newa C hH hA 1 rfl (fun _ _ h => h) wd1172 rfl (N' := 41) (a0 := (41, (.inl (fun _ => 0)))) (avI 41) (by decide) (by decide) (Nat.le_of_ble_eq_true rfl) (Nat.le_of_ble_eq_true rfl) (Nat.le_of_ble_eq_true rfl) dX7_init_7 (fun q1 H n2 hH => ?_)
  obtain ⟨L3, τ4, f5, hH, hT, g6, m_q1, t_q1, e_q1, o7⟩ := x_newa hH hT n2 20 td_20 (fun _ _ => ⟨_, rfl, tR_z (by decide)⟩)
  have hQ_q := hQ_q.x (g6 []) m_q nm_0
  have t_q := xG.ty (g6 []) m_q t_q
  have m_q := xG.m (g6 []) m_q
  have t_r0 := xG.ty (g6 []) m_r0 t_r0
  have m_r0 := xG.m (g6 []) m_r0
  have hAc := hAc.tr (g6 [q])
  obtain ⟨fs8, hfs8, hls8, hqs8⟩ := hQ_q
  refine g_putF C hH m_q hfs8 iX7 tyX7 tyX7_ok nmX7 rfl 1 (by decide) wd61 rfl rfl hnm rfl rfl rfl (by rw [hls8]; decide) (fs' := fs8.set 1 (.ref q1)) rfl dX7_init_9 (fun H locs hH => ?_)
  obtain ⟨f9, hH, hT, g10, e11⟩ := x_put hH hT List.mem_cons_self
  have hQ_q := tQ.put hls8 hqs8 e11 rfl (show tF _ _ (.inr (.inl 20)) _ from ⟨_, rfl, m_q1, t_q1⟩)
  have hAc := hAc.tr g10
  refine lv_aload_n hx hb dX7_init_12 rfl (lv_at hl 0 rfl) ?_
  refine lv_bipush (v := (41 : Int32)) hx hb dX7_init_13 (by decide) ?_
  refine g_newa C hH hA 1 rfl (fun _ _ h => h) wd1172 rfl (N' := 41) (a0 := (41, (.inl (fun _ => 0)))) (avI 41) (by decide) (by decide) (Nat.le_of_ble_eq_true rfl) (Nat.le_of_ble_eq_true rfl) (Nat.le_of_ble_eq_true rfl) dX7_init_15 (fun q12 H n13 hH => ?_)
  obtain ⟨L14, τ15, f16, hH, hT, g17, m_q12, t_q12, e_q12, o18⟩ := x_newa hH hT n13 21 td_21 (fun _ _ => ⟨_, rfl, trivial⟩)
  have hQ_q := hQ_q.x (g17 []) m_q nm_0
  have t_q := xG.ty (g17 []) m_q t_q
  have m_q := xG.m (g17 []) m_q
  have t_r0 := xG.ty (g17 []) m_r0 t_r0
  have m_r0 := xG.m (g17 []) m_r0
  have hAc := hAc.tr (g17 [q])
  obtain ⟨fs19, hfs19, hls19, hqs19⟩ := hQ_q
  refine g_putF C hH m_q hfs19 iX7 tyX7 tyX7_ok nmX7 rfl 2 (by decide) wd62 rfl rfl hnm rfl rfl rfl (by rw [hls19]; decide) (fs' := fs19.set 2 (.ref q12)) rfl dX7_init_17 (fun H locs hH => ?_)
  obtain ⟨f20, hH, hT, g21, e22⟩ := x_put hH hT List.mem_cons_self
  have hQ_q := tQ.put hls19 hqs19 e22 rfl (show tF _ _ (.inr (.inl 21)) _ from ⟨_, rfl, m_q12, t_q12⟩)
  have hAc := hAc.tr g21
  refine lv_aload_n hx hb dX7_init_20 rfl (lv_at hl 0 rfl) ?_
  refine lv_bipush (v := (41 : Int32)) hx hb dX7_init_21 (by decide) ?_
  refine g_newa C hH hA 1 rfl (fun _ _ h => h) wd1172 rfl (N' := 41) (a0 := (41, (.inl (fun _ => 0)))) (avI 41) (by decide) (by decide) (Nat.le_of_ble_eq_true rfl) (Nat.le_of_ble_eq_true rfl) (Nat.le_of_ble_eq_true rfl) dX7_init_23 (fun q23 H n24 hH => ?_)
  obtain ⟨L25, τ26, f27, hH, hT, g28, m_q23, t_q23, e_q23, o29⟩ := x_newa hH hT n24 22 td_22 (fun _ _ => ⟨_, rfl, trivial⟩)
  have hQ_q := hQ_q.x (g28 []) m_q nm_0
  have t_q := xG.ty (g28 []) m_q t_q
  have m_q := xG.m (g28 []) m_q
  have t_r0 := xG.ty (g28 []) m_r0 t_r0
  have m_r0 := xG.m (g28 []) m_r0
  have hAc := hAc.tr (g28 [q])
  obtain ⟨fs30, hfs30, hls30, hqs30⟩ := hQ_q
  refine g_putF C hH m_q hfs30 iX7 tyX7 tyX7_ok nmX7 rfl 3 (by decide) wd63 rfl rfl hnm rfl rfl rfl (by rw [hls30]; decide) (fs' := fs30.set 3 (.ref q23)) rfl dX7_init_25 (fun H locs hH => ?_)
  obtain ⟨f31, hH, hT, g32, e33⟩ := x_put hH hT List.mem_cons_self
  have hQ_q := tQ.put hls30 hqs30 e33 rfl (show tF _ _ (.inr (.inl 22)) _ from ⟨_, rfl, m_q23, t_q23⟩)
  have hAc := hAc.tr g32
  refine lv_aload_n hx hb dX7_init_28 rfl (lv_at hl 0 rfl) ?_
  refine lv_bipush (v := (20 : Int32)) hx hb dX7_init_29 (by decide) ?_
  refine g_newa C hH hA 1 rfl (fun _ _ h => h) wd1172 rfl (N' := 20) (a0 := (20, (.inl (fun _ => 0)))) (avI 20) (by decide) (by decide) (Nat.le_of_ble_eq_true rfl) (Nat.le_of_ble_eq_true rfl) (Nat.le_of_ble_eq_true rfl) dX7_init_31 (fun q34 H n35 hH => ?_)
  obtain ⟨L36, τ37, f38, hH, hT, g39, m_q34, t_q34, e_q34, o40⟩ := x_newa hH hT n35 23 td_23 (fun _ _ => ⟨_, rfl, trivial⟩)
  have hQ_q := hQ_q.x (g39 []) m_q nm_0
  have t_q := xG.ty (g39 []) m_q t_q
  have m_q := xG.m (g39 []) m_q
  have t_r0 := xG.ty (g39 []) m_r0 t_r0
  have m_r0 := xG.m (g39 []) m_r0
  have hAc := hAc.tr (g39 [q])
  obtain ⟨fs41, hfs41, hls41, hqs41⟩ := hQ_q
  refine g_putF C hH m_q hfs41 iX7 tyX7 tyX7_ok nmX7 rfl 4 (by decide) wd66 rfl rfl hnm rfl rfl rfl (by rw [hls41]; decide) (fs' := fs41.set 4 (.ref q34)) rfl dX7_init_33 (fun H locs hH => ?_)
  obtain ⟨f42, hH, hT, g43, e44⟩ := x_put hH hT List.mem_cons_self
  have hQ_q := tQ.put hls41 hqs41 e44 rfl (show tF _ _ (.inr (.inl 23)) _ from ⟨_, rfl, m_q34, t_q34⟩)
  have hAc := hAc.tr g43
  refine lv_aload_n hx hb dX7_init_36 rfl (lv_at hl 0 rfl) ?_
  refine lv_aload_n hx hb dX7_init_37 rfl (lv_at hl 1 rfl) ?_
  obtain ⟨fs45, hfs45, hls45, hqs45⟩ := hQ_q
  refine g_putF C hH m_q hfs45 iX7 tyX7 tyX7_ok nmX7 rfl 0 (by decide) wd67 rfl rfl hnm rfl rfl rfl (by rw [hls45]; decide) (fs' := fs45.set 0 (.ref r0)) rfl dX7_init_38 (fun H locs hH => ?_)
  obtain ⟨f46, hH, hT, g47, e48⟩ := x_put hH hT List.mem_cons_self
  have hQ_q := tQ.put hls45 hqs45 e48 rfl (show tF _ _ (.inr (.inl 3)) _ from ⟨_, rfl, m_r0, t_r0⟩)
  have hAc := hAc.tr g47
  have hT := hQ_q.fin hT t_q td_19 (by decide)
  exact g_vret C hr hH (Nat.le_of_ble_eq_true rfl) (Nat.le_of_ble_eq_true rfl) dX7_init_41 ⟨_, hT, hAc⟩
set_option maxHeartbeats 4000000 in
set_option maxRecDepth 100000 in
theorem kt_Lanterns (l : Launch) (E : gE) (L : List Nat) (τ : Nat → Nat) (f : gF) (X : List Nat) {q r0 r1 : Nat} (m_q : q ∈ L) (t_q : τ q = 24) (e_q : f q = .inr (4, [.null, .null, .null, .null, .int (0 : Int32)])) (m_r0 : r0 ∈ L) (t_r0 : τ r0 = 3) (m_r1 : r1 ∈ L) (t_r1 : τ r1 = 19) (hT : tX E (q :: X) L τ f) : gMv l E yX4_init cX4_init 3 (gRm 1 2 128) [.ref q, .ref r0, .ref r1] L f (fun L1 f1 => ∃ τ1 : Nat → Nat, tX E X L1 τ1 f1 ∧ xG [q] L τ f L1 τ1 f1 [26, 25]) := by
  refine gMv.intro (by decide) (Nat.le_of_ble_eq_true rfl) ?_
  intro p e s m below meth c A ls C hr hnm hA hH hl
  have C : gC E cX4_init 3 RX4 p s m _ meth c := C
  have hl : lv_has ls 3 [(0, .ref q), (1, .ref r0), (2, .ref r1)] := hl
  have hx := C.1
  have hb := C.2.1
  have hQ_q := tQ_new (L := L) (τ := τ) [4] td_24 e_q rfl (fun k d hd hk => by
      simp only [List.mem_cons, List.not_mem_nil, or_false] at hk
      rcases hk with rfl
      · cases hd; exact ⟨_, rfl, _, rfl, rg_w rl_0 (by decide)⟩
      )
  have hAc := xG.rf [q] L τ f
  refine lv_aload_n hx hb dX4_init_0 rfl (lv_at hl 0 rfl) ?_
  refine g_obj C hl.1 wd1179 wd1170 wd1171 dX4_init_1 (Nat.le_of_ble_eq_true rfl) (Nat.le_of_ble_eq_true rfl) ?_
  refine lv_aload_n hx hb dX4_init_4 rfl (lv_at hl 0 rfl) ?_
  refine lv_bipush (v := (64 : Int32)) hx hb dX4_init_5 (by decide) ?_
  refine g_newa C hH hA 1 rfl (fun _ _ h => h) wd1172 rfl (N' := 64) (a0 := (64, (.inl (fun _ => 0)))) (avI 64) (by decide) (by decide) (Nat.le_of_ble_eq_true rfl) (Nat.le_of_ble_eq_true rfl) (Nat.le_of_ble_eq_true rfl) dX4_init_7 (fun q1 H n2 hH => ?_)
  obtain ⟨L3, τ4, f5, hH, hT, g6, m_q1, t_q1, e_q1, o7⟩ := x_newa hH hT n2 25 td_25 (fun _ _ => ⟨_, rfl, trivial⟩)
  have hQ_q := hQ_q.x (g6 []) m_q nm_0
  have t_q := xG.ty (g6 []) m_q t_q
  have m_q := xG.m (g6 []) m_q
  have t_r0 := xG.ty (g6 []) m_r0 t_r0
  have m_r0 := xG.m (g6 []) m_r0
  have t_r1 := xG.ty (g6 []) m_r1 t_r1
  have m_r1 := xG.m (g6 []) m_r1
  have hAc := hAc.tr (g6 [q])
  obtain ⟨fs8, hfs8, hls8, hqs8⟩ := hQ_q
  refine g_putF C hH m_q hfs8 iX4 tyX4 tyX4_ok nmX4 rfl 2 (by decide) wd265 rfl rfl hnm rfl rfl rfl (by rw [hls8]; decide) (fs' := fs8.set 2 (.ref q1)) rfl dX4_init_9 (fun H locs hH => ?_)
  obtain ⟨f9, hH, hT, g10, e11⟩ := x_put hH hT List.mem_cons_self
  have hQ_q := tQ.put hls8 hqs8 e11 rfl (show tF _ _ (.inr (.inl 25)) _ from ⟨_, rfl, m_q1, t_q1⟩)
  have hAc := hAc.tr g10
  refine lv_aload_n hx hb dX4_init_12 rfl (lv_at hl 0 rfl) ?_
  refine lv_bipush (v := (64 : Int32)) hx hb dX4_init_13 (by decide) ?_
  refine g_newa C hH hA 1 rfl (fun _ _ h => h) wd1172 rfl (N' := 64) (a0 := (64, (.inl (fun _ => 0)))) (avI 64) (by decide) (by decide) (Nat.le_of_ble_eq_true rfl) (Nat.le_of_ble_eq_true rfl) (Nat.le_of_ble_eq_true rfl) dX4_init_15 (fun q12 H n13 hH => ?_)
  obtain ⟨L14, τ15, f16, hH, hT, g17, m_q12, t_q12, e_q12, o18⟩ := x_newa hH hT n13 26 td_26 (fun _ _ => ⟨_, rfl, trivial⟩)
  have hQ_q := hQ_q.x (g17 []) m_q nm_0
  have t_q := xG.ty (g17 []) m_q t_q
  have m_q := xG.m (g17 []) m_q
  have t_r0 := xG.ty (g17 []) m_r0 t_r0
  have m_r0 := xG.m (g17 []) m_r0
  have t_r1 := xG.ty (g17 []) m_r1 t_r1
  have m_r1 := xG.m (g17 []) m_r1
  have hAc := hAc.tr (g17 [q])
  obtain ⟨fs19, hfs19, hls19, hqs19⟩ := hQ_q
  refine g_putF C hH m_q hfs19 iX4 tyX4 tyX4_ok nmX4 rfl 3 (by decide) wd266 rfl rfl hnm rfl rfl rfl (by rw [hls19]; decide) (fs' := fs19.set 3 (.ref q12)) rfl dX4_init_17 (fun H locs hH => ?_)
  obtain ⟨f20, hH, hT, g21, e22⟩ := x_put hH hT List.mem_cons_self
  have hQ_q := tQ.put hls19 hqs19 e22 rfl (show tF _ _ (.inr (.inl 26)) _ from ⟨_, rfl, m_q12, t_q12⟩)
  have hAc := hAc.tr g21
  refine lv_aload_n hx hb dX4_init_20 rfl (lv_at hl 0 rfl) ?_
  refine lv_aload_n hx hb dX4_init_21 rfl (lv_at hl 1 rfl) ?_
  obtain ⟨fs23, hfs23, hls23, hqs23⟩ := hQ_q
  refine g_putF C hH m_q hfs23 iX4 tyX4 tyX4_ok nmX4 rfl 0 (by decide) wd268 rfl rfl hnm rfl rfl rfl (by rw [hls23]; decide) (fs' := fs23.set 0 (.ref r0)) rfl dX4_init_22 (fun H locs hH => ?_)
  obtain ⟨f24, hH, hT, g25, e26⟩ := x_put hH hT List.mem_cons_self
  have hQ_q := tQ.put hls23 hqs23 e26 rfl (show tF _ _ (.inr (.inl 3)) _ from ⟨_, rfl, m_r0, t_r0⟩)
  have hAc := hAc.tr g25
  refine lv_aload_n hx hb dX4_init_25 rfl (lv_at hl 0 rfl) ?_
  refine lv_aload_n hx hb dX4_init_26 rfl (lv_at hl 2 rfl) ?_
  obtain ⟨fs27, hfs27, hls27, hqs27⟩ := hQ_q
  refine g_putF C hH m_q hfs27 iX4 tyX4 tyX4_ok nmX4 rfl 1 (by decide) wd267 rfl rfl hnm rfl rfl rfl (by rw [hls27]; decide) (fs' := fs27.set 1 (.ref r1)) rfl dX4_init_27 (fun H locs hH => ?_)
  obtain ⟨f28, hH, hT, g29, e30⟩ := x_put hH hT List.mem_cons_self
  have hQ_q := tQ.put hls27 hqs27 e30 rfl (show tF _ _ (.inr (.inl 19)) _ from ⟨_, rfl, m_r1, t_r1⟩)
  have hAc := hAc.tr g29
  have hT := hQ_q.fin hT t_q td_24 (by decide)
  exact g_vret C hr hH (Nat.le_of_ble_eq_true rfl) (Nat.le_of_ble_eq_true rfl) dX4_init_30 ⟨_, hT, hAc⟩
set_option maxHeartbeats 4000000 in
set_option maxRecDepth 100000 in
theorem kt_Clues (l : Launch) (E : gE) (L : List Nat) (τ : Nat → Nat) (f : gF) (X : List Nat) {q r0 r1 : Nat} (m_q : q ∈ L) (t_q : τ q = 27) (e_q : f q = .inr (0, [.null, .null, .null, .null])) (m_r0 : r0 ∈ L) (t_r0 : τ r0 = 3) (m_r1 : r1 ∈ L) (t_r1 : τ r1 = 19) (hT : tX E (q :: X) L τ f) : gMv l E yX0_init cX0_init 3 (gRm 1 2 84) [.ref q, .ref r0, .ref r1] L f (fun L1 f1 => ∃ τ1 : Nat → Nat, tX E X L1 τ1 f1 ∧ xG [q] L τ f L1 τ1 f1 [29, 28]) := by
  refine gMv.intro (by decide) (Nat.le_of_ble_eq_true rfl) ?_
  intro p e s m below meth c A ls C hr hnm hA hH hl
  have C : gC E cX0_init 3 RX0 p s m _ meth c := C
  have hl : lv_has ls 3 [(0, .ref q), (1, .ref r0), (2, .ref r1)] := hl
  have hx := C.1
  have hb := C.2.1
  have hQ_q := tQ_new (L := L) (τ := τ) [] td_27 e_q rfl (fun k d hd hk => by
      simp only [List.mem_cons, List.not_mem_nil, or_false] at hk
      )
  have hAc := xG.rf [q] L τ f
  refine lv_aload_n hx hb dX0_init_0 rfl (lv_at hl 0 rfl) ?_
  refine g_obj C hl.1 wd1180 wd1170 wd1171 dX0_init_1 (Nat.le_of_ble_eq_true rfl) (Nat.le_of_ble_eq_true rfl) ?_
  refine lv_aload_n hx hb dX0_init_4 rfl (lv_at hl 0 rfl) ?_
  refine lv_bipush (v := (80 : Int32)) hx hb dX0_init_5 (by decide) ?_
  refine g_newa C hH hA 1 rfl (fun _ _ h => h) wd1172 rfl (N' := 80) (a0 := (80, (.inl (fun _ => 0)))) (avI 80) (by decide) (by decide) (Nat.le_of_ble_eq_true rfl) (Nat.le_of_ble_eq_true rfl) (Nat.le_of_ble_eq_true rfl) dX0_init_7 (fun q1 H n2 hH => ?_)
  obtain ⟨L3, τ4, f5, hH, hT, g6, m_q1, t_q1, e_q1, o7⟩ := x_newa hH hT n2 28 td_28 (fun _ _ => ⟨_, rfl, trivial⟩)
  have hQ_q := hQ_q.x (g6 []) m_q nm_0
  have t_q := xG.ty (g6 []) m_q t_q
  have m_q := xG.m (g6 []) m_q
  have t_r0 := xG.ty (g6 []) m_r0 t_r0
  have m_r0 := xG.m (g6 []) m_r0
  have t_r1 := xG.ty (g6 []) m_r1 t_r1
  have m_r1 := xG.m (g6 []) m_r1
  have hAc := hAc.tr (g6 [q])
  obtain ⟨fs8, hfs8, hls8, hqs8⟩ := hQ_q
  refine g_putF C hH m_q hfs8 iX0 tyX0 tyX0_ok nmX0 rfl 2 (by decide) wd209 rfl rfl hnm rfl rfl rfl (by rw [hls8]; decide) (fs' := fs8.set 2 (.ref q1)) rfl dX0_init_9 (fun H locs hH => ?_)
  obtain ⟨f9, hH, hT, g10, e11⟩ := x_put hH hT List.mem_cons_self
  have hQ_q := tQ.put hls8 hqs8 e11 rfl (show tF _ _ (.inr (.inl 28)) _ from ⟨_, rfl, m_q1, t_q1⟩)
  have hAc := hAc.tr g10
  refine lv_aload_n hx hb dX0_init_12 rfl (lv_at hl 0 rfl) ?_
  refine lv_iconst (v := (4 : Int32)) hx hb dX0_init_13 (by decide) ?_
  refine g_newa C hH hA 1 rfl (fun _ _ h => h) wd1172 rfl (N' := 4) (a0 := (4, (.inl (fun _ => 0)))) (avI 4) (by decide) (by decide) (Nat.le_of_ble_eq_true rfl) (Nat.le_of_ble_eq_true rfl) (Nat.le_of_ble_eq_true rfl) dX0_init_14 (fun q12 H n13 hH => ?_)
  obtain ⟨L14, τ15, f16, hH, hT, g17, m_q12, t_q12, e_q12, o18⟩ := x_newa hH hT n13 29 td_29 (fun _ _ => ⟨_, rfl, trivial⟩)
  have hQ_q := hQ_q.x (g17 []) m_q nm_0
  have t_q := xG.ty (g17 []) m_q t_q
  have m_q := xG.m (g17 []) m_q
  have t_r0 := xG.ty (g17 []) m_r0 t_r0
  have m_r0 := xG.m (g17 []) m_r0
  have t_r1 := xG.ty (g17 []) m_r1 t_r1
  have m_r1 := xG.m (g17 []) m_r1
  have hAc := hAc.tr (g17 [q])
  obtain ⟨fs19, hfs19, hls19, hqs19⟩ := hQ_q
  refine g_putF C hH m_q hfs19 iX0 tyX0 tyX0_ok nmX0 rfl 3 (by decide) wd240 rfl rfl hnm rfl rfl rfl (by rw [hls19]; decide) (fs' := fs19.set 3 (.ref q12)) rfl dX0_init_16 (fun H locs hH => ?_)
  obtain ⟨f20, hH, hT, g21, e22⟩ := x_put hH hT List.mem_cons_self
  have hQ_q := tQ.put hls19 hqs19 e22 rfl (show tF _ _ (.inr (.inl 29)) _ from ⟨_, rfl, m_q12, t_q12⟩)
  have hAc := hAc.tr g21
  refine lv_aload_n hx hb dX0_init_19 rfl (lv_at hl 0 rfl) ?_
  refine lv_aload_n hx hb dX0_init_20 rfl (lv_at hl 1 rfl) ?_
  obtain ⟨fs23, hfs23, hls23, hqs23⟩ := hQ_q
  refine g_putF C hH m_q hfs23 iX0 tyX0 tyX0_ok nmX0 rfl 0 (by decide) wd197 rfl rfl hnm rfl rfl rfl (by rw [hls23]; decide) (fs' := fs23.set 0 (.ref r0)) rfl dX0_init_21 (fun H locs hH => ?_)
  obtain ⟨f24, hH, hT, g25, e26⟩ := x_put hH hT List.mem_cons_self
  have hQ_q := tQ.put hls23 hqs23 e26 rfl (show tF _ _ (.inr (.inl 3)) _ from ⟨_, rfl, m_r0, t_r0⟩)
  have hAc := hAc.tr g25
  refine lv_aload_n hx hb dX0_init_24 rfl (lv_at hl 0 rfl) ?_
  refine lv_aload_n hx hb dX0_init_25 rfl (lv_at hl 2 rfl) ?_
  obtain ⟨fs27, hfs27, hls27, hqs27⟩ := hQ_q
  refine g_putF C hH m_q hfs27 iX0 tyX0 tyX0_ok nmX0 rfl 1 (by decide) wd225 rfl rfl hnm rfl rfl rfl (by rw [hls27]; decide) (fs' := fs27.set 1 (.ref r1)) rfl dX0_init_26 (fun H locs hH => ?_)
  obtain ⟨f28, hH, hT, g29, e30⟩ := x_put hH hT List.mem_cons_self
  have hQ_q := tQ.put hls27 hqs27 e30 rfl (show tF _ _ (.inr (.inl 19)) _ from ⟨_, rfl, m_r1, t_r1⟩)
  have hAc := hAc.tr g29
  have hT := hQ_q.fin hT t_q td_27 (by decide)
  exact g_vret C hr hH (Nat.le_of_ble_eq_true rfl) (Nat.le_of_ble_eq_true rfl) dX0_init_29 ⟨_, hT, hAc⟩
set_option maxHeartbeats 4000000 in
set_option maxRecDepth 100000 in
theorem kt_Houses (l : Launch) (E : gE) (L : List Nat) (τ : Nat → Nat) (f : gF) (X : List Nat) {q r0 r1 : Nat} (m_q : q ∈ L) (t_q : τ q = 30) (e_q : f q = .inr (2, [.null, .null, .null, .null])) (m_r0 : r0 ∈ L) (t_r0 : τ r0 = 3) (m_r1 : r1 ∈ L) (t_r1 : τ r1 = 19) (hT : tX E (q :: X) L τ f) : gMv l E yX2_init cX2_init 3 (gRm 1 2 70) [.ref q, .ref r0, .ref r1] L f (fun L1 f1 => ∃ τ1 : Nat → Nat, tX E X L1 τ1 f1 ∧ xG [q] L τ f L1 τ1 f1 [32, 31]) := by
  refine gMv.intro (by decide) (Nat.le_of_ble_eq_true rfl) ?_
  intro p e s m below meth c A ls C hr hnm hA hH hl
  have C : gC E cX2_init 3 RX2 p s m _ meth c := C
  have hl : lv_has ls 3 [(0, .ref q), (1, .ref r0), (2, .ref r1)] := hl
  have hx := C.1
  have hb := C.2.1
  have hQ_q := tQ_new (L := L) (τ := τ) [] td_30 e_q rfl (fun k d hd hk => by
      simp only [List.mem_cons, List.not_mem_nil, or_false] at hk
      )
  have hAc := xG.rf [q] L τ f
  refine lv_aload_n hx hb dX2_init_0 rfl (lv_at hl 0 rfl) ?_
  refine g_obj C hl.1 wd1181 wd1170 wd1171 dX2_init_1 (Nat.le_of_ble_eq_true rfl) (Nat.le_of_ble_eq_true rfl) ?_
  refine lv_aload_n hx hb dX2_init_4 rfl (lv_at hl 0 rfl) ?_
  refine lv_bipush (v := (6 : Int32)) hx hb dX2_init_5 (by decide) ?_
  refine g_newa C hH hA 1 rfl (fun _ _ h => h) wd1172 rfl (N' := 6) (a0 := (6, (.inl (fun _ => 0)))) (avI 6) (by decide) (by decide) (Nat.le_of_ble_eq_true rfl) (Nat.le_of_ble_eq_true rfl) (Nat.le_of_ble_eq_true rfl) dX2_init_7 (fun q1 H n2 hH => ?_)
  obtain ⟨L3, τ4, f5, hH, hT, g6, m_q1, t_q1, e_q1, o7⟩ := x_newa hH hT n2 31 td_31 (fun _ _ => ⟨_, rfl, trivial⟩)
  have hQ_q := hQ_q.x (g6 []) m_q nm_0
  have t_q := xG.ty (g6 []) m_q t_q
  have m_q := xG.m (g6 []) m_q
  have t_r0 := xG.ty (g6 []) m_r0 t_r0
  have m_r0 := xG.m (g6 []) m_r0
  have t_r1 := xG.ty (g6 []) m_r1 t_r1
  have m_r1 := xG.m (g6 []) m_r1
  have hAc := hAc.tr (g6 [q])
  obtain ⟨fs8, hfs8, hls8, hqs8⟩ := hQ_q
  refine g_putF C hH m_q hfs8 iX2 tyX2 tyX2_ok nmX2 rfl 2 (by decide) wd160 rfl rfl hnm rfl rfl rfl (by rw [hls8]; decide) (fs' := fs8.set 2 (.ref q1)) rfl dX2_init_9 (fun H locs hH => ?_)
  obtain ⟨f9, hH, hT, g10, e11⟩ := x_put hH hT List.mem_cons_self
  have hQ_q := tQ.put hls8 hqs8 e11 rfl (show tF _ _ (.inr (.inl 31)) _ from ⟨_, rfl, m_q1, t_q1⟩)
  have hAc := hAc.tr g10
  refine lv_aload_n hx hb dX2_init_12 rfl (lv_at hl 0 rfl) ?_
  refine lv_bipush (v := (64 : Int32)) hx hb dX2_init_13 (by decide) ?_
  refine g_newa C hH hA 1 rfl (fun _ _ h => h) wd1172 rfl (N' := 64) (a0 := (64, (.inl (fun _ => 0)))) (avI 64) (by decide) (by decide) (Nat.le_of_ble_eq_true rfl) (Nat.le_of_ble_eq_true rfl) (Nat.le_of_ble_eq_true rfl) dX2_init_15 (fun q12 H n13 hH => ?_)
  obtain ⟨L14, τ15, f16, hH, hT, g17, m_q12, t_q12, e_q12, o18⟩ := x_newa hH hT n13 32 td_32 (fun _ _ => ⟨_, rfl, trivial⟩)
  have hQ_q := hQ_q.x (g17 []) m_q nm_0
  have t_q := xG.ty (g17 []) m_q t_q
  have m_q := xG.m (g17 []) m_q
  have t_r0 := xG.ty (g17 []) m_r0 t_r0
  have m_r0 := xG.m (g17 []) m_r0
  have t_r1 := xG.ty (g17 []) m_r1 t_r1
  have m_r1 := xG.m (g17 []) m_r1
  have hAc := hAc.tr (g17 [q])
  obtain ⟨fs19, hfs19, hls19, hqs19⟩ := hQ_q
  refine g_putF C hH m_q hfs19 iX2 tyX2 tyX2_ok nmX2 rfl 3 (by decide) wd175 rfl rfl hnm rfl rfl rfl (by rw [hls19]; decide) (fs' := fs19.set 3 (.ref q12)) rfl dX2_init_17 (fun H locs hH => ?_)
  obtain ⟨f20, hH, hT, g21, e22⟩ := x_put hH hT List.mem_cons_self
  have hQ_q := tQ.put hls19 hqs19 e22 rfl (show tF _ _ (.inr (.inl 32)) _ from ⟨_, rfl, m_q12, t_q12⟩)
  have hAc := hAc.tr g21
  refine lv_aload_n hx hb dX2_init_20 rfl (lv_at hl 0 rfl) ?_
  refine lv_aload_n hx hb dX2_init_21 rfl (lv_at hl 1 rfl) ?_
  obtain ⟨fs23, hfs23, hls23, hqs23⟩ := hQ_q
  refine g_putF C hH m_q hfs23 iX2 tyX2 tyX2_ok nmX2 rfl 0 (by decide) wd158 rfl rfl hnm rfl rfl rfl (by rw [hls23]; decide) (fs' := fs23.set 0 (.ref r0)) rfl dX2_init_22 (fun H locs hH => ?_)
  obtain ⟨f24, hH, hT, g25, e26⟩ := x_put hH hT List.mem_cons_self
  have hQ_q := tQ.put hls23 hqs23 e26 rfl (show tF _ _ (.inr (.inl 3)) _ from ⟨_, rfl, m_r0, t_r0⟩)
  have hAc := hAc.tr g25
  refine lv_aload_n hx hb dX2_init_25 rfl (lv_at hl 0 rfl) ?_
  refine lv_aload_n hx hb dX2_init_26 rfl (lv_at hl 2 rfl) ?_
  obtain ⟨fs27, hfs27, hls27, hqs27⟩ := hQ_q
  refine g_putF C hH m_q hfs27 iX2 tyX2 tyX2_ok nmX2 rfl 1 (by decide) wd161 rfl rfl hnm rfl rfl rfl (by rw [hls27]; decide) (fs' := fs27.set 1 (.ref r1)) rfl dX2_init_27 (fun H locs hH => ?_)
  obtain ⟨f28, hH, hT, g29, e30⟩ := x_put hH hT List.mem_cons_self
  have hQ_q := tQ.put hls27 hqs27 e30 rfl (show tF _ _ (.inr (.inl 19)) _ from ⟨_, rfl, m_r1, t_r1⟩)
  have hAc := hAc.tr g29
  have hT := hQ_q.fin hT t_q td_30 (by decide)
  exact g_vret C hr hH (Nat.le_of_ble_eq_true rfl) (Nat.le_of_ble_eq_true rfl) dX2_init_30 ⟨_, hT, hAc⟩
set_option maxHeartbeats 4000000 in
set_option maxRecDepth 100000 in
theorem kt_Fog (l : Launch) (E : gE) (L : List Nat) (τ : Nat → Nat) (f : gF) (X : List Nat) {q r0 r1 : Nat} (m_q : q ∈ L) (t_q : τ q = 33) (e_q : f q = .inr (1, [.null, .null])) (m_r0 : r0 ∈ L) (t_r0 : τ r0 = 3) (m_r1 : r1 ∈ L) (t_r1 : τ r1 = 19) (hT : tX E (q :: X) L τ f) : gMv l E yX1_init cX1_init 3 (gRm 1 0 0) [.ref q, .ref r0, .ref r1] L f (fun L1 f1 => ∃ τ1 : Nat → Nat, tX E X L1 τ1 f1 ∧ xG [q] L τ f L1 τ1 f1 []) := by
  refine gMv.intro (by decide) (Nat.le_of_ble_eq_true rfl) ?_
  intro p e s m below meth c A ls C hr hnm hA hH hl
  have C : gC E cX1_init 3 RX1 p s m _ meth c := C
  have hl : lv_has ls 3 [(0, .ref q), (1, .ref r0), (2, .ref r1)] := hl
  have hx := C.1
  have hb := C.2.1
  have hQ_q := tQ_new (L := L) (τ := τ) [] td_33 e_q rfl (fun k d hd hk => by
      simp only [List.mem_cons, List.not_mem_nil, or_false] at hk
      )
  have hAc := xG.rf [q] L τ f
  refine lv_aload_n hx hb dX1_init_0 rfl (lv_at hl 0 rfl) ?_
  refine g_obj C hl.1 wd1182 wd1170 wd1171 dX1_init_1 (Nat.le_of_ble_eq_true rfl) (Nat.le_of_ble_eq_true rfl) ?_
  refine lv_aload_n hx hb dX1_init_4 rfl (lv_at hl 0 rfl) ?_
  refine lv_aload_n hx hb dX1_init_5 rfl (lv_at hl 1 rfl) ?_
  obtain ⟨fs1, hfs1, hls1, hqs1⟩ := hQ_q
  refine g_putF C hH m_q hfs1 iX1 tyX1 tyX1_ok nmX1 rfl 0 (by decide) wd118 rfl rfl hnm rfl rfl rfl (by rw [hls1]; decide) (fs' := fs1.set 0 (.ref r0)) rfl dX1_init_6 (fun H locs hH => ?_)
  obtain ⟨f2, hH, hT, g3, e4⟩ := x_put hH hT List.mem_cons_self
  have hQ_q := tQ.put hls1 hqs1 e4 rfl (show tF _ _ (.inr (.inl 3)) _ from ⟨_, rfl, m_r0, t_r0⟩)
  have hAc := hAc.tr g3
  refine lv_aload_n hx hb dX1_init_9 rfl (lv_at hl 0 rfl) ?_
  refine lv_aload_n hx hb dX1_init_10 rfl (lv_at hl 2 rfl) ?_
  obtain ⟨fs5, hfs5, hls5, hqs5⟩ := hQ_q
  refine g_putF C hH m_q hfs5 iX1 tyX1 tyX1_ok nmX1 rfl 1 (by decide) wd121 rfl rfl hnm rfl rfl rfl (by rw [hls5]; decide) (fs' := fs5.set 1 (.ref r1)) rfl dX1_init_11 (fun H locs hH => ?_)
  obtain ⟨f6, hH, hT, g7, e8⟩ := x_put hH hT List.mem_cons_self
  have hQ_q := tQ.put hls5 hqs5 e8 rfl (show tF _ _ (.inr (.inl 19)) _ from ⟨_, rfl, m_r1, t_r1⟩)
  have hAc := hAc.tr g7
  have hT := hQ_q.fin hT t_q td_33 (by decide)
  exact g_vret C hr hH (Nat.le_of_ble_eq_true rfl) (Nat.le_of_ble_eq_true rfl) dX1_init_14 ⟨_, hT, hAc⟩
set_option maxHeartbeats 4000000 in
set_option maxRecDepth 100000 in
theorem kt_Desk (l : Launch) (E : gE) (L : List Nat) (τ : Nat → Nat) (f : gF) {q : Nat} (m_q : q ∈ L) (t_q : τ q = 0) (e_q : f q = .inr (9, [.null, .null, .null, .null, .null, .null, .null, .null, .null, .null, .null])) (hT : tX E [q] L τ f) (h0 : ∀ b ∈ L, τ b = 0) : gMv l E yX9_init cX9_init 2 (gRm 3 84 2671) [.ref q] L f (fun L1 f1 => ∃ τ1 : Nat → Nat, tI E L1 τ1 f1 ∧ q ∈ L1 ∧ τ1 q = 0 ∧ (∀ a ∈ L1, ∀ b ∈ L1, τ1 a = 3 → τ1 b = 3 → a = b) ∧ rowInj f1 q ∧ rowsIn f1 q (fun _ => -1) (fun _ => 0)) := by
  refine gMv.intro (by decide) (Nat.le_of_ble_eq_true rfl) ?_
  intro p e s m below meth c A ls C hr hnm hA hH hl
  have C : gC E cX9_init 2 RX9 p s m _ meth c := C
  have hl : lv_has ls 2 [(0, .ref q)] := hl
  have hx := C.1
  have hb := C.2.1
  have hQ_q := tQ_new (L := L) (τ := τ) [] td_0 e_q rfl (fun k d hd hk => by
      simp only [List.mem_cons, List.not_mem_nil, or_false] at hk
      )
  have n_3 : ∀ b ∈ L, τ b ≠ 3 := fun b hb q => absurd ((h0 b hb).symm.trans q) (by decide)
  have n_15 : ∀ b ∈ L, τ b ≠ 15 := fun b hb q => absurd ((h0 b hb).symm.trans q) (by decide)
  have n_16 : ∀ b ∈ L, τ b ≠ 16 := fun b hb q => absurd ((h0 b hb).symm.trans q) (by decide)
  refine lv_aload_n hx hb dX9_init_0 rfl (lv_at hl 0 rfl) ?_
  refine g_obj C hl.1 wd1183 wd1170 wd1171 dX9_init_1 (Nat.le_of_ble_eq_true rfl) (Nat.le_of_ble_eq_true rfl) ?_
  refine lv_aload_n hx hb dX9_init_4 rfl (lv_at hl 0 rfl) ?_
  refine g_new C hH hA (ci := 8) iX8 tyX8 tyX8_ok wd1184 wd1185 wd670 rfl (fs := [.null, .int (0 : Int32)]) (dvX8) (Nat.le_of_ble_eq_true rfl) (Nat.le_of_ble_eq_true rfl) dX9_init_5 (fun q1 H n2 hH => ?_)
  obtain ⟨L3, τ4, f5, hH, hT, g6, m_q1, t_q1, e_q1, o7⟩ := x_new hH hT n2 1
  have hQ_q := hQ_q.x (g6 []) m_q nm_0
  have t_q := xG.ty (g6 []) m_q t_q
  have m_q := xG.m (g6 []) m_q
  have n_3 := n_x n_3 (g6 []) (by decide)
  have n_15 := n_x n_15 (g6 []) (by decide)
  have n_16 := n_x n_16 (g6 []) (by decide)
  refine lv_dup hx hb dX9_init_8 rfl ?_
  refine g_INv C hl.1 hA hH (As := []) (rest := [.ref q1, .ref q]) (kt_Tape l E L3 τ4 f5 _ m_q1 t_q1 e_q1 hT) my_X8_init (host := "GooseShares") (List.mem_of_getElem? (i := 0) rfl) rfl rfl (Nat.le_of_ble_eq_true rfl) ⟨Nat.le_of_ble_eq_true rfl, Nat.le_of_ble_eq_true rfl⟩ ⟨Nat.le_of_ble_eq_true rfl, Nat.le_of_ble_eq_true rfl⟩ dX9_init_9 (fun L8 f9 H locs hp hH => ?_)
  obtain ⟨τ10, hT, g11⟩ := hp
  have hQ_q := hQ_q.x g11 m_q (nm_c (ty_ne t_q t_q1 rfl) nm_0)
  have t_q := xG.ty g11 m_q t_q
  have m_q := xG.m g11 m_q
  have t_q1 := xG.ty g11 m_q1 t_q1
  have m_q1 := xG.m g11 m_q1
  have n_3 := n_x n_3 g11 (by decide)
  have n_15 := n_x n_15 g11 (by decide)
  have n_16 := n_x n_16 g11 (by decide)
  obtain ⟨fs12, hfs12, hls12, hqs12⟩ := hQ_q
  refine g_putF C hH m_q hfs12 iX9 tyX9 tyX9_ok nmX9 rfl 0 (by decide) wd666 rfl rfl hnm rfl rfl rfl (by rw [hls12]; decide) (fs' := fs12.set 0 (.ref q1)) rfl dX9_init_12 (fun H locs hH => ?_)
  obtain ⟨f13, hH, hT, g14, e15⟩ := x_put hH hT List.mem_cons_self
  have hQ_q := tQ.put hls12 hqs12 e15 rfl (show tF _ _ (.inr (.inl 1)) _ from ⟨_, rfl, m_q1, t_q1⟩)
  refine lv_aload_n hx hb dX9_init_15 rfl (lv_at hl 0 rfl) ?_
  refine g_new C hH hA (ci := 3) iX3 tyX3 tyX3_ok wd1188 wd1189 wd19 rfl (fs := [.int (0 : Int32), .int (0 : Int32), .int (0 : Int32), .int (0 : Int32), .int (0 : Int32), .int (0 : Int32), .int (0 : Int32), .int (0 : Int32), .int (0 : Int32), .int (0 : Int32), .null, .null, .null, .null, .null, .null, .null, .null, .null, .null]) (dvX3) (Nat.le_of_ble_eq_true rfl) (Nat.le_of_ble_eq_true rfl) dX9_init_16 (fun q16 H n17 hH => ?_)
  obtain ⟨L18, τ19, f20, hH, hT, g21, m_q16, t_q16, e_q16, o22⟩ := x_new hH hT n17 3
  have u_3 := u_new n_3 (g21 []) o22
  have hQ_q := hQ_q.x (g21 []) m_q nm_0
  have t_q := xG.ty (g21 []) m_q t_q
  have m_q := xG.m (g21 []) m_q
  have n_15 := n_x n_15 (g21 []) (by decide)
  have n_16 := n_x n_16 (g21 []) (by decide)
  refine lv_dup hx hb dX9_init_19 rfl ?_
  refine g_INv C hl.1 hA hH (As := []) (rest := [.ref q16, .ref q]) (kt_Land l E L18 τ19 f20 _ 3 td_3 m_q16 t_q16 e_q16 hT) my_X3_init (host := "GooseShares") (List.mem_of_getElem? (i := 1) rfl) rfl rfl (Nat.le_of_ble_eq_true rfl) ⟨Nat.le_of_ble_eq_true rfl, Nat.le_of_ble_eq_true rfl⟩ ⟨Nat.le_of_ble_eq_true rfl, Nat.le_of_ble_eq_true rfl⟩ dX9_init_20 (fun L23 f24 H locs hp hH => ?_)
  obtain ⟨τ25, hT, g26⟩ := hp
  have hQ_q := hQ_q.x g26 m_q (nm_c (ty_ne t_q t_q16 rfl) nm_0)
  have t_q := xG.ty g26 m_q t_q
  have m_q := xG.m g26 m_q
  have t_q16 := xG.ty g26 m_q16 t_q16
  have m_q16 := xG.m g26 m_q16
  have n_15 := n_x n_15 g26 (by decide)
  have n_16 := n_x n_16 g26 (by decide)
  have u_3 := u_x u_3 g26 (by decide)
  obtain ⟨fs27, hfs27, hls27, hqs27⟩ := hQ_q
  refine g_putF C hH m_q hfs27 iX9 tyX9 tyX9_ok nmX9 rfl 1 (by decide) wd414 rfl rfl hnm rfl rfl rfl (by rw [hls27]; decide) (fs' := fs27.set 1 (.ref q16)) rfl dX9_init_23 (fun H locs hH => ?_)
  obtain ⟨f28, hH, hT, g29, e30⟩ := x_put hH hT List.mem_cons_self
  have hQ_q := tQ.put hls27 hqs27 e30 rfl (show tF _ _ (.inr (.inl 3)) _ from ⟨_, rfl, m_q16, t_q16⟩)
  refine lv_aload_n hx hb dX9_init_26 rfl (lv_at hl 0 rfl) ?_
  refine g_new C hH hA (ci := 5) iX5 tyX5 tyX5_ok wd1192 wd1193 wd350 rfl (fs := [.null, .null, .int (0 : Int32), .int (0 : Int32), .int (0 : Int32), .int (0 : Int32), .int (0 : Int32)]) (dvX5) (Nat.le_of_ble_eq_true rfl) (Nat.le_of_ble_eq_true rfl) dX9_init_27 (fun q31 H n32 hH => ?_)
  obtain ⟨L33, τ34, f35, hH, hT, g36, m_q31, t_q31, e_q31, o37⟩ := x_new hH hT n32 14
  have hQ_q := hQ_q.x (g36 []) m_q nm_0
  have t_q := xG.ty (g36 []) m_q t_q
  have m_q := xG.m (g36 []) m_q
  have n_15 := n_x n_15 (g36 []) (by decide)
  have n_16 := n_x n_16 (g36 []) (by decide)
  have u_3 := u_x u_3 (g36 []) (by decide)
  refine lv_dup hx hb dX9_init_30 rfl ?_
  refine lv_aload_n hx hb dX9_init_31 rfl (lv_at hl 0 rfl) ?_
  obtain ⟨fs38, hfs38, -, hqs38⟩ := id hQ_q
  obtain ⟨_, hvs38, bs38, rfl, m_bs38, t_bs38⟩ := hqs38 0 _ rfl (by decide)
  refine g_get C hH m_q hfs38 iX9 rfl 0 (by decide) wd666 rfl hvs38 dX9_init_32 ?_
  refine g_new C hH hA (ci := 3) iX3 tyX3 tyX3_ok wd1188 wd1189 wd19 rfl (fs := [.int (0 : Int32), .int (0 : Int32), .int (0 : Int32), .int (0 : Int32), .int (0 : Int32), .int (0 : Int32), .int (0 : Int32), .int (0 : Int32), .int (0 : Int32), .int (0 : Int32), .null, .null, .null, .null, .null, .null, .null, .null, .null, .null]) (dvX3) (Nat.le_of_ble_eq_true rfl) (Nat.le_of_ble_eq_true rfl) dX9_init_35 (fun q39 H n40 hH => ?_)
  obtain ⟨L41, τ42, f43, hH, hT, g44, m_q39, t_q39, e_q39, o45⟩ := x_new hH hT n40 35
  have hQ_q := hQ_q.x (g44 []) m_q nm_0
  have e_q31 := (xG.k (g44 []) m_q31 nm_0).trans e_q31
  have t_q := xG.ty (g44 []) m_q t_q
  have m_q := xG.m (g44 []) m_q
  have t_q31 := xG.ty (g44 []) m_q31 t_q31
  have m_q31 := xG.m (g44 []) m_q31
  have t_bs38 := xG.ty (g44 []) m_bs38 t_bs38
  have m_bs38 := xG.m (g44 []) m_bs38
  have n_15 := n_x n_15 (g44 []) (by decide)
  have n_16 := n_x n_16 (g44 []) (by decide)
  have u_3 := u_x u_3 (g44 []) (by decide)
  refine lv_dup hx hb dX9_init_38 rfl ?_
  refine g_INv C hl.1 hA hH (As := []) (rest := [.ref q39, .ref bs38, .ref q31, .ref q31, .ref q]) (kt_Land l E L41 τ42 f43 _ 35 td_35 m_q39 t_q39 e_q39 hT) my_X3_init (host := "GooseShares") (List.mem_of_getElem? (i := 1) rfl) rfl rfl (Nat.le_of_ble_eq_true rfl) ⟨Nat.le_of_ble_eq_true rfl, Nat.le_of_ble_eq_true rfl⟩ ⟨Nat.le_of_ble_eq_true rfl, Nat.le_of_ble_eq_true rfl⟩ dX9_init_39 (fun L46 f47 H locs hp hH => ?_)
  obtain ⟨τ48, hT, g49⟩ := hp
  have hQ_q := hQ_q.x g49 m_q (nm_c (ty_ne t_q t_q39 rfl) nm_0)
  have e_q31 := (xG.k g49 m_q31 (nm_c (ty_ne t_q31 t_q39 rfl) nm_0)).trans e_q31
  have t_q := xG.ty g49 m_q t_q
  have m_q := xG.m g49 m_q
  have t_q31 := xG.ty g49 m_q31 t_q31
  have m_q31 := xG.m g49 m_q31
  have t_bs38 := xG.ty g49 m_bs38 t_bs38
  have m_bs38 := xG.m g49 m_bs38
  have t_q39 := xG.ty g49 m_q39 t_q39
  have m_q39 := xG.m g49 m_q39
  have n_15 := n_x n_15 g49 (by decide)
  have n_16 := n_x n_16 g49 (by decide)
  have u_3 := u_x u_3 g49 (by decide)
  refine g_Iv C hl.1 hA hH (As := [.ref bs38, .ref q39]) (rest := [.ref q31, .ref q]) (kt_Reader l E L46 τ48 f47 _ m_q31 t_q31 e_q31 m_bs38 t_bs38 m_q39 t_q39 hT) my_X5_init wd1196 rfl rfl (Nat.le_of_ble_eq_true rfl) ⟨Nat.le_of_ble_eq_true rfl, Nat.le_of_ble_eq_true rfl⟩ ⟨Nat.le_of_ble_eq_true rfl, Nat.le_of_ble_eq_true rfl⟩ dX9_init_42 (fun L50 f51 H locs hp hH => ?_)
  obtain ⟨τ52, hT, g53⟩ := hp
  have hQ_q := hQ_q.x g53 m_q (nm_c (ty_ne t_q t_q31 rfl) nm_0)
  have t_q := xG.ty g53 m_q t_q
  have m_q := xG.m g53 m_q
  have t_q31 := xG.ty g53 m_q31 t_q31
  have m_q31 := xG.m g53 m_q31
  have t_bs38 := xG.ty g53 m_bs38 t_bs38
  have m_bs38 := xG.m g53 m_bs38
  have t_q39 := xG.ty g53 m_q39 t_q39
  have m_q39 := xG.m g53 m_q39
  have n_15 := n_x n_15 g53 (by decide)
  have n_16 := n_x n_16 g53 (by decide)
  have u_3 := u_x u_3 g53 (by decide)
  obtain ⟨fs54, hfs54, hls54, hqs54⟩ := hQ_q
  refine g_putF C hH m_q hfs54 iX9 tyX9 tyX9_ok nmX9 rfl 2 (by decide) wd673 rfl rfl hnm rfl rfl rfl (by rw [hls54]; decide) (fs' := fs54.set 2 (.ref q31)) rfl dX9_init_45 (fun H locs hH => ?_)
  obtain ⟨f55, hH, hT, g56, e57⟩ := x_put hH hT List.mem_cons_self
  have hQ_q := tQ.put hls54 hqs54 e57 rfl (show tF _ _ (.inr (.inl 14)) _ from ⟨_, rfl, m_q31, t_q31⟩)
  refine lv_aload_n hx hb dX9_init_48 rfl (lv_at hl 0 rfl) ?_
  refine lv_iconst (v := (3 : Int32)) hx hb dX9_init_49 (by decide) ?_
  refine g_newq C hH hA 4 rfl wd1188 (fun h => h.2.2.1) (N' := 3) (by decide) (by decide) (Nat.le_of_ble_eq_true rfl) (Nat.le_of_ble_eq_true rfl) (Nat.le_of_ble_eq_true rfl) dX9_init_50 (fun q58 H n59 hH => ?_)
  obtain ⟨L60, τ61, f62, hH, hT, g63, m_q58, t_q58, e_q58, o64⟩ := x_new hH hT n59 15
  have u_15 := u_new n_15 (g63 []) o64
  have hQ_q := hQ_q.x (g63 []) m_q nm_0
  have t_q := xG.ty (g63 []) m_q t_q
  have m_q := xG.m (g63 []) m_q
  have t_bs38 := xG.ty (g63 []) m_bs38 t_bs38
  have m_bs38 := xG.m (g63 []) m_bs38
  have t_q39 := xG.ty (g63 []) m_q39 t_q39
  have m_q39 := xG.m (g63 []) m_q39
  have n_16 := n_x n_16 (g63 []) (by decide)
  have u_3 := u_x u_3 (g63 []) (by decide)
  have hQ_q58 : tQA E L60 τ61 f62 q58 4 3 35 0 := ⟨_, e_q58, fun _ h => absurd h (Nat.not_lt_zero _)⟩
  obtain ⟨fs65, hfs65, hls65, hqs65⟩ := hQ_q
  refine g_putF C hH m_q hfs65 iX9 tyX9 tyX9_ok nmX9 rfl 3 (by decide) wd719 rfl rfl hnm rfl rfl rfl (by rw [hls65]; decide) (fs' := fs65.set 3 (.ref q58)) rfl dX9_init_53 (fun H locs hH => ?_)
  obtain ⟨f66, hH, hT, g67, e68⟩ := x_put hH hT (List.mem_cons_of_mem _ List.mem_cons_self)
  have hQ_q := tQ.put hls65 hqs65 e68 rfl (show tF _ _ (.inr (.inl 15)) _ from ⟨_, rfl, m_q58, t_q58⟩)
  have hQ_q58 := hQ_q58.x g67 m_q58 (nm_c (ty_ne t_q58 t_q rfl) nm_0)
  refine lv_aload_n hx hb dX9_init_56 rfl (lv_at hl 0 rfl) ?_
  refine lv_iconst (v := (4 : Int32)) hx hb dX9_init_57 (by decide) ?_
  refine g_newq C hH hA 5 rfl wd1197 (fun h => h.2.2.2) (N' := 4) (by decide) (by decide) (Nat.le_of_ble_eq_true rfl) (Nat.le_of_ble_eq_true rfl) (Nat.le_of_ble_eq_true rfl) dX9_init_58 (fun q69 H n70 hH => ?_)
  obtain ⟨L71, τ72, f73, hH, hT, g74, m_q69, t_q69, e_q69, o75⟩ := x_new hH hT n70 16
  have u_16 := u_new n_16 (g74 []) o75
  have hQ_q := hQ_q.x (g74 []) m_q nm_0
  have hQ_q58 := hQ_q58.x (g74 []) m_q58 nm_0
  have t_q := xG.ty (g74 []) m_q t_q
  have m_q := xG.m (g74 []) m_q
  have t_bs38 := xG.ty (g74 []) m_bs38 t_bs38
  have m_bs38 := xG.m (g74 []) m_bs38
  have t_q39 := xG.ty (g74 []) m_q39 t_q39
  have m_q39 := xG.m (g74 []) m_q39
  have t_q58 := xG.ty (g74 []) m_q58 t_q58
  have m_q58 := xG.m (g74 []) m_q58
  have u_3 := u_x u_3 (g74 []) (by decide)
  have u_15 := u_x u_15 (g74 []) (by decide)
  obtain ⟨fs76, hfs76, hls76, hqs76⟩ := hQ_q
  refine g_putF C hH m_q hfs76 iX9 tyX9 tyX9_ok nmX9 rfl 4 (by decide) wd419 rfl rfl hnm rfl rfl rfl (by rw [hls76]; decide) (fs' := fs76.set 4 (.ref q69)) rfl dX9_init_61 (fun H locs hH => ?_)
  obtain ⟨f77, hH, hT, g78, e79⟩ := x_put hH hT (List.mem_cons_of_mem _ (List.mem_cons_of_mem _ List.mem_cons_self))
  have hQ_q := tQ.put hls76 hqs76 e79 rfl (show tF _ _ (.inr (.inl 16)) _ from ⟨_, rfl, m_q69, t_q69⟩)
  have hQ_q58 := hQ_q58.x g78 m_q58 (nm_c (ty_ne t_q58 t_q rfl) nm_0)
  have e_q69 := (xG.k g78 m_q69 (nm_c (ty_ne t_q69 t_q rfl) nm_0)).trans e_q69
  refine lv_aload_n hx hb dX9_init_64 rfl (lv_at hl 0 rfl) ?_
  refine g_new C hH hA (ci := 7) iX7 tyX7 tyX7_ok wd1198 wd1199 wd75 rfl (fs := [.null, .null, .null, .null, .null, .int (0 : Int32), .int (0 : Int32), .int (0 : Int32), .int (0 : Int32), .int (0 : Int32)]) (dvX7) (Nat.le_of_ble_eq_true rfl) (Nat.le_of_ble_eq_true rfl) dX9_init_65 (fun q80 H n81 hH => ?_)
  obtain ⟨L82, τ83, f84, hH, hT, g85, m_q80, t_q80, e_q80, o86⟩ := x_new hH hT n81 19
  have hQ_q := hQ_q.x (g85 []) m_q nm_0
  have hQ_q58 := hQ_q58.x (g85 []) m_q58 nm_0
  have e_q69 := (xG.k (g85 []) m_q69 nm_0).trans e_q69
  have t_q := xG.ty (g85 []) m_q t_q
  have m_q := xG.m (g85 []) m_q
  have t_bs38 := xG.ty (g85 []) m_bs38 t_bs38
  have m_bs38 := xG.m (g85 []) m_bs38
  have t_q39 := xG.ty (g85 []) m_q39 t_q39
  have m_q39 := xG.m (g85 []) m_q39
  have t_q58 := xG.ty (g85 []) m_q58 t_q58
  have m_q58 := xG.m (g85 []) m_q58
  have t_q69 := xG.ty (g85 []) m_q69 t_q69
  have m_q69 := xG.m (g85 []) m_q69
  have u_3 := u_x u_3 (g85 []) (by decide)
  have u_15 := u_x u_15 (g85 []) (by decide)
  have u_16 := u_x u_16 (g85 []) (by decide)
  refine lv_dup hx hb dX9_init_68 rfl ?_
  refine lv_aload_n hx hb dX9_init_69 rfl (lv_at hl 0 rfl) ?_
  obtain ⟨fs87, hfs87, -, hqs87⟩ := id hQ_q
  obtain ⟨_, hvs87, bs87, rfl, m_bs87, t_bs87⟩ := hqs87 1 _ rfl (by decide)
  refine g_get C hH m_q hfs87 iX9 rfl 1 (by decide) wd414 rfl hvs87 dX9_init_70 ?_
  refine g_Iv C hl.1 hA hH (As := [.ref bs87]) (rest := [.ref q80, .ref q]) (kt_Sky l E L82 τ83 f84 _ m_q80 t_q80 e_q80 m_bs87 t_bs87 hT) my_X7_init wd1202 rfl rfl (Nat.le_of_ble_eq_true rfl) ⟨Nat.le_of_ble_eq_true rfl, Nat.le_of_ble_eq_true rfl⟩ ⟨Nat.le_of_ble_eq_true rfl, Nat.le_of_ble_eq_true rfl⟩ dX9_init_73 (fun L88 f89 H locs hp hH => ?_)
  obtain ⟨τ90, hT, g91⟩ := hp
  have hQ_q := hQ_q.x g91 m_q (nm_c (ty_ne t_q t_q80 rfl) nm_0)
  have hQ_q58 := hQ_q58.x g91 m_q58 (nm_c (ty_ne t_q58 t_q80 rfl) nm_0)
  have e_q69 := (xG.k g91 m_q69 (nm_c (ty_ne t_q69 t_q80 rfl) nm_0)).trans e_q69
  have t_q := xG.ty g91 m_q t_q
  have m_q := xG.m g91 m_q
  have t_bs38 := xG.ty g91 m_bs38 t_bs38
  have m_bs38 := xG.m g91 m_bs38
  have t_q39 := xG.ty g91 m_q39 t_q39
  have m_q39 := xG.m g91 m_q39
  have t_q58 := xG.ty g91 m_q58 t_q58
  have m_q58 := xG.m g91 m_q58
  have t_q69 := xG.ty g91 m_q69 t_q69
  have m_q69 := xG.m g91 m_q69
  have t_q80 := xG.ty g91 m_q80 t_q80
  have m_q80 := xG.m g91 m_q80
  have t_bs87 := xG.ty g91 m_bs87 t_bs87
  have m_bs87 := xG.m g91 m_bs87
  have u_3 := u_x u_3 g91 (by decide)
  have u_15 := u_x u_15 g91 (by decide)
  have u_16 := u_x u_16 g91 (by decide)
  obtain ⟨fs92, hfs92, hls92, hqs92⟩ := hQ_q
  refine g_putF C hH m_q hfs92 iX9 tyX9 tyX9_ok nmX9 rfl 5 (by decide) wd425 rfl rfl hnm rfl rfl rfl (by rw [hls92]; decide) (fs' := fs92.set 5 (.ref q80)) rfl dX9_init_76 (fun H locs hH => ?_)
  obtain ⟨f93, hH, hT, g94, e95⟩ := x_put hH hT (List.mem_cons_of_mem _ (List.mem_cons_of_mem _ List.mem_cons_self))
  have hQ_q := tQ.put hls92 hqs92 e95 rfl (show tF _ _ (.inr (.inl 19)) _ from ⟨_, rfl, m_q80, t_q80⟩)
  have hQ_q58 := hQ_q58.x g94 m_q58 (nm_c (ty_ne t_q58 t_q rfl) nm_0)
  have e_q69 := (xG.k g94 m_q69 (nm_c (ty_ne t_q69 t_q rfl) nm_0)).trans e_q69
  refine lv_aload_n hx hb dX9_init_79 rfl (lv_at hl 0 rfl) ?_
  refine g_new C hH hA (ci := 4) iX4 tyX4 tyX4_ok wd1203 wd1204 wd275 rfl (fs := [.null, .null, .null, .null, .int (0 : Int32)]) (dvX4) (Nat.le_of_ble_eq_true rfl) (Nat.le_of_ble_eq_true rfl) dX9_init_80 (fun q96 H n97 hH => ?_)
  obtain ⟨L98, τ99, f100, hH, hT, g101, m_q96, t_q96, e_q96, o102⟩ := x_new hH hT n97 24
  have hQ_q := hQ_q.x (g101 []) m_q nm_0
  have hQ_q58 := hQ_q58.x (g101 []) m_q58 nm_0
  have e_q69 := (xG.k (g101 []) m_q69 nm_0).trans e_q69
  have t_q := xG.ty (g101 []) m_q t_q
  have m_q := xG.m (g101 []) m_q
  have t_bs38 := xG.ty (g101 []) m_bs38 t_bs38
  have m_bs38 := xG.m (g101 []) m_bs38
  have t_q39 := xG.ty (g101 []) m_q39 t_q39
  have m_q39 := xG.m (g101 []) m_q39
  have t_q58 := xG.ty (g101 []) m_q58 t_q58
  have m_q58 := xG.m (g101 []) m_q58
  have t_q69 := xG.ty (g101 []) m_q69 t_q69
  have m_q69 := xG.m (g101 []) m_q69
  have t_bs87 := xG.ty (g101 []) m_bs87 t_bs87
  have m_bs87 := xG.m (g101 []) m_bs87
  have u_3 := u_x u_3 (g101 []) (by decide)
  have u_15 := u_x u_15 (g101 []) (by decide)
  have u_16 := u_x u_16 (g101 []) (by decide)
  refine lv_dup hx hb dX9_init_83 rfl ?_
  refine lv_aload_n hx hb dX9_init_84 rfl (lv_at hl 0 rfl) ?_
  obtain ⟨fs103, hfs103, -, hqs103⟩ := id hQ_q
  obtain ⟨_, hvs103, bs103, rfl, m_bs103, t_bs103⟩ := hqs103 1 _ rfl (by decide)
  refine g_get C hH m_q hfs103 iX9 rfl 1 (by decide) wd414 rfl hvs103 dX9_init_85 ?_
  refine lv_aload_n hx hb dX9_init_88 rfl (lv_at hl 0 rfl) ?_
  obtain ⟨fs104, hfs104, -, hqs104⟩ := id hQ_q
  obtain ⟨_, hvs104, bs104, rfl, m_bs104, t_bs104⟩ := hqs104 5 _ rfl (by decide)
  refine g_get C hH m_q hfs104 iX9 rfl 5 (by decide) wd425 rfl hvs104 dX9_init_89 ?_
  refine g_Iv C hl.1 hA hH (As := [.ref bs103, .ref bs104]) (rest := [.ref q96, .ref q]) (kt_Lanterns l E L98 τ99 f100 _ m_q96 t_q96 e_q96 m_bs103 t_bs103 m_bs104 t_bs104 hT) my_X4_init wd1207 rfl rfl (Nat.le_of_ble_eq_true rfl) ⟨Nat.le_of_ble_eq_true rfl, Nat.le_of_ble_eq_true rfl⟩ ⟨Nat.le_of_ble_eq_true rfl, Nat.le_of_ble_eq_true rfl⟩ dX9_init_92 (fun L105 f106 H locs hp hH => ?_)
  obtain ⟨τ107, hT, g108⟩ := hp
  have hQ_q := hQ_q.x g108 m_q (nm_c (ty_ne t_q t_q96 rfl) nm_0)
  have hQ_q58 := hQ_q58.x g108 m_q58 (nm_c (ty_ne t_q58 t_q96 rfl) nm_0)
  have e_q69 := (xG.k g108 m_q69 (nm_c (ty_ne t_q69 t_q96 rfl) nm_0)).trans e_q69
  have t_q := xG.ty g108 m_q t_q
  have m_q := xG.m g108 m_q
  have t_bs38 := xG.ty g108 m_bs38 t_bs38
  have m_bs38 := xG.m g108 m_bs38
  have t_q39 := xG.ty g108 m_q39 t_q39
  have m_q39 := xG.m g108 m_q39
  have t_q58 := xG.ty g108 m_q58 t_q58
  have m_q58 := xG.m g108 m_q58
  have t_q69 := xG.ty g108 m_q69 t_q69
  have m_q69 := xG.m g108 m_q69
  have t_bs87 := xG.ty g108 m_bs87 t_bs87
  have m_bs87 := xG.m g108 m_bs87
  have t_q96 := xG.ty g108 m_q96 t_q96
  have m_q96 := xG.m g108 m_q96
  have t_bs103 := xG.ty g108 m_bs103 t_bs103
  have m_bs103 := xG.m g108 m_bs103
  have t_bs104 := xG.ty g108 m_bs104 t_bs104
  have m_bs104 := xG.m g108 m_bs104
  have u_3 := u_x u_3 g108 (by decide)
  have u_15 := u_x u_15 g108 (by decide)
  have u_16 := u_x u_16 g108 (by decide)
  obtain ⟨fs109, hfs109, hls109, hqs109⟩ := hQ_q
  refine g_putF C hH m_q hfs109 iX9 tyX9 tyX9_ok nmX9 rfl 6 (by decide) wd560 rfl rfl hnm rfl rfl rfl (by rw [hls109]; decide) (fs' := fs109.set 6 (.ref q96)) rfl dX9_init_95 (fun H locs hH => ?_)
  obtain ⟨f110, hH, hT, g111, e112⟩ := x_put hH hT (List.mem_cons_of_mem _ (List.mem_cons_of_mem _ List.mem_cons_self))
  have hQ_q := tQ.put hls109 hqs109 e112 rfl (show tF _ _ (.inr (.inl 24)) _ from ⟨_, rfl, m_q96, t_q96⟩)
  have hQ_q58 := hQ_q58.x g111 m_q58 (nm_c (ty_ne t_q58 t_q rfl) nm_0)
  have e_q69 := (xG.k g111 m_q69 (nm_c (ty_ne t_q69 t_q rfl) nm_0)).trans e_q69
  refine lv_aload_n hx hb dX9_init_98 rfl (lv_at hl 0 rfl) ?_
  refine g_new C hH hA (ci := 0) iX0 tyX0 tyX0_ok wd1208 wd1209 wd206 rfl (fs := [.null, .null, .null, .null]) (dvX0) (Nat.le_of_ble_eq_true rfl) (Nat.le_of_ble_eq_true rfl) dX9_init_99 (fun q113 H n114 hH => ?_)
  obtain ⟨L115, τ116, f117, hH, hT, g118, m_q113, t_q113, e_q113, o119⟩ := x_new hH hT n114 27
  have hQ_q := hQ_q.x (g118 []) m_q nm_0
  have hQ_q58 := hQ_q58.x (g118 []) m_q58 nm_0
  have e_q69 := (xG.k (g118 []) m_q69 nm_0).trans e_q69
  have t_q := xG.ty (g118 []) m_q t_q
  have m_q := xG.m (g118 []) m_q
  have t_bs38 := xG.ty (g118 []) m_bs38 t_bs38
  have m_bs38 := xG.m (g118 []) m_bs38
  have t_q39 := xG.ty (g118 []) m_q39 t_q39
  have m_q39 := xG.m (g118 []) m_q39
  have t_q58 := xG.ty (g118 []) m_q58 t_q58
  have m_q58 := xG.m (g118 []) m_q58
  have t_q69 := xG.ty (g118 []) m_q69 t_q69
  have m_q69 := xG.m (g118 []) m_q69
  have t_bs87 := xG.ty (g118 []) m_bs87 t_bs87
  have m_bs87 := xG.m (g118 []) m_bs87
  have t_bs103 := xG.ty (g118 []) m_bs103 t_bs103
  have m_bs103 := xG.m (g118 []) m_bs103
  have t_bs104 := xG.ty (g118 []) m_bs104 t_bs104
  have m_bs104 := xG.m (g118 []) m_bs104
  have u_3 := u_x u_3 (g118 []) (by decide)
  have u_15 := u_x u_15 (g118 []) (by decide)
  have u_16 := u_x u_16 (g118 []) (by decide)
  refine lv_dup hx hb dX9_init_102 rfl ?_
  refine lv_aload_n hx hb dX9_init_103 rfl (lv_at hl 0 rfl) ?_
  obtain ⟨fs120, hfs120, -, hqs120⟩ := id hQ_q
  obtain ⟨_, hvs120, bs120, rfl, m_bs120, t_bs120⟩ := hqs120 1 _ rfl (by decide)
  refine g_get C hH m_q hfs120 iX9 rfl 1 (by decide) wd414 rfl hvs120 dX9_init_104 ?_
  refine lv_aload_n hx hb dX9_init_107 rfl (lv_at hl 0 rfl) ?_
  obtain ⟨fs121, hfs121, -, hqs121⟩ := id hQ_q
  obtain ⟨_, hvs121, bs121, rfl, m_bs121, t_bs121⟩ := hqs121 5 _ rfl (by decide)
  refine g_get C hH m_q hfs121 iX9 rfl 5 (by decide) wd425 rfl hvs121 dX9_init_108 ?_
  refine g_Iv C hl.1 hA hH (As := [.ref bs120, .ref bs121]) (rest := [.ref q113, .ref q]) (kt_Clues l E L115 τ116 f117 _ m_q113 t_q113 e_q113 m_bs120 t_bs120 m_bs121 t_bs121 hT) my_X0_init wd1212 rfl rfl (Nat.le_of_ble_eq_true rfl) ⟨Nat.le_of_ble_eq_true rfl, Nat.le_of_ble_eq_true rfl⟩ ⟨Nat.le_of_ble_eq_true rfl, Nat.le_of_ble_eq_true rfl⟩ dX9_init_111 (fun L122 f123 H locs hp hH => ?_)
  obtain ⟨τ124, hT, g125⟩ := hp
  have hQ_q := hQ_q.x g125 m_q (nm_c (ty_ne t_q t_q113 rfl) nm_0)
  have hQ_q58 := hQ_q58.x g125 m_q58 (nm_c (ty_ne t_q58 t_q113 rfl) nm_0)
  have e_q69 := (xG.k g125 m_q69 (nm_c (ty_ne t_q69 t_q113 rfl) nm_0)).trans e_q69
  have t_q := xG.ty g125 m_q t_q
  have m_q := xG.m g125 m_q
  have t_bs38 := xG.ty g125 m_bs38 t_bs38
  have m_bs38 := xG.m g125 m_bs38
  have t_q39 := xG.ty g125 m_q39 t_q39
  have m_q39 := xG.m g125 m_q39
  have t_q58 := xG.ty g125 m_q58 t_q58
  have m_q58 := xG.m g125 m_q58
  have t_q69 := xG.ty g125 m_q69 t_q69
  have m_q69 := xG.m g125 m_q69
  have t_bs87 := xG.ty g125 m_bs87 t_bs87
  have m_bs87 := xG.m g125 m_bs87
  have t_bs103 := xG.ty g125 m_bs103 t_bs103
  have m_bs103 := xG.m g125 m_bs103
  have t_bs104 := xG.ty g125 m_bs104 t_bs104
  have m_bs104 := xG.m g125 m_bs104
  have t_q113 := xG.ty g125 m_q113 t_q113
  have m_q113 := xG.m g125 m_q113
  have t_bs120 := xG.ty g125 m_bs120 t_bs120
  have m_bs120 := xG.m g125 m_bs120
  have t_bs121 := xG.ty g125 m_bs121 t_bs121
  have m_bs121 := xG.m g125 m_bs121
  have u_3 := u_x u_3 g125 (by decide)
  have u_15 := u_x u_15 g125 (by decide)
  have u_16 := u_x u_16 g125 (by decide)
  obtain ⟨fs126, hfs126, hls126, hqs126⟩ := hQ_q
  refine g_putF C hH m_q hfs126 iX9 tyX9 tyX9_ok nmX9 rfl 7 (by decide) wd478 rfl rfl hnm rfl rfl rfl (by rw [hls126]; decide) (fs' := fs126.set 7 (.ref q113)) rfl dX9_init_114 (fun H locs hH => ?_)
  obtain ⟨f127, hH, hT, g128, e129⟩ := x_put hH hT (List.mem_cons_of_mem _ (List.mem_cons_of_mem _ List.mem_cons_self))
  have hQ_q := tQ.put hls126 hqs126 e129 rfl (show tF _ _ (.inr (.inl 27)) _ from ⟨_, rfl, m_q113, t_q113⟩)
  have hQ_q58 := hQ_q58.x g128 m_q58 (nm_c (ty_ne t_q58 t_q rfl) nm_0)
  have e_q69 := (xG.k g128 m_q69 (nm_c (ty_ne t_q69 t_q rfl) nm_0)).trans e_q69
  refine lv_aload_n hx hb dX9_init_117 rfl (lv_at hl 0 rfl) ?_
  refine g_new C hH hA (ci := 2) iX2 tyX2 tyX2_ok wd1213 wd1214 wd172 rfl (fs := [.null, .null, .null, .null]) (dvX2) (Nat.le_of_ble_eq_true rfl) (Nat.le_of_ble_eq_true rfl) dX9_init_118 (fun q130 H n131 hH => ?_)
  obtain ⟨L132, τ133, f134, hH, hT, g135, m_q130, t_q130, e_q130, o136⟩ := x_new hH hT n131 30
  have hQ_q := hQ_q.x (g135 []) m_q nm_0
  have hQ_q58 := hQ_q58.x (g135 []) m_q58 nm_0
  have e_q69 := (xG.k (g135 []) m_q69 nm_0).trans e_q69
  have t_q := xG.ty (g135 []) m_q t_q
  have m_q := xG.m (g135 []) m_q
  have t_bs38 := xG.ty (g135 []) m_bs38 t_bs38
  have m_bs38 := xG.m (g135 []) m_bs38
  have t_q39 := xG.ty (g135 []) m_q39 t_q39
  have m_q39 := xG.m (g135 []) m_q39
  have t_q58 := xG.ty (g135 []) m_q58 t_q58
  have m_q58 := xG.m (g135 []) m_q58
  have t_q69 := xG.ty (g135 []) m_q69 t_q69
  have m_q69 := xG.m (g135 []) m_q69
  have t_bs87 := xG.ty (g135 []) m_bs87 t_bs87
  have m_bs87 := xG.m (g135 []) m_bs87
  have t_bs103 := xG.ty (g135 []) m_bs103 t_bs103
  have m_bs103 := xG.m (g135 []) m_bs103
  have t_bs104 := xG.ty (g135 []) m_bs104 t_bs104
  have m_bs104 := xG.m (g135 []) m_bs104
  have t_bs120 := xG.ty (g135 []) m_bs120 t_bs120
  have m_bs120 := xG.m (g135 []) m_bs120
  have t_bs121 := xG.ty (g135 []) m_bs121 t_bs121
  have m_bs121 := xG.m (g135 []) m_bs121
  have u_3 := u_x u_3 (g135 []) (by decide)
  have u_15 := u_x u_15 (g135 []) (by decide)
  have u_16 := u_x u_16 (g135 []) (by decide)
  refine lv_dup hx hb dX9_init_121 rfl ?_
  refine lv_aload_n hx hb dX9_init_122 rfl (lv_at hl 0 rfl) ?_
  obtain ⟨fs137, hfs137, -, hqs137⟩ := id hQ_q
  obtain ⟨_, hvs137, bs137, rfl, m_bs137, t_bs137⟩ := hqs137 1 _ rfl (by decide)
  refine g_get C hH m_q hfs137 iX9 rfl 1 (by decide) wd414 rfl hvs137 dX9_init_123 ?_
  refine lv_aload_n hx hb dX9_init_126 rfl (lv_at hl 0 rfl) ?_
  obtain ⟨fs138, hfs138, -, hqs138⟩ := id hQ_q
  obtain ⟨_, hvs138, bs138, rfl, m_bs138, t_bs138⟩ := hqs138 5 _ rfl (by decide)
  refine g_get C hH m_q hfs138 iX9 rfl 5 (by decide) wd425 rfl hvs138 dX9_init_127 ?_
  refine g_Iv C hl.1 hA hH (As := [.ref bs137, .ref bs138]) (rest := [.ref q130, .ref q]) (kt_Houses l E L132 τ133 f134 _ m_q130 t_q130 e_q130 m_bs137 t_bs137 m_bs138 t_bs138 hT) my_X2_init wd1217 rfl rfl (Nat.le_of_ble_eq_true rfl) ⟨Nat.le_of_ble_eq_true rfl, Nat.le_of_ble_eq_true rfl⟩ ⟨Nat.le_of_ble_eq_true rfl, Nat.le_of_ble_eq_true rfl⟩ dX9_init_130 (fun L139 f140 H locs hp hH => ?_)
  obtain ⟨τ141, hT, g142⟩ := hp
  have hQ_q := hQ_q.x g142 m_q (nm_c (ty_ne t_q t_q130 rfl) nm_0)
  have hQ_q58 := hQ_q58.x g142 m_q58 (nm_c (ty_ne t_q58 t_q130 rfl) nm_0)
  have e_q69 := (xG.k g142 m_q69 (nm_c (ty_ne t_q69 t_q130 rfl) nm_0)).trans e_q69
  have t_q := xG.ty g142 m_q t_q
  have m_q := xG.m g142 m_q
  have t_bs38 := xG.ty g142 m_bs38 t_bs38
  have m_bs38 := xG.m g142 m_bs38
  have t_q39 := xG.ty g142 m_q39 t_q39
  have m_q39 := xG.m g142 m_q39
  have t_q58 := xG.ty g142 m_q58 t_q58
  have m_q58 := xG.m g142 m_q58
  have t_q69 := xG.ty g142 m_q69 t_q69
  have m_q69 := xG.m g142 m_q69
  have t_bs87 := xG.ty g142 m_bs87 t_bs87
  have m_bs87 := xG.m g142 m_bs87
  have t_bs103 := xG.ty g142 m_bs103 t_bs103
  have m_bs103 := xG.m g142 m_bs103
  have t_bs104 := xG.ty g142 m_bs104 t_bs104
  have m_bs104 := xG.m g142 m_bs104
  have t_bs120 := xG.ty g142 m_bs120 t_bs120
  have m_bs120 := xG.m g142 m_bs120
  have t_bs121 := xG.ty g142 m_bs121 t_bs121
  have m_bs121 := xG.m g142 m_bs121
  have t_q130 := xG.ty g142 m_q130 t_q130
  have m_q130 := xG.m g142 m_q130
  have t_bs137 := xG.ty g142 m_bs137 t_bs137
  have m_bs137 := xG.m g142 m_bs137
  have t_bs138 := xG.ty g142 m_bs138 t_bs138
  have m_bs138 := xG.m g142 m_bs138
  have u_3 := u_x u_3 g142 (by decide)
  have u_15 := u_x u_15 g142 (by decide)
  have u_16 := u_x u_16 g142 (by decide)
  obtain ⟨fs143, hfs143, hls143, hqs143⟩ := hQ_q
  refine g_putF C hH m_q hfs143 iX9 tyX9 tyX9_ok nmX9 rfl 8 (by decide) wd607 rfl rfl hnm rfl rfl rfl (by rw [hls143]; decide) (fs' := fs143.set 8 (.ref q130)) rfl dX9_init_133 (fun H locs hH => ?_)
  obtain ⟨f144, hH, hT, g145, e146⟩ := x_put hH hT (List.mem_cons_of_mem _ (List.mem_cons_of_mem _ List.mem_cons_self))
  have hQ_q := tQ.put hls143 hqs143 e146 rfl (show tF _ _ (.inr (.inl 30)) _ from ⟨_, rfl, m_q130, t_q130⟩)
  have hQ_q58 := hQ_q58.x g145 m_q58 (nm_c (ty_ne t_q58 t_q rfl) nm_0)
  have e_q69 := (xG.k g145 m_q69 (nm_c (ty_ne t_q69 t_q rfl) nm_0)).trans e_q69
  refine lv_aload_n hx hb dX9_init_136 rfl (lv_at hl 0 rfl) ?_
  refine g_new C hH hA (ci := 1) iX1 tyX1 tyX1_ok wd1218 wd1219 wd138 rfl (fs := [.null, .null]) (dvX1) (Nat.le_of_ble_eq_true rfl) (Nat.le_of_ble_eq_true rfl) dX9_init_137 (fun q147 H n148 hH => ?_)
  obtain ⟨L149, τ150, f151, hH, hT, g152, m_q147, t_q147, e_q147, o153⟩ := x_new hH hT n148 33
  have hQ_q := hQ_q.x (g152 []) m_q nm_0
  have hQ_q58 := hQ_q58.x (g152 []) m_q58 nm_0
  have e_q69 := (xG.k (g152 []) m_q69 nm_0).trans e_q69
  have t_q := xG.ty (g152 []) m_q t_q
  have m_q := xG.m (g152 []) m_q
  have t_bs38 := xG.ty (g152 []) m_bs38 t_bs38
  have m_bs38 := xG.m (g152 []) m_bs38
  have t_q39 := xG.ty (g152 []) m_q39 t_q39
  have m_q39 := xG.m (g152 []) m_q39
  have t_q58 := xG.ty (g152 []) m_q58 t_q58
  have m_q58 := xG.m (g152 []) m_q58
  have t_q69 := xG.ty (g152 []) m_q69 t_q69
  have m_q69 := xG.m (g152 []) m_q69
  have t_bs87 := xG.ty (g152 []) m_bs87 t_bs87
  have m_bs87 := xG.m (g152 []) m_bs87
  have t_bs103 := xG.ty (g152 []) m_bs103 t_bs103
  have m_bs103 := xG.m (g152 []) m_bs103
  have t_bs104 := xG.ty (g152 []) m_bs104 t_bs104
  have m_bs104 := xG.m (g152 []) m_bs104
  have t_bs120 := xG.ty (g152 []) m_bs120 t_bs120
  have m_bs120 := xG.m (g152 []) m_bs120
  have t_bs121 := xG.ty (g152 []) m_bs121 t_bs121
  have m_bs121 := xG.m (g152 []) m_bs121
  have t_bs137 := xG.ty (g152 []) m_bs137 t_bs137
  have m_bs137 := xG.m (g152 []) m_bs137
  have t_bs138 := xG.ty (g152 []) m_bs138 t_bs138
  have m_bs138 := xG.m (g152 []) m_bs138
  have u_3 := u_x u_3 (g152 []) (by decide)
  have u_15 := u_x u_15 (g152 []) (by decide)
  have u_16 := u_x u_16 (g152 []) (by decide)
  refine lv_dup hx hb dX9_init_140 rfl ?_
  refine lv_aload_n hx hb dX9_init_141 rfl (lv_at hl 0 rfl) ?_
  obtain ⟨fs154, hfs154, -, hqs154⟩ := id hQ_q
  obtain ⟨_, hvs154, bs154, rfl, m_bs154, t_bs154⟩ := hqs154 1 _ rfl (by decide)
  refine g_get C hH m_q hfs154 iX9 rfl 1 (by decide) wd414 rfl hvs154 dX9_init_142 ?_
  refine lv_aload_n hx hb dX9_init_145 rfl (lv_at hl 0 rfl) ?_
  obtain ⟨fs155, hfs155, -, hqs155⟩ := id hQ_q
  obtain ⟨_, hvs155, bs155, rfl, m_bs155, t_bs155⟩ := hqs155 5 _ rfl (by decide)
  refine g_get C hH m_q hfs155 iX9 rfl 5 (by decide) wd425 rfl hvs155 dX9_init_146 ?_
  refine g_Iv C hl.1 hA hH (As := [.ref bs154, .ref bs155]) (rest := [.ref q147, .ref q]) (kt_Fog l E L149 τ150 f151 _ m_q147 t_q147 e_q147 m_bs154 t_bs154 m_bs155 t_bs155 hT) my_X1_init wd1222 rfl rfl (Nat.le_of_ble_eq_true rfl) ⟨Nat.le_of_ble_eq_true rfl, Nat.le_of_ble_eq_true rfl⟩ ⟨Nat.le_of_ble_eq_true rfl, Nat.le_of_ble_eq_true rfl⟩ dX9_init_149 (fun L156 f157 H locs hp hH => ?_)
  obtain ⟨τ158, hT, g159⟩ := hp
  have hQ_q := hQ_q.x g159 m_q (nm_c (ty_ne t_q t_q147 rfl) nm_0)
  have hQ_q58 := hQ_q58.x g159 m_q58 (nm_c (ty_ne t_q58 t_q147 rfl) nm_0)
  have e_q69 := (xG.k g159 m_q69 (nm_c (ty_ne t_q69 t_q147 rfl) nm_0)).trans e_q69
  have t_q := xG.ty g159 m_q t_q
  have m_q := xG.m g159 m_q
  have t_bs38 := xG.ty g159 m_bs38 t_bs38
  have m_bs38 := xG.m g159 m_bs38
  have t_q39 := xG.ty g159 m_q39 t_q39
  have m_q39 := xG.m g159 m_q39
  have t_q58 := xG.ty g159 m_q58 t_q58
  have m_q58 := xG.m g159 m_q58
  have t_q69 := xG.ty g159 m_q69 t_q69
  have m_q69 := xG.m g159 m_q69
  have t_bs87 := xG.ty g159 m_bs87 t_bs87
  have m_bs87 := xG.m g159 m_bs87
  have t_bs103 := xG.ty g159 m_bs103 t_bs103
  have m_bs103 := xG.m g159 m_bs103
  have t_bs104 := xG.ty g159 m_bs104 t_bs104
  have m_bs104 := xG.m g159 m_bs104
  have t_bs120 := xG.ty g159 m_bs120 t_bs120
  have m_bs120 := xG.m g159 m_bs120
  have t_bs121 := xG.ty g159 m_bs121 t_bs121
  have m_bs121 := xG.m g159 m_bs121
  have t_bs137 := xG.ty g159 m_bs137 t_bs137
  have m_bs137 := xG.m g159 m_bs137
  have t_bs138 := xG.ty g159 m_bs138 t_bs138
  have m_bs138 := xG.m g159 m_bs138
  have t_q147 := xG.ty g159 m_q147 t_q147
  have m_q147 := xG.m g159 m_q147
  have t_bs154 := xG.ty g159 m_bs154 t_bs154
  have m_bs154 := xG.m g159 m_bs154
  have t_bs155 := xG.ty g159 m_bs155 t_bs155
  have m_bs155 := xG.m g159 m_bs155
  have u_3 := u_x u_3 g159 (by decide)
  have u_15 := u_x u_15 g159 (by decide)
  have u_16 := u_x u_16 g159 (by decide)
  obtain ⟨fs160, hfs160, hls160, hqs160⟩ := hQ_q
  refine g_putF C hH m_q hfs160 iX9 tyX9 tyX9_ok nmX9 rfl 9 (by decide) wd640 rfl rfl hnm rfl rfl rfl (by rw [hls160]; decide) (fs' := fs160.set 9 (.ref q147)) rfl dX9_init_152 (fun H locs hH => ?_)
  obtain ⟨f161, hH, hT, g162, e163⟩ := x_put hH hT (List.mem_cons_of_mem _ (List.mem_cons_of_mem _ List.mem_cons_self))
  have hQ_q := tQ.put hls160 hqs160 e163 rfl (show tF _ _ (.inr (.inl 33)) _ from ⟨_, rfl, m_q147, t_q147⟩)
  have hQ_q58 := hQ_q58.x g162 m_q58 (nm_c (ty_ne t_q58 t_q rfl) nm_0)
  have e_q69 := (xG.k g162 m_q69 (nm_c (ty_ne t_q69 t_q rfl) nm_0)).trans e_q69
  refine lv_aload_n hx hb dX9_init_155 rfl (lv_at hl 0 rfl) ?_
  refine lv_iconst (v := (3 : Int32)) hx hb dX9_init_156 (by decide) ?_
  refine g_newa C hH hA 3 rfl (fun _ _ h => h) wd1223 rfl (N' := 3) (a0 := (3, (.inl (fun _ => 0)))) (avZ 3) (by decide) (by decide) (Nat.le_of_ble_eq_true rfl) (Nat.le_of_ble_eq_true rfl) (Nat.le_of_ble_eq_true rfl) dX9_init_157 (fun q164 H n165 hH => ?_)
  obtain ⟨L166, τ167, f168, hH, hT, g169, m_q164, t_q164, e_q164, o170⟩ := x_newa hH hT n165 34 td_34 (fun _ _ => ⟨_, rfl, trivial⟩)
  have hQ_q := hQ_q.x (g169 []) m_q nm_0
  have hQ_q58 := hQ_q58.x (g169 []) m_q58 nm_0
  have e_q69 := (xG.k (g169 []) m_q69 nm_0).trans e_q69
  have t_q := xG.ty (g169 []) m_q t_q
  have m_q := xG.m (g169 []) m_q
  have t_bs38 := xG.ty (g169 []) m_bs38 t_bs38
  have m_bs38 := xG.m (g169 []) m_bs38
  have t_q39 := xG.ty (g169 []) m_q39 t_q39
  have m_q39 := xG.m (g169 []) m_q39
  have t_q58 := xG.ty (g169 []) m_q58 t_q58
  have m_q58 := xG.m (g169 []) m_q58
  have t_q69 := xG.ty (g169 []) m_q69 t_q69
  have m_q69 := xG.m (g169 []) m_q69
  have t_bs87 := xG.ty (g169 []) m_bs87 t_bs87
  have m_bs87 := xG.m (g169 []) m_bs87
  have t_bs103 := xG.ty (g169 []) m_bs103 t_bs103
  have m_bs103 := xG.m (g169 []) m_bs103
  have t_bs104 := xG.ty (g169 []) m_bs104 t_bs104
  have m_bs104 := xG.m (g169 []) m_bs104
  have t_bs120 := xG.ty (g169 []) m_bs120 t_bs120
  have m_bs120 := xG.m (g169 []) m_bs120
  have t_bs121 := xG.ty (g169 []) m_bs121 t_bs121
  have m_bs121 := xG.m (g169 []) m_bs121
  have t_bs137 := xG.ty (g169 []) m_bs137 t_bs137
  have m_bs137 := xG.m (g169 []) m_bs137
  have t_bs138 := xG.ty (g169 []) m_bs138 t_bs138
  have m_bs138 := xG.m (g169 []) m_bs138
  have t_bs154 := xG.ty (g169 []) m_bs154 t_bs154
  have m_bs154 := xG.m (g169 []) m_bs154
  have t_bs155 := xG.ty (g169 []) m_bs155 t_bs155
  have m_bs155 := xG.m (g169 []) m_bs155
  have u_3 := u_x u_3 (g169 []) (by decide)
  have u_15 := u_x u_15 (g169 []) (by decide)
  have u_16 := u_x u_16 (g169 []) (by decide)
  obtain ⟨fs171, hfs171, hls171, hqs171⟩ := hQ_q
  refine g_putF C hH m_q hfs171 iX9 tyX9 tyX9_ok nmX9 rfl 10 (by decide) wd720 rfl rfl hnm rfl rfl rfl (by rw [hls171]; decide) (fs' := fs171.set 10 (.ref q164)) rfl dX9_init_159 (fun H locs hH => ?_)
  obtain ⟨f172, hH, hT, g173, e174⟩ := x_put hH hT (List.mem_cons_of_mem _ (List.mem_cons_of_mem _ List.mem_cons_self))
  have hQ_q := tQ.put hls171 hqs171 e174 rfl (show tF _ _ (.inr (.inl 34)) _ from ⟨_, rfl, m_q164, t_q164⟩)
  have hQ_q58 := hQ_q58.x g173 m_q58 (nm_c (ty_ne t_q58 t_q rfl) nm_0)
  have e_q69 := (xG.k g173 m_q69 (nm_c (ty_ne t_q69 t_q rfl) nm_0)).trans e_q69
  refine lv_iconst (v := (0 : Int32)) hx hb dX9_init_162 (by decide) ?_
  refine lv_istore_n (lv' := [(1, .int (0 : Int32)), (0, .ref q)]) hx hb dX9_init_163 rfl hl (by decide) rfl (fun ls hl => ?_)
  refine lv_iload_n hx hb dX9_init_164 rfl (lv_at hl 0 rfl) ?_
  refine lv_iconst (v := (3 : Int32)) hx hb dX9_init_165 (by decide) ?_
  refine lv_icmp_ge (tgt := 188) hx hb dX9_init_166 (by decide) (fun h => absurd h (by decide)) (fun _ => ?_)
  refine lv_aload_n hx hb dX9_init_169 rfl (lv_at hl 1 rfl) ?_
  obtain ⟨fs175, hfs175, -, hqs175⟩ := id hQ_q
  obtain ⟨_, hvs175, bs175, rfl, m_bs175, t_bs175⟩ := hqs175 3 _ rfl (by decide)
  rw [u_15 _ m_bs175 t_bs175] at hvs175
  refine g_get C hH m_q hfs175 iX9 rfl 3 (by decide) wd719 rfl hvs175 dX9_init_170 ?_
  refine lv_iload_n hx hb dX9_init_173 rfl (lv_at hl 0 rfl) ?_
  refine g_new C hH hA (ci := 3) iX3 tyX3 tyX3_ok wd1188 wd1189 wd19 rfl (fs := [.int (0 : Int32), .int (0 : Int32), .int (0 : Int32), .int (0 : Int32), .int (0 : Int32), .int (0 : Int32), .int (0 : Int32), .int (0 : Int32), .int (0 : Int32), .int (0 : Int32), .null, .null, .null, .null, .null, .null, .null, .null, .null, .null]) (dvX3) (Nat.le_of_ble_eq_true rfl) (Nat.le_of_ble_eq_true rfl) dX9_init_174 (fun q176 H n177 hH => ?_)
  obtain ⟨L178, τ179, f180, hH, hT, g181, m_q176, t_q176, e_q176, o182⟩ := x_new hH hT n177 35
  have hQ_q := hQ_q.x (g181 []) m_q nm_0
  have hQ_q58 := hQ_q58.x (g181 []) m_q58 nm_0
  have e_q69 := (xG.k (g181 []) m_q69 nm_0).trans e_q69
  have t_q := xG.ty (g181 []) m_q t_q
  have m_q := xG.m (g181 []) m_q
  have t_bs38 := xG.ty (g181 []) m_bs38 t_bs38
  have m_bs38 := xG.m (g181 []) m_bs38
  have t_q39 := xG.ty (g181 []) m_q39 t_q39
  have m_q39 := xG.m (g181 []) m_q39
  have t_q58 := xG.ty (g181 []) m_q58 t_q58
  have m_q58 := xG.m (g181 []) m_q58
  have t_q69 := xG.ty (g181 []) m_q69 t_q69
  have m_q69 := xG.m (g181 []) m_q69
  have t_bs87 := xG.ty (g181 []) m_bs87 t_bs87
  have m_bs87 := xG.m (g181 []) m_bs87
  have t_bs103 := xG.ty (g181 []) m_bs103 t_bs103
  have m_bs103 := xG.m (g181 []) m_bs103
  have t_bs104 := xG.ty (g181 []) m_bs104 t_bs104
  have m_bs104 := xG.m (g181 []) m_bs104
  have t_bs120 := xG.ty (g181 []) m_bs120 t_bs120
  have m_bs120 := xG.m (g181 []) m_bs120
  have t_bs121 := xG.ty (g181 []) m_bs121 t_bs121
  have m_bs121 := xG.m (g181 []) m_bs121
  have t_bs137 := xG.ty (g181 []) m_bs137 t_bs137
  have m_bs137 := xG.m (g181 []) m_bs137
  have t_bs138 := xG.ty (g181 []) m_bs138 t_bs138
  have m_bs138 := xG.m (g181 []) m_bs138
  have t_bs154 := xG.ty (g181 []) m_bs154 t_bs154
  have m_bs154 := xG.m (g181 []) m_bs154
  have t_bs155 := xG.ty (g181 []) m_bs155 t_bs155
  have m_bs155 := xG.m (g181 []) m_bs155
  have u_3 := u_x u_3 (g181 []) (by decide)
  have u_15 := u_x u_15 (g181 []) (by decide)
  have u_16 := u_x u_16 (g181 []) (by decide)
  refine lv_dup hx hb dX9_init_177 rfl ?_
  refine g_INv C hl.1 hA hH (As := []) (rest := [.ref q176, .int (0 : Int32), .ref q58]) (kt_Land l E L178 τ179 f180 _ 35 td_35 m_q176 t_q176 e_q176 hT) my_X3_init (host := "GooseShares") (List.mem_of_getElem? (i := 1) rfl) rfl rfl (Nat.le_of_ble_eq_true rfl) ⟨Nat.le_of_ble_eq_true rfl, Nat.le_of_ble_eq_true rfl⟩ ⟨Nat.le_of_ble_eq_true rfl, Nat.le_of_ble_eq_true rfl⟩ dX9_init_178 (fun L183 f184 H locs hp hH => ?_)
  obtain ⟨τ185, hT, g186⟩ := hp
  have hQ_q := hQ_q.x g186 m_q (nm_c (ty_ne t_q t_q176 rfl) nm_0)
  have hQ_q58 := hQ_q58.x g186 m_q58 (nm_c (ty_ne t_q58 t_q176 rfl) nm_0)
  have e_q69 := (xG.k g186 m_q69 (nm_c (ty_ne t_q69 t_q176 rfl) nm_0)).trans e_q69
  have t_q := xG.ty g186 m_q t_q
  have m_q := xG.m g186 m_q
  have t_bs38 := xG.ty g186 m_bs38 t_bs38
  have m_bs38 := xG.m g186 m_bs38
  have t_q39 := xG.ty g186 m_q39 t_q39
  have m_q39 := xG.m g186 m_q39
  have t_q58 := xG.ty g186 m_q58 t_q58
  have m_q58 := xG.m g186 m_q58
  have t_q69 := xG.ty g186 m_q69 t_q69
  have m_q69 := xG.m g186 m_q69
  have t_bs87 := xG.ty g186 m_bs87 t_bs87
  have m_bs87 := xG.m g186 m_bs87
  have t_bs103 := xG.ty g186 m_bs103 t_bs103
  have m_bs103 := xG.m g186 m_bs103
  have t_bs104 := xG.ty g186 m_bs104 t_bs104
  have m_bs104 := xG.m g186 m_bs104
  have t_bs120 := xG.ty g186 m_bs120 t_bs120
  have m_bs120 := xG.m g186 m_bs120
  have t_bs121 := xG.ty g186 m_bs121 t_bs121
  have m_bs121 := xG.m g186 m_bs121
  have t_bs137 := xG.ty g186 m_bs137 t_bs137
  have m_bs137 := xG.m g186 m_bs137
  have t_bs138 := xG.ty g186 m_bs138 t_bs138
  have m_bs138 := xG.m g186 m_bs138
  have t_bs154 := xG.ty g186 m_bs154 t_bs154
  have m_bs154 := xG.m g186 m_bs154
  have t_bs155 := xG.ty g186 m_bs155 t_bs155
  have m_bs155 := xG.m g186 m_bs155
  have t_q176 := xG.ty g186 m_q176 t_q176
  have m_q176 := xG.m g186 m_q176
  have u_3 := u_x u_3 g186 (by decide)
  have u_15 := u_x u_15 g186 (by decide)
  have u_16 := u_x u_16 g186 (by decide)
  obtain ⟨vs187, hvs187, hqs187⟩ := hQ_q58
  obtain ⟨ws187, hws187⟩ := hT.obj m_q176 t_q176 (nm_c (ty_ne t_q176 t_q69 rfl) (nm_c (ty_ne t_q176 t_q58 rfl) (nm_c (ty_ne t_q176 t_q rfl) nm_0))) td_35
  refine g_aast C hH m_q58 4 rfl hvs187 m_q176 hws187 rfl (vp_inL (by decide)) dX9_init_181 (fun H locs hH => ?_)
  obtain ⟨f188, hH, hT, g189, e190⟩ := x_put hH hT (List.mem_cons_of_mem _ List.mem_cons_self)
  have hQ_q58 := tQA.put hqs187 e190 (by decide) m_q176 t_q176
  have hQ_q := hQ_q.x g189 m_q (nm_c (ty_ne t_q t_q58 rfl) nm_0)
  have e_q69 := (xG.k g189 m_q69 (nm_c (ty_ne t_q69 t_q58 rfl) nm_0)).trans e_q69
  refine lv_iinc (v := (1 : Int32)) (lv' := [(1, .int (1 : Int32)), (0, .ref q)]) hx hb dX9_init_182 hl (k := 0) rfl (by decide) (by decide) rfl (fun ls hl => ?_)
  refine lv_goto (tgt := 164) hx hb dX9_init_185 (by decide) ?_
  refine lv_iload_n hx hb dX9_init_164 rfl (lv_at hl 0 rfl) ?_
  refine lv_iconst (v := (3 : Int32)) hx hb dX9_init_165 (by decide) ?_
  refine lv_icmp_ge (tgt := 188) hx hb dX9_init_166 (by decide) (fun h => absurd h (by decide)) (fun _ => ?_)
  refine lv_aload_n hx hb dX9_init_169 rfl (lv_at hl 1 rfl) ?_
  obtain ⟨fs191, hfs191, -, hqs191⟩ := id hQ_q
  obtain ⟨_, hvs191, bs191, rfl, m_bs191, t_bs191⟩ := hqs191 3 _ rfl (by decide)
  rw [u_15 _ m_bs191 t_bs191] at hvs191
  refine g_get C hH m_q hfs191 iX9 rfl 3 (by decide) wd719 rfl hvs191 dX9_init_170 ?_
  refine lv_iload_n hx hb dX9_init_173 rfl (lv_at hl 0 rfl) ?_
  refine g_new C hH hA (ci := 3) iX3 tyX3 tyX3_ok wd1188 wd1189 wd19 rfl (fs := [.int (0 : Int32), .int (0 : Int32), .int (0 : Int32), .int (0 : Int32), .int (0 : Int32), .int (0 : Int32), .int (0 : Int32), .int (0 : Int32), .int (0 : Int32), .int (0 : Int32), .null, .null, .null, .null, .null, .null, .null, .null, .null, .null]) (dvX3) (Nat.le_of_ble_eq_true rfl) (Nat.le_of_ble_eq_true rfl) dX9_init_174 (fun q192 H n193 hH => ?_)
  obtain ⟨L194, τ195, f196, hH, hT, g197, m_q192, t_q192, e_q192, o198⟩ := x_new hH hT n193 35
  have hQ_q := hQ_q.x (g197 []) m_q nm_0
  have hQ_q58 := hQ_q58.x (g197 []) m_q58 nm_0
  have e_q69 := (xG.k (g197 []) m_q69 nm_0).trans e_q69
  have t_q := xG.ty (g197 []) m_q t_q
  have m_q := xG.m (g197 []) m_q
  have t_bs38 := xG.ty (g197 []) m_bs38 t_bs38
  have m_bs38 := xG.m (g197 []) m_bs38
  have t_q39 := xG.ty (g197 []) m_q39 t_q39
  have m_q39 := xG.m (g197 []) m_q39
  have t_q58 := xG.ty (g197 []) m_q58 t_q58
  have m_q58 := xG.m (g197 []) m_q58
  have t_q69 := xG.ty (g197 []) m_q69 t_q69
  have m_q69 := xG.m (g197 []) m_q69
  have t_bs87 := xG.ty (g197 []) m_bs87 t_bs87
  have m_bs87 := xG.m (g197 []) m_bs87
  have t_bs103 := xG.ty (g197 []) m_bs103 t_bs103
  have m_bs103 := xG.m (g197 []) m_bs103
  have t_bs104 := xG.ty (g197 []) m_bs104 t_bs104
  have m_bs104 := xG.m (g197 []) m_bs104
  have t_bs120 := xG.ty (g197 []) m_bs120 t_bs120
  have m_bs120 := xG.m (g197 []) m_bs120
  have t_bs121 := xG.ty (g197 []) m_bs121 t_bs121
  have m_bs121 := xG.m (g197 []) m_bs121
  have t_bs137 := xG.ty (g197 []) m_bs137 t_bs137
  have m_bs137 := xG.m (g197 []) m_bs137
  have t_bs138 := xG.ty (g197 []) m_bs138 t_bs138
  have m_bs138 := xG.m (g197 []) m_bs138
  have t_bs154 := xG.ty (g197 []) m_bs154 t_bs154
  have m_bs154 := xG.m (g197 []) m_bs154
  have t_bs155 := xG.ty (g197 []) m_bs155 t_bs155
  have m_bs155 := xG.m (g197 []) m_bs155
  have u_3 := u_x u_3 (g197 []) (by decide)
  have u_15 := u_x u_15 (g197 []) (by decide)
  have u_16 := u_x u_16 (g197 []) (by decide)
  refine lv_dup hx hb dX9_init_177 rfl ?_
  refine g_INv C hl.1 hA hH (As := []) (rest := [.ref q192, .int (1 : Int32), .ref q58]) (kt_Land l E L194 τ195 f196 _ 35 td_35 m_q192 t_q192 e_q192 hT) my_X3_init (host := "GooseShares") (List.mem_of_getElem? (i := 1) rfl) rfl rfl (Nat.le_of_ble_eq_true rfl) ⟨Nat.le_of_ble_eq_true rfl, Nat.le_of_ble_eq_true rfl⟩ ⟨Nat.le_of_ble_eq_true rfl, Nat.le_of_ble_eq_true rfl⟩ dX9_init_178 (fun L199 f200 H locs hp hH => ?_)
  obtain ⟨τ201, hT, g202⟩ := hp
  have hQ_q := hQ_q.x g202 m_q (nm_c (ty_ne t_q t_q192 rfl) nm_0)
  have hQ_q58 := hQ_q58.x g202 m_q58 (nm_c (ty_ne t_q58 t_q192 rfl) nm_0)
  have e_q69 := (xG.k g202 m_q69 (nm_c (ty_ne t_q69 t_q192 rfl) nm_0)).trans e_q69
  have t_q := xG.ty g202 m_q t_q
  have m_q := xG.m g202 m_q
  have t_bs38 := xG.ty g202 m_bs38 t_bs38
  have m_bs38 := xG.m g202 m_bs38
  have t_q39 := xG.ty g202 m_q39 t_q39
  have m_q39 := xG.m g202 m_q39
  have t_q58 := xG.ty g202 m_q58 t_q58
  have m_q58 := xG.m g202 m_q58
  have t_q69 := xG.ty g202 m_q69 t_q69
  have m_q69 := xG.m g202 m_q69
  have t_bs87 := xG.ty g202 m_bs87 t_bs87
  have m_bs87 := xG.m g202 m_bs87
  have t_bs103 := xG.ty g202 m_bs103 t_bs103
  have m_bs103 := xG.m g202 m_bs103
  have t_bs104 := xG.ty g202 m_bs104 t_bs104
  have m_bs104 := xG.m g202 m_bs104
  have t_bs120 := xG.ty g202 m_bs120 t_bs120
  have m_bs120 := xG.m g202 m_bs120
  have t_bs121 := xG.ty g202 m_bs121 t_bs121
  have m_bs121 := xG.m g202 m_bs121
  have t_bs137 := xG.ty g202 m_bs137 t_bs137
  have m_bs137 := xG.m g202 m_bs137
  have t_bs138 := xG.ty g202 m_bs138 t_bs138
  have m_bs138 := xG.m g202 m_bs138
  have t_bs154 := xG.ty g202 m_bs154 t_bs154
  have m_bs154 := xG.m g202 m_bs154
  have t_bs155 := xG.ty g202 m_bs155 t_bs155
  have m_bs155 := xG.m g202 m_bs155
  have t_q192 := xG.ty g202 m_q192 t_q192
  have m_q192 := xG.m g202 m_q192
  have u_3 := u_x u_3 g202 (by decide)
  have u_15 := u_x u_15 g202 (by decide)
  have u_16 := u_x u_16 g202 (by decide)
  obtain ⟨vs203, hvs203, hqs203⟩ := hQ_q58
  obtain ⟨ws203, hws203⟩ := hT.obj m_q192 t_q192 (nm_c (ty_ne t_q192 t_q69 rfl) (nm_c (ty_ne t_q192 t_q58 rfl) (nm_c (ty_ne t_q192 t_q rfl) nm_0))) td_35
  refine g_aast C hH m_q58 4 rfl hvs203 m_q192 hws203 rfl (vp_inL (by decide)) dX9_init_181 (fun H locs hH => ?_)
  obtain ⟨f204, hH, hT, g205, e206⟩ := x_put hH hT (List.mem_cons_of_mem _ List.mem_cons_self)
  have hQ_q58 := tQA.put hqs203 e206 (by decide) m_q192 t_q192
  have hQ_q := hQ_q.x g205 m_q (nm_c (ty_ne t_q t_q58 rfl) nm_0)
  have e_q69 := (xG.k g205 m_q69 (nm_c (ty_ne t_q69 t_q58 rfl) nm_0)).trans e_q69
  refine lv_iinc (v := (2 : Int32)) (lv' := [(1, .int (2 : Int32)), (0, .ref q)]) hx hb dX9_init_182 hl (k := 0) rfl (by decide) (by decide) rfl (fun ls hl => ?_)
  refine lv_goto (tgt := 164) hx hb dX9_init_185 (by decide) ?_
  refine lv_iload_n hx hb dX9_init_164 rfl (lv_at hl 0 rfl) ?_
  refine lv_iconst (v := (3 : Int32)) hx hb dX9_init_165 (by decide) ?_
  refine lv_icmp_ge (tgt := 188) hx hb dX9_init_166 (by decide) (fun h => absurd h (by decide)) (fun _ => ?_)
  refine lv_aload_n hx hb dX9_init_169 rfl (lv_at hl 1 rfl) ?_
  obtain ⟨fs207, hfs207, -, hqs207⟩ := id hQ_q
  obtain ⟨_, hvs207, bs207, rfl, m_bs207, t_bs207⟩ := hqs207 3 _ rfl (by decide)
  rw [u_15 _ m_bs207 t_bs207] at hvs207
  refine g_get C hH m_q hfs207 iX9 rfl 3 (by decide) wd719 rfl hvs207 dX9_init_170 ?_
  refine lv_iload_n hx hb dX9_init_173 rfl (lv_at hl 0 rfl) ?_
  refine g_new C hH hA (ci := 3) iX3 tyX3 tyX3_ok wd1188 wd1189 wd19 rfl (fs := [.int (0 : Int32), .int (0 : Int32), .int (0 : Int32), .int (0 : Int32), .int (0 : Int32), .int (0 : Int32), .int (0 : Int32), .int (0 : Int32), .int (0 : Int32), .int (0 : Int32), .null, .null, .null, .null, .null, .null, .null, .null, .null, .null]) (dvX3) (Nat.le_of_ble_eq_true rfl) (Nat.le_of_ble_eq_true rfl) dX9_init_174 (fun q208 H n209 hH => ?_)
  obtain ⟨L210, τ211, f212, hH, hT, g213, m_q208, t_q208, e_q208, o214⟩ := x_new hH hT n209 35
  have hQ_q := hQ_q.x (g213 []) m_q nm_0
  have hQ_q58 := hQ_q58.x (g213 []) m_q58 nm_0
  have e_q69 := (xG.k (g213 []) m_q69 nm_0).trans e_q69
  have t_q := xG.ty (g213 []) m_q t_q
  have m_q := xG.m (g213 []) m_q
  have t_bs38 := xG.ty (g213 []) m_bs38 t_bs38
  have m_bs38 := xG.m (g213 []) m_bs38
  have t_q39 := xG.ty (g213 []) m_q39 t_q39
  have m_q39 := xG.m (g213 []) m_q39
  have t_q58 := xG.ty (g213 []) m_q58 t_q58
  have m_q58 := xG.m (g213 []) m_q58
  have t_q69 := xG.ty (g213 []) m_q69 t_q69
  have m_q69 := xG.m (g213 []) m_q69
  have t_bs87 := xG.ty (g213 []) m_bs87 t_bs87
  have m_bs87 := xG.m (g213 []) m_bs87
  have t_bs103 := xG.ty (g213 []) m_bs103 t_bs103
  have m_bs103 := xG.m (g213 []) m_bs103
  have t_bs104 := xG.ty (g213 []) m_bs104 t_bs104
  have m_bs104 := xG.m (g213 []) m_bs104
  have t_bs120 := xG.ty (g213 []) m_bs120 t_bs120
  have m_bs120 := xG.m (g213 []) m_bs120
  have t_bs121 := xG.ty (g213 []) m_bs121 t_bs121
  have m_bs121 := xG.m (g213 []) m_bs121
  have t_bs137 := xG.ty (g213 []) m_bs137 t_bs137
  have m_bs137 := xG.m (g213 []) m_bs137
  have t_bs138 := xG.ty (g213 []) m_bs138 t_bs138
  have m_bs138 := xG.m (g213 []) m_bs138
  have t_bs154 := xG.ty (g213 []) m_bs154 t_bs154
  have m_bs154 := xG.m (g213 []) m_bs154
  have t_bs155 := xG.ty (g213 []) m_bs155 t_bs155
  have m_bs155 := xG.m (g213 []) m_bs155
  have u_3 := u_x u_3 (g213 []) (by decide)
  have u_15 := u_x u_15 (g213 []) (by decide)
  have u_16 := u_x u_16 (g213 []) (by decide)
  refine lv_dup hx hb dX9_init_177 rfl ?_
  refine g_INv C hl.1 hA hH (As := []) (rest := [.ref q208, .int (2 : Int32), .ref q58]) (kt_Land l E L210 τ211 f212 _ 35 td_35 m_q208 t_q208 e_q208 hT) my_X3_init (host := "GooseShares") (List.mem_of_getElem? (i := 1) rfl) rfl rfl (Nat.le_of_ble_eq_true rfl) ⟨Nat.le_of_ble_eq_true rfl, Nat.le_of_ble_eq_true rfl⟩ ⟨Nat.le_of_ble_eq_true rfl, Nat.le_of_ble_eq_true rfl⟩ dX9_init_178 (fun L215 f216 H locs hp hH => ?_)
  obtain ⟨τ217, hT, g218⟩ := hp
  have hQ_q := hQ_q.x g218 m_q (nm_c (ty_ne t_q t_q208 rfl) nm_0)
  have hQ_q58 := hQ_q58.x g218 m_q58 (nm_c (ty_ne t_q58 t_q208 rfl) nm_0)
  have e_q69 := (xG.k g218 m_q69 (nm_c (ty_ne t_q69 t_q208 rfl) nm_0)).trans e_q69
  have t_q := xG.ty g218 m_q t_q
  have m_q := xG.m g218 m_q
  have t_bs38 := xG.ty g218 m_bs38 t_bs38
  have m_bs38 := xG.m g218 m_bs38
  have t_q39 := xG.ty g218 m_q39 t_q39
  have m_q39 := xG.m g218 m_q39
  have t_q58 := xG.ty g218 m_q58 t_q58
  have m_q58 := xG.m g218 m_q58
  have t_q69 := xG.ty g218 m_q69 t_q69
  have m_q69 := xG.m g218 m_q69
  have t_bs87 := xG.ty g218 m_bs87 t_bs87
  have m_bs87 := xG.m g218 m_bs87
  have t_bs103 := xG.ty g218 m_bs103 t_bs103
  have m_bs103 := xG.m g218 m_bs103
  have t_bs104 := xG.ty g218 m_bs104 t_bs104
  have m_bs104 := xG.m g218 m_bs104
  have t_bs120 := xG.ty g218 m_bs120 t_bs120
  have m_bs120 := xG.m g218 m_bs120
  have t_bs121 := xG.ty g218 m_bs121 t_bs121
  have m_bs121 := xG.m g218 m_bs121
  have t_bs137 := xG.ty g218 m_bs137 t_bs137
  have m_bs137 := xG.m g218 m_bs137
  have t_bs138 := xG.ty g218 m_bs138 t_bs138
  have m_bs138 := xG.m g218 m_bs138
  have t_bs154 := xG.ty g218 m_bs154 t_bs154
  have m_bs154 := xG.m g218 m_bs154
  have t_bs155 := xG.ty g218 m_bs155 t_bs155
  have m_bs155 := xG.m g218 m_bs155
  have t_q208 := xG.ty g218 m_q208 t_q208
  have m_q208 := xG.m g218 m_q208
  have u_3 := u_x u_3 g218 (by decide)
  have u_15 := u_x u_15 g218 (by decide)
  have u_16 := u_x u_16 g218 (by decide)
  obtain ⟨vs219, hvs219, hqs219⟩ := hQ_q58
  obtain ⟨ws219, hws219⟩ := hT.obj m_q208 t_q208 (nm_c (ty_ne t_q208 t_q69 rfl) (nm_c (ty_ne t_q208 t_q58 rfl) (nm_c (ty_ne t_q208 t_q rfl) nm_0))) td_35
  refine g_aast C hH m_q58 4 rfl hvs219 m_q208 hws219 rfl (vp_inL (by decide)) dX9_init_181 (fun H locs hH => ?_)
  obtain ⟨f220, hH, hT, g221, e222⟩ := x_put hH hT (List.mem_cons_of_mem _ List.mem_cons_self)
  have hQ_q58 := tQA.put hqs219 e222 (by decide) m_q208 t_q208
  have hQ_q := hQ_q.x g221 m_q (nm_c (ty_ne t_q t_q58 rfl) nm_0)
  have e_q69 := (xG.k g221 m_q69 (nm_c (ty_ne t_q69 t_q58 rfl) nm_0)).trans e_q69
  refine lv_iinc (v := (3 : Int32)) (lv' := [(1, .int (3 : Int32)), (0, .ref q)]) hx hb dX9_init_182 hl (k := 0) rfl (by decide) (by decide) rfl (fun ls hl => ?_)
  refine lv_goto (tgt := 164) hx hb dX9_init_185 (by decide) ?_
  refine lv_iload_n hx hb dX9_init_164 rfl (lv_at hl 0 rfl) ?_
  refine lv_iconst (v := (3 : Int32)) hx hb dX9_init_165 (by decide) ?_
  refine lv_icmp_ge (tgt := 188) hx hb dX9_init_166 (by decide) (fun _ => ?_) (fun h => absurd (by decide) h)
  refine lv_iconst (v := (0 : Int32)) hx hb dX9_init_188 (by decide) ?_
  refine lv_istore_n (lv' := [(1, .int (0 : Int32)), (0, .ref q)]) hx hb dX9_init_189 rfl hl (by decide) rfl (fun ls hl => ?_)
  refine lv_iload_n hx hb dX9_init_190 rfl (lv_at hl 0 rfl) ?_
  refine lv_iconst (v := (4 : Int32)) hx hb dX9_init_191 (by decide) ?_
  refine lv_icmp_ge (tgt := 214) hx hb dX9_init_192 (by decide) (fun h => absurd h (by decide)) (fun _ => ?_)
  refine lv_aload_n hx hb dX9_init_195 rfl (lv_at hl 1 rfl) ?_
  obtain ⟨fs223, hfs223, -, hqs223⟩ := id hQ_q
  obtain ⟨_, hvs223, bs223, rfl, m_bs223, t_bs223⟩ := hqs223 4 _ rfl (by decide)
  rw [u_16 _ m_bs223 t_bs223] at hvs223
  refine g_get C hH m_q hfs223 iX9 rfl 4 (by decide) wd419 rfl hvs223 dX9_init_196 ?_
  refine lv_iload_n hx hb dX9_init_199 rfl (lv_at hl 0 rfl) ?_
  refine g_new C hH hA (ci := 6) iX6 tyX6 tyX6_ok wd1197 wd1224 wd422 rfl (fs := [.null, .int (0 : Int32), .int (0 : Int32)]) (dvX6) (Nat.le_of_ble_eq_true rfl) (Nat.le_of_ble_eq_true rfl) dX9_init_200 (fun q224 H n225 hH => ?_)
  obtain ⟨L226, τ227, f228, hH, hT, g229, m_q224, t_q224, e_q224, o230⟩ := x_new hH hT n225 17
  have hQ_q := hQ_q.x (g229 []) m_q nm_0
  have hQ_q58 := hQ_q58.x (g229 []) m_q58 nm_0
  have e_q69 := (xG.k (g229 []) m_q69 nm_0).trans e_q69
  have t_q := xG.ty (g229 []) m_q t_q
  have m_q := xG.m (g229 []) m_q
  have t_bs38 := xG.ty (g229 []) m_bs38 t_bs38
  have m_bs38 := xG.m (g229 []) m_bs38
  have t_q39 := xG.ty (g229 []) m_q39 t_q39
  have m_q39 := xG.m (g229 []) m_q39
  have t_q58 := xG.ty (g229 []) m_q58 t_q58
  have m_q58 := xG.m (g229 []) m_q58
  have t_q69 := xG.ty (g229 []) m_q69 t_q69
  have m_q69 := xG.m (g229 []) m_q69
  have t_bs87 := xG.ty (g229 []) m_bs87 t_bs87
  have m_bs87 := xG.m (g229 []) m_bs87
  have t_bs103 := xG.ty (g229 []) m_bs103 t_bs103
  have m_bs103 := xG.m (g229 []) m_bs103
  have t_bs104 := xG.ty (g229 []) m_bs104 t_bs104
  have m_bs104 := xG.m (g229 []) m_bs104
  have t_bs120 := xG.ty (g229 []) m_bs120 t_bs120
  have m_bs120 := xG.m (g229 []) m_bs120
  have t_bs121 := xG.ty (g229 []) m_bs121 t_bs121
  have m_bs121 := xG.m (g229 []) m_bs121
  have t_bs137 := xG.ty (g229 []) m_bs137 t_bs137
  have m_bs137 := xG.m (g229 []) m_bs137
  have t_bs138 := xG.ty (g229 []) m_bs138 t_bs138
  have m_bs138 := xG.m (g229 []) m_bs138
  have t_bs154 := xG.ty (g229 []) m_bs154 t_bs154
  have m_bs154 := xG.m (g229 []) m_bs154
  have t_bs155 := xG.ty (g229 []) m_bs155 t_bs155
  have m_bs155 := xG.m (g229 []) m_bs155
  have u_3 := u_x u_3 (g229 []) (by decide)
  have u_15 := u_x u_15 (g229 []) (by decide)
  have u_16 := u_x u_16 (g229 []) (by decide)
  refine lv_dup hx hb dX9_init_203 rfl ?_
  refine g_INv C hl.1 hA hH (As := []) (rest := [.ref q224, .int (0 : Int32), .ref q69]) (kt_Row l E L226 τ227 f228 _ m_q224 t_q224 e_q224 hT) my_X6_init (host := "GooseShares") (List.mem_of_getElem? (i := 2) rfl) rfl rfl (Nat.le_of_ble_eq_true rfl) ⟨Nat.le_of_ble_eq_true rfl, Nat.le_of_ble_eq_true rfl⟩ ⟨Nat.le_of_ble_eq_true rfl, Nat.le_of_ble_eq_true rfl⟩ dX9_init_204 (fun L231 f232 H locs hp hH => ?_)
  obtain ⟨τ233, hT, g234, w1_q224, w2_q224⟩ := hp
  have hQ_q := hQ_q.x g234 m_q (nm_c (ty_ne t_q t_q224 rfl) nm_0)
  have hQ_q58 := hQ_q58.x g234 m_q58 (nm_c (ty_ne t_q58 t_q224 rfl) nm_0)
  have e_q69 := (xG.k g234 m_q69 (nm_c (ty_ne t_q69 t_q224 rfl) nm_0)).trans e_q69
  have t_q := xG.ty g234 m_q t_q
  have m_q := xG.m g234 m_q
  have t_bs38 := xG.ty g234 m_bs38 t_bs38
  have m_bs38 := xG.m g234 m_bs38
  have t_q39 := xG.ty g234 m_q39 t_q39
  have m_q39 := xG.m g234 m_q39
  have t_q58 := xG.ty g234 m_q58 t_q58
  have m_q58 := xG.m g234 m_q58
  have t_q69 := xG.ty g234 m_q69 t_q69
  have m_q69 := xG.m g234 m_q69
  have t_bs87 := xG.ty g234 m_bs87 t_bs87
  have m_bs87 := xG.m g234 m_bs87
  have t_bs103 := xG.ty g234 m_bs103 t_bs103
  have m_bs103 := xG.m g234 m_bs103
  have t_bs104 := xG.ty g234 m_bs104 t_bs104
  have m_bs104 := xG.m g234 m_bs104
  have t_bs120 := xG.ty g234 m_bs120 t_bs120
  have m_bs120 := xG.m g234 m_bs120
  have t_bs121 := xG.ty g234 m_bs121 t_bs121
  have m_bs121 := xG.m g234 m_bs121
  have t_bs137 := xG.ty g234 m_bs137 t_bs137
  have m_bs137 := xG.m g234 m_bs137
  have t_bs138 := xG.ty g234 m_bs138 t_bs138
  have m_bs138 := xG.m g234 m_bs138
  have t_bs154 := xG.ty g234 m_bs154 t_bs154
  have m_bs154 := xG.m g234 m_bs154
  have t_bs155 := xG.ty g234 m_bs155 t_bs155
  have m_bs155 := xG.m g234 m_bs155
  have t_q224 := xG.ty g234 m_q224 t_q224
  have m_q224 := xG.m g234 m_q224
  have u_3 := u_x u_3 g234 (by decide)
  have u_15 := u_x u_15 g234 (by decide)
  have u_16 := u_x u_16 g234 (by decide)
  have hvs235 := e_q69
  obtain ⟨ws235, hws235⟩ := hT.obj m_q224 t_q224 (nm_c (ty_ne t_q224 t_q69 rfl) (nm_c (ty_ne t_q224 t_q58 rfl) (nm_c (ty_ne t_q224 t_q rfl) nm_0))) td_17
  refine g_aast C hH m_q69 5 rfl hvs235 m_q224 hws235 rfl (vp_inL (by decide)) dX9_init_207 (fun H locs hH => ?_)
  obtain ⟨f236, hH, hT, g237, e238⟩ := x_put hH hT List.mem_cons_self
  have hQ_q := hQ_q.x g237 m_q (nm_c (ty_ne t_q t_q69 rfl) nm_0)
  have hQ_q58 := hQ_q58.x g237 m_q58 (nm_c (ty_ne t_q58 t_q69 rfl) nm_0)
  have w1_q224 := fld.eq w1_q224 (xG.k g237 m_q224 (nm_c (ty_ne t_q224 t_q69 rfl) nm_0))
  have w2_q224 := fld.eq w2_q224 (xG.k g237 m_q224 (nm_c (ty_ne t_q224 t_q69 rfl) nm_0))
  have e_q69 := e238
  refine lv_iinc (v := (1 : Int32)) (lv' := [(1, .int (1 : Int32)), (0, .ref q)]) hx hb dX9_init_208 hl (k := 0) rfl (by decide) (by decide) rfl (fun ls hl => ?_)
  refine lv_goto (tgt := 190) hx hb dX9_init_211 (by decide) ?_
  refine lv_iload_n hx hb dX9_init_190 rfl (lv_at hl 0 rfl) ?_
  refine lv_iconst (v := (4 : Int32)) hx hb dX9_init_191 (by decide) ?_
  refine lv_icmp_ge (tgt := 214) hx hb dX9_init_192 (by decide) (fun h => absurd h (by decide)) (fun _ => ?_)
  refine lv_aload_n hx hb dX9_init_195 rfl (lv_at hl 1 rfl) ?_
  obtain ⟨fs239, hfs239, -, hqs239⟩ := id hQ_q
  obtain ⟨_, hvs239, bs239, rfl, m_bs239, t_bs239⟩ := hqs239 4 _ rfl (by decide)
  rw [u_16 _ m_bs239 t_bs239] at hvs239
  refine g_get C hH m_q hfs239 iX9 rfl 4 (by decide) wd419 rfl hvs239 dX9_init_196 ?_
  refine lv_iload_n hx hb dX9_init_199 rfl (lv_at hl 0 rfl) ?_
  refine g_new C hH hA (ci := 6) iX6 tyX6 tyX6_ok wd1197 wd1224 wd422 rfl (fs := [.null, .int (0 : Int32), .int (0 : Int32)]) (dvX6) (Nat.le_of_ble_eq_true rfl) (Nat.le_of_ble_eq_true rfl) dX9_init_200 (fun q240 H n241 hH => ?_)
  obtain ⟨L242, τ243, f244, hH, hT, g245, m_q240, t_q240, e_q240, o246⟩ := x_new hH hT n241 17
  have ne_q224_q240 : q224 ≠ q240 := g_neL m_q224 n241
  have hQ_q := hQ_q.x (g245 []) m_q nm_0
  have hQ_q58 := hQ_q58.x (g245 []) m_q58 nm_0
  have w1_q224 := fld.eq w1_q224 (xG.k (g245 []) m_q224 nm_0)
  have w2_q224 := fld.eq w2_q224 (xG.k (g245 []) m_q224 nm_0)
  have e_q69 := (xG.k (g245 []) m_q69 nm_0).trans e_q69
  have t_q := xG.ty (g245 []) m_q t_q
  have m_q := xG.m (g245 []) m_q
  have t_bs38 := xG.ty (g245 []) m_bs38 t_bs38
  have m_bs38 := xG.m (g245 []) m_bs38
  have t_q39 := xG.ty (g245 []) m_q39 t_q39
  have m_q39 := xG.m (g245 []) m_q39
  have t_q58 := xG.ty (g245 []) m_q58 t_q58
  have m_q58 := xG.m (g245 []) m_q58
  have t_q69 := xG.ty (g245 []) m_q69 t_q69
  have m_q69 := xG.m (g245 []) m_q69
  have t_bs87 := xG.ty (g245 []) m_bs87 t_bs87
  have m_bs87 := xG.m (g245 []) m_bs87
  have t_bs103 := xG.ty (g245 []) m_bs103 t_bs103
  have m_bs103 := xG.m (g245 []) m_bs103
  have t_bs104 := xG.ty (g245 []) m_bs104 t_bs104
  have m_bs104 := xG.m (g245 []) m_bs104
  have t_bs120 := xG.ty (g245 []) m_bs120 t_bs120
  have m_bs120 := xG.m (g245 []) m_bs120
  have t_bs121 := xG.ty (g245 []) m_bs121 t_bs121
  have m_bs121 := xG.m (g245 []) m_bs121
  have t_bs137 := xG.ty (g245 []) m_bs137 t_bs137
  have m_bs137 := xG.m (g245 []) m_bs137
  have t_bs138 := xG.ty (g245 []) m_bs138 t_bs138
  have m_bs138 := xG.m (g245 []) m_bs138
  have t_bs154 := xG.ty (g245 []) m_bs154 t_bs154
  have m_bs154 := xG.m (g245 []) m_bs154
  have t_bs155 := xG.ty (g245 []) m_bs155 t_bs155
  have m_bs155 := xG.m (g245 []) m_bs155
  have t_q224 := xG.ty (g245 []) m_q224 t_q224
  have m_q224 := xG.m (g245 []) m_q224
  have u_3 := u_x u_3 (g245 []) (by decide)
  have u_15 := u_x u_15 (g245 []) (by decide)
  have u_16 := u_x u_16 (g245 []) (by decide)
  refine lv_dup hx hb dX9_init_203 rfl ?_
  refine g_INv C hl.1 hA hH (As := []) (rest := [.ref q240, .int (1 : Int32), .ref q69]) (kt_Row l E L242 τ243 f244 _ m_q240 t_q240 e_q240 hT) my_X6_init (host := "GooseShares") (List.mem_of_getElem? (i := 2) rfl) rfl rfl (Nat.le_of_ble_eq_true rfl) ⟨Nat.le_of_ble_eq_true rfl, Nat.le_of_ble_eq_true rfl⟩ ⟨Nat.le_of_ble_eq_true rfl, Nat.le_of_ble_eq_true rfl⟩ dX9_init_204 (fun L247 f248 H locs hp hH => ?_)
  obtain ⟨τ249, hT, g250, w1_q240, w2_q240⟩ := hp
  have hQ_q := hQ_q.x g250 m_q (nm_c (ty_ne t_q t_q240 rfl) nm_0)
  have hQ_q58 := hQ_q58.x g250 m_q58 (nm_c (ty_ne t_q58 t_q240 rfl) nm_0)
  have w1_q224 := fld.eq w1_q224 (xG.k g250 m_q224 (nm_c ne_q224_q240 nm_0))
  have w2_q224 := fld.eq w2_q224 (xG.k g250 m_q224 (nm_c ne_q224_q240 nm_0))
  have e_q69 := (xG.k g250 m_q69 (nm_c (ty_ne t_q69 t_q240 rfl) nm_0)).trans e_q69
  have t_q := xG.ty g250 m_q t_q
  have m_q := xG.m g250 m_q
  have t_bs38 := xG.ty g250 m_bs38 t_bs38
  have m_bs38 := xG.m g250 m_bs38
  have t_q39 := xG.ty g250 m_q39 t_q39
  have m_q39 := xG.m g250 m_q39
  have t_q58 := xG.ty g250 m_q58 t_q58
  have m_q58 := xG.m g250 m_q58
  have t_q69 := xG.ty g250 m_q69 t_q69
  have m_q69 := xG.m g250 m_q69
  have t_bs87 := xG.ty g250 m_bs87 t_bs87
  have m_bs87 := xG.m g250 m_bs87
  have t_bs103 := xG.ty g250 m_bs103 t_bs103
  have m_bs103 := xG.m g250 m_bs103
  have t_bs104 := xG.ty g250 m_bs104 t_bs104
  have m_bs104 := xG.m g250 m_bs104
  have t_bs120 := xG.ty g250 m_bs120 t_bs120
  have m_bs120 := xG.m g250 m_bs120
  have t_bs121 := xG.ty g250 m_bs121 t_bs121
  have m_bs121 := xG.m g250 m_bs121
  have t_bs137 := xG.ty g250 m_bs137 t_bs137
  have m_bs137 := xG.m g250 m_bs137
  have t_bs138 := xG.ty g250 m_bs138 t_bs138
  have m_bs138 := xG.m g250 m_bs138
  have t_bs154 := xG.ty g250 m_bs154 t_bs154
  have m_bs154 := xG.m g250 m_bs154
  have t_bs155 := xG.ty g250 m_bs155 t_bs155
  have m_bs155 := xG.m g250 m_bs155
  have t_q224 := xG.ty g250 m_q224 t_q224
  have m_q224 := xG.m g250 m_q224
  have t_q240 := xG.ty g250 m_q240 t_q240
  have m_q240 := xG.m g250 m_q240
  have u_3 := u_x u_3 g250 (by decide)
  have u_15 := u_x u_15 g250 (by decide)
  have u_16 := u_x u_16 g250 (by decide)
  have hvs251 := e_q69
  obtain ⟨ws251, hws251⟩ := hT.obj m_q240 t_q240 (nm_c (ty_ne t_q240 t_q69 rfl) (nm_c (ty_ne t_q240 t_q58 rfl) (nm_c (ty_ne t_q240 t_q rfl) nm_0))) td_17
  refine g_aast C hH m_q69 5 rfl hvs251 m_q240 hws251 rfl (vp_inL (by decide)) dX9_init_207 (fun H locs hH => ?_)
  obtain ⟨f252, hH, hT, g253, e254⟩ := x_put hH hT List.mem_cons_self
  have hQ_q := hQ_q.x g253 m_q (nm_c (ty_ne t_q t_q69 rfl) nm_0)
  have hQ_q58 := hQ_q58.x g253 m_q58 (nm_c (ty_ne t_q58 t_q69 rfl) nm_0)
  have w1_q224 := fld.eq w1_q224 (xG.k g253 m_q224 (nm_c (ty_ne t_q224 t_q69 rfl) nm_0))
  have w2_q224 := fld.eq w2_q224 (xG.k g253 m_q224 (nm_c (ty_ne t_q224 t_q69 rfl) nm_0))
  have w1_q240 := fld.eq w1_q240 (xG.k g253 m_q240 (nm_c (ty_ne t_q240 t_q69 rfl) nm_0))
  have w2_q240 := fld.eq w2_q240 (xG.k g253 m_q240 (nm_c (ty_ne t_q240 t_q69 rfl) nm_0))
  have e_q69 := e254
  refine lv_iinc (v := (2 : Int32)) (lv' := [(1, .int (2 : Int32)), (0, .ref q)]) hx hb dX9_init_208 hl (k := 0) rfl (by decide) (by decide) rfl (fun ls hl => ?_)
  refine lv_goto (tgt := 190) hx hb dX9_init_211 (by decide) ?_
  refine lv_iload_n hx hb dX9_init_190 rfl (lv_at hl 0 rfl) ?_
  refine lv_iconst (v := (4 : Int32)) hx hb dX9_init_191 (by decide) ?_
  refine lv_icmp_ge (tgt := 214) hx hb dX9_init_192 (by decide) (fun h => absurd h (by decide)) (fun _ => ?_)
  refine lv_aload_n hx hb dX9_init_195 rfl (lv_at hl 1 rfl) ?_
  obtain ⟨fs255, hfs255, -, hqs255⟩ := id hQ_q
  obtain ⟨_, hvs255, bs255, rfl, m_bs255, t_bs255⟩ := hqs255 4 _ rfl (by decide)
  rw [u_16 _ m_bs255 t_bs255] at hvs255
  refine g_get C hH m_q hfs255 iX9 rfl 4 (by decide) wd419 rfl hvs255 dX9_init_196 ?_
  refine lv_iload_n hx hb dX9_init_199 rfl (lv_at hl 0 rfl) ?_
  refine g_new C hH hA (ci := 6) iX6 tyX6 tyX6_ok wd1197 wd1224 wd422 rfl (fs := [.null, .int (0 : Int32), .int (0 : Int32)]) (dvX6) (Nat.le_of_ble_eq_true rfl) (Nat.le_of_ble_eq_true rfl) dX9_init_200 (fun q256 H n257 hH => ?_)
  obtain ⟨L258, τ259, f260, hH, hT, g261, m_q256, t_q256, e_q256, o262⟩ := x_new hH hT n257 17
  have ne_q224_q256 : q224 ≠ q256 := g_neL m_q224 n257
  have ne_q240_q256 : q240 ≠ q256 := g_neL m_q240 n257
  have hQ_q := hQ_q.x (g261 []) m_q nm_0
  have hQ_q58 := hQ_q58.x (g261 []) m_q58 nm_0
  have w1_q224 := fld.eq w1_q224 (xG.k (g261 []) m_q224 nm_0)
  have w2_q224 := fld.eq w2_q224 (xG.k (g261 []) m_q224 nm_0)
  have w1_q240 := fld.eq w1_q240 (xG.k (g261 []) m_q240 nm_0)
  have w2_q240 := fld.eq w2_q240 (xG.k (g261 []) m_q240 nm_0)
  have e_q69 := (xG.k (g261 []) m_q69 nm_0).trans e_q69
  have t_q := xG.ty (g261 []) m_q t_q
  have m_q := xG.m (g261 []) m_q
  have t_bs38 := xG.ty (g261 []) m_bs38 t_bs38
  have m_bs38 := xG.m (g261 []) m_bs38
  have t_q39 := xG.ty (g261 []) m_q39 t_q39
  have m_q39 := xG.m (g261 []) m_q39
  have t_q58 := xG.ty (g261 []) m_q58 t_q58
  have m_q58 := xG.m (g261 []) m_q58
  have t_q69 := xG.ty (g261 []) m_q69 t_q69
  have m_q69 := xG.m (g261 []) m_q69
  have t_bs87 := xG.ty (g261 []) m_bs87 t_bs87
  have m_bs87 := xG.m (g261 []) m_bs87
  have t_bs103 := xG.ty (g261 []) m_bs103 t_bs103
  have m_bs103 := xG.m (g261 []) m_bs103
  have t_bs104 := xG.ty (g261 []) m_bs104 t_bs104
  have m_bs104 := xG.m (g261 []) m_bs104
  have t_bs120 := xG.ty (g261 []) m_bs120 t_bs120
  have m_bs120 := xG.m (g261 []) m_bs120
  have t_bs121 := xG.ty (g261 []) m_bs121 t_bs121
  have m_bs121 := xG.m (g261 []) m_bs121
  have t_bs137 := xG.ty (g261 []) m_bs137 t_bs137
  have m_bs137 := xG.m (g261 []) m_bs137
  have t_bs138 := xG.ty (g261 []) m_bs138 t_bs138
  have m_bs138 := xG.m (g261 []) m_bs138
  have t_bs154 := xG.ty (g261 []) m_bs154 t_bs154
  have m_bs154 := xG.m (g261 []) m_bs154
  have t_bs155 := xG.ty (g261 []) m_bs155 t_bs155
  have m_bs155 := xG.m (g261 []) m_bs155
  have t_q224 := xG.ty (g261 []) m_q224 t_q224
  have m_q224 := xG.m (g261 []) m_q224
  have t_q240 := xG.ty (g261 []) m_q240 t_q240
  have m_q240 := xG.m (g261 []) m_q240
  have u_3 := u_x u_3 (g261 []) (by decide)
  have u_15 := u_x u_15 (g261 []) (by decide)
  have u_16 := u_x u_16 (g261 []) (by decide)
  refine lv_dup hx hb dX9_init_203 rfl ?_
  refine g_INv C hl.1 hA hH (As := []) (rest := [.ref q256, .int (2 : Int32), .ref q69]) (kt_Row l E L258 τ259 f260 _ m_q256 t_q256 e_q256 hT) my_X6_init (host := "GooseShares") (List.mem_of_getElem? (i := 2) rfl) rfl rfl (Nat.le_of_ble_eq_true rfl) ⟨Nat.le_of_ble_eq_true rfl, Nat.le_of_ble_eq_true rfl⟩ ⟨Nat.le_of_ble_eq_true rfl, Nat.le_of_ble_eq_true rfl⟩ dX9_init_204 (fun L263 f264 H locs hp hH => ?_)
  obtain ⟨τ265, hT, g266, w1_q256, w2_q256⟩ := hp
  have hQ_q := hQ_q.x g266 m_q (nm_c (ty_ne t_q t_q256 rfl) nm_0)
  have hQ_q58 := hQ_q58.x g266 m_q58 (nm_c (ty_ne t_q58 t_q256 rfl) nm_0)
  have w1_q224 := fld.eq w1_q224 (xG.k g266 m_q224 (nm_c ne_q224_q256 nm_0))
  have w2_q224 := fld.eq w2_q224 (xG.k g266 m_q224 (nm_c ne_q224_q256 nm_0))
  have w1_q240 := fld.eq w1_q240 (xG.k g266 m_q240 (nm_c ne_q240_q256 nm_0))
  have w2_q240 := fld.eq w2_q240 (xG.k g266 m_q240 (nm_c ne_q240_q256 nm_0))
  have e_q69 := (xG.k g266 m_q69 (nm_c (ty_ne t_q69 t_q256 rfl) nm_0)).trans e_q69
  have t_q := xG.ty g266 m_q t_q
  have m_q := xG.m g266 m_q
  have t_bs38 := xG.ty g266 m_bs38 t_bs38
  have m_bs38 := xG.m g266 m_bs38
  have t_q39 := xG.ty g266 m_q39 t_q39
  have m_q39 := xG.m g266 m_q39
  have t_q58 := xG.ty g266 m_q58 t_q58
  have m_q58 := xG.m g266 m_q58
  have t_q69 := xG.ty g266 m_q69 t_q69
  have m_q69 := xG.m g266 m_q69
  have t_bs87 := xG.ty g266 m_bs87 t_bs87
  have m_bs87 := xG.m g266 m_bs87
  have t_bs103 := xG.ty g266 m_bs103 t_bs103
  have m_bs103 := xG.m g266 m_bs103
  have t_bs104 := xG.ty g266 m_bs104 t_bs104
  have m_bs104 := xG.m g266 m_bs104
  have t_bs120 := xG.ty g266 m_bs120 t_bs120
  have m_bs120 := xG.m g266 m_bs120
  have t_bs121 := xG.ty g266 m_bs121 t_bs121
  have m_bs121 := xG.m g266 m_bs121
  have t_bs137 := xG.ty g266 m_bs137 t_bs137
  have m_bs137 := xG.m g266 m_bs137
  have t_bs138 := xG.ty g266 m_bs138 t_bs138
  have m_bs138 := xG.m g266 m_bs138
  have t_bs154 := xG.ty g266 m_bs154 t_bs154
  have m_bs154 := xG.m g266 m_bs154
  have t_bs155 := xG.ty g266 m_bs155 t_bs155
  have m_bs155 := xG.m g266 m_bs155
  have t_q224 := xG.ty g266 m_q224 t_q224
  have m_q224 := xG.m g266 m_q224
  have t_q240 := xG.ty g266 m_q240 t_q240
  have m_q240 := xG.m g266 m_q240
  have t_q256 := xG.ty g266 m_q256 t_q256
  have m_q256 := xG.m g266 m_q256
  have u_3 := u_x u_3 g266 (by decide)
  have u_15 := u_x u_15 g266 (by decide)
  have u_16 := u_x u_16 g266 (by decide)
  have hvs267 := e_q69
  obtain ⟨ws267, hws267⟩ := hT.obj m_q256 t_q256 (nm_c (ty_ne t_q256 t_q69 rfl) (nm_c (ty_ne t_q256 t_q58 rfl) (nm_c (ty_ne t_q256 t_q rfl) nm_0))) td_17
  refine g_aast C hH m_q69 5 rfl hvs267 m_q256 hws267 rfl (vp_inL (by decide)) dX9_init_207 (fun H locs hH => ?_)
  obtain ⟨f268, hH, hT, g269, e270⟩ := x_put hH hT List.mem_cons_self
  have hQ_q := hQ_q.x g269 m_q (nm_c (ty_ne t_q t_q69 rfl) nm_0)
  have hQ_q58 := hQ_q58.x g269 m_q58 (nm_c (ty_ne t_q58 t_q69 rfl) nm_0)
  have w1_q224 := fld.eq w1_q224 (xG.k g269 m_q224 (nm_c (ty_ne t_q224 t_q69 rfl) nm_0))
  have w2_q224 := fld.eq w2_q224 (xG.k g269 m_q224 (nm_c (ty_ne t_q224 t_q69 rfl) nm_0))
  have w1_q240 := fld.eq w1_q240 (xG.k g269 m_q240 (nm_c (ty_ne t_q240 t_q69 rfl) nm_0))
  have w2_q240 := fld.eq w2_q240 (xG.k g269 m_q240 (nm_c (ty_ne t_q240 t_q69 rfl) nm_0))
  have w1_q256 := fld.eq w1_q256 (xG.k g269 m_q256 (nm_c (ty_ne t_q256 t_q69 rfl) nm_0))
  have w2_q256 := fld.eq w2_q256 (xG.k g269 m_q256 (nm_c (ty_ne t_q256 t_q69 rfl) nm_0))
  have e_q69 := e270
  refine lv_iinc (v := (3 : Int32)) (lv' := [(1, .int (3 : Int32)), (0, .ref q)]) hx hb dX9_init_208 hl (k := 0) rfl (by decide) (by decide) rfl (fun ls hl => ?_)
  refine lv_goto (tgt := 190) hx hb dX9_init_211 (by decide) ?_
  refine lv_iload_n hx hb dX9_init_190 rfl (lv_at hl 0 rfl) ?_
  refine lv_iconst (v := (4 : Int32)) hx hb dX9_init_191 (by decide) ?_
  refine lv_icmp_ge (tgt := 214) hx hb dX9_init_192 (by decide) (fun h => absurd h (by decide)) (fun _ => ?_)
  refine lv_aload_n hx hb dX9_init_195 rfl (lv_at hl 1 rfl) ?_
  obtain ⟨fs271, hfs271, -, hqs271⟩ := id hQ_q
  obtain ⟨_, hvs271, bs271, rfl, m_bs271, t_bs271⟩ := hqs271 4 _ rfl (by decide)
  rw [u_16 _ m_bs271 t_bs271] at hvs271
  refine g_get C hH m_q hfs271 iX9 rfl 4 (by decide) wd419 rfl hvs271 dX9_init_196 ?_
  refine lv_iload_n hx hb dX9_init_199 rfl (lv_at hl 0 rfl) ?_
  refine g_new C hH hA (ci := 6) iX6 tyX6 tyX6_ok wd1197 wd1224 wd422 rfl (fs := [.null, .int (0 : Int32), .int (0 : Int32)]) (dvX6) (Nat.le_of_ble_eq_true rfl) (Nat.le_of_ble_eq_true rfl) dX9_init_200 (fun q272 H n273 hH => ?_)
  obtain ⟨L274, τ275, f276, hH, hT, g277, m_q272, t_q272, e_q272, o278⟩ := x_new hH hT n273 17
  have ne_q224_q272 : q224 ≠ q272 := g_neL m_q224 n273
  have ne_q240_q272 : q240 ≠ q272 := g_neL m_q240 n273
  have ne_q256_q272 : q256 ≠ q272 := g_neL m_q256 n273
  have hQ_q := hQ_q.x (g277 []) m_q nm_0
  have hQ_q58 := hQ_q58.x (g277 []) m_q58 nm_0
  have w1_q224 := fld.eq w1_q224 (xG.k (g277 []) m_q224 nm_0)
  have w2_q224 := fld.eq w2_q224 (xG.k (g277 []) m_q224 nm_0)
  have w1_q240 := fld.eq w1_q240 (xG.k (g277 []) m_q240 nm_0)
  have w2_q240 := fld.eq w2_q240 (xG.k (g277 []) m_q240 nm_0)
  have w1_q256 := fld.eq w1_q256 (xG.k (g277 []) m_q256 nm_0)
  have w2_q256 := fld.eq w2_q256 (xG.k (g277 []) m_q256 nm_0)
  have e_q69 := (xG.k (g277 []) m_q69 nm_0).trans e_q69
  have t_q := xG.ty (g277 []) m_q t_q
  have m_q := xG.m (g277 []) m_q
  have t_bs38 := xG.ty (g277 []) m_bs38 t_bs38
  have m_bs38 := xG.m (g277 []) m_bs38
  have t_q39 := xG.ty (g277 []) m_q39 t_q39
  have m_q39 := xG.m (g277 []) m_q39
  have t_q58 := xG.ty (g277 []) m_q58 t_q58
  have m_q58 := xG.m (g277 []) m_q58
  have t_q69 := xG.ty (g277 []) m_q69 t_q69
  have m_q69 := xG.m (g277 []) m_q69
  have t_bs87 := xG.ty (g277 []) m_bs87 t_bs87
  have m_bs87 := xG.m (g277 []) m_bs87
  have t_bs103 := xG.ty (g277 []) m_bs103 t_bs103
  have m_bs103 := xG.m (g277 []) m_bs103
  have t_bs104 := xG.ty (g277 []) m_bs104 t_bs104
  have m_bs104 := xG.m (g277 []) m_bs104
  have t_bs120 := xG.ty (g277 []) m_bs120 t_bs120
  have m_bs120 := xG.m (g277 []) m_bs120
  have t_bs121 := xG.ty (g277 []) m_bs121 t_bs121
  have m_bs121 := xG.m (g277 []) m_bs121
  have t_bs137 := xG.ty (g277 []) m_bs137 t_bs137
  have m_bs137 := xG.m (g277 []) m_bs137
  have t_bs138 := xG.ty (g277 []) m_bs138 t_bs138
  have m_bs138 := xG.m (g277 []) m_bs138
  have t_bs154 := xG.ty (g277 []) m_bs154 t_bs154
  have m_bs154 := xG.m (g277 []) m_bs154
  have t_bs155 := xG.ty (g277 []) m_bs155 t_bs155
  have m_bs155 := xG.m (g277 []) m_bs155
  have t_q224 := xG.ty (g277 []) m_q224 t_q224
  have m_q224 := xG.m (g277 []) m_q224
  have t_q240 := xG.ty (g277 []) m_q240 t_q240
  have m_q240 := xG.m (g277 []) m_q240
  have t_q256 := xG.ty (g277 []) m_q256 t_q256
  have m_q256 := xG.m (g277 []) m_q256
  have u_3 := u_x u_3 (g277 []) (by decide)
  have u_15 := u_x u_15 (g277 []) (by decide)
  have u_16 := u_x u_16 (g277 []) (by decide)
  refine lv_dup hx hb dX9_init_203 rfl ?_
  refine g_INv C hl.1 hA hH (As := []) (rest := [.ref q272, .int (3 : Int32), .ref q69]) (kt_Row l E L274 τ275 f276 _ m_q272 t_q272 e_q272 hT) my_X6_init (host := "GooseShares") (List.mem_of_getElem? (i := 2) rfl) rfl rfl (Nat.le_of_ble_eq_true rfl) ⟨Nat.le_of_ble_eq_true rfl, Nat.le_of_ble_eq_true rfl⟩ ⟨Nat.le_of_ble_eq_true rfl, Nat.le_of_ble_eq_true rfl⟩ dX9_init_204 (fun L279 f280 H locs hp hH => ?_)
  obtain ⟨τ281, hT, g282, w1_q272, w2_q272⟩ := hp
  have hQ_q := hQ_q.x g282 m_q (nm_c (ty_ne t_q t_q272 rfl) nm_0)
  have hQ_q58 := hQ_q58.x g282 m_q58 (nm_c (ty_ne t_q58 t_q272 rfl) nm_0)
  have w1_q224 := fld.eq w1_q224 (xG.k g282 m_q224 (nm_c ne_q224_q272 nm_0))
  have w2_q224 := fld.eq w2_q224 (xG.k g282 m_q224 (nm_c ne_q224_q272 nm_0))
  have w1_q240 := fld.eq w1_q240 (xG.k g282 m_q240 (nm_c ne_q240_q272 nm_0))
  have w2_q240 := fld.eq w2_q240 (xG.k g282 m_q240 (nm_c ne_q240_q272 nm_0))
  have w1_q256 := fld.eq w1_q256 (xG.k g282 m_q256 (nm_c ne_q256_q272 nm_0))
  have w2_q256 := fld.eq w2_q256 (xG.k g282 m_q256 (nm_c ne_q256_q272 nm_0))
  have e_q69 := (xG.k g282 m_q69 (nm_c (ty_ne t_q69 t_q272 rfl) nm_0)).trans e_q69
  have t_q := xG.ty g282 m_q t_q
  have m_q := xG.m g282 m_q
  have t_bs38 := xG.ty g282 m_bs38 t_bs38
  have m_bs38 := xG.m g282 m_bs38
  have t_q39 := xG.ty g282 m_q39 t_q39
  have m_q39 := xG.m g282 m_q39
  have t_q58 := xG.ty g282 m_q58 t_q58
  have m_q58 := xG.m g282 m_q58
  have t_q69 := xG.ty g282 m_q69 t_q69
  have m_q69 := xG.m g282 m_q69
  have t_bs87 := xG.ty g282 m_bs87 t_bs87
  have m_bs87 := xG.m g282 m_bs87
  have t_bs103 := xG.ty g282 m_bs103 t_bs103
  have m_bs103 := xG.m g282 m_bs103
  have t_bs104 := xG.ty g282 m_bs104 t_bs104
  have m_bs104 := xG.m g282 m_bs104
  have t_bs120 := xG.ty g282 m_bs120 t_bs120
  have m_bs120 := xG.m g282 m_bs120
  have t_bs121 := xG.ty g282 m_bs121 t_bs121
  have m_bs121 := xG.m g282 m_bs121
  have t_bs137 := xG.ty g282 m_bs137 t_bs137
  have m_bs137 := xG.m g282 m_bs137
  have t_bs138 := xG.ty g282 m_bs138 t_bs138
  have m_bs138 := xG.m g282 m_bs138
  have t_bs154 := xG.ty g282 m_bs154 t_bs154
  have m_bs154 := xG.m g282 m_bs154
  have t_bs155 := xG.ty g282 m_bs155 t_bs155
  have m_bs155 := xG.m g282 m_bs155
  have t_q224 := xG.ty g282 m_q224 t_q224
  have m_q224 := xG.m g282 m_q224
  have t_q240 := xG.ty g282 m_q240 t_q240
  have m_q240 := xG.m g282 m_q240
  have t_q256 := xG.ty g282 m_q256 t_q256
  have m_q256 := xG.m g282 m_q256
  have t_q272 := xG.ty g282 m_q272 t_q272
  have m_q272 := xG.m g282 m_q272
  have u_3 := u_x u_3 g282 (by decide)
  have u_15 := u_x u_15 g282 (by decide)
  have u_16 := u_x u_16 g282 (by decide)
  have hvs283 := e_q69
  obtain ⟨ws283, hws283⟩ := hT.obj m_q272 t_q272 (nm_c (ty_ne t_q272 t_q69 rfl) (nm_c (ty_ne t_q272 t_q58 rfl) (nm_c (ty_ne t_q272 t_q rfl) nm_0))) td_17
  refine g_aast C hH m_q69 5 rfl hvs283 m_q272 hws283 rfl (vp_inL (by decide)) dX9_init_207 (fun H locs hH => ?_)
  obtain ⟨f284, hH, hT, g285, e286⟩ := x_put hH hT List.mem_cons_self
  have hQ_q := hQ_q.x g285 m_q (nm_c (ty_ne t_q t_q69 rfl) nm_0)
  have hQ_q58 := hQ_q58.x g285 m_q58 (nm_c (ty_ne t_q58 t_q69 rfl) nm_0)
  have w1_q224 := fld.eq w1_q224 (xG.k g285 m_q224 (nm_c (ty_ne t_q224 t_q69 rfl) nm_0))
  have w2_q224 := fld.eq w2_q224 (xG.k g285 m_q224 (nm_c (ty_ne t_q224 t_q69 rfl) nm_0))
  have w1_q240 := fld.eq w1_q240 (xG.k g285 m_q240 (nm_c (ty_ne t_q240 t_q69 rfl) nm_0))
  have w2_q240 := fld.eq w2_q240 (xG.k g285 m_q240 (nm_c (ty_ne t_q240 t_q69 rfl) nm_0))
  have w1_q256 := fld.eq w1_q256 (xG.k g285 m_q256 (nm_c (ty_ne t_q256 t_q69 rfl) nm_0))
  have w2_q256 := fld.eq w2_q256 (xG.k g285 m_q256 (nm_c (ty_ne t_q256 t_q69 rfl) nm_0))
  have w1_q272 := fld.eq w1_q272 (xG.k g285 m_q272 (nm_c (ty_ne t_q272 t_q69 rfl) nm_0))
  have w2_q272 := fld.eq w2_q272 (xG.k g285 m_q272 (nm_c (ty_ne t_q272 t_q69 rfl) nm_0))
  have e_q69 := e286
  refine lv_iinc (v := (4 : Int32)) (lv' := [(1, .int (4 : Int32)), (0, .ref q)]) hx hb dX9_init_208 hl (k := 0) rfl (by decide) (by decide) rfl (fun ls hl => ?_)
  refine lv_goto (tgt := 190) hx hb dX9_init_211 (by decide) ?_
  refine lv_iload_n hx hb dX9_init_190 rfl (lv_at hl 0 rfl) ?_
  refine lv_iconst (v := (4 : Int32)) hx hb dX9_init_191 (by decide) ?_
  refine lv_icmp_ge (tgt := 214) hx hb dX9_init_192 (by decide) (fun _ => ?_) (fun h => absurd (by decide) h)
  have hQ_q69 : tQA E L279 τ281 f284 q69 5 4 17 4 := ⟨_, e_q69, fun i hi => by
    rcases (show i = 0 ∨ i = 1 ∨ i = 2 ∨ i = 3 by omega) with rfl | rfl | rfl | rfl
    · exact ⟨q224, rfl, m_q224, t_q224⟩
    · exact ⟨q240, rfl, m_q240, t_q240⟩
    · exact ⟨q256, rfl, m_q256, t_q256⟩
    · exact ⟨q272, rfl, m_q272, t_q272⟩⟩
  have hT := hQ_q69.fin hT t_q69 td_16
  have hT := hQ_q58.fin hT t_q58 td_15
  have hT := hQ_q.fin hT t_q td_0 (by decide)
  have hro : ∀ (s : Int32) (c : Nat), rg s 0 3 → rowAt f284 q s c → (s.toInt = 0 ∧ c = q224) ∨ (s.toInt = 1 ∧ c = q240) ∨ (s.toInt = 2 ∧ c = q256) ∨ (s.toInt = 3 ∧ c = q272) := fun s c hs hc => by
    obtain ⟨ar, n, cA, v, h1, h2, h3⟩ := hc
    obtain ⟨d, md, td, kd⟩ := t_fldr hT.nil m_q t_q td_0 (k := 4) rfl
    rw [fld_injR h1 kd, u_16 d md td] at h2
    rw [arr_injQ h2 e_q69] at h3
    unfold rg at hs
    have hn : s.toNatClampNeg = s.toInt.toNat := rfl
    rcases (show s.toInt = 0 ∨ s.toInt = 1 ∨ s.toInt = 2 ∨ s.toInt = 3 by omega) with e | e | e | e
    · rw [hn, e] at h3
      exact .inl ⟨e, (Option.some.inj (show some q224 = some c from h3)).symm⟩
    · rw [hn, e] at h3
      exact .inr (.inl ⟨e, (Option.some.inj (show some q240 = some c from h3)).symm⟩)
    · rw [hn, e] at h3
      exact .inr (.inr (.inl ⟨e, (Option.some.inj (show some q256 = some c from h3)).symm⟩))
    · rw [hn, e] at h3
      exact .inr (.inr (.inr (⟨e, (Option.some.inj (show some q272 = some c from h3)).symm⟩)))
  have hri : rowInj f284 q := fun s t c hs ht h1 h2 => Int32.toInt_inj.mp (by
    rcases hro s c hs h1 with ⟨e1, d1⟩ | ⟨e1, d1⟩ | ⟨e1, d1⟩ | ⟨e1, d1⟩ <;> rcases hro t c ht h2 with ⟨e2, d2⟩ | ⟨e2, d2⟩ | ⟨e2, d2⟩ | ⟨e2, d2⟩ <;> first | exact e1.trans e2.symm | exact absurd (d1.symm.trans d2) (by assumption) | exact absurd (d2.symm.trans d1) (by assumption))
  have hrs : rowsIn f284 q (fun _ => -1) (fun _ => 0) := fun s c hs hc => by
    rcases hro s c hs hc with ⟨-, d1⟩ | ⟨-, d1⟩ | ⟨-, d1⟩ | ⟨-, d1⟩
    · rw [d1]; exact ⟨w1_q224, w2_q224⟩
    · rw [d1]; exact ⟨w1_q240, w2_q240⟩
    · rw [d1]; exact ⟨w1_q256, w2_q256⟩
    · rw [d1]; exact ⟨w1_q272, w2_q272⟩
  exact g_vret C hr hH (Nat.le_of_ble_eq_true rfl) (Nat.le_of_ble_eq_true rfl) dX9_init_214 ⟨_, hT.nil, m_q, t_q, fun a ma b mb ea eb => (u_3 a ma ea).trans (u_3 b mb eb).symm, hri, hrs⟩
set_option maxHeartbeats 4000000 in
set_option maxRecDepth 100000 in
theorem kt_Model (l : Launch) (E : gE) (L : List Nat) (τ : Nat → Nat) (f : gF) {q : Nat} (m_q : q ∈ L) (t_q : τ q = 40) (e_q : f q = .inr (10, [.int (0 : Int32), .null, .null, .null, .null, .null, .int (0 : Int32), .int (0 : Int32), .int (0 : Int32), .int (0 : Int32), .int (0 : Int32), .long (0 : Int64), .int (0 : Int32), .int (0 : Int32), .int (0 : Int32), .int (0 : Int32), .null, .null, .null, .null, .null, .null, .int (0 : Int32), .int (0 : Int32), .int (0 : Int32), .null, .null, .null, .null, .null, .null, .null, .null, .null, .null, .null, .int (0 : Int32), .int (0 : Int32), .null, .int (0 : Int32), .int (0 : Int32), .null, .null, .int (0 : Int32), .int (0 : Int32), .int (0 : Int32), .int (0 : Int32), .int (0 : Int32)])) (hT : tX E [q] L τ f) (hB : tB L τ 41) : gMv l E yX10_init cX10_init 2 (gRm 1 25 2551) [.ref q] L f (fun L1 f1 => ∃ τ1 : Nat → Nat, tI E L1 τ1 f1 ∧ q ∈ L1 ∧ τ1 q = 40 ∧ (∀ a ∈ L1, ∀ b ∈ L1, τ1 a = τ1 b → a = b) ∧ isA E L1 τ1 f1 46 5 (fun _ => 0) ∧ isA E L1 τ1 f1 47 45 (fun _ => 0) ∧ (∃ vw : Nat → Int32, isA E L1 τ1 f1 41 4 vw ∧ ∀ j, j < 4 → vw j = -1) ∧ isA E L1 τ1 f1 42 4 (fun _ => 0)) := by
  refine gMv.intro (by decide) (Nat.le_of_ble_eq_true rfl) ?_
  intro p e s m below meth c A ls C hr hnm hA hH hl
  have C : gC E cX10_init 2 RX10 p s m _ meth c := C
  have hl : lv_has ls 2 [(0, .ref q)] := hl
  have hx := C.1
  have hb := C.2.1
  have hQ_q := tQ_new (L := L) (τ := τ) [0, 6, 7, 8, 9, 10, 11, 12, 13, 14, 15, 22, 23, 24, 36, 37, 39, 40, 43, 44, 45, 46, 47] td_40 e_q rfl (fun k d hd hk => by
      simp only [List.mem_cons, List.not_mem_nil, or_false] at hk
      rcases hk with rfl | rfl | rfl | rfl | rfl | rfl | rfl | rfl | rfl | rfl | rfl | rfl | rfl | rfl | rfl | rfl | rfl | rfl | rfl | rfl | rfl | rfl | rfl
      · cases hd; exact ⟨_, rfl, _, rfl, rg_w rl_0 (by decide)⟩
      · cases hd; exact ⟨_, rfl, _, rfl, rg_w rl_0 (by decide)⟩
      · cases hd; exact ⟨_, rfl, _, rfl, rg_w rl_0 (by decide)⟩
      · cases hd; exact ⟨_, rfl, _, rfl, rg_w rl_0 (by decide)⟩
      · cases hd; exact ⟨_, rfl, _, rfl, rg_w rl_0 (by decide)⟩
      · cases hd; exact ⟨_, rfl, _, rfl, rg_w rl_0 (by decide)⟩
      · cases hd; exact ⟨_, rfl, _, rfl⟩
      · cases hd; exact ⟨_, rfl, _, rfl, rg_w rl_0 (by decide)⟩
      · cases hd; exact ⟨_, rfl, _, rfl, rg_w rl_0 (by decide)⟩
      · cases hd; exact ⟨_, rfl, _, rfl, rg_w rl_0 (by decide)⟩
      · cases hd; exact ⟨_, rfl, _, rfl, rg_w rl_0 (by decide)⟩
      · cases hd; exact ⟨_, rfl, _, rfl, rg_w rl_0 (by decide)⟩
      · cases hd; exact ⟨_, rfl, _, rfl, rg_w rl_0 (by decide)⟩
      · cases hd; exact ⟨_, rfl, _, rfl, rg_w rl_0 (by decide)⟩
      · cases hd; exact ⟨_, rfl, _, rfl, rg_w rl_0 (by decide)⟩
      · cases hd; exact ⟨_, rfl, _, rfl, rg_w rl_0 (by decide)⟩
      · cases hd; exact ⟨_, rfl, _, rfl, rg_w rl_0 (by decide)⟩
      · cases hd; exact ⟨_, rfl, _, rfl, rg_w rl_0 (by decide)⟩
      · cases hd; exact ⟨_, rfl, _, rfl, rg_w rl_0 (by decide)⟩
      · cases hd; exact ⟨_, rfl, _, rfl, rg_w rl_0 (by decide)⟩
      · cases hd; exact ⟨_, rfl, _, rfl, rg_w rl_0 (by decide)⟩
      · cases hd; exact ⟨_, rfl, _, rfl, rg_w rl_0 (by decide)⟩
      · cases hd; exact ⟨_, rfl, _, rfl, rg_w rl_0 (by decide)⟩
      )
  refine lv_aload_n hx hb dX10_init_0 rfl (lv_at hl 0 rfl) ?_
  refine g_obj C hl.1 wd1227 wd1170 wd1171 dX10_init_1 (Nat.le_of_ble_eq_true rfl) (Nat.le_of_ble_eq_true rfl) ?_
  refine lv_aload_n hx hb dX10_init_4 rfl (lv_at hl 0 rfl) ?_
  refine lv_iconst (v := (4 : Int32)) hx hb dX10_init_5 (by decide) ?_
  refine g_newa C hH hA 1 rfl (fun _ _ h => h) wd1172 rfl (N' := 4) (a0 := (4, (.inl (fun _ => 0)))) (avI 4) (by decide) (by decide) (Nat.le_of_ble_eq_true rfl) (Nat.le_of_ble_eq_true rfl) (Nat.le_of_ble_eq_true rfl) dX10_init_6 (fun q1 H n2 hH => ?_)
  obtain ⟨L3, τ4, f5, hH, hT, g6, m_q1, t_q1, e_q1, o7⟩ := x_newa hH hT n2 41 td_41 (fun _ _ => ⟨_, rfl, trivial⟩)
  have zn_ : isA E L3 τ4 f5 41 4 (fun _ => 0) := isA_nn (fun b hb => Nat.ne_of_lt (hB.1 b hb)) (g6 []) o7 e_q1
  have hB : tB L3 τ4 42 := hB.new (g6 []) o7 t_q1
  have hQ_q := hQ_q.x (g6 []) m_q nm_0
  have t_q := xG.ty (g6 []) m_q t_q
  have m_q := xG.m (g6 []) m_q
  have z_41 := zn_
  obtain ⟨fs8, hfs8, hls8, hqs8⟩ := hQ_q
  refine g_putF C hH m_q hfs8 iX10 tyX10 tyX10_ok nmX10 rfl 1 (by decide) wd994 rfl rfl hnm rfl rfl rfl (by rw [hls8]; decide) (fs' := fs8.set 1 (.ref q1)) rfl dX10_init_8 (fun H locs hH => ?_)
  obtain ⟨f9, hH, hT, g10, e11⟩ := x_put hH hT List.mem_cons_self
  have hQ_q := tQ.put hls8 hqs8 e11 rfl (show tF _ _ (.inr (.inl 41)) _ from ⟨_, rfl, m_q1, t_q1⟩)
  have z_41 := isA_x z_41 g10 (by decide) (ty_Y t_q rfl)
  refine lv_aload_n hx hb dX10_init_11 rfl (lv_at hl 0 rfl) ?_
  refine lv_iconst (v := (4 : Int32)) hx hb dX10_init_12 (by decide) ?_
  refine g_newa C hH hA 1 rfl (fun _ _ h => h) wd1172 rfl (N' := 4) (a0 := (4, (.inl (fun _ => 0)))) (avI 4) (by decide) (by decide) (Nat.le_of_ble_eq_true rfl) (Nat.le_of_ble_eq_true rfl) (Nat.le_of_ble_eq_true rfl) dX10_init_13 (fun q12 H n13 hH => ?_)
  obtain ⟨L14, τ15, f16, hH, hT, g17, m_q12, t_q12, e_q12, o18⟩ := x_newa hH hT n13 42 td_42 (fun _ _ => ⟨_, rfl, tR_z (by decide)⟩)
  have zn_ : isA E L14 τ15 f16 42 4 (fun _ => 0) := isA_nn (fun b hb => Nat.ne_of_lt (hB.1 b hb)) (g17 []) o18 e_q12
  have hB : tB L14 τ15 43 := hB.new (g17 []) o18 t_q12
  have hQ_q := hQ_q.x (g17 []) m_q nm_0
  have z_41 := isA_x z_41 (g17 []) (by decide) (fun _ h => absurd h nm_0)
  have t_q := xG.ty (g17 []) m_q t_q
  have m_q := xG.m (g17 []) m_q
  have z_42 := zn_
  obtain ⟨fs19, hfs19, hls19, hqs19⟩ := hQ_q
  refine g_putF C hH m_q hfs19 iX10 tyX10 tyX10_ok nmX10 rfl 2 (by decide) wd988 rfl rfl hnm rfl rfl rfl (by rw [hls19]; decide) (fs' := fs19.set 2 (.ref q12)) rfl dX10_init_15 (fun H locs hH => ?_)
  obtain ⟨f20, hH, hT, g21, e22⟩ := x_put hH hT List.mem_cons_self
  have hQ_q := tQ.put hls19 hqs19 e22 rfl (show tF _ _ (.inr (.inl 42)) _ from ⟨_, rfl, m_q12, t_q12⟩)
  have z_41 := isA_x z_41 g21 (by decide) (ty_Y t_q rfl)
  have z_42 := isA_x z_42 g21 (by decide) (ty_Y t_q rfl)
  refine lv_aload_n hx hb dX10_init_18 rfl (lv_at hl 0 rfl) ?_
  refine lv_sipush (v := (240 : Int32)) hx hb dX10_init_19 (by decide) ?_
  refine g_newa C hH hA 2 rfl (fun _ _ h => h) wd1176 rfl (N' := 240) (a0 := (240, (.inr (.inl (fun _ => 0))))) (avJ 240) (by decide) (by decide) (Nat.le_of_ble_eq_true rfl) (Nat.le_of_ble_eq_true rfl) (Nat.le_of_ble_eq_true rfl) dX10_init_22 (fun q23 H n24 hH => ?_)
  obtain ⟨L25, τ26, f27, hH, hT, g28, m_q23, t_q23, e_q23, o29⟩ := x_newa hH hT n24 43 td_43 (fun _ _ => ⟨_, rfl⟩)
  have hB : tB L25 τ26 44 := hB.new (g28 []) o29 t_q23
  have hQ_q := hQ_q.x (g28 []) m_q nm_0
  have z_41 := isA_x z_41 (g28 []) (by decide) (fun _ h => absurd h nm_0)
  have z_42 := isA_x z_42 (g28 []) (by decide) (fun _ h => absurd h nm_0)
  have t_q := xG.ty (g28 []) m_q t_q
  have m_q := xG.m (g28 []) m_q
  obtain ⟨fs30, hfs30, hls30, hqs30⟩ := hQ_q
  refine g_putF C hH m_q hfs30 iX10 tyX10 tyX10_ok nmX10 rfl 3 (by decide) wd989 rfl rfl hnm rfl rfl rfl (by rw [hls30]; decide) (fs' := fs30.set 3 (.ref q23)) rfl dX10_init_24 (fun H locs hH => ?_)
  obtain ⟨f31, hH, hT, g32, e33⟩ := x_put hH hT List.mem_cons_self
  have hQ_q := tQ.put hls30 hqs30 e33 rfl (show tF _ _ (.inr (.inl 43)) _ from ⟨_, rfl, m_q23, t_q23⟩)
  have z_41 := isA_x z_41 g32 (by decide) (ty_Y t_q rfl)
  have z_42 := isA_x z_42 g32 (by decide) (ty_Y t_q rfl)
  refine lv_aload_n hx hb dX10_init_27 rfl (lv_at hl 0 rfl) ?_
  refine lv_bipush (v := (60 : Int32)) hx hb dX10_init_28 (by decide) ?_
  refine g_newa C hH hA 2 rfl (fun _ _ h => h) wd1176 rfl (N' := 60) (a0 := (60, (.inr (.inl (fun _ => 0))))) (avJ 60) (by decide) (by decide) (Nat.le_of_ble_eq_true rfl) (Nat.le_of_ble_eq_true rfl) (Nat.le_of_ble_eq_true rfl) dX10_init_30 (fun q34 H n35 hH => ?_)
  obtain ⟨L36, τ37, f38, hH, hT, g39, m_q34, t_q34, e_q34, o40⟩ := x_newa hH hT n35 44 td_44 (fun _ _ => ⟨_, rfl⟩)
  have hB : tB L36 τ37 45 := hB.new (g39 []) o40 t_q34
  have hQ_q := hQ_q.x (g39 []) m_q nm_0
  have z_41 := isA_x z_41 (g39 []) (by decide) (fun _ h => absurd h nm_0)
  have z_42 := isA_x z_42 (g39 []) (by decide) (fun _ h => absurd h nm_0)
  have t_q := xG.ty (g39 []) m_q t_q
  have m_q := xG.m (g39 []) m_q
  obtain ⟨fs41, hfs41, hls41, hqs41⟩ := hQ_q
  refine g_putF C hH m_q hfs41 iX10 tyX10 tyX10_ok nmX10 rfl 4 (by decide) wd1045 rfl rfl hnm rfl rfl rfl (by rw [hls41]; decide) (fs' := fs41.set 4 (.ref q34)) rfl dX10_init_32 (fun H locs hH => ?_)
  obtain ⟨f42, hH, hT, g43, e44⟩ := x_put hH hT List.mem_cons_self
  have hQ_q := tQ.put hls41 hqs41 e44 rfl (show tF _ _ (.inr (.inl 44)) _ from ⟨_, rfl, m_q34, t_q34⟩)
  have z_41 := isA_x z_41 g43 (by decide) (ty_Y t_q rfl)
  have z_42 := isA_x z_42 g43 (by decide) (ty_Y t_q rfl)
  refine lv_aload_n hx hb dX10_init_35 rfl (lv_at hl 0 rfl) ?_
  refine lv_sipush (v := (800 : Int32)) hx hb dX10_init_36 (by decide) ?_
  refine g_newa C hH hA 0 rfl (fun _ _ h => h) wd1174 rfl (N' := 800) (a0 := (800, (.inl (fun _ => 0)))) (avB 800) (by decide) (by decide) (Nat.le_of_ble_eq_true rfl) (Nat.le_of_ble_eq_true rfl) (Nat.le_of_ble_eq_true rfl) dX10_init_39 (fun q45 H n46 hH => ?_)
  obtain ⟨L47, τ48, f49, hH, hT, g50, m_q45, t_q45, e_q45, o51⟩ := x_newa hH hT n46 45 td_45 (fun _ _ => ⟨_, rfl, trivial⟩)
  have hB : tB L47 τ48 46 := hB.new (g50 []) o51 t_q45
  have hQ_q := hQ_q.x (g50 []) m_q nm_0
  have z_41 := isA_x z_41 (g50 []) (by decide) (fun _ h => absurd h nm_0)
  have z_42 := isA_x z_42 (g50 []) (by decide) (fun _ h => absurd h nm_0)
  have t_q := xG.ty (g50 []) m_q t_q
  have m_q := xG.m (g50 []) m_q
  obtain ⟨fs52, hfs52, hls52, hqs52⟩ := hQ_q
  refine g_putF C hH m_q hfs52 iX10 tyX10 tyX10_ok nmX10 rfl 5 (by decide) wd1046 rfl rfl hnm rfl rfl rfl (by rw [hls52]; decide) (fs' := fs52.set 5 (.ref q45)) rfl dX10_init_41 (fun H locs hH => ?_)
  obtain ⟨f53, hH, hT, g54, e55⟩ := x_put hH hT List.mem_cons_self
  have hQ_q := tQ.put hls52 hqs52 e55 rfl (show tF _ _ (.inr (.inl 45)) _ from ⟨_, rfl, m_q45, t_q45⟩)
  have z_41 := isA_x z_41 g54 (by decide) (ty_Y t_q rfl)
  have z_42 := isA_x z_42 g54 (by decide) (ty_Y t_q rfl)
  refine lv_aload_n hx hb dX10_init_44 rfl (lv_at hl 0 rfl) ?_
  refine lv_iconst (v := (-1 : Int32)) hx hb dX10_init_45 (by decide) ?_
  obtain ⟨fs56, hfs56, hls56, hqs56⟩ := hQ_q
  refine g_put C hH m_q hfs56 iX10 tyX10 tyX10_ok nmX10 rfl 15 (by decide) wd920 rfl rfl rfl rfl (by rw [hls56]; decide) (fs' := fs56.set 15 (.int (-1 : Int32))) rfl dX10_init_46 (fun H locs hH => ?_)
  obtain ⟨f57, hH, hT, g58, e59⟩ := x_put hH hT List.mem_cons_self
  have hQ_q := tQ.put hls56 hqs56 e59 rfl (show tF _ _ (.inl ((-2147483648), 2147483647)) _ from ⟨_, rfl, rg_w rl_m1 (by decide)⟩)
  have z_41 := isA_x z_41 g58 (by decide) (ty_Y t_q rfl)
  have z_42 := isA_x z_42 g58 (by decide) (ty_Y t_q rfl)
  refine lv_aload_n hx hb dX10_init_49 rfl (lv_at hl 0 rfl) ?_
  refine lv_iconst (v := (5 : Int32)) hx hb dX10_init_50 (by decide) ?_
  refine g_newa C hH hA 1 rfl (fun _ _ h => h) wd1172 rfl (N' := 5) (a0 := (5, (.inl (fun _ => 0)))) (avI 5) (by decide) (by decide) (Nat.le_of_ble_eq_true rfl) (Nat.le_of_ble_eq_true rfl) (Nat.le_of_ble_eq_true rfl) dX10_init_51 (fun q60 H n61 hH => ?_)
  obtain ⟨L62, τ63, f64, hH, hT, g65, m_q60, t_q60, e_q60, o66⟩ := x_newa hH hT n61 46 td_46 (fun _ _ => ⟨_, rfl, trivial⟩)
  have zn_ : isA E L62 τ63 f64 46 5 (fun _ => 0) := isA_nn (fun b hb => Nat.ne_of_lt (hB.1 b hb)) (g65 []) o66 e_q60
  have hB : tB L62 τ63 47 := hB.new (g65 []) o66 t_q60
  have hQ_q := hQ_q.x (g65 []) m_q nm_0
  have z_41 := isA_x z_41 (g65 []) (by decide) (fun _ h => absurd h nm_0)
  have z_42 := isA_x z_42 (g65 []) (by decide) (fun _ h => absurd h nm_0)
  have t_q := xG.ty (g65 []) m_q t_q
  have m_q := xG.m (g65 []) m_q
  have z_46 := zn_
  obtain ⟨fs67, hfs67, hls67, hqs67⟩ := hQ_q
  refine g_putF C hH m_q hfs67 iX10 tyX10 tyX10_ok nmX10 rfl 16 (by decide) wd748 rfl rfl hnm rfl rfl rfl (by rw [hls67]; decide) (fs' := fs67.set 16 (.ref q60)) rfl dX10_init_53 (fun H locs hH => ?_)
  obtain ⟨f68, hH, hT, g69, e70⟩ := x_put hH hT List.mem_cons_self
  have hQ_q := tQ.put hls67 hqs67 e70 rfl (show tF _ _ (.inr (.inl 46)) _ from ⟨_, rfl, m_q60, t_q60⟩)
  have z_41 := isA_x z_41 g69 (by decide) (ty_Y t_q rfl)
  have z_42 := isA_x z_42 g69 (by decide) (ty_Y t_q rfl)
  have z_46 := isA_x z_46 g69 (by decide) (ty_Y t_q rfl)
  refine lv_aload_n hx hb dX10_init_56 rfl (lv_at hl 0 rfl) ?_
  refine lv_bipush (v := (45 : Int32)) hx hb dX10_init_57 (by decide) ?_
  refine g_newa C hH hA 1 rfl (fun _ _ h => h) wd1172 rfl (N' := 45) (a0 := (45, (.inl (fun _ => 0)))) (avI 45) (by decide) (by decide) (Nat.le_of_ble_eq_true rfl) (Nat.le_of_ble_eq_true rfl) (Nat.le_of_ble_eq_true rfl) dX10_init_59 (fun q71 H n72 hH => ?_)
  obtain ⟨L73, τ74, f75, hH, hT, g76, m_q71, t_q71, e_q71, o77⟩ := x_newa hH hT n72 47 td_47 (fun _ _ => ⟨_, rfl, hasP_z⟩)
  have zn_ : isA E L73 τ74 f75 47 45 (fun _ => 0) := isA_nn (fun b hb => Nat.ne_of_lt (hB.1 b hb)) (g76 []) o77 e_q71
  have hB : tB L73 τ74 48 := hB.new (g76 []) o77 t_q71
  have hQ_q := hQ_q.x (g76 []) m_q nm_0
  have z_41 := isA_x z_41 (g76 []) (by decide) (fun _ h => absurd h nm_0)
  have z_42 := isA_x z_42 (g76 []) (by decide) (fun _ h => absurd h nm_0)
  have z_46 := isA_x z_46 (g76 []) (by decide) (fun _ h => absurd h nm_0)
  have t_q := xG.ty (g76 []) m_q t_q
  have m_q := xG.m (g76 []) m_q
  have z_47 := zn_
  obtain ⟨fs78, hfs78, hls78, hqs78⟩ := hQ_q
  refine g_putF C hH m_q hfs78 iX10 tyX10 tyX10_ok nmX10 rfl 17 (by decide) wd747 rfl rfl hnm rfl rfl rfl (by rw [hls78]; decide) (fs' := fs78.set 17 (.ref q71)) rfl dX10_init_61 (fun H locs hH => ?_)
  obtain ⟨f79, hH, hT, g80, e81⟩ := x_put hH hT List.mem_cons_self
  have hQ_q := tQ.put hls78 hqs78 e81 rfl (show tF _ _ (.inr (.inl 47)) _ from ⟨_, rfl, m_q71, t_q71⟩)
  have z_41 := isA_x z_41 g80 (by decide) (ty_Y t_q rfl)
  have z_42 := isA_x z_42 g80 (by decide) (ty_Y t_q rfl)
  have z_46 := isA_x z_46 g80 (by decide) (ty_Y t_q rfl)
  have z_47 := isA_x z_47 g80 (by decide) (ty_Y t_q rfl)
  refine lv_aload_n hx hb dX10_init_64 rfl (lv_at hl 0 rfl) ?_
  refine lv_bipush (v := (60 : Int32)) hx hb dX10_init_65 (by decide) ?_
  refine g_newa C hH hA 1 rfl (fun _ _ h => h) wd1172 rfl (N' := 60) (a0 := (60, (.inl (fun _ => 0)))) (avI 60) (by decide) (by decide) (Nat.le_of_ble_eq_true rfl) (Nat.le_of_ble_eq_true rfl) (Nat.le_of_ble_eq_true rfl) dX10_init_67 (fun q82 H n83 hH => ?_)
  obtain ⟨L84, τ85, f86, hH, hT, g87, m_q82, t_q82, e_q82, o88⟩ := x_newa hH hT n83 48 td_48 (fun _ _ => ⟨_, rfl, trivial⟩)
  have hB : tB L84 τ85 49 := hB.new (g87 []) o88 t_q82
  have hQ_q := hQ_q.x (g87 []) m_q nm_0
  have z_41 := isA_x z_41 (g87 []) (by decide) (fun _ h => absurd h nm_0)
  have z_42 := isA_x z_42 (g87 []) (by decide) (fun _ h => absurd h nm_0)
  have z_46 := isA_x z_46 (g87 []) (by decide) (fun _ h => absurd h nm_0)
  have z_47 := isA_x z_47 (g87 []) (by decide) (fun _ h => absurd h nm_0)
  have t_q := xG.ty (g87 []) m_q t_q
  have m_q := xG.m (g87 []) m_q
  obtain ⟨fs89, hfs89, hls89, hqs89⟩ := hQ_q
  refine g_putF C hH m_q hfs89 iX10 tyX10 tyX10_ok nmX10 rfl 18 (by decide) wd773 rfl rfl hnm rfl rfl rfl (by rw [hls89]; decide) (fs' := fs89.set 18 (.ref q82)) rfl dX10_init_69 (fun H locs hH => ?_)
  obtain ⟨f90, hH, hT, g91, e92⟩ := x_put hH hT List.mem_cons_self
  have hQ_q := tQ.put hls89 hqs89 e92 rfl (show tF _ _ (.inr (.inl 48)) _ from ⟨_, rfl, m_q82, t_q82⟩)
  have z_41 := isA_x z_41 g91 (by decide) (ty_Y t_q rfl)
  have z_42 := isA_x z_42 g91 (by decide) (ty_Y t_q rfl)
  have z_46 := isA_x z_46 g91 (by decide) (ty_Y t_q rfl)
  have z_47 := isA_x z_47 g91 (by decide) (ty_Y t_q rfl)
  refine lv_aload_n hx hb dX10_init_72 rfl (lv_at hl 0 rfl) ?_
  refine lv_bipush (v := (90 : Int32)) hx hb dX10_init_73 (by decide) ?_
  refine g_newa C hH hA 1 rfl (fun _ _ h => h) wd1172 rfl (N' := 90) (a0 := (90, (.inl (fun _ => 0)))) (avI 90) (by decide) (by decide) (Nat.le_of_ble_eq_true rfl) (Nat.le_of_ble_eq_true rfl) (Nat.le_of_ble_eq_true rfl) dX10_init_75 (fun q93 H n94 hH => ?_)
  obtain ⟨L95, τ96, f97, hH, hT, g98, m_q93, t_q93, e_q93, o99⟩ := x_newa hH hT n94 49 td_49 (fun _ _ => ⟨_, rfl, memP_z⟩)
  have hB : tB L95 τ96 50 := hB.new (g98 []) o99 t_q93
  have hQ_q := hQ_q.x (g98 []) m_q nm_0
  have z_41 := isA_x z_41 (g98 []) (by decide) (fun _ h => absurd h nm_0)
  have z_42 := isA_x z_42 (g98 []) (by decide) (fun _ h => absurd h nm_0)
  have z_46 := isA_x z_46 (g98 []) (by decide) (fun _ h => absurd h nm_0)
  have z_47 := isA_x z_47 (g98 []) (by decide) (fun _ h => absurd h nm_0)
  have t_q := xG.ty (g98 []) m_q t_q
  have m_q := xG.m (g98 []) m_q
  obtain ⟨fs100, hfs100, hls100, hqs100⟩ := hQ_q
  refine g_putF C hH m_q hfs100 iX10 tyX10 tyX10_ok nmX10 rfl 19 (by decide) wd818 rfl rfl hnm rfl rfl rfl (by rw [hls100]; decide) (fs' := fs100.set 19 (.ref q93)) rfl dX10_init_77 (fun H locs hH => ?_)
  obtain ⟨f101, hH, hT, g102, e103⟩ := x_put hH hT List.mem_cons_self
  have hQ_q := tQ.put hls100 hqs100 e103 rfl (show tF _ _ (.inr (.inl 49)) _ from ⟨_, rfl, m_q93, t_q93⟩)
  have z_41 := isA_x z_41 g102 (by decide) (ty_Y t_q rfl)
  have z_42 := isA_x z_42 g102 (by decide) (ty_Y t_q rfl)
  have z_46 := isA_x z_46 g102 (by decide) (ty_Y t_q rfl)
  have z_47 := isA_x z_47 g102 (by decide) (ty_Y t_q rfl)
  refine lv_aload_n hx hb dX10_init_80 rfl (lv_at hl 0 rfl) ?_
  refine lv_sipush (v := (600 : Int32)) hx hb dX10_init_81 (by decide) ?_
  refine g_newa C hH hA 1 rfl (fun _ _ h => h) wd1172 rfl (N' := 600) (a0 := (600, (.inl (fun _ => 0)))) (avI 600) (by decide) (by decide) (Nat.le_of_ble_eq_true rfl) (Nat.le_of_ble_eq_true rfl) (Nat.le_of_ble_eq_true rfl) dX10_init_84 (fun q104 H n105 hH => ?_)
  obtain ⟨L106, τ107, f108, hH, hT, g109, m_q104, t_q104, e_q104, o110⟩ := x_newa hH hT n105 50 td_50 (fun _ _ => ⟨_, rfl, actP_z⟩)
  have hB : tB L106 τ107 51 := hB.new (g109 []) o110 t_q104
  have hQ_q := hQ_q.x (g109 []) m_q nm_0
  have z_41 := isA_x z_41 (g109 []) (by decide) (fun _ h => absurd h nm_0)
  have z_42 := isA_x z_42 (g109 []) (by decide) (fun _ h => absurd h nm_0)
  have z_46 := isA_x z_46 (g109 []) (by decide) (fun _ h => absurd h nm_0)
  have z_47 := isA_x z_47 (g109 []) (by decide) (fun _ h => absurd h nm_0)
  have t_q := xG.ty (g109 []) m_q t_q
  have m_q := xG.m (g109 []) m_q
  obtain ⟨fs111, hfs111, hls111, hqs111⟩ := hQ_q
  refine g_putF C hH m_q hfs111 iX10 tyX10 tyX10_ok nmX10 rfl 20 (by decide) wd770 rfl rfl hnm rfl rfl rfl (by rw [hls111]; decide) (fs' := fs111.set 20 (.ref q104)) rfl dX10_init_86 (fun H locs hH => ?_)
  obtain ⟨f112, hH, hT, g113, e114⟩ := x_put hH hT List.mem_cons_self
  have hQ_q := tQ.put hls111 hqs111 e114 rfl (show tF _ _ (.inr (.inl 50)) _ from ⟨_, rfl, m_q104, t_q104⟩)
  have z_41 := isA_x z_41 g113 (by decide) (ty_Y t_q rfl)
  have z_42 := isA_x z_42 g113 (by decide) (ty_Y t_q rfl)
  have z_46 := isA_x z_46 g113 (by decide) (ty_Y t_q rfl)
  have z_47 := isA_x z_47 g113 (by decide) (ty_Y t_q rfl)
  refine lv_aload_n hx hb dX10_init_89 rfl (lv_at hl 0 rfl) ?_
  refine lv_iconst (v := (3 : Int32)) hx hb dX10_init_90 (by decide) ?_
  refine g_newa C hH hA 3 rfl (fun _ _ h => h) wd1223 rfl (N' := 3) (a0 := (3, (.inl (fun _ => 0)))) (avZ 3) (by decide) (by decide) (Nat.le_of_ble_eq_true rfl) (Nat.le_of_ble_eq_true rfl) (Nat.le_of_ble_eq_true rfl) dX10_init_91 (fun q115 H n116 hH => ?_)
  obtain ⟨L117, τ118, f119, hH, hT, g120, m_q115, t_q115, e_q115, o121⟩ := x_newa hH hT n116 51 td_51 (fun _ _ => ⟨_, rfl, trivial⟩)
  have hB : tB L117 τ118 52 := hB.new (g120 []) o121 t_q115
  have hQ_q := hQ_q.x (g120 []) m_q nm_0
  have z_41 := isA_x z_41 (g120 []) (by decide) (fun _ h => absurd h nm_0)
  have z_42 := isA_x z_42 (g120 []) (by decide) (fun _ h => absurd h nm_0)
  have z_46 := isA_x z_46 (g120 []) (by decide) (fun _ h => absurd h nm_0)
  have z_47 := isA_x z_47 (g120 []) (by decide) (fun _ h => absurd h nm_0)
  have t_q := xG.ty (g120 []) m_q t_q
  have m_q := xG.m (g120 []) m_q
  obtain ⟨fs122, hfs122, hls122, hqs122⟩ := hQ_q
  refine g_putF C hH m_q hfs122 iX10 tyX10 tyX10_ok nmX10 rfl 21 (by decide) wd1036 rfl rfl hnm rfl rfl rfl (by rw [hls122]; decide) (fs' := fs122.set 21 (.ref q115)) rfl dX10_init_93 (fun H locs hH => ?_)
  obtain ⟨f123, hH, hT, g124, e125⟩ := x_put hH hT List.mem_cons_self
  have hQ_q := tQ.put hls122 hqs122 e125 rfl (show tF _ _ (.inr (.inl 51)) _ from ⟨_, rfl, m_q115, t_q115⟩)
  have z_41 := isA_x z_41 g124 (by decide) (ty_Y t_q rfl)
  have z_42 := isA_x z_42 g124 (by decide) (ty_Y t_q rfl)
  have z_46 := isA_x z_46 g124 (by decide) (ty_Y t_q rfl)
  have z_47 := isA_x z_47 g124 (by decide) (ty_Y t_q rfl)
  refine lv_aload_n hx hb dX10_init_96 rfl (lv_at hl 0 rfl) ?_
  refine lv_iconst (v := (5 : Int32)) hx hb dX10_init_97 (by decide) ?_
  refine g_newa C hH hA 1 rfl (fun _ _ h => h) wd1172 rfl (N' := 5) (a0 := (5, (.inl (fun _ => 0)))) (avI 5) (by decide) (by decide) (Nat.le_of_ble_eq_true rfl) (Nat.le_of_ble_eq_true rfl) (Nat.le_of_ble_eq_true rfl) dX10_init_98 (fun q126 H n127 hH => ?_)
  obtain ⟨L128, τ129, f130, hH, hT, g131, m_q126, t_q126, e_q126, o132⟩ := x_newa hH hT n127 52 td_52 (fun _ _ => ⟨_, rfl, trivial⟩)
  have hB : tB L128 τ129 53 := hB.new (g131 []) o132 t_q126
  have hQ_q := hQ_q.x (g131 []) m_q nm_0
  have z_41 := isA_x z_41 (g131 []) (by decide) (fun _ h => absurd h nm_0)
  have z_42 := isA_x z_42 (g131 []) (by decide) (fun _ h => absurd h nm_0)
  have z_46 := isA_x z_46 (g131 []) (by decide) (fun _ h => absurd h nm_0)
  have z_47 := isA_x z_47 (g131 []) (by decide) (fun _ h => absurd h nm_0)
  have t_q := xG.ty (g131 []) m_q t_q
  have m_q := xG.m (g131 []) m_q
  obtain ⟨fs133, hfs133, hls133, hqs133⟩ := hQ_q
  refine g_putF C hH m_q hfs133 iX10 tyX10 tyX10_ok nmX10 rfl 25 (by decide) wd772 rfl rfl hnm rfl rfl rfl (by rw [hls133]; decide) (fs' := fs133.set 25 (.ref q126)) rfl dX10_init_100 (fun H locs hH => ?_)
  obtain ⟨f134, hH, hT, g135, e136⟩ := x_put hH hT List.mem_cons_self
  have hQ_q := tQ.put hls133 hqs133 e136 rfl (show tF _ _ (.inr (.inl 52)) _ from ⟨_, rfl, m_q126, t_q126⟩)
  have z_41 := isA_x z_41 g135 (by decide) (ty_Y t_q rfl)
  have z_42 := isA_x z_42 g135 (by decide) (ty_Y t_q rfl)
  have z_46 := isA_x z_46 g135 (by decide) (ty_Y t_q rfl)
  have z_47 := isA_x z_47 g135 (by decide) (ty_Y t_q rfl)
  refine lv_aload_n hx hb dX10_init_103 rfl (lv_at hl 0 rfl) ?_
  refine lv_sipush (v := (205 : Int32)) hx hb dX10_init_104 (by decide) ?_
  refine g_newa C hH hA 1 rfl (fun _ _ h => h) wd1172 rfl (N' := 205) (a0 := (205, (.inl (fun _ => 0)))) (avI 205) (by decide) (by decide) (Nat.le_of_ble_eq_true rfl) (Nat.le_of_ble_eq_true rfl) (Nat.le_of_ble_eq_true rfl) dX10_init_107 (fun q137 H n138 hH => ?_)
  obtain ⟨L139, τ140, f141, hH, hT, g142, m_q137, t_q137, e_q137, o143⟩ := x_newa hH hT n138 53 td_53 (fun _ _ => ⟨_, rfl, trivial⟩)
  have hB : tB L139 τ140 54 := hB.new (g142 []) o143 t_q137
  have hQ_q := hQ_q.x (g142 []) m_q nm_0
  have z_41 := isA_x z_41 (g142 []) (by decide) (fun _ h => absurd h nm_0)
  have z_42 := isA_x z_42 (g142 []) (by decide) (fun _ h => absurd h nm_0)
  have z_46 := isA_x z_46 (g142 []) (by decide) (fun _ h => absurd h nm_0)
  have z_47 := isA_x z_47 (g142 []) (by decide) (fun _ h => absurd h nm_0)
  have t_q := xG.ty (g142 []) m_q t_q
  have m_q := xG.m (g142 []) m_q
  obtain ⟨fs144, hfs144, hls144, hqs144⟩ := hQ_q
  refine g_putF C hH m_q hfs144 iX10 tyX10 tyX10_ok nmX10 rfl 26 (by decide) wd780 rfl rfl hnm rfl rfl rfl (by rw [hls144]; decide) (fs' := fs144.set 26 (.ref q137)) rfl dX10_init_109 (fun H locs hH => ?_)
  obtain ⟨f145, hH, hT, g146, e147⟩ := x_put hH hT List.mem_cons_self
  have hQ_q := tQ.put hls144 hqs144 e147 rfl (show tF _ _ (.inr (.inl 53)) _ from ⟨_, rfl, m_q137, t_q137⟩)
  have z_41 := isA_x z_41 g146 (by decide) (ty_Y t_q rfl)
  have z_42 := isA_x z_42 g146 (by decide) (ty_Y t_q rfl)
  have z_46 := isA_x z_46 g146 (by decide) (ty_Y t_q rfl)
  have z_47 := isA_x z_47 g146 (by decide) (ty_Y t_q rfl)
  refine lv_aload_n hx hb dX10_init_112 rfl (lv_at hl 0 rfl) ?_
  refine lv_sipush (v := (205 : Int32)) hx hb dX10_init_113 (by decide) ?_
  refine g_newa C hH hA 1 rfl (fun _ _ h => h) wd1172 rfl (N' := 205) (a0 := (205, (.inl (fun _ => 0)))) (avI 205) (by decide) (by decide) (Nat.le_of_ble_eq_true rfl) (Nat.le_of_ble_eq_true rfl) (Nat.le_of_ble_eq_true rfl) dX10_init_116 (fun q148 H n149 hH => ?_)
  obtain ⟨L150, τ151, f152, hH, hT, g153, m_q148, t_q148, e_q148, o154⟩ := x_newa hH hT n149 54 td_54 (fun _ _ => ⟨_, rfl, trivial⟩)
  have hB : tB L150 τ151 55 := hB.new (g153 []) o154 t_q148
  have hQ_q := hQ_q.x (g153 []) m_q nm_0
  have z_41 := isA_x z_41 (g153 []) (by decide) (fun _ h => absurd h nm_0)
  have z_42 := isA_x z_42 (g153 []) (by decide) (fun _ h => absurd h nm_0)
  have z_46 := isA_x z_46 (g153 []) (by decide) (fun _ h => absurd h nm_0)
  have z_47 := isA_x z_47 (g153 []) (by decide) (fun _ h => absurd h nm_0)
  have t_q := xG.ty (g153 []) m_q t_q
  have m_q := xG.m (g153 []) m_q
  obtain ⟨fs155, hfs155, hls155, hqs155⟩ := hQ_q
  refine g_putF C hH m_q hfs155 iX10 tyX10 tyX10_ok nmX10 rfl 27 (by decide) wd775 rfl rfl hnm rfl rfl rfl (by rw [hls155]; decide) (fs' := fs155.set 27 (.ref q148)) rfl dX10_init_118 (fun H locs hH => ?_)
  obtain ⟨f156, hH, hT, g157, e158⟩ := x_put hH hT List.mem_cons_self
  have hQ_q := tQ.put hls155 hqs155 e158 rfl (show tF _ _ (.inr (.inl 54)) _ from ⟨_, rfl, m_q148, t_q148⟩)
  have z_41 := isA_x z_41 g157 (by decide) (ty_Y t_q rfl)
  have z_42 := isA_x z_42 g157 (by decide) (ty_Y t_q rfl)
  have z_46 := isA_x z_46 g157 (by decide) (ty_Y t_q rfl)
  have z_47 := isA_x z_47 g157 (by decide) (ty_Y t_q rfl)
  refine lv_aload_n hx hb dX10_init_121 rfl (lv_at hl 0 rfl) ?_
  refine lv_iconst (v := (5 : Int32)) hx hb dX10_init_122 (by decide) ?_
  refine g_newa C hH hA 1 rfl (fun _ _ h => h) wd1172 rfl (N' := 5) (a0 := (5, (.inl (fun _ => 0)))) (avI 5) (by decide) (by decide) (Nat.le_of_ble_eq_true rfl) (Nat.le_of_ble_eq_true rfl) (Nat.le_of_ble_eq_true rfl) dX10_init_123 (fun q159 H n160 hH => ?_)
  obtain ⟨L161, τ162, f163, hH, hT, g164, m_q159, t_q159, e_q159, o165⟩ := x_newa hH hT n160 55 td_55 (fun _ _ => ⟨_, rfl, trivial⟩)
  have hB : tB L161 τ162 56 := hB.new (g164 []) o165 t_q159
  have hQ_q := hQ_q.x (g164 []) m_q nm_0
  have z_41 := isA_x z_41 (g164 []) (by decide) (fun _ h => absurd h nm_0)
  have z_42 := isA_x z_42 (g164 []) (by decide) (fun _ h => absurd h nm_0)
  have z_46 := isA_x z_46 (g164 []) (by decide) (fun _ h => absurd h nm_0)
  have z_47 := isA_x z_47 (g164 []) (by decide) (fun _ h => absurd h nm_0)
  have t_q := xG.ty (g164 []) m_q t_q
  have m_q := xG.m (g164 []) m_q
  obtain ⟨fs166, hfs166, hls166, hqs166⟩ := hQ_q
  refine g_putF C hH m_q hfs166 iX10 tyX10 tyX10_ok nmX10 rfl 28 (by decide) wd788 rfl rfl hnm rfl rfl rfl (by rw [hls166]; decide) (fs' := fs166.set 28 (.ref q159)) rfl dX10_init_125 (fun H locs hH => ?_)
  obtain ⟨f167, hH, hT, g168, e169⟩ := x_put hH hT List.mem_cons_self
  have hQ_q := tQ.put hls166 hqs166 e169 rfl (show tF _ _ (.inr (.inl 55)) _ from ⟨_, rfl, m_q159, t_q159⟩)
  have z_41 := isA_x z_41 g168 (by decide) (ty_Y t_q rfl)
  have z_42 := isA_x z_42 g168 (by decide) (ty_Y t_q rfl)
  have z_46 := isA_x z_46 g168 (by decide) (ty_Y t_q rfl)
  have z_47 := isA_x z_47 g168 (by decide) (ty_Y t_q rfl)
  refine lv_aload_n hx hb dX10_init_128 rfl (lv_at hl 0 rfl) ?_
  refine lv_bipush (v := (20 : Int32)) hx hb dX10_init_129 (by decide) ?_
  refine g_newa C hH hA 1 rfl (fun _ _ h => h) wd1172 rfl (N' := 20) (a0 := (20, (.inl (fun _ => 0)))) (avI 20) (by decide) (by decide) (Nat.le_of_ble_eq_true rfl) (Nat.le_of_ble_eq_true rfl) (Nat.le_of_ble_eq_true rfl) dX10_init_131 (fun q170 H n171 hH => ?_)
  obtain ⟨L172, τ173, f174, hH, hT, g175, m_q170, t_q170, e_q170, o176⟩ := x_newa hH hT n171 56 td_56 (fun _ _ => ⟨_, rfl, trivial⟩)
  have hB : tB L172 τ173 57 := hB.new (g175 []) o176 t_q170
  have hQ_q := hQ_q.x (g175 []) m_q nm_0
  have z_41 := isA_x z_41 (g175 []) (by decide) (fun _ h => absurd h nm_0)
  have z_42 := isA_x z_42 (g175 []) (by decide) (fun _ h => absurd h nm_0)
  have z_46 := isA_x z_46 (g175 []) (by decide) (fun _ h => absurd h nm_0)
  have z_47 := isA_x z_47 (g175 []) (by decide) (fun _ h => absurd h nm_0)
  have t_q := xG.ty (g175 []) m_q t_q
  have m_q := xG.m (g175 []) m_q
  obtain ⟨fs177, hfs177, hls177, hqs177⟩ := hQ_q
  refine g_putF C hH m_q hfs177 iX10 tyX10 tyX10_ok nmX10 rfl 29 (by decide) wd797 rfl rfl hnm rfl rfl rfl (by rw [hls177]; decide) (fs' := fs177.set 29 (.ref q170)) rfl dX10_init_133 (fun H locs hH => ?_)
  obtain ⟨f178, hH, hT, g179, e180⟩ := x_put hH hT List.mem_cons_self
  have hQ_q := tQ.put hls177 hqs177 e180 rfl (show tF _ _ (.inr (.inl 56)) _ from ⟨_, rfl, m_q170, t_q170⟩)
  have z_41 := isA_x z_41 g179 (by decide) (ty_Y t_q rfl)
  have z_42 := isA_x z_42 g179 (by decide) (ty_Y t_q rfl)
  have z_46 := isA_x z_46 g179 (by decide) (ty_Y t_q rfl)
  have z_47 := isA_x z_47 g179 (by decide) (ty_Y t_q rfl)
  refine lv_aload_n hx hb dX10_init_136 rfl (lv_at hl 0 rfl) ?_
  refine lv_bipush (v := (64 : Int32)) hx hb dX10_init_137 (by decide) ?_
  refine g_newa C hH hA 1 rfl (fun _ _ h => h) wd1172 rfl (N' := 64) (a0 := (64, (.inl (fun _ => 0)))) (avI 64) (by decide) (by decide) (Nat.le_of_ble_eq_true rfl) (Nat.le_of_ble_eq_true rfl) (Nat.le_of_ble_eq_true rfl) dX10_init_139 (fun q181 H n182 hH => ?_)
  obtain ⟨L183, τ184, f185, hH, hT, g186, m_q181, t_q181, e_q181, o187⟩ := x_newa hH hT n182 57 td_57 (fun _ _ => ⟨_, rfl, trivial⟩)
  have hB : tB L183 τ184 58 := hB.new (g186 []) o187 t_q181
  have hQ_q := hQ_q.x (g186 []) m_q nm_0
  have z_41 := isA_x z_41 (g186 []) (by decide) (fun _ h => absurd h nm_0)
  have z_42 := isA_x z_42 (g186 []) (by decide) (fun _ h => absurd h nm_0)
  have z_46 := isA_x z_46 (g186 []) (by decide) (fun _ h => absurd h nm_0)
  have z_47 := isA_x z_47 (g186 []) (by decide) (fun _ h => absurd h nm_0)
  have t_q := xG.ty (g186 []) m_q t_q
  have m_q := xG.m (g186 []) m_q
  obtain ⟨fs188, hfs188, hls188, hqs188⟩ := hQ_q
  refine g_putF C hH m_q hfs188 iX10 tyX10 tyX10_ok nmX10 rfl 30 (by decide) wd922 rfl rfl hnm rfl rfl rfl (by rw [hls188]; decide) (fs' := fs188.set 30 (.ref q181)) rfl dX10_init_141 (fun H locs hH => ?_)
  obtain ⟨f189, hH, hT, g190, e191⟩ := x_put hH hT List.mem_cons_self
  have hQ_q := tQ.put hls188 hqs188 e191 rfl (show tF _ _ (.inr (.inl 57)) _ from ⟨_, rfl, m_q181, t_q181⟩)
  have z_41 := isA_x z_41 g190 (by decide) (ty_Y t_q rfl)
  have z_42 := isA_x z_42 g190 (by decide) (ty_Y t_q rfl)
  have z_46 := isA_x z_46 g190 (by decide) (ty_Y t_q rfl)
  have z_47 := isA_x z_47 g190 (by decide) (ty_Y t_q rfl)
  refine lv_aload_n hx hb dX10_init_144 rfl (lv_at hl 0 rfl) ?_
  refine lv_bipush (v := (64 : Int32)) hx hb dX10_init_145 (by decide) ?_
  refine g_newa C hH hA 1 rfl (fun _ _ h => h) wd1172 rfl (N' := 64) (a0 := (64, (.inl (fun _ => 0)))) (avI 64) (by decide) (by decide) (Nat.le_of_ble_eq_true rfl) (Nat.le_of_ble_eq_true rfl) (Nat.le_of_ble_eq_true rfl) dX10_init_147 (fun q192 H n193 hH => ?_)
  obtain ⟨L194, τ195, f196, hH, hT, g197, m_q192, t_q192, e_q192, o198⟩ := x_newa hH hT n193 58 td_58 (fun _ _ => ⟨_, rfl, trivial⟩)
  have hB : tB L194 τ195 59 := hB.new (g197 []) o198 t_q192
  have hQ_q := hQ_q.x (g197 []) m_q nm_0
  have z_41 := isA_x z_41 (g197 []) (by decide) (fun _ h => absurd h nm_0)
  have z_42 := isA_x z_42 (g197 []) (by decide) (fun _ h => absurd h nm_0)
  have z_46 := isA_x z_46 (g197 []) (by decide) (fun _ h => absurd h nm_0)
  have z_47 := isA_x z_47 (g197 []) (by decide) (fun _ h => absurd h nm_0)
  have t_q := xG.ty (g197 []) m_q t_q
  have m_q := xG.m (g197 []) m_q
  obtain ⟨fs199, hfs199, hls199, hqs199⟩ := hQ_q
  refine g_putF C hH m_q hfs199 iX10 tyX10 tyX10_ok nmX10 rfl 31 (by decide) wd923 rfl rfl hnm rfl rfl rfl (by rw [hls199]; decide) (fs' := fs199.set 31 (.ref q192)) rfl dX10_init_149 (fun H locs hH => ?_)
  obtain ⟨f200, hH, hT, g201, e202⟩ := x_put hH hT List.mem_cons_self
  have hQ_q := tQ.put hls199 hqs199 e202 rfl (show tF _ _ (.inr (.inl 58)) _ from ⟨_, rfl, m_q192, t_q192⟩)
  have z_41 := isA_x z_41 g201 (by decide) (ty_Y t_q rfl)
  have z_42 := isA_x z_42 g201 (by decide) (ty_Y t_q rfl)
  have z_46 := isA_x z_46 g201 (by decide) (ty_Y t_q rfl)
  have z_47 := isA_x z_47 g201 (by decide) (ty_Y t_q rfl)
  refine lv_aload_n hx hb dX10_init_152 rfl (lv_at hl 0 rfl) ?_
  refine lv_iconst (v := (4 : Int32)) hx hb dX10_init_153 (by decide) ?_
  refine g_newa C hH hA 1 rfl (fun _ _ h => h) wd1172 rfl (N' := 4) (a0 := (4, (.inl (fun _ => 0)))) (avI 4) (by decide) (by decide) (Nat.le_of_ble_eq_true rfl) (Nat.le_of_ble_eq_true rfl) (Nat.le_of_ble_eq_true rfl) dX10_init_154 (fun q203 H n204 hH => ?_)
  obtain ⟨L205, τ206, f207, hH, hT, g208, m_q203, t_q203, e_q203, o209⟩ := x_newa hH hT n204 59 td_59 (fun _ _ => ⟨_, rfl, trivial⟩)
  have hB : tB L205 τ206 60 := hB.new (g208 []) o209 t_q203
  have hQ_q := hQ_q.x (g208 []) m_q nm_0
  have z_41 := isA_x z_41 (g208 []) (by decide) (fun _ h => absurd h nm_0)
  have z_42 := isA_x z_42 (g208 []) (by decide) (fun _ h => absurd h nm_0)
  have z_46 := isA_x z_46 (g208 []) (by decide) (fun _ h => absurd h nm_0)
  have z_47 := isA_x z_47 (g208 []) (by decide) (fun _ h => absurd h nm_0)
  have t_q := xG.ty (g208 []) m_q t_q
  have m_q := xG.m (g208 []) m_q
  obtain ⟨fs210, hfs210, hls210, hqs210⟩ := hQ_q
  refine g_putF C hH m_q hfs210 iX10 tyX10 tyX10_ok nmX10 rfl 32 (by decide) wd928 rfl rfl hnm rfl rfl rfl (by rw [hls210]; decide) (fs' := fs210.set 32 (.ref q203)) rfl dX10_init_156 (fun H locs hH => ?_)
  obtain ⟨f211, hH, hT, g212, e213⟩ := x_put hH hT List.mem_cons_self
  have hQ_q := tQ.put hls210 hqs210 e213 rfl (show tF _ _ (.inr (.inl 59)) _ from ⟨_, rfl, m_q203, t_q203⟩)
  have z_41 := isA_x z_41 g212 (by decide) (ty_Y t_q rfl)
  have z_42 := isA_x z_42 g212 (by decide) (ty_Y t_q rfl)
  have z_46 := isA_x z_46 g212 (by decide) (ty_Y t_q rfl)
  have z_47 := isA_x z_47 g212 (by decide) (ty_Y t_q rfl)
  refine lv_aload_n hx hb dX10_init_159 rfl (lv_at hl 0 rfl) ?_
  refine lv_iconst (v := (4 : Int32)) hx hb dX10_init_160 (by decide) ?_
  refine g_newa C hH hA 1 rfl (fun _ _ h => h) wd1172 rfl (N' := 4) (a0 := (4, (.inl (fun _ => 0)))) (avI 4) (by decide) (by decide) (Nat.le_of_ble_eq_true rfl) (Nat.le_of_ble_eq_true rfl) (Nat.le_of_ble_eq_true rfl) dX10_init_161 (fun q214 H n215 hH => ?_)
  obtain ⟨L216, τ217, f218, hH, hT, g219, m_q214, t_q214, e_q214, o220⟩ := x_newa hH hT n215 60 td_60 (fun _ _ => ⟨_, rfl, tR_z (by decide)⟩)
  have hB : tB L216 τ217 61 := hB.new (g219 []) o220 t_q214
  have hQ_q := hQ_q.x (g219 []) m_q nm_0
  have z_41 := isA_x z_41 (g219 []) (by decide) (fun _ h => absurd h nm_0)
  have z_42 := isA_x z_42 (g219 []) (by decide) (fun _ h => absurd h nm_0)
  have z_46 := isA_x z_46 (g219 []) (by decide) (fun _ h => absurd h nm_0)
  have z_47 := isA_x z_47 (g219 []) (by decide) (fun _ h => absurd h nm_0)
  have t_q := xG.ty (g219 []) m_q t_q
  have m_q := xG.m (g219 []) m_q
  obtain ⟨fs221, hfs221, hls221, hqs221⟩ := hQ_q
  refine g_putF C hH m_q hfs221 iX10 tyX10 tyX10_ok nmX10 rfl 33 (by decide) wd929 rfl rfl hnm rfl rfl rfl (by rw [hls221]; decide) (fs' := fs221.set 33 (.ref q214)) rfl dX10_init_163 (fun H locs hH => ?_)
  obtain ⟨f222, hH, hT, g223, e224⟩ := x_put hH hT List.mem_cons_self
  have hQ_q := tQ.put hls221 hqs221 e224 rfl (show tF _ _ (.inr (.inl 60)) _ from ⟨_, rfl, m_q214, t_q214⟩)
  have z_41 := isA_x z_41 g223 (by decide) (ty_Y t_q rfl)
  have z_42 := isA_x z_42 g223 (by decide) (ty_Y t_q rfl)
  have z_46 := isA_x z_46 g223 (by decide) (ty_Y t_q rfl)
  have z_47 := isA_x z_47 g223 (by decide) (ty_Y t_q rfl)
  refine lv_aload_n hx hb dX10_init_166 rfl (lv_at hl 0 rfl) ?_
  refine lv_iconst (v := (4 : Int32)) hx hb dX10_init_167 (by decide) ?_
  refine g_newa C hH hA 1 rfl (fun _ _ h => h) wd1172 rfl (N' := 4) (a0 := (4, (.inl (fun _ => 0)))) (avI 4) (by decide) (by decide) (Nat.le_of_ble_eq_true rfl) (Nat.le_of_ble_eq_true rfl) (Nat.le_of_ble_eq_true rfl) dX10_init_168 (fun q225 H n226 hH => ?_)
  obtain ⟨L227, τ228, f229, hH, hT, g230, m_q225, t_q225, e_q225, o231⟩ := x_newa hH hT n226 61 td_61 (fun _ _ => ⟨_, rfl, trivial⟩)
  have hB : tB L227 τ228 62 := hB.new (g230 []) o231 t_q225
  have hQ_q := hQ_q.x (g230 []) m_q nm_0
  have z_41 := isA_x z_41 (g230 []) (by decide) (fun _ h => absurd h nm_0)
  have z_42 := isA_x z_42 (g230 []) (by decide) (fun _ h => absurd h nm_0)
  have z_46 := isA_x z_46 (g230 []) (by decide) (fun _ h => absurd h nm_0)
  have z_47 := isA_x z_47 (g230 []) (by decide) (fun _ h => absurd h nm_0)
  have t_q := xG.ty (g230 []) m_q t_q
  have m_q := xG.m (g230 []) m_q
  obtain ⟨fs232, hfs232, hls232, hqs232⟩ := hQ_q
  refine g_putF C hH m_q hfs232 iX10 tyX10 tyX10_ok nmX10 rfl 34 (by decide) wd924 rfl rfl hnm rfl rfl rfl (by rw [hls232]; decide) (fs' := fs232.set 34 (.ref q225)) rfl dX10_init_170 (fun H locs hH => ?_)
  obtain ⟨f233, hH, hT, g234, e235⟩ := x_put hH hT List.mem_cons_self
  have hQ_q := tQ.put hls232 hqs232 e235 rfl (show tF _ _ (.inr (.inl 61)) _ from ⟨_, rfl, m_q225, t_q225⟩)
  have z_41 := isA_x z_41 g234 (by decide) (ty_Y t_q rfl)
  have z_42 := isA_x z_42 g234 (by decide) (ty_Y t_q rfl)
  have z_46 := isA_x z_46 g234 (by decide) (ty_Y t_q rfl)
  have z_47 := isA_x z_47 g234 (by decide) (ty_Y t_q rfl)
  refine lv_aload_n hx hb dX10_init_173 rfl (lv_at hl 0 rfl) ?_
  refine lv_bipush (v := (42 : Int32)) hx hb dX10_init_174 (by decide) ?_
  refine g_newa C hH hA 1 rfl (fun _ _ h => h) wd1172 rfl (N' := 42) (a0 := (42, (.inl (fun _ => 0)))) (avI 42) (by decide) (by decide) (Nat.le_of_ble_eq_true rfl) (Nat.le_of_ble_eq_true rfl) (Nat.le_of_ble_eq_true rfl) dX10_init_176 (fun q236 H n237 hH => ?_)
  obtain ⟨L238, τ239, f240, hH, hT, g241, m_q236, t_q236, e_q236, o242⟩ := x_newa hH hT n237 62 td_62 (fun _ _ => ⟨_, rfl, trivial⟩)
  have hB : tB L238 τ239 63 := hB.new (g241 []) o242 t_q236
  have hQ_q := hQ_q.x (g241 []) m_q nm_0
  have z_41 := isA_x z_41 (g241 []) (by decide) (fun _ h => absurd h nm_0)
  have z_42 := isA_x z_42 (g241 []) (by decide) (fun _ h => absurd h nm_0)
  have z_46 := isA_x z_46 (g241 []) (by decide) (fun _ h => absurd h nm_0)
  have z_47 := isA_x z_47 (g241 []) (by decide) (fun _ h => absurd h nm_0)
  have t_q := xG.ty (g241 []) m_q t_q
  have m_q := xG.m (g241 []) m_q
  obtain ⟨fs243, hfs243, hls243, hqs243⟩ := hQ_q
  refine g_putF C hH m_q hfs243 iX10 tyX10 tyX10_ok nmX10 rfl 35 (by decide) wd1028 rfl rfl hnm rfl rfl rfl (by rw [hls243]; decide) (fs' := fs243.set 35 (.ref q236)) rfl dX10_init_178 (fun H locs hH => ?_)
  obtain ⟨f244, hH, hT, g245, e246⟩ := x_put hH hT List.mem_cons_self
  have hQ_q := tQ.put hls243 hqs243 e246 rfl (show tF _ _ (.inr (.inl 62)) _ from ⟨_, rfl, m_q236, t_q236⟩)
  have z_41 := isA_x z_41 g245 (by decide) (ty_Y t_q rfl)
  have z_42 := isA_x z_42 g245 (by decide) (ty_Y t_q rfl)
  have z_46 := isA_x z_46 g245 (by decide) (ty_Y t_q rfl)
  have z_47 := isA_x z_47 g245 (by decide) (ty_Y t_q rfl)
  refine lv_aload_n hx hb dX10_init_181 rfl (lv_at hl 0 rfl) ?_
  refine lv_bipush (v := (6 : Int32)) hx hb dX10_init_182 (by decide) ?_
  refine g_newa C hH hA 1 rfl (fun _ _ h => h) wd1172 rfl (N' := 6) (a0 := (6, (.inl (fun _ => 0)))) (avI 6) (by decide) (by decide) (Nat.le_of_ble_eq_true rfl) (Nat.le_of_ble_eq_true rfl) (Nat.le_of_ble_eq_true rfl) dX10_init_184 (fun q247 H n248 hH => ?_)
  obtain ⟨L249, τ250, f251, hH, hT, g252, m_q247, t_q247, e_q247, o253⟩ := x_newa hH hT n248 63 td_63 (fun _ _ => ⟨_, rfl, trivial⟩)
  have hB : tB L249 τ250 64 := hB.new (g252 []) o253 t_q247
  have hQ_q := hQ_q.x (g252 []) m_q nm_0
  have z_41 := isA_x z_41 (g252 []) (by decide) (fun _ h => absurd h nm_0)
  have z_42 := isA_x z_42 (g252 []) (by decide) (fun _ h => absurd h nm_0)
  have z_46 := isA_x z_46 (g252 []) (by decide) (fun _ h => absurd h nm_0)
  have z_47 := isA_x z_47 (g252 []) (by decide) (fun _ h => absurd h nm_0)
  have t_q := xG.ty (g252 []) m_q t_q
  have m_q := xG.m (g252 []) m_q
  obtain ⟨fs254, hfs254, hls254, hqs254⟩ := hQ_q
  refine g_putF C hH m_q hfs254 iX10 tyX10 tyX10_ok nmX10 rfl 38 (by decide) wd999 rfl rfl hnm rfl rfl rfl (by rw [hls254]; decide) (fs' := fs254.set 38 (.ref q247)) rfl dX10_init_186 (fun H locs hH => ?_)
  obtain ⟨f255, hH, hT, g256, e257⟩ := x_put hH hT List.mem_cons_self
  have hQ_q := tQ.put hls254 hqs254 e257 rfl (show tF _ _ (.inr (.inl 63)) _ from ⟨_, rfl, m_q247, t_q247⟩)
  have z_41 := isA_x z_41 g256 (by decide) (ty_Y t_q rfl)
  have z_42 := isA_x z_42 g256 (by decide) (ty_Y t_q rfl)
  have z_46 := isA_x z_46 g256 (by decide) (ty_Y t_q rfl)
  have z_47 := isA_x z_47 g256 (by decide) (ty_Y t_q rfl)
  refine lv_aload_n hx hb dX10_init_189 rfl (lv_at hl 0 rfl) ?_
  refine lv_bipush (v := (6 : Int32)) hx hb dX10_init_190 (by decide) ?_
  refine g_newa C hH hA 1 rfl (fun _ _ h => h) wd1172 rfl (N' := 6) (a0 := (6, (.inl (fun _ => 0)))) (avI 6) (by decide) (by decide) (Nat.le_of_ble_eq_true rfl) (Nat.le_of_ble_eq_true rfl) (Nat.le_of_ble_eq_true rfl) dX10_init_192 (fun q258 H n259 hH => ?_)
  obtain ⟨L260, τ261, f262, hH, hT, g263, m_q258, t_q258, e_q258, o264⟩ := x_newa hH hT n259 64 td_64 (fun _ _ => ⟨_, rfl, tR_z (by decide)⟩)
  have hB : tB L260 τ261 65 := hB.new (g263 []) o264 t_q258
  have hQ_q := hQ_q.x (g263 []) m_q nm_0
  have z_41 := isA_x z_41 (g263 []) (by decide) (fun _ h => absurd h nm_0)
  have z_42 := isA_x z_42 (g263 []) (by decide) (fun _ h => absurd h nm_0)
  have z_46 := isA_x z_46 (g263 []) (by decide) (fun _ h => absurd h nm_0)
  have z_47 := isA_x z_47 (g263 []) (by decide) (fun _ h => absurd h nm_0)
  have t_q := xG.ty (g263 []) m_q t_q
  have m_q := xG.m (g263 []) m_q
  obtain ⟨fs265, hfs265, hls265, hqs265⟩ := hQ_q
  refine g_putF C hH m_q hfs265 iX10 tyX10 tyX10_ok nmX10 rfl 41 (by decide) wd853 rfl rfl hnm rfl rfl rfl (by rw [hls265]; decide) (fs' := fs265.set 41 (.ref q258)) rfl dX10_init_194 (fun H locs hH => ?_)
  obtain ⟨f266, hH, hT, g267, e268⟩ := x_put hH hT List.mem_cons_self
  have hQ_q := tQ.put hls265 hqs265 e268 rfl (show tF _ _ (.inr (.inl 64)) _ from ⟨_, rfl, m_q258, t_q258⟩)
  have z_41 := isA_x z_41 g267 (by decide) (ty_Y t_q rfl)
  have z_42 := isA_x z_42 g267 (by decide) (ty_Y t_q rfl)
  have z_46 := isA_x z_46 g267 (by decide) (ty_Y t_q rfl)
  have z_47 := isA_x z_47 g267 (by decide) (ty_Y t_q rfl)
  refine lv_aload_n hx hb dX10_init_197 rfl (lv_at hl 0 rfl) ?_
  refine lv_bipush (v := (6 : Int32)) hx hb dX10_init_198 (by decide) ?_
  refine g_newa C hH hA 1 rfl (fun _ _ h => h) wd1172 rfl (N' := 6) (a0 := (6, (.inl (fun _ => 0)))) (avI 6) (by decide) (by decide) (Nat.le_of_ble_eq_true rfl) (Nat.le_of_ble_eq_true rfl) (Nat.le_of_ble_eq_true rfl) dX10_init_200 (fun q269 H n270 hH => ?_)
  obtain ⟨L271, τ272, f273, hH, hT, g274, m_q269, t_q269, e_q269, o275⟩ := x_newa hH hT n270 65 td_65 (fun _ _ => ⟨_, rfl, trivial⟩)
  have hB : tB L271 τ272 66 := hB.new (g274 []) o275 t_q269
  have hQ_q := hQ_q.x (g274 []) m_q nm_0
  have z_41 := isA_x z_41 (g274 []) (by decide) (fun _ h => absurd h nm_0)
  have z_42 := isA_x z_42 (g274 []) (by decide) (fun _ h => absurd h nm_0)
  have z_46 := isA_x z_46 (g274 []) (by decide) (fun _ h => absurd h nm_0)
  have z_47 := isA_x z_47 (g274 []) (by decide) (fun _ h => absurd h nm_0)
  have t_q := xG.ty (g274 []) m_q t_q
  have m_q := xG.m (g274 []) m_q
  obtain ⟨fs276, hfs276, hls276, hqs276⟩ := hQ_q
  refine g_putF C hH m_q hfs276 iX10 tyX10 tyX10_ok nmX10 rfl 42 (by decide) wd854 rfl rfl hnm rfl rfl rfl (by rw [hls276]; decide) (fs' := fs276.set 42 (.ref q269)) rfl dX10_init_202 (fun H locs hH => ?_)
  obtain ⟨f277, hH, hT, g278, e279⟩ := x_put hH hT List.mem_cons_self
  have hQ_q := tQ.put hls276 hqs276 e279 rfl (show tF _ _ (.inr (.inl 65)) _ from ⟨_, rfl, m_q269, t_q269⟩)
  have z_41 := isA_x z_41 g278 (by decide) (ty_Y t_q rfl)
  have z_42 := isA_x z_42 g278 (by decide) (ty_Y t_q rfl)
  have z_46 := isA_x z_46 g278 (by decide) (ty_Y t_q rfl)
  have z_47 := isA_x z_47 g278 (by decide) (ty_Y t_q rfl)
  refine lv_iconst (v := (0 : Int32)) hx hb dX10_init_205 (by decide) ?_
  refine lv_istore_n (lv' := [(1, .int (0 : Int32)), (0, .ref q)]) hx hb dX10_init_206 rfl hl (by decide) rfl (fun ls hl => ?_)
  refine lv_iload_n hx hb dX10_init_207 rfl (lv_at hl 0 rfl) ?_
  refine lv_iconst (v := (4 : Int32)) hx hb dX10_init_208 (by decide) ?_
  refine lv_icmp_ge (tgt := 225) hx hb dX10_init_209 (by decide) (fun h => absurd h (by decide)) (fun _ => ?_)
  refine lv_aload_n hx hb dX10_init_212 rfl (lv_at hl 1 rfl) ?_
  obtain ⟨fs280, hfs280, -, hqs280⟩ := id hQ_q
  obtain ⟨_, hvs280, bs280, rfl, m_bs280, t_bs280⟩ := hqs280 1 _ rfl (by decide)
  refine g_get C hH m_q hfs280 iX10 rfl 1 (by decide) wd994 rfl hvs280 dX10_init_213 ?_
  refine lv_iload_n hx hb dX10_init_216 rfl (lv_at hl 0 rfl) ?_
  refine lv_iconst (v := (-1 : Int32)) hx hb dX10_init_217 (by decide) ?_
  obtain ⟨vs281, hvs281⟩ := hT.arr m_bs280 t_bs280 (nm_c (ty_ne t_bs280 t_q rfl) nm_0) td_41
  refine g_iast C hH m_bs280 hvs281 (vp_inL (by decide)) dX10_init_218 (fun H locs hH => ?_)
  obtain ⟨f282, hH, hT, g283, e284⟩ := x_ast2 hH hT t_bs280 td_41
  rw [arr_inj hvs281 (z_41 bs280 m_bs280 t_bs280)] at e284
  have zw_ := isA_w (fun a ma b mb ea eb => hB.2 a ma b mb (ea.trans eb.symm)) m_bs280 t_bs280 e284
  have hQ_q := hQ_q.x g283 m_q (nm_c (ty_ne t_q t_bs280 rfl) nm_0)
  have z_42 := isA_x z_42 g283 (by decide) (ty_Y t_bs280 rfl)
  have z_46 := isA_x z_46 g283 (by decide) (ty_Y t_bs280 rfl)
  have z_47 := isA_x z_47 g283 (by decide) (ty_Y t_bs280 rfl)
  have z_41 := zw_
  refine lv_iinc (v := (1 : Int32)) (lv' := [(1, .int (1 : Int32)), (0, .ref q)]) hx hb dX10_init_219 hl (k := 0) rfl (by decide) (by decide) rfl (fun ls hl => ?_)
  refine lv_goto (tgt := 207) hx hb dX10_init_222 (by decide) ?_
  refine lv_iload_n hx hb dX10_init_207 rfl (lv_at hl 0 rfl) ?_
  refine lv_iconst (v := (4 : Int32)) hx hb dX10_init_208 (by decide) ?_
  refine lv_icmp_ge (tgt := 225) hx hb dX10_init_209 (by decide) (fun h => absurd h (by decide)) (fun _ => ?_)
  refine lv_aload_n hx hb dX10_init_212 rfl (lv_at hl 1 rfl) ?_
  obtain ⟨fs285, hfs285, -, hqs285⟩ := id hQ_q
  obtain ⟨_, hvs285, bs285, rfl, m_bs285, t_bs285⟩ := hqs285 1 _ rfl (by decide)
  refine g_get C hH m_q hfs285 iX10 rfl 1 (by decide) wd994 rfl hvs285 dX10_init_213 ?_
  refine lv_iload_n hx hb dX10_init_216 rfl (lv_at hl 0 rfl) ?_
  refine lv_iconst (v := (-1 : Int32)) hx hb dX10_init_217 (by decide) ?_
  obtain ⟨vs286, hvs286⟩ := hT.arr m_bs285 t_bs285 (nm_c (ty_ne t_bs285 t_q rfl) nm_0) td_41
  refine g_iast C hH m_bs285 hvs286 (vp_inL (by decide)) dX10_init_218 (fun H locs hH => ?_)
  obtain ⟨f287, hH, hT, g288, e289⟩ := x_ast2 hH hT t_bs285 td_41
  rw [arr_inj hvs286 (z_41 bs285 m_bs285 t_bs285)] at e289
  have zw_ := isA_w (fun a ma b mb ea eb => hB.2 a ma b mb (ea.trans eb.symm)) m_bs285 t_bs285 e289
  have hQ_q := hQ_q.x g288 m_q (nm_c (ty_ne t_q t_bs285 rfl) nm_0)
  have z_42 := isA_x z_42 g288 (by decide) (ty_Y t_bs285 rfl)
  have z_46 := isA_x z_46 g288 (by decide) (ty_Y t_bs285 rfl)
  have z_47 := isA_x z_47 g288 (by decide) (ty_Y t_bs285 rfl)
  have z_41 := zw_
  refine lv_iinc (v := (2 : Int32)) (lv' := [(1, .int (2 : Int32)), (0, .ref q)]) hx hb dX10_init_219 hl (k := 0) rfl (by decide) (by decide) rfl (fun ls hl => ?_)
  refine lv_goto (tgt := 207) hx hb dX10_init_222 (by decide) ?_
  refine lv_iload_n hx hb dX10_init_207 rfl (lv_at hl 0 rfl) ?_
  refine lv_iconst (v := (4 : Int32)) hx hb dX10_init_208 (by decide) ?_
  refine lv_icmp_ge (tgt := 225) hx hb dX10_init_209 (by decide) (fun h => absurd h (by decide)) (fun _ => ?_)
  refine lv_aload_n hx hb dX10_init_212 rfl (lv_at hl 1 rfl) ?_
  obtain ⟨fs290, hfs290, -, hqs290⟩ := id hQ_q
  obtain ⟨_, hvs290, bs290, rfl, m_bs290, t_bs290⟩ := hqs290 1 _ rfl (by decide)
  refine g_get C hH m_q hfs290 iX10 rfl 1 (by decide) wd994 rfl hvs290 dX10_init_213 ?_
  refine lv_iload_n hx hb dX10_init_216 rfl (lv_at hl 0 rfl) ?_
  refine lv_iconst (v := (-1 : Int32)) hx hb dX10_init_217 (by decide) ?_
  obtain ⟨vs291, hvs291⟩ := hT.arr m_bs290 t_bs290 (nm_c (ty_ne t_bs290 t_q rfl) nm_0) td_41
  refine g_iast C hH m_bs290 hvs291 (vp_inL (by decide)) dX10_init_218 (fun H locs hH => ?_)
  obtain ⟨f292, hH, hT, g293, e294⟩ := x_ast2 hH hT t_bs290 td_41
  rw [arr_inj hvs291 (z_41 bs290 m_bs290 t_bs290)] at e294
  have zw_ := isA_w (fun a ma b mb ea eb => hB.2 a ma b mb (ea.trans eb.symm)) m_bs290 t_bs290 e294
  have hQ_q := hQ_q.x g293 m_q (nm_c (ty_ne t_q t_bs290 rfl) nm_0)
  have z_42 := isA_x z_42 g293 (by decide) (ty_Y t_bs290 rfl)
  have z_46 := isA_x z_46 g293 (by decide) (ty_Y t_bs290 rfl)
  have z_47 := isA_x z_47 g293 (by decide) (ty_Y t_bs290 rfl)
  have z_41 := zw_
  refine lv_iinc (v := (3 : Int32)) (lv' := [(1, .int (3 : Int32)), (0, .ref q)]) hx hb dX10_init_219 hl (k := 0) rfl (by decide) (by decide) rfl (fun ls hl => ?_)
  refine lv_goto (tgt := 207) hx hb dX10_init_222 (by decide) ?_
  refine lv_iload_n hx hb dX10_init_207 rfl (lv_at hl 0 rfl) ?_
  refine lv_iconst (v := (4 : Int32)) hx hb dX10_init_208 (by decide) ?_
  refine lv_icmp_ge (tgt := 225) hx hb dX10_init_209 (by decide) (fun h => absurd h (by decide)) (fun _ => ?_)
  refine lv_aload_n hx hb dX10_init_212 rfl (lv_at hl 1 rfl) ?_
  obtain ⟨fs295, hfs295, -, hqs295⟩ := id hQ_q
  obtain ⟨_, hvs295, bs295, rfl, m_bs295, t_bs295⟩ := hqs295 1 _ rfl (by decide)
  refine g_get C hH m_q hfs295 iX10 rfl 1 (by decide) wd994 rfl hvs295 dX10_init_213 ?_
  refine lv_iload_n hx hb dX10_init_216 rfl (lv_at hl 0 rfl) ?_
  refine lv_iconst (v := (-1 : Int32)) hx hb dX10_init_217 (by decide) ?_
  obtain ⟨vs296, hvs296⟩ := hT.arr m_bs295 t_bs295 (nm_c (ty_ne t_bs295 t_q rfl) nm_0) td_41
  refine g_iast C hH m_bs295 hvs296 (vp_inL (by decide)) dX10_init_218 (fun H locs hH => ?_)
  obtain ⟨f297, hH, hT, g298, e299⟩ := x_ast2 hH hT t_bs295 td_41
  rw [arr_inj hvs296 (z_41 bs295 m_bs295 t_bs295)] at e299
  have zw_ := isA_w (fun a ma b mb ea eb => hB.2 a ma b mb (ea.trans eb.symm)) m_bs295 t_bs295 e299
  have hQ_q := hQ_q.x g298 m_q (nm_c (ty_ne t_q t_bs295 rfl) nm_0)
  have z_42 := isA_x z_42 g298 (by decide) (ty_Y t_bs295 rfl)
  have z_46 := isA_x z_46 g298 (by decide) (ty_Y t_bs295 rfl)
  have z_47 := isA_x z_47 g298 (by decide) (ty_Y t_bs295 rfl)
  have z_41 := zw_
  refine lv_iinc (v := (4 : Int32)) (lv' := [(1, .int (4 : Int32)), (0, .ref q)]) hx hb dX10_init_219 hl (k := 0) rfl (by decide) (by decide) rfl (fun ls hl => ?_)
  refine lv_goto (tgt := 207) hx hb dX10_init_222 (by decide) ?_
  refine lv_iload_n hx hb dX10_init_207 rfl (lv_at hl 0 rfl) ?_
  refine lv_iconst (v := (4 : Int32)) hx hb dX10_init_208 (by decide) ?_
  refine lv_icmp_ge (tgt := 225) hx hb dX10_init_209 (by decide) (fun _ => ?_) (fun h => absurd (by decide) h)
  have hT := hQ_q.fin hT t_q td_40 (by decide)
  exact g_vret C hr hH (Nat.le_of_ble_eq_true rfl) (Nat.le_of_ble_eq_true rfl) dX10_init_225 ⟨_, hT.nil, m_q, t_q, hB.2, z_46, z_47, ⟨_, z_41, fun j hj => by rcases (show j = 0 ∨ j = 1 ∨ j = 2 ∨ j = 3 by omega) with rfl | rfl | rfl | rfl <;> decide⟩, z_42⟩
